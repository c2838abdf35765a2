set_option maxHeartbeats 4000000 in
set_option maxRecDepth 100000 in
theorem lc_0 {p : Program} {l : Launch} {e : Env} {s : State} {m : MethodId} {args : Array Value} {below : List Frame} {meth : Method} {co : Code} {Q : State → Prop} {D : va_G} {A : Nat → Prop} {cI cC : ClassId} {x0 n0 n1 t0 t1 s0 s1 g0 g1 w0 w1 w2 m0 m1 m2 m3 m4 p0 p1 q0 q1 q2 q3 q4 q5 q6 q7 q8 q9 q10 q11 : Nat} {hs : Bool} {c ct cs r : Nat → Int32} {od z : Nat} {sg : Nat → Int32} {ln : Nat} {tr : Nat → Int32} {lf rg : Nat} {bd : Bool} {wi ol orr sf : Nat → Int32} {rl : Nat} {nb : Nat → Int32} {th : Int32} {ss asd sts snp tx can szs ptn nms pth : Nat → Int32} {att isw : Int32} {rdd : Nat → Int32} {rmy : Int32} {sb SL i : Nat} {xs : Nat → Int32} (C : g_C p s m args meth co cL_law 8 RL wsL_law D cI cC A) (S0 : lS s A sb SL xs) (hi : i + 4 ≤ SL) (hL : SL ≤ 2048) (hS : SR c ss) (hH : HR r sts od z) (ho : od < 5) (hz : z ≤ 5) (hX : HX sg tx ln) (hT : ∀ k, k < ln → sg k = nI (cN sg k)) (hN : hs = true → SR cs snp) (hrl : rl < 256) (K : ∀ w : va_W, lINV cI cC x0 n0 n1 t0 t1 s0 s1 g0 g1 w0 w1 w2 m0 m1 m2 m3 m4 p0 p1 q0 q1 q2 q3 q4 q5 q6 q7 q8 q9 q10 q11 w → g_J p l e room_1 s m args below meth co Q D A 8 31 5852 w 838 [(3, .int (nI i)), (0, .ref sb), (1, .ref x0), (2, .ref q0)] []) : g_J p l e room_1 s m args below meth co Q D A 8 31 5852 ((xW cI cC x0 n0 n1 t0 t1 s0 s1 g0 g1 w0 w1 w2 m0 m1 m2 m3 m4 p0 p1 (bI hs) c ct cs r (nI od) (nI z) sg (nI ln) tr (nI lf) (nI rg) (bI bd) wi ol orr sf (nI rl) nb) ++ (rW cI cC q0 q1 q2 q3 q4 q5 q6 q7 q8 q9 q10 q11 th ss asd sts (nI z) snp (bI hs) tx (nI ln) can szs ptn nms pth att isw rdd rmy)) 144 [(3, .int (nI i)), (0, .ref sb), (1, .ref x0), (2, .ref q0)] [] := by
  have hc : cOK c := hS.ok
  have hn : ln ≤ 80 := hX.1
  have ht : ∀ k, k < ln → sg k = nI (cN sg k) ∧ cN sg k < 128 := fun k hk => ⟨hT k hk, (hX.2 k hk).2⟩
  have hcs : hs = true → cOK cs := fun h => (hN h).ok
  refine g_aload_n (pc := 144) C dL_law_144 2 rfl rfl ?_
  refine g_aload_n (pc := 145) C dL_law_145 1 rfl rfl ?_
  refine g_iload_n (pc := 146) C dL_law_146 0 rfl rfl ?_
  refine g_iconst (pc := 147) (v := nI 1) C dL_law_147 (by decide) ?_
  refine g_iaddN (pc := 148) C dL_law_148 ?_
  refine g_sld (pc := 149) C S0 (by omega) (by omega) dL_law_149 ?_
  refine g_aload_n (pc := 150) C dL_law_150 1 rfl rfl ?_
  refine g_iload_n (pc := 151) C dL_law_151 0 rfl rfl ?_
  refine g_iconst (pc := 152) (v := nI 2) C dL_law_152 (by decide) ?_
  refine g_iaddN (pc := 153) C dL_law_153 ?_
  refine g_sld (pc := 154) C S0 (by omega) (by omega) dL_law_154 ?_
  refine g_callX (pc := 155) (st := []) (As := [.int (xs (i + 1)), .int (xs (i + 2))]) (nn := 2) (ci := 5) C (m_X5_wish l D cI cC x0 n0 n1 t0 t1 s0 s1 g0 g1 w0 w1 w2 m0 m1 m2 m3 m4 p0 p1 c ct cs r sg tr wi ol orr sf nb hs od z ln lf rg bd rl (xs (i + 1)) (xs (i + 2)) (by first | assumption | omega) (by first | assumption | omega) (by first | assumption | omega)) gL_law_X5_wish rfl rfl rfl yd_X5_wish ⟨Nat.le_of_ble_eq_true rfl, Nat.le_of_ble_eq_true rfl⟩ rfl 19 rfl (by decide) rfl rfl rfl (Nat.le_of_ble_eq_true rfl) ⟨Nat.le_of_ble_eq_true rfl, Nat.le_of_ble_eq_true rfl⟩ dL_law_155 ?_
  rintro _ _ ⟨c2_155, r2_155, od2_155, z2_155, rfl, rfl, f155_0⟩
  refine g_eq (ws' := ((xW cI cC x0 n0 n1 t0 t1 s0 s1 g0 g1 w0 w1 w2 m0 m1 m2 m3 m4 p0 p1 (bI hs) c2_155 ct cs r2_155 (nI od2_155) (nI z2_155) sg (nI ln) tr (nI lf) (nI rg) (bI bd) wi ol orr sf (nI rl) nb) ++ (rW cI cC q0 q1 q2 q3 q4 q5 q6 q7 q8 q9 q10 q11 th ss asd sts (nI z) snp (bI hs) tx (nI ln) can szs ptn nms pth att isw rdd rmy))) (st' := [.int (xwV c (xs (i + 1)) (xs (i + 2)))]) rfl rfl ?_
  refine g_aload_n (pc := 158) C dL_law_158 3 rfl rfl ?_
  refine g_aload_n (pc := 159) C dL_law_159 1 rfl rfl ?_
  refine g_iload_n (pc := 160) C dL_law_160 0 rfl rfl ?_
  refine g_iconst (pc := 161) (v := nI 1) C dL_law_161 (by decide) ?_
  refine g_iaddN (pc := 162) C dL_law_162 ?_
  refine g_sld (pc := 163) C S0 (by omega) (by omega) dL_law_163 ?_
  refine g_aload_n (pc := 164) C dL_law_164 1 rfl rfl ?_
  refine g_iload_n (pc := 165) C dL_law_165 0 rfl rfl ?_
  refine g_iconst (pc := 166) (v := nI 2) C dL_law_166 (by decide) ?_
  refine g_iaddN (pc := 167) C dL_law_167 ?_
  refine g_sld (pc := 168) C S0 (by omega) (by omega) dL_law_168 ?_
  refine g_callR (pc := 169) (st := [.int (xwV c (xs (i + 1)) (xs (i + 2)))]) (As := [.int (xs (i + 1)), .int (xs (i + 2))]) (nn := 2) (ci := 6) C (m_X6_wish l D cI cC q0 q1 q2 q3 q4 q5 q6 q7 q8 q9 q10 q11 th ss asd sts snp (bI hs) tx (nI ln) can szs ptn nms pth att isw rdd rmy z c (xs (i + 1)) (xs (i + 2)) (by first | assumption | omega) (by first | assumption | omega)) gL_law_X6_wish rfl rfl rfl yd_X6_wish ⟨Nat.le_of_ble_eq_true rfl, Nat.le_of_ble_eq_true rfl⟩ rfl 12 19 rfl rfl (by decide) rfl rfl rfl (Nat.le_of_ble_eq_true rfl) ⟨Nat.le_of_ble_eq_true rfl, Nat.le_of_ble_eq_true rfl⟩ dL_law_169 ?_
  rintro _ _ ⟨ss2_169, sts2_169, z2_169, rfl, rfl, f169_0⟩
  refine g_eq (ws' := ((xW cI cC x0 n0 n1 t0 t1 s0 s1 g0 g1 w0 w1 w2 m0 m1 m2 m3 m4 p0 p1 (bI hs) c2_155 ct cs r2_155 (nI od2_155) (nI z2_155) sg (nI ln) tr (nI lf) (nI rg) (bI bd) wi ol orr sf (nI rl) nb) ++ (rW cI cC q0 q1 q2 q3 q4 q5 q6 q7 q8 q9 q10 q11 (nI 0) ss2_169 asd sts2_169 (nI z2_169) snp (bI hs) tx (nI ln) can szs ptn nms pth att isw rdd rmy))) (st' := [.int (xwV c (xs (i + 1)) (xs (i + 2))), .int (xwV c (xs (i + 1)) (xs (i + 2)))]) rfl rfl ?_
  refine g_icmp_eq (pc := 172) C 838 dL_law_172 (by decide) (fun _ => ?_) (fun cN => absurd rfl cN)
  obtain ⟨gS, gH, rfl, go, gz⟩ := ACT f155_0 f169_0 hS hH ho hz
  exact K _ (lINV_mk gS gH go gz hX hT hN hrl)

set_option maxHeartbeats 4000000 in
set_option maxRecDepth 100000 in
theorem lc_1 {p : Program} {l : Launch} {e : Env} {s : State} {m : MethodId} {args : Array Value} {below : List Frame} {meth : Method} {co : Code} {Q : State → Prop} {D : va_G} {A : Nat → Prop} {cI cC : ClassId} {x0 n0 n1 t0 t1 s0 s1 g0 g1 w0 w1 w2 m0 m1 m2 m3 m4 p0 p1 q0 q1 q2 q3 q4 q5 q6 q7 q8 q9 q10 q11 : Nat} {hs : Bool} {c ct cs r : Nat → Int32} {od z : Nat} {sg : Nat → Int32} {ln : Nat} {tr : Nat → Int32} {lf rg : Nat} {bd : Bool} {wi ol orr sf : Nat → Int32} {rl : Nat} {nb : Nat → Int32} {th : Int32} {ss asd sts snp tx can szs ptn nms pth : Nat → Int32} {att isw : Int32} {rdd : Nat → Int32} {rmy : Int32} {sb SL i : Nat} {xs : Nat → Int32} (C : g_C p s m args meth co cL_law 8 RL wsL_law D cI cC A) (S0 : lS s A sb SL xs) (hi : i + 4 ≤ SL) (hL : SL ≤ 2048) (hS : SR c ss) (hH : HR r sts od z) (ho : od < 5) (hz : z ≤ 5) (hX : HX sg tx ln) (hT : ∀ k, k < ln → sg k = nI (cN sg k)) (hN : hs = true → SR cs snp) (hrl : rl < 256) (K : ∀ w : va_W, lINV cI cC x0 n0 n1 t0 t1 s0 s1 g0 g1 w0 w1 w2 m0 m1 m2 m3 m4 p0 p1 q0 q1 q2 q3 q4 q5 q6 q7 q8 q9 q10 q11 w → g_J p l e room_1 s m args below meth co Q D A 8 31 5852 w 838 [(3, .int (nI i)), (0, .ref sb), (1, .ref x0), (2, .ref q0)] []) : g_J p l e room_1 s m args below meth co Q D A 8 31 5852 ((xW cI cC x0 n0 n1 t0 t1 s0 s1 g0 g1 w0 w1 w2 m0 m1 m2 m3 m4 p0 p1 (bI hs) c ct cs r (nI od) (nI z) sg (nI ln) tr (nI lf) (nI rg) (bI bd) wi ol orr sf (nI rl) nb) ++ (rW cI cC q0 q1 q2 q3 q4 q5 q6 q7 q8 q9 q10 q11 th ss asd sts (nI z) snp (bI hs) tx (nI ln) can szs ptn nms pth att isw rdd rmy)) 177 [(3, .int (nI i)), (0, .ref sb), (1, .ref x0), (2, .ref q0)] [] := by
  have hc : cOK c := hS.ok
  have hn : ln ≤ 80 := hX.1
  have ht : ∀ k, k < ln → sg k = nI (cN sg k) ∧ cN sg k < 128 := fun k hk => ⟨hT k hk, (hX.2 k hk).2⟩
  have hcs : hs = true → cOK cs := fun h => (hN h).ok
  refine g_aload_n (pc := 177) C dL_law_177 2 rfl rfl ?_
  refine g_aload_n (pc := 178) C dL_law_178 1 rfl rfl ?_
  refine g_iload_n (pc := 179) C dL_law_179 0 rfl rfl ?_
  refine g_iconst (pc := 180) (v := nI 1) C dL_law_180 (by decide) ?_
  refine g_iaddN (pc := 181) C dL_law_181 ?_
  refine g_sld (pc := 182) C S0 (by omega) (by omega) dL_law_182 ?_
  refine g_aload_n (pc := 183) C dL_law_183 1 rfl rfl ?_
  refine g_iload_n (pc := 184) C dL_law_184 0 rfl rfl ?_
  refine g_iconst (pc := 185) (v := nI 2) C dL_law_185 (by decide) ?_
  refine g_iaddN (pc := 186) C dL_law_186 ?_
  refine g_sld (pc := 187) C S0 (by omega) (by omega) dL_law_187 ?_
  refine g_callX (pc := 188) (st := []) (As := [.int (xs (i + 1)), .int (xs (i + 2))]) (nn := 2) (ci := 5) C (m_X5_withdraw l D cI cC x0 n0 n1 t0 t1 s0 s1 g0 g1 w0 w1 w2 m0 m1 m2 m3 m4 p0 p1 c ct cs r sg tr wi ol orr sf nb hs od z ln lf rg bd rl (xs (i + 1)) (xs (i + 2)) (by first | assumption | omega) (by first | assumption | omega) (by first | assumption | omega)) gL_law_X5_withdraw rfl rfl rfl yd_X5_withdraw ⟨Nat.le_of_ble_eq_true rfl, Nat.le_of_ble_eq_true rfl⟩ rfl 19 rfl (by decide) rfl rfl rfl (Nat.le_of_ble_eq_true rfl) ⟨Nat.le_of_ble_eq_true rfl, Nat.le_of_ble_eq_true rfl⟩ dL_law_188 ?_
  rintro _ _ ⟨c2_188, r2_188, od2_188, z2_188, rfl, rfl, f188_0⟩
  refine g_eq (ws' := ((xW cI cC x0 n0 n1 t0 t1 s0 s1 g0 g1 w0 w1 w2 m0 m1 m2 m3 m4 p0 p1 (bI hs) c2_188 ct cs r2_188 (nI od2_188) (nI z2_188) sg (nI ln) tr (nI lf) (nI rg) (bI bd) wi ol orr sf (nI rl) nb) ++ (rW cI cC q0 q1 q2 q3 q4 q5 q6 q7 q8 q9 q10 q11 th ss asd sts (nI z) snp (bI hs) tx (nI ln) can szs ptn nms pth att isw rdd rmy))) (st' := [.int (wdV c (xs (i + 1)) (xs (i + 2)))]) rfl rfl ?_
  refine g_aload_n (pc := 191) C dL_law_191 3 rfl rfl ?_
  refine g_aload_n (pc := 192) C dL_law_192 1 rfl rfl ?_
  refine g_iload_n (pc := 193) C dL_law_193 0 rfl rfl ?_
  refine g_iconst (pc := 194) (v := nI 1) C dL_law_194 (by decide) ?_
  refine g_iaddN (pc := 195) C dL_law_195 ?_
  refine g_sld (pc := 196) C S0 (by omega) (by omega) dL_law_196 ?_
  refine g_aload_n (pc := 197) C dL_law_197 1 rfl rfl ?_
  refine g_iload_n (pc := 198) C dL_law_198 0 rfl rfl ?_
  refine g_iconst (pc := 199) (v := nI 2) C dL_law_199 (by decide) ?_
  refine g_iaddN (pc := 200) C dL_law_200 ?_
  refine g_sld (pc := 201) C S0 (by omega) (by omega) dL_law_201 ?_
  refine g_callR (pc := 202) (st := [.int (wdV c (xs (i + 1)) (xs (i + 2)))]) (As := [.int (xs (i + 1)), .int (xs (i + 2))]) (nn := 2) (ci := 6) C (m_X6_withdraw l D cI cC q0 q1 q2 q3 q4 q5 q6 q7 q8 q9 q10 q11 th ss asd sts snp (bI hs) tx (nI ln) can szs ptn nms pth att isw rdd rmy z c (xs (i + 1)) (xs (i + 2)) (by first | assumption | omega) (by first | assumption | omega)) gL_law_X6_withdraw rfl rfl rfl yd_X6_withdraw ⟨Nat.le_of_ble_eq_true rfl, Nat.le_of_ble_eq_true rfl⟩ rfl 12 19 rfl rfl (by decide) rfl rfl rfl (Nat.le_of_ble_eq_true rfl) ⟨Nat.le_of_ble_eq_true rfl, Nat.le_of_ble_eq_true rfl⟩ dL_law_202 ?_
  rintro _ _ ⟨ss2_202, sts2_202, z2_202, rfl, rfl, f202_0⟩
  refine g_eq (ws' := ((xW cI cC x0 n0 n1 t0 t1 s0 s1 g0 g1 w0 w1 w2 m0 m1 m2 m3 m4 p0 p1 (bI hs) c2_188 ct cs r2_188 (nI od2_188) (nI z2_188) sg (nI ln) tr (nI lf) (nI rg) (bI bd) wi ol orr sf (nI rl) nb) ++ (rW cI cC q0 q1 q2 q3 q4 q5 q6 q7 q8 q9 q10 q11 (nI 0) ss2_202 asd sts2_202 (nI z2_202) snp (bI hs) tx (nI ln) can szs ptn nms pth att isw rdd rmy))) (st' := [.int (wdV c (xs (i + 1)) (xs (i + 2))), .int (wdV c (xs (i + 1)) (xs (i + 2)))]) rfl rfl ?_
  refine g_icmp_eq (pc := 205) C 838 dL_law_205 (by decide) (fun _ => ?_) (fun cN => absurd rfl cN)
  obtain ⟨gS, gH, rfl, go, gz⟩ := ACT f188_0 f202_0 hS hH ho hz
  exact K _ (lINV_mk gS gH go gz hX hT hN hrl)

set_option maxHeartbeats 4000000 in
set_option maxRecDepth 100000 in
theorem lc_2 {p : Program} {l : Launch} {e : Env} {s : State} {m : MethodId} {args : Array Value} {below : List Frame} {meth : Method} {co : Code} {Q : State → Prop} {D : va_G} {A : Nat → Prop} {cI cC : ClassId} {x0 n0 n1 t0 t1 s0 s1 g0 g1 w0 w1 w2 m0 m1 m2 m3 m4 p0 p1 q0 q1 q2 q3 q4 q5 q6 q7 q8 q9 q10 q11 : Nat} {hs : Bool} {c ct cs r : Nat → Int32} {od z : Nat} {sg : Nat → Int32} {ln : Nat} {tr : Nat → Int32} {lf rg : Nat} {bd : Bool} {wi ol orr sf : Nat → Int32} {rl : Nat} {nb : Nat → Int32} {th : Int32} {ss asd sts snp tx can szs ptn nms pth : Nat → Int32} {att isw : Int32} {rdd : Nat → Int32} {rmy : Int32} {sb SL i : Nat} {xs : Nat → Int32} (C : g_C p s m args meth co cL_law 8 RL wsL_law D cI cC A) (S0 : lS s A sb SL xs) (hi : i + 4 ≤ SL) (hL : SL ≤ 2048) (hS : SR c ss) (hH : HR r sts od z) (ho : od < 5) (hz : z ≤ 5) (hX : HX sg tx ln) (hT : ∀ k, k < ln → sg k = nI (cN sg k)) (hN : hs = true → SR cs snp) (hrl : rl < 256) (K : ∀ w : va_W, lINV cI cC x0 n0 n1 t0 t1 s0 s1 g0 g1 w0 w1 w2 m0 m1 m2 m3 m4 p0 p1 q0 q1 q2 q3 q4 q5 q6 q7 q8 q9 q10 q11 w → g_J p l e room_1 s m args below meth co Q D A 8 31 5852 w 838 [(3, .int (nI i)), (0, .ref sb), (1, .ref x0), (2, .ref q0)] []) : g_J p l e room_1 s m args below meth co Q D A 8 31 5852 ((xW cI cC x0 n0 n1 t0 t1 s0 s1 g0 g1 w0 w1 w2 m0 m1 m2 m3 m4 p0 p1 (bI hs) c ct cs r (nI od) (nI z) sg (nI ln) tr (nI lf) (nI rg) (bI bd) wi ol orr sf (nI rl) nb) ++ (rW cI cC q0 q1 q2 q3 q4 q5 q6 q7 q8 q9 q10 q11 th ss asd sts (nI z) snp (bI hs) tx (nI ln) can szs ptn nms pth att isw rdd rmy)) 210 [(3, .int (nI i)), (0, .ref sb), (1, .ref x0), (2, .ref q0)] [] := by
  have hc : cOK c := hS.ok
  have hn : ln ≤ 80 := hX.1
  have ht : ∀ k, k < ln → sg k = nI (cN sg k) ∧ cN sg k < 128 := fun k hk => ⟨hT k hk, (hX.2 k hk).2⟩
  have hcs : hs = true → cOK cs := fun h => (hN h).ok
  refine g_aload_n (pc := 210) C dL_law_210 2 rfl rfl ?_
  refine g_aload_n (pc := 211) C dL_law_211 1 rfl rfl ?_
  refine g_iload_n (pc := 212) C dL_law_212 0 rfl rfl ?_
  refine g_iconst (pc := 213) (v := nI 1) C dL_law_213 (by decide) ?_
  refine g_iaddN (pc := 214) C dL_law_214 ?_
  refine g_sld (pc := 215) C S0 (by omega) (by omega) dL_law_215 ?_
  refine g_aload_n (pc := 216) C dL_law_216 1 rfl rfl ?_
  refine g_iload_n (pc := 217) C dL_law_217 0 rfl rfl ?_
  refine g_iconst (pc := 218) (v := nI 2) C dL_law_218 (by decide) ?_
  refine g_iaddN (pc := 219) C dL_law_219 ?_
  refine g_sld (pc := 220) C S0 (by omega) (by omega) dL_law_220 ?_
  refine g_aload_n (pc := 221) C dL_law_221 1 rfl rfl ?_
  refine g_iload_n (pc := 222) C dL_law_222 0 rfl rfl ?_
  refine g_iconst (pc := 223) (v := nI 3) C dL_law_223 (by decide) ?_
  refine g_iaddN (pc := 224) C dL_law_224 ?_
  refine g_sld (pc := 225) C S0 (by omega) (by omega) dL_law_225 ?_
  refine g_callX (pc := 226) (st := []) (As := [.int (xs (i + 1)), .int (xs (i + 2)), .int (xs (i + 3))]) (nn := 3) (ci := 5) C (m_X5_quarrel l D cI cC x0 n0 n1 t0 t1 s0 s1 g0 g1 w0 w1 w2 m0 m1 m2 m3 m4 p0 p1 c ct cs r sg tr wi ol orr sf nb hs od z ln lf rg bd rl (xs (i + 1)) (xs (i + 2)) (xs (i + 3)) (by first | assumption | omega) (by first | assumption | omega) (by first | assumption | omega)) gL_law_X5_quarrel rfl rfl rfl yd_X5_quarrel ⟨Nat.le_of_ble_eq_true rfl, Nat.le_of_ble_eq_true rfl⟩ rfl 19 rfl (by decide) rfl rfl rfl (Nat.le_of_ble_eq_true rfl) ⟨Nat.le_of_ble_eq_true rfl, Nat.le_of_ble_eq_true rfl⟩ dL_law_226 ?_
  rintro _ _ ⟨c2_226, r2_226, od2_226, z2_226, rfl, rfl, f226_0⟩
  refine g_eq (ws' := ((xW cI cC x0 n0 n1 t0 t1 s0 s1 g0 g1 w0 w1 w2 m0 m1 m2 m3 m4 p0 p1 (bI hs) c2_226 ct cs r2_226 (nI od2_226) (nI z2_226) sg (nI ln) tr (nI lf) (nI rg) (bI bd) wi ol orr sf (nI rl) nb) ++ (rW cI cC q0 q1 q2 q3 q4 q5 q6 q7 q8 q9 q10 q11 th ss asd sts (nI z) snp (bI hs) tx (nI ln) can szs ptn nms pth att isw rdd rmy))) (st' := [.int (quV c (xs (i + 1)) (xs (i + 2)) (xs (i + 3)))]) rfl rfl ?_
  refine g_aload_n (pc := 229) C dL_law_229 3 rfl rfl ?_
  refine g_aload_n (pc := 230) C dL_law_230 1 rfl rfl ?_
  refine g_iload_n (pc := 231) C dL_law_231 0 rfl rfl ?_
  refine g_iconst (pc := 232) (v := nI 1) C dL_law_232 (by decide) ?_
  refine g_iaddN (pc := 233) C dL_law_233 ?_
  refine g_sld (pc := 234) C S0 (by omega) (by omega) dL_law_234 ?_
  refine g_aload_n (pc := 235) C dL_law_235 1 rfl rfl ?_
  refine g_iload_n (pc := 236) C dL_law_236 0 rfl rfl ?_
  refine g_iconst (pc := 237) (v := nI 2) C dL_law_237 (by decide) ?_
  refine g_iaddN (pc := 238) C dL_law_238 ?_
  refine g_sld (pc := 239) C S0 (by omega) (by omega) dL_law_239 ?_
  refine g_aload_n (pc := 240) C dL_law_240 1 rfl rfl ?_
  refine g_iload_n (pc := 241) C dL_law_241 0 rfl rfl ?_
  refine g_iconst (pc := 242) (v := nI 3) C dL_law_242 (by decide) ?_
  refine g_iaddN (pc := 243) C dL_law_243 ?_
  refine g_sld (pc := 244) C S0 (by omega) (by omega) dL_law_244 ?_
  refine g_callR (pc := 245) (st := [.int (quV c (xs (i + 1)) (xs (i + 2)) (xs (i + 3)))]) (As := [.int (xs (i + 1)), .int (xs (i + 2)), .int (xs (i + 3))]) (nn := 3) (ci := 6) C (m_X6_quarrel l D cI cC q0 q1 q2 q3 q4 q5 q6 q7 q8 q9 q10 q11 th ss asd sts snp (bI hs) tx (nI ln) can szs ptn nms pth att isw rdd rmy z c (xs (i + 1)) (xs (i + 2)) (xs (i + 3)) (by first | assumption | omega) (by first | assumption | omega)) gL_law_X6_quarrel rfl rfl rfl yd_X6_quarrel ⟨Nat.le_of_ble_eq_true rfl, Nat.le_of_ble_eq_true rfl⟩ rfl 12 19 rfl rfl (by decide) rfl rfl rfl (Nat.le_of_ble_eq_true rfl) ⟨Nat.le_of_ble_eq_true rfl, Nat.le_of_ble_eq_true rfl⟩ dL_law_245 ?_
  rintro _ _ ⟨ss2_245, sts2_245, z2_245, rfl, rfl, f245_0⟩
  refine g_eq (ws' := ((xW cI cC x0 n0 n1 t0 t1 s0 s1 g0 g1 w0 w1 w2 m0 m1 m2 m3 m4 p0 p1 (bI hs) c2_226 ct cs r2_226 (nI od2_226) (nI z2_226) sg (nI ln) tr (nI lf) (nI rg) (bI bd) wi ol orr sf (nI rl) nb) ++ (rW cI cC q0 q1 q2 q3 q4 q5 q6 q7 q8 q9 q10 q11 (nI 0) ss2_245 asd sts2_245 (nI z2_245) snp (bI hs) tx (nI ln) can szs ptn nms pth att isw rdd rmy))) (st' := [.int (quV c (xs (i + 1)) (xs (i + 2)) (xs (i + 3))), .int (quV c (xs (i + 1)) (xs (i + 2)) (xs (i + 3)))]) rfl rfl ?_
  refine g_icmp_eq (pc := 248) C 838 dL_law_248 (by decide) (fun _ => ?_) (fun cN => absurd rfl cN)
  obtain ⟨gS, gH, rfl, go, gz⟩ := ACT f226_0 f245_0 hS hH ho hz
  exact K _ (lINV_mk gS gH go gz hX hT hN hrl)

set_option maxHeartbeats 4000000 in
set_option maxRecDepth 100000 in
theorem lc_3 {p : Program} {l : Launch} {e : Env} {s : State} {m : MethodId} {args : Array Value} {below : List Frame} {meth : Method} {co : Code} {Q : State → Prop} {D : va_G} {A : Nat → Prop} {cI cC : ClassId} {x0 n0 n1 t0 t1 s0 s1 g0 g1 w0 w1 w2 m0 m1 m2 m3 m4 p0 p1 q0 q1 q2 q3 q4 q5 q6 q7 q8 q9 q10 q11 : Nat} {hs : Bool} {c ct cs r : Nat → Int32} {od z : Nat} {sg : Nat → Int32} {ln : Nat} {tr : Nat → Int32} {lf rg : Nat} {bd : Bool} {wi ol orr sf : Nat → Int32} {rl : Nat} {nb : Nat → Int32} {th : Int32} {ss asd sts snp tx can szs ptn nms pth : Nat → Int32} {att isw : Int32} {rdd : Nat → Int32} {rmy : Int32} {sb SL i : Nat} {xs : Nat → Int32} (C : g_C p s m args meth co cL_law 8 RL wsL_law D cI cC A) (S0 : lS s A sb SL xs) (hi : i + 4 ≤ SL) (hL : SL ≤ 2048) (hS : SR c ss) (hH : HR r sts od z) (ho : od < 5) (hz : z ≤ 5) (hX : HX sg tx ln) (hT : ∀ k, k < ln → sg k = nI (cN sg k)) (hN : hs = true → SR cs snp) (hrl : rl < 256) (K : ∀ w : va_W, lINV cI cC x0 n0 n1 t0 t1 s0 s1 g0 g1 w0 w1 w2 m0 m1 m2 m3 m4 p0 p1 q0 q1 q2 q3 q4 q5 q6 q7 q8 q9 q10 q11 w → g_J p l e room_1 s m args below meth co Q D A 8 31 5852 w 838 [(3, .int (nI i)), (0, .ref sb), (1, .ref x0), (2, .ref q0)] []) : g_J p l e room_1 s m args below meth co Q D A 8 31 5852 ((xW cI cC x0 n0 n1 t0 t1 s0 s1 g0 g1 w0 w1 w2 m0 m1 m2 m3 m4 p0 p1 (bI hs) c ct cs r (nI od) (nI z) sg (nI ln) tr (nI lf) (nI rg) (bI bd) wi ol orr sf (nI rl) nb) ++ (rW cI cC q0 q1 q2 q3 q4 q5 q6 q7 q8 q9 q10 q11 th ss asd sts (nI z) snp (bI hs) tx (nI ln) can szs ptn nms pth att isw rdd rmy)) 253 [(3, .int (nI i)), (0, .ref sb), (1, .ref x0), (2, .ref q0)] [] := by
  have hc : cOK c := hS.ok
  have hn : ln ≤ 80 := hX.1
  have ht : ∀ k, k < ln → sg k = nI (cN sg k) ∧ cN sg k < 128 := fun k hk => ⟨hT k hk, (hX.2 k hk).2⟩
  have hcs : hs = true → cOK cs := fun h => (hN h).ok
  refine g_aload_n (pc := 253) C dL_law_253 2 rfl rfl ?_
  refine g_aload_n (pc := 254) C dL_law_254 1 rfl rfl ?_
  refine g_iload_n (pc := 255) C dL_law_255 0 rfl rfl ?_
  refine g_iconst (pc := 256) (v := nI 1) C dL_law_256 (by decide) ?_
  refine g_iaddN (pc := 257) C dL_law_257 ?_
  refine g_sld (pc := 258) C S0 (by omega) (by omega) dL_law_258 ?_
  refine g_aload_n (pc := 259) C dL_law_259 1 rfl rfl ?_
  refine g_iload_n (pc := 260) C dL_law_260 0 rfl rfl ?_
  refine g_iconst (pc := 261) (v := nI 2) C dL_law_261 (by decide) ?_
  refine g_iaddN (pc := 262) C dL_law_262 ?_
  refine g_sld (pc := 263) C S0 (by omega) (by omega) dL_law_263 ?_
  refine g_callX (pc := 264) (st := []) (As := [.int (xs (i + 1)), .int (xs (i + 2))]) (nn := 2) (ci := 5) C (m_X5_reconcile l D cI cC x0 n0 n1 t0 t1 s0 s1 g0 g1 w0 w1 w2 m0 m1 m2 m3 m4 p0 p1 c ct cs r sg tr wi ol orr sf nb hs od z ln lf rg bd rl (xs (i + 1)) (xs (i + 2)) (by first | assumption | omega) (by first | assumption | omega) (by first | assumption | omega)) gL_law_X5_reconcile rfl rfl rfl yd_X5_reconcile ⟨Nat.le_of_ble_eq_true rfl, Nat.le_of_ble_eq_true rfl⟩ rfl 19 rfl (by decide) rfl rfl rfl (Nat.le_of_ble_eq_true rfl) ⟨Nat.le_of_ble_eq_true rfl, Nat.le_of_ble_eq_true rfl⟩ dL_law_264 ?_
  rintro _ _ ⟨c2_264, r2_264, od2_264, z2_264, rfl, rfl, f264_0⟩
  refine g_eq (ws' := ((xW cI cC x0 n0 n1 t0 t1 s0 s1 g0 g1 w0 w1 w2 m0 m1 m2 m3 m4 p0 p1 (bI hs) c2_264 ct cs r2_264 (nI od2_264) (nI z2_264) sg (nI ln) tr (nI lf) (nI rg) (bI bd) wi ol orr sf (nI rl) nb) ++ (rW cI cC q0 q1 q2 q3 q4 q5 q6 q7 q8 q9 q10 q11 th ss asd sts (nI z) snp (bI hs) tx (nI ln) can szs ptn nms pth att isw rdd rmy))) (st' := [.int (rcV c (xs (i + 1)) (xs (i + 2)))]) rfl rfl ?_
  refine g_aload_n (pc := 267) C dL_law_267 3 rfl rfl ?_
  refine g_aload_n (pc := 268) C dL_law_268 1 rfl rfl ?_
  refine g_iload_n (pc := 269) C dL_law_269 0 rfl rfl ?_
  refine g_iconst (pc := 270) (v := nI 1) C dL_law_270 (by decide) ?_
  refine g_iaddN (pc := 271) C dL_law_271 ?_
  refine g_sld (pc := 272) C S0 (by omega) (by omega) dL_law_272 ?_
  refine g_aload_n (pc := 273) C dL_law_273 1 rfl rfl ?_
  refine g_iload_n (pc := 274) C dL_law_274 0 rfl rfl ?_
  refine g_iconst (pc := 275) (v := nI 2) C dL_law_275 (by decide) ?_
  refine g_iaddN (pc := 276) C dL_law_276 ?_
  refine g_sld (pc := 277) C S0 (by omega) (by omega) dL_law_277 ?_
  refine g_callR (pc := 278) (st := [.int (rcV c (xs (i + 1)) (xs (i + 2)))]) (As := [.int (xs (i + 1)), .int (xs (i + 2))]) (nn := 2) (ci := 6) C (m_X6_reconcile l D cI cC q0 q1 q2 q3 q4 q5 q6 q7 q8 q9 q10 q11 th ss asd sts snp (bI hs) tx (nI ln) can szs ptn nms pth att isw rdd rmy z c (xs (i + 1)) (xs (i + 2)) (by first | assumption | omega) (by first | assumption | omega)) gL_law_X6_reconcile rfl rfl rfl yd_X6_reconcile ⟨Nat.le_of_ble_eq_true rfl, Nat.le_of_ble_eq_true rfl⟩ rfl 12 19 rfl rfl (by decide) rfl rfl rfl (Nat.le_of_ble_eq_true rfl) ⟨Nat.le_of_ble_eq_true rfl, Nat.le_of_ble_eq_true rfl⟩ dL_law_278 ?_
  rintro _ _ ⟨ss2_278, sts2_278, z2_278, rfl, rfl, f278_0⟩
  refine g_eq (ws' := ((xW cI cC x0 n0 n1 t0 t1 s0 s1 g0 g1 w0 w1 w2 m0 m1 m2 m3 m4 p0 p1 (bI hs) c2_264 ct cs r2_264 (nI od2_264) (nI z2_264) sg (nI ln) tr (nI lf) (nI rg) (bI bd) wi ol orr sf (nI rl) nb) ++ (rW cI cC q0 q1 q2 q3 q4 q5 q6 q7 q8 q9 q10 q11 (nI 0) ss2_278 asd sts2_278 (nI z2_278) snp (bI hs) tx (nI ln) can szs ptn nms pth att isw rdd rmy))) (st' := [.int (rcV c (xs (i + 1)) (xs (i + 2))), .int (rcV c (xs (i + 1)) (xs (i + 2)))]) rfl rfl ?_
  refine g_icmp_eq (pc := 281) C 838 dL_law_281 (by decide) (fun _ => ?_) (fun cN => absurd rfl cN)
  obtain ⟨gS, gH, rfl, go, gz⟩ := ACT f264_0 f278_0 hS hH ho hz
  exact K _ (lINV_mk gS gH go gz hX hT hN hrl)

set_option maxHeartbeats 4000000 in
set_option maxRecDepth 100000 in
theorem lc_4 {p : Program} {l : Launch} {e : Env} {s : State} {m : MethodId} {args : Array Value} {below : List Frame} {meth : Method} {co : Code} {Q : State → Prop} {D : va_G} {A : Nat → Prop} {cI cC : ClassId} {x0 n0 n1 t0 t1 s0 s1 g0 g1 w0 w1 w2 m0 m1 m2 m3 m4 p0 p1 q0 q1 q2 q3 q4 q5 q6 q7 q8 q9 q10 q11 : Nat} {hs : Bool} {c ct cs r : Nat → Int32} {od z : Nat} {sg : Nat → Int32} {ln : Nat} {tr : Nat → Int32} {lf rg : Nat} {bd : Bool} {wi ol orr sf : Nat → Int32} {rl : Nat} {nb : Nat → Int32} {th : Int32} {ss asd sts snp tx can szs ptn nms pth : Nat → Int32} {att isw : Int32} {rdd : Nat → Int32} {rmy : Int32} {sb SL i : Nat} {xs : Nat → Int32} (C : g_C p s m args meth co cL_law 8 RL wsL_law D cI cC A) (S0 : lS s A sb SL xs) (hi : i + 4 ≤ SL) (hL : SL ≤ 2048) (hS : SR c ss) (hH : HR r sts od z) (ho : od < 5) (hz : z ≤ 5) (hX : HX sg tx ln) (hT : ∀ k, k < ln → sg k = nI (cN sg k)) (hN : hs = true → SR cs snp) (hrl : rl < 256) (K : ∀ w : va_W, lINV cI cC x0 n0 n1 t0 t1 s0 s1 g0 g1 w0 w1 w2 m0 m1 m2 m3 m4 p0 p1 q0 q1 q2 q3 q4 q5 q6 q7 q8 q9 q10 q11 w → g_J p l e room_1 s m args below meth co Q D A 8 31 5852 w 838 [(3, .int (nI i)), (0, .ref sb), (1, .ref x0), (2, .ref q0)] []) : g_J p l e room_1 s m args below meth co Q D A 8 31 5852 ((xW cI cC x0 n0 n1 t0 t1 s0 s1 g0 g1 w0 w1 w2 m0 m1 m2 m3 m4 p0 p1 (bI hs) c ct cs r (nI od) (nI z) sg (nI ln) tr (nI lf) (nI rg) (bI bd) wi ol orr sf (nI rl) nb) ++ (rW cI cC q0 q1 q2 q3 q4 q5 q6 q7 q8 q9 q10 q11 th ss asd sts (nI z) snp (bI hs) tx (nI ln) can szs ptn nms pth att isw rdd rmy)) 286 [(3, .int (nI i)), (0, .ref sb), (1, .ref x0), (2, .ref q0)] [] := by
  have hc : cOK c := hS.ok
  have hn : ln ≤ 80 := hX.1
  have ht : ∀ k, k < ln → sg k = nI (cN sg k) ∧ cN sg k < 128 := fun k hk => ⟨hT k hk, (hX.2 k hk).2⟩
  have hcs : hs = true → cOK cs := fun h => (hN h).ok
  refine g_aload_n (pc := 286) C dL_law_286 2 rfl rfl ?_
  refine g_aload_n (pc := 287) C dL_law_287 1 rfl rfl ?_
  refine g_iload_n (pc := 288) C dL_law_288 0 rfl rfl ?_
  refine g_iconst (pc := 289) (v := nI 1) C dL_law_289 (by decide) ?_
  refine g_iaddN (pc := 290) C dL_law_290 ?_
  refine g_sld (pc := 291) C S0 (by omega) (by omega) dL_law_291 ?_
  refine g_aload_n (pc := 292) C dL_law_292 1 rfl rfl ?_
  refine g_iload_n (pc := 293) C dL_law_293 0 rfl rfl ?_
  refine g_iconst (pc := 294) (v := nI 2) C dL_law_294 (by decide) ?_
  refine g_iaddN (pc := 295) C dL_law_295 ?_
  refine g_sld (pc := 296) C S0 (by omega) (by omega) dL_law_296 ?_
  refine g_aload_n (pc := 297) C dL_law_297 1 rfl rfl ?_
  refine g_iload_n (pc := 298) C dL_law_298 0 rfl rfl ?_
  refine g_iconst (pc := 299) (v := nI 3) C dL_law_299 (by decide) ?_
  refine g_iaddN (pc := 300) C dL_law_300 ?_
  refine g_sld (pc := 301) C S0 (by omega) (by omega) dL_law_301 ?_
  refine g_ne0 (pc := 302) C dL_law_302 dL_law_305 dL_law_306 dL_law_309 ?_
  refine g_callX (pc := 310) (st := []) (As := [.int (xs (i + 1)), .int (xs (i + 2)), .int (bI (!decide ((xs (i + 3)) = 0)))]) (nn := 3) (ci := 5) C (m_X5_link l D cI cC x0 n0 n1 t0 t1 s0 s1 g0 g1 w0 w1 w2 m0 m1 m2 m3 m4 p0 p1 c ct cs r sg tr wi ol orr sf nb hs od z ln lf rg bd rl (xs (i + 1)) (xs (i + 2)) (!decide ((xs (i + 3)) = 0)) (by first | assumption | omega) (by first | assumption | omega) (by first | assumption | omega)) gL_law_X5_link rfl rfl rfl yd_X5_link ⟨Nat.le_of_ble_eq_true rfl, Nat.le_of_ble_eq_true rfl⟩ rfl 19 rfl (by decide) rfl rfl rfl (Nat.le_of_ble_eq_true rfl) ⟨Nat.le_of_ble_eq_true rfl, Nat.le_of_ble_eq_true rfl⟩ dL_law_310 ?_
  rintro _ _ ⟨c2_310, r2_310, od2_310, z2_310, rfl, rfl, f310_0⟩
  refine g_eq (ws' := ((xW cI cC x0 n0 n1 t0 t1 s0 s1 g0 g1 w0 w1 w2 m0 m1 m2 m3 m4 p0 p1 (bI hs) c2_310 ct cs r2_310 (nI od2_310) (nI z2_310) sg (nI ln) tr (nI lf) (nI rg) (bI bd) wi ol orr sf (nI rl) nb) ++ (rW cI cC q0 q1 q2 q3 q4 q5 q6 q7 q8 q9 q10 q11 th ss asd sts (nI z) snp (bI hs) tx (nI ln) can szs ptn nms pth att isw rdd rmy))) (st' := [.int (lkV c (xs (i + 1)) (xs (i + 2)))]) rfl rfl ?_
  refine g_aload_n (pc := 313) C dL_law_313 3 rfl rfl ?_
  refine g_aload_n (pc := 314) C dL_law_314 1 rfl rfl ?_
  refine g_iload_n (pc := 315) C dL_law_315 0 rfl rfl ?_
  refine g_iconst (pc := 316) (v := nI 1) C dL_law_316 (by decide) ?_
  refine g_iaddN (pc := 317) C dL_law_317 ?_
  refine g_sld (pc := 318) C S0 (by omega) (by omega) dL_law_318 ?_
  refine g_aload_n (pc := 319) C dL_law_319 1 rfl rfl ?_
  refine g_iload_n (pc := 320) C dL_law_320 0 rfl rfl ?_
  refine g_iconst (pc := 321) (v := nI 2) C dL_law_321 (by decide) ?_
  refine g_iaddN (pc := 322) C dL_law_322 ?_
  refine g_sld (pc := 323) C S0 (by omega) (by omega) dL_law_323 ?_
  refine g_aload_n (pc := 324) C dL_law_324 1 rfl rfl ?_
  refine g_iload_n (pc := 325) C dL_law_325 0 rfl rfl ?_
  refine g_iconst (pc := 326) (v := nI 3) C dL_law_326 (by decide) ?_
  refine g_iaddN (pc := 327) C dL_law_327 ?_
  refine g_sld (pc := 328) C S0 (by omega) (by omega) dL_law_328 ?_
  refine g_ne0 (pc := 329) C dL_law_329 dL_law_332 dL_law_333 dL_law_336 ?_
  refine g_callR (pc := 337) (st := [.int (lkV c (xs (i + 1)) (xs (i + 2)))]) (As := [.int (xs (i + 1)), .int (xs (i + 2)), .int (bI (!decide ((xs (i + 3)) = 0)))]) (nn := 3) (ci := 6) C (m_X6_link l D cI cC q0 q1 q2 q3 q4 q5 q6 q7 q8 q9 q10 q11 th ss asd sts snp (bI hs) tx (nI ln) can szs ptn nms pth att isw rdd rmy z c (xs (i + 1)) (xs (i + 2)) (!decide ((xs (i + 3)) = 0)) (by first | assumption | omega) (by first | assumption | omega)) gL_law_X6_link rfl rfl rfl yd_X6_link ⟨Nat.le_of_ble_eq_true rfl, Nat.le_of_ble_eq_true rfl⟩ rfl 12 19 rfl rfl (by decide) rfl rfl rfl (Nat.le_of_ble_eq_true rfl) ⟨Nat.le_of_ble_eq_true rfl, Nat.le_of_ble_eq_true rfl⟩ dL_law_337 ?_
  rintro _ _ ⟨ss2_337, sts2_337, z2_337, rfl, rfl, f337_0⟩
  refine g_eq (ws' := ((xW cI cC x0 n0 n1 t0 t1 s0 s1 g0 g1 w0 w1 w2 m0 m1 m2 m3 m4 p0 p1 (bI hs) c2_310 ct cs r2_310 (nI od2_310) (nI z2_310) sg (nI ln) tr (nI lf) (nI rg) (bI bd) wi ol orr sf (nI rl) nb) ++ (rW cI cC q0 q1 q2 q3 q4 q5 q6 q7 q8 q9 q10 q11 (nI 0) ss2_337 asd sts2_337 (nI z2_337) snp (bI hs) tx (nI ln) can szs ptn nms pth att isw rdd rmy))) (st' := [.int (lkV c (xs (i + 1)) (xs (i + 2))), .int (lkV c (xs (i + 1)) (xs (i + 2)))]) rfl rfl ?_
  refine g_icmp_eq (pc := 340) C 838 dL_law_340 (by decide) (fun _ => ?_) (fun cN => absurd rfl cN)
  obtain ⟨gS, gH, rfl, go, gz⟩ := ACT f310_0 f337_0 hS hH ho hz
  exact K _ (lINV_mk gS gH go gz hX hT hN hrl)

set_option maxHeartbeats 4000000 in
set_option maxRecDepth 100000 in
theorem lc_5 {p : Program} {l : Launch} {e : Env} {s : State} {m : MethodId} {args : Array Value} {below : List Frame} {meth : Method} {co : Code} {Q : State → Prop} {D : va_G} {A : Nat → Prop} {cI cC : ClassId} {x0 n0 n1 t0 t1 s0 s1 g0 g1 w0 w1 w2 m0 m1 m2 m3 m4 p0 p1 q0 q1 q2 q3 q4 q5 q6 q7 q8 q9 q10 q11 : Nat} {hs : Bool} {c ct cs r : Nat → Int32} {od z : Nat} {sg : Nat → Int32} {ln : Nat} {tr : Nat → Int32} {lf rg : Nat} {bd : Bool} {wi ol orr sf : Nat → Int32} {rl : Nat} {nb : Nat → Int32} {th : Int32} {ss asd sts snp tx can szs ptn nms pth : Nat → Int32} {att isw : Int32} {rdd : Nat → Int32} {rmy : Int32} {sb SL i : Nat} {xs : Nat → Int32} (C : g_C p s m args meth co cL_law 8 RL wsL_law D cI cC A) (S0 : lS s A sb SL xs) (hi : i + 4 ≤ SL) (hL : SL ≤ 2048) (hS : SR c ss) (hH : HR r sts od z) (ho : od < 5) (hz : z ≤ 5) (hX : HX sg tx ln) (hT : ∀ k, k < ln → sg k = nI (cN sg k)) (hN : hs = true → SR cs snp) (hrl : rl < 256) (K : ∀ w : va_W, lINV cI cC x0 n0 n1 t0 t1 s0 s1 g0 g1 w0 w1 w2 m0 m1 m2 m3 m4 p0 p1 q0 q1 q2 q3 q4 q5 q6 q7 q8 q9 q10 q11 w → g_J p l e room_1 s m args below meth co Q D A 8 31 5852 w 838 [(3, .int (nI i)), (0, .ref sb), (1, .ref x0), (2, .ref q0)] []) : g_J p l e room_1 s m args below meth co Q D A 8 31 5852 ((xW cI cC x0 n0 n1 t0 t1 s0 s1 g0 g1 w0 w1 w2 m0 m1 m2 m3 m4 p0 p1 (bI hs) c ct cs r (nI od) (nI z) sg (nI ln) tr (nI lf) (nI rg) (bI bd) wi ol orr sf (nI rl) nb) ++ (rW cI cC q0 q1 q2 q3 q4 q5 q6 q7 q8 q9 q10 q11 th ss asd sts (nI z) snp (bI hs) tx (nI ln) can szs ptn nms pth att isw rdd rmy)) 345 [(3, .int (nI i)), (0, .ref sb), (1, .ref x0), (2, .ref q0)] [] := by
  have hc : cOK c := hS.ok
  have hn : ln ≤ 80 := hX.1
  have ht : ∀ k, k < ln → sg k = nI (cN sg k) ∧ cN sg k < 128 := fun k hk => ⟨hT k hk, (hX.2 k hk).2⟩
  have hcs : hs = true → cOK cs := fun h => (hN h).ok
  refine g_aload_n (pc := 345) C dL_law_345 2 rfl rfl ?_
  refine g_aload_n (pc := 346) C dL_law_346 1 rfl rfl ?_
  refine g_iload_n (pc := 347) C dL_law_347 0 rfl rfl ?_
  refine g_iconst (pc := 348) (v := nI 1) C dL_law_348 (by decide) ?_
  refine g_iaddN (pc := 349) C dL_law_349 ?_
  refine g_sld (pc := 350) C S0 (by omega) (by omega) dL_law_350 ?_
  refine g_ne0 (pc := 351) C dL_law_351 dL_law_354 dL_law_355 dL_law_358 ?_
  refine g_aload_n (pc := 359) C dL_law_359 1 rfl rfl ?_
  refine g_iload_n (pc := 360) C dL_law_360 0 rfl rfl ?_
  refine g_iconst (pc := 361) (v := nI 2) C dL_law_361 (by decide) ?_
  refine g_iaddN (pc := 362) C dL_law_362 ?_
  refine g_sld (pc := 363) C S0 (by omega) (by omega) dL_law_363 ?_
  refine g_aload_n (pc := 364) C dL_law_364 1 rfl rfl ?_
  refine g_iload_n (pc := 365) C dL_law_365 0 rfl rfl ?_
  refine g_iconst (pc := 366) (v := nI 3) C dL_law_366 (by decide) ?_
  refine g_iaddN (pc := 367) C dL_law_367 ?_
  refine g_sld (pc := 368) C S0 (by omega) (by omega) dL_law_368 ?_
  refine g_callX (pc := 369) (st := []) (As := [.int (bI (!decide ((xs (i + 1)) = 0))), .int (xs (i + 2)), .int (xs (i + 3))]) (nn := 3) (ci := 5) C (m_X5_move l D cI cC x0 n0 n1 t0 t1 s0 s1 g0 g1 w0 w1 w2 m0 m1 m2 m3 m4 p0 p1 c ct cs r sg tr wi ol orr sf nb hs od z ln lf rg bd rl (!decide ((xs (i + 1)) = 0)) (xs (i + 2)) (xs (i + 3)) (by first | assumption | omega) (by first | assumption | omega) (by first | assumption | omega)) gL_law_X5_move rfl rfl rfl yd_X5_move ⟨Nat.le_of_ble_eq_true rfl, Nat.le_of_ble_eq_true rfl⟩ rfl 19 rfl (by decide) rfl rfl rfl (Nat.le_of_ble_eq_true rfl) ⟨Nat.le_of_ble_eq_true rfl, Nat.le_of_ble_eq_true rfl⟩ dL_law_369 ?_
  rintro _ _ ⟨c2_369, r2_369, od2_369, z2_369, rfl, rfl, f369_0⟩
  refine g_eq (ws' := ((xW cI cC x0 n0 n1 t0 t1 s0 s1 g0 g1 w0 w1 w2 m0 m1 m2 m3 m4 p0 p1 (bI hs) c2_369 ct cs r2_369 (nI od2_369) (nI z2_369) sg (nI ln) tr (nI lf) (nI rg) (bI bd) wi ol orr sf (nI rl) nb) ++ (rW cI cC q0 q1 q2 q3 q4 q5 q6 q7 q8 q9 q10 q11 th ss asd sts (nI z) snp (bI hs) tx (nI ln) can szs ptn nms pth att isw rdd rmy))) (st' := [.int (mvV c (!decide ((xs (i + 1)) = 0)) (xs (i + 2)) (xs (i + 3)))]) rfl rfl ?_
  refine g_aload_n (pc := 372) C dL_law_372 3 rfl rfl ?_
  refine g_aload_n (pc := 373) C dL_law_373 1 rfl rfl ?_
  refine g_iload_n (pc := 374) C dL_law_374 0 rfl rfl ?_
  refine g_iconst (pc := 375) (v := nI 1) C dL_law_375 (by decide) ?_
  refine g_iaddN (pc := 376) C dL_law_376 ?_
  refine g_sld (pc := 377) C S0 (by omega) (by omega) dL_law_377 ?_
  refine g_ne0 (pc := 378) C dL_law_378 dL_law_381 dL_law_382 dL_law_385 ?_
  refine g_aload_n (pc := 386) C dL_law_386 1 rfl rfl ?_
  refine g_iload_n (pc := 387) C dL_law_387 0 rfl rfl ?_
  refine g_iconst (pc := 388) (v := nI 2) C dL_law_388 (by decide) ?_
  refine g_iaddN (pc := 389) C dL_law_389 ?_
  refine g_sld (pc := 390) C S0 (by omega) (by omega) dL_law_390 ?_
  refine g_aload_n (pc := 391) C dL_law_391 1 rfl rfl ?_
  refine g_iload_n (pc := 392) C dL_law_392 0 rfl rfl ?_
  refine g_iconst (pc := 393) (v := nI 3) C dL_law_393 (by decide) ?_
  refine g_iaddN (pc := 394) C dL_law_394 ?_
  refine g_sld (pc := 395) C S0 (by omega) (by omega) dL_law_395 ?_
  refine g_callR (pc := 396) (st := [.int (mvV c (!decide ((xs (i + 1)) = 0)) (xs (i + 2)) (xs (i + 3)))]) (As := [.int (bI (!decide ((xs (i + 1)) = 0))), .int (xs (i + 2)), .int (xs (i + 3))]) (nn := 3) (ci := 6) C (m_X6_move l D cI cC q0 q1 q2 q3 q4 q5 q6 q7 q8 q9 q10 q11 th ss asd sts snp (bI hs) tx (nI ln) can szs ptn nms pth att isw rdd rmy z c (!decide ((xs (i + 1)) = 0)) (xs (i + 2)) (xs (i + 3)) (by first | assumption | omega) (by first | assumption | omega)) gL_law_X6_move rfl rfl rfl yd_X6_move ⟨Nat.le_of_ble_eq_true rfl, Nat.le_of_ble_eq_true rfl⟩ rfl 12 19 rfl rfl (by decide) rfl rfl rfl (Nat.le_of_ble_eq_true rfl) ⟨Nat.le_of_ble_eq_true rfl, Nat.le_of_ble_eq_true rfl⟩ dL_law_396 ?_
  rintro _ _ ⟨ss2_396, sts2_396, z2_396, rfl, rfl, f396_0⟩
  refine g_eq (ws' := ((xW cI cC x0 n0 n1 t0 t1 s0 s1 g0 g1 w0 w1 w2 m0 m1 m2 m3 m4 p0 p1 (bI hs) c2_369 ct cs r2_369 (nI od2_369) (nI z2_369) sg (nI ln) tr (nI lf) (nI rg) (bI bd) wi ol orr sf (nI rl) nb) ++ (rW cI cC q0 q1 q2 q3 q4 q5 q6 q7 q8 q9 q10 q11 (nI 0) ss2_396 asd sts2_396 (nI z2_396) snp (bI hs) tx (nI ln) can szs ptn nms pth att isw rdd rmy))) (st' := [.int (mvV c (!decide ((xs (i + 1)) = 0)) (xs (i + 2)) (xs (i + 3))), .int (mvV c (!decide ((xs (i + 1)) = 0)) (xs (i + 2)) (xs (i + 3)))]) rfl rfl ?_
  refine g_icmp_eq (pc := 399) C 838 dL_law_399 (by decide) (fun _ => ?_) (fun cN => absurd rfl cN)
  obtain ⟨gS, gH, rfl, go, gz⟩ := ACT f369_0 f396_0 hS hH ho hz
  exact K _ (lINV_mk gS gH go gz hX hT hN hrl)

set_option maxHeartbeats 4000000 in
set_option maxRecDepth 100000 in
theorem lc_6 {p : Program} {l : Launch} {e : Env} {s : State} {m : MethodId} {args : Array Value} {below : List Frame} {meth : Method} {co : Code} {Q : State → Prop} {D : va_G} {A : Nat → Prop} {cI cC : ClassId} {x0 n0 n1 t0 t1 s0 s1 g0 g1 w0 w1 w2 m0 m1 m2 m3 m4 p0 p1 q0 q1 q2 q3 q4 q5 q6 q7 q8 q9 q10 q11 : Nat} {hs : Bool} {c ct cs r : Nat → Int32} {od z : Nat} {sg : Nat → Int32} {ln : Nat} {tr : Nat → Int32} {lf rg : Nat} {bd : Bool} {wi ol orr sf : Nat → Int32} {rl : Nat} {nb : Nat → Int32} {th : Int32} {ss asd sts snp tx can szs ptn nms pth : Nat → Int32} {att isw : Int32} {rdd : Nat → Int32} {rmy : Int32} {sb SL i : Nat} {xs : Nat → Int32} (C : g_C p s m args meth co cL_law 8 RL wsL_law D cI cC A) (S0 : lS s A sb SL xs) (hi : i + 4 ≤ SL) (hL : SL ≤ 2048) (hS : SR c ss) (hH : HR r sts od z) (ho : od < 5) (hz : z ≤ 5) (hX : HX sg tx ln) (hT : ∀ k, k < ln → sg k = nI (cN sg k)) (hN : hs = true → SR cs snp) (hrl : rl < 256) (K : ∀ w : va_W, lINV cI cC x0 n0 n1 t0 t1 s0 s1 g0 g1 w0 w1 w2 m0 m1 m2 m3 m4 p0 p1 q0 q1 q2 q3 q4 q5 q6 q7 q8 q9 q10 q11 w → g_J p l e room_1 s m args below meth co Q D A 8 31 5852 w 838 [(3, .int (nI i)), (0, .ref sb), (1, .ref x0), (2, .ref q0)] []) : g_J p l e room_1 s m args below meth co Q D A 8 31 5852 ((xW cI cC x0 n0 n1 t0 t1 s0 s1 g0 g1 w0 w1 w2 m0 m1 m2 m3 m4 p0 p1 (bI hs) c ct cs r (nI od) (nI z) sg (nI ln) tr (nI lf) (nI rg) (bI bd) wi ol orr sf (nI rl) nb) ++ (rW cI cC q0 q1 q2 q3 q4 q5 q6 q7 q8 q9 q10 q11 th ss asd sts (nI z) snp (bI hs) tx (nI ln) can szs ptn nms pth att isw rdd rmy)) 404 [(3, .int (nI i)), (0, .ref sb), (1, .ref x0), (2, .ref q0)] [] := by
  have hc : cOK c := hS.ok
  have hn : ln ≤ 80 := hX.1
  have ht : ∀ k, k < ln → sg k = nI (cN sg k) ∧ cN sg k < 128 := fun k hk => ⟨hT k hk, (hX.2 k hk).2⟩
  have hcs : hs = true → cOK cs := fun h => (hN h).ok
  refine g_aload_n (pc := 404) C dL_law_404 2 rfl rfl ?_
  refine g_callX (pc := 405) (st := []) (As := []) (nn := 0) (ci := 5) C (m_X5_round l D cI cC x0 n0 n1 t0 t1 s0 s1 g0 g1 w0 w1 w2 m0 m1 m2 m3 m4 p0 p1 c ct cs r sg tr wi ol orr sf nb hs od z ln lf rg bd rl (by first | assumption | omega) (by first | assumption | omega) (by first | assumption | omega) (by first | assumption | omega)) gL_law_X5_round rfl rfl rfl yd_X5_round ⟨Nat.le_of_ble_eq_true rfl, Nat.le_of_ble_eq_true rfl⟩ rfl 19 rfl (by decide) rfl rfl rfl (Nat.le_of_ble_eq_true rfl) ⟨Nat.le_of_ble_eq_true rfl, Nat.le_of_ble_eq_true rfl⟩ dL_law_405 ?_
  rintro _ _ ⟨c2_405, r2_405, od2_405, z2_405, wi2_405, ol2_405, orr2_405, sf2_405, rl2_405, rfl, rfl, f405_0, f405_1⟩
  refine g_eq (ws' := ((xW cI cC x0 n0 n1 t0 t1 s0 s1 g0 g1 w0 w1 w2 m0 m1 m2 m3 m4 p0 p1 (bI hs) c2_405 ct cs r2_405 (nI od2_405) (nI z2_405) sg (nI ln) tr (nI lf) (nI rg) (bI bd) wi2_405 ol2_405 orr2_405 sf2_405 (nI rl2_405) nb) ++ (rW cI cC q0 q1 q2 q3 q4 q5 q6 q7 q8 q9 q10 q11 th ss asd sts (nI z) snp (bI hs) tx (nI ln) can szs ptn nms pth att isw rdd rmy))) (st' := [.int (rnV c)]) rfl rfl ?_
  refine g_aload_n (pc := 408) C dL_law_408 3 rfl rfl ?_
  refine g_callR (pc := 409) (st := [.int (rnV c)]) (As := []) (nn := 0) (ci := 6) C (m_X6_round l D cI cC q0 q1 q2 q3 q4 q5 q6 q7 q8 q9 q10 q11 th ss asd sts snp (bI hs) tx (nI ln) can szs ptn nms pth att isw rdd rmy z c (by first | assumption | omega) (by first | assumption | omega)) gL_law_X6_round rfl rfl rfl yd_X6_round ⟨Nat.le_of_ble_eq_true rfl, Nat.le_of_ble_eq_true rfl⟩ rfl 12 19 rfl rfl (by decide) rfl rfl rfl (Nat.le_of_ble_eq_true rfl) ⟨Nat.le_of_ble_eq_true rfl, Nat.le_of_ble_eq_true rfl⟩ dL_law_409 ?_
  rintro _ _ ⟨ss2_409, sts2_409, z2_409, can2_409, szs2_409, ptn2_409, rfl, rfl, f409_0⟩
  refine g_eq (ws' := ((xW cI cC x0 n0 n1 t0 t1 s0 s1 g0 g1 w0 w1 w2 m0 m1 m2 m3 m4 p0 p1 (bI hs) c2_405 ct cs r2_405 (nI od2_405) (nI z2_405) sg (nI ln) tr (nI lf) (nI rg) (bI bd) wi2_405 ol2_405 orr2_405 sf2_405 (nI rl2_405) nb) ++ (rW cI cC q0 q1 q2 q3 q4 q5 q6 q7 q8 q9 q10 q11 (nI 0) ss2_409 asd sts2_409 (nI z2_409) snp (bI hs) tx (nI ln) can2_409 szs2_409 ptn2_409 nms pth att isw rdd rmy))) (st' := [.int (rnV c), .int (rnV c)]) rfl rfl ?_
  refine g_icmp_eq (pc := 412) C 838 dL_law_412 (by decide) (fun _ => ?_) (fun cN => absurd rfl cN)
  obtain ⟨gS, gH, rfl, go, gz⟩ := ACT f405_0 f409_0 hS hH ho hz
  exact K _ (lINV_mk gS gH go gz hX hT hN f405_1)

set_option maxHeartbeats 4000000 in
set_option maxRecDepth 100000 in
theorem lc_7 {p : Program} {l : Launch} {e : Env} {s : State} {m : MethodId} {args : Array Value} {below : List Frame} {meth : Method} {co : Code} {Q : State → Prop} {D : va_G} {A : Nat → Prop} {cI cC : ClassId} {x0 n0 n1 t0 t1 s0 s1 g0 g1 w0 w1 w2 m0 m1 m2 m3 m4 p0 p1 q0 q1 q2 q3 q4 q5 q6 q7 q8 q9 q10 q11 : Nat} {hs : Bool} {c ct cs r : Nat → Int32} {od z : Nat} {sg : Nat → Int32} {ln : Nat} {tr : Nat → Int32} {lf rg : Nat} {bd : Bool} {wi ol orr sf : Nat → Int32} {rl : Nat} {nb : Nat → Int32} {th : Int32} {ss asd sts snp tx can szs ptn nms pth : Nat → Int32} {att isw : Int32} {rdd : Nat → Int32} {rmy : Int32} {sb SL i : Nat} {xs : Nat → Int32} (C : g_C p s m args meth co cL_law 8 RL wsL_law D cI cC A) (S0 : lS s A sb SL xs) (hi : i + 4 ≤ SL) (hL : SL ≤ 2048) (hS : SR c ss) (hH : HR r sts od z) (ho : od < 5) (hz : z ≤ 5) (hX : HX sg tx ln) (hT : ∀ k, k < ln → sg k = nI (cN sg k)) (hN : hs = true → SR cs snp) (hrl : rl < 256) (K : ∀ w : va_W, lINV cI cC x0 n0 n1 t0 t1 s0 s1 g0 g1 w0 w1 w2 m0 m1 m2 m3 m4 p0 p1 q0 q1 q2 q3 q4 q5 q6 q7 q8 q9 q10 q11 w → g_J p l e room_1 s m args below meth co Q D A 8 31 5852 w 838 [(3, .int (nI i)), (0, .ref sb), (1, .ref x0), (2, .ref q0)] []) : g_J p l e room_1 s m args below meth co Q D A 8 31 5852 ((xW cI cC x0 n0 n1 t0 t1 s0 s1 g0 g1 w0 w1 w2 m0 m1 m2 m3 m4 p0 p1 (bI hs) c ct cs r (nI od) (nI z) sg (nI ln) tr (nI lf) (nI rg) (bI bd) wi ol orr sf (nI rl) nb) ++ (rW cI cC q0 q1 q2 q3 q4 q5 q6 q7 q8 q9 q10 q11 th ss asd sts (nI z) snp (bI hs) tx (nI ln) can szs ptn nms pth att isw rdd rmy)) 417 [(3, .int (nI i)), (0, .ref sb), (1, .ref x0), (2, .ref q0)] [] := by
  have hc : cOK c := hS.ok
  have hn : ln ≤ 80 := hX.1
  have ht : ∀ k, k < ln → sg k = nI (cN sg k) ∧ cN sg k < 128 := fun k hk => ⟨hT k hk, (hX.2 k hk).2⟩
  have hcs : hs = true → cOK cs := fun h => (hN h).ok
  refine g_aload_n (pc := 417) C dL_law_417 2 rfl rfl ?_
  refine g_aload_n (pc := 418) C dL_law_418 1 rfl rfl ?_
  refine g_iload_n (pc := 419) C dL_law_419 0 rfl rfl ?_
  refine g_iconst (pc := 420) (v := nI 1) C dL_law_420 (by decide) ?_
  refine g_iaddN (pc := 421) C dL_law_421 ?_
  refine g_sld (pc := 422) C S0 (by omega) (by omega) dL_law_422 ?_
  refine g_callX (pc := 423) (st := []) (As := [.int (xs (i + 1))]) (nn := 1) (ci := 5) C (m_X5_append l D cI cC x0 n0 n1 t0 t1 s0 s1 g0 g1 w0 w1 w2 m0 m1 m2 m3 m4 p0 p1 c ct cs r sg tr wi ol orr sf nb hs od z ln lf rg bd rl (xs (i + 1)) (by first | assumption | omega)) gL_law_X5_append rfl rfl rfl yd_X5_append ⟨Nat.le_of_ble_eq_true rfl, Nat.le_of_ble_eq_true rfl⟩ rfl 19 rfl (by decide) rfl rfl rfl (Nat.le_of_ble_eq_true rfl) ⟨Nat.le_of_ble_eq_true rfl, Nat.le_of_ble_eq_true rfl⟩ dL_law_423 ?_
  rintro _ _ ⟨sg2_423, ln2_423, rfl, rfl, f423_0, f423_1⟩
  refine g_eq (ws' := ((xW cI cC x0 n0 n1 t0 t1 s0 s1 g0 g1 w0 w1 w2 m0 m1 m2 m3 m4 p0 p1 (bI hs) c ct cs r (nI od) (nI z) sg2_423 (nI ln2_423) tr (nI lf) (nI rg) (bI bd) wi ol orr sf (nI rl) nb) ++ (rW cI cC q0 q1 q2 q3 q4 q5 q6 q7 q8 q9 q10 q11 th ss asd sts (nI z) snp (bI hs) tx (nI ln) can szs ptn nms pth att isw rdd rmy))) (st' := [.int (apV ln (xs (i + 1)))]) rfl rfl ?_
  refine g_aload_n (pc := 426) C dL_law_426 3 rfl rfl ?_
  refine g_aload_n (pc := 427) C dL_law_427 1 rfl rfl ?_
  refine g_iload_n (pc := 428) C dL_law_428 0 rfl rfl ?_
  refine g_iconst (pc := 429) (v := nI 1) C dL_law_429 (by decide) ?_
  refine g_iaddN (pc := 430) C dL_law_430 ?_
  refine g_sld (pc := 431) C S0 (by omega) (by omega) dL_law_431 ?_
  refine g_callR (pc := 432) (st := [.int (apV ln (xs (i + 1)))]) (As := [.int (xs (i + 1))]) (nn := 1) (ci := 6) C (m_X6_append l D cI cC q0 q1 q2 q3 q4 q5 q6 q7 q8 q9 q10 q11 th ss asd sts (nI z) snp (bI hs) tx can szs ptn nms pth att isw rdd rmy ln (xs (i + 1)) (by first | assumption | omega)) gL_law_X6_append rfl rfl rfl yd_X6_append ⟨Nat.le_of_ble_eq_true rfl, Nat.le_of_ble_eq_true rfl⟩ rfl 12 19 rfl rfl (by decide) rfl rfl rfl (Nat.le_of_ble_eq_true rfl) ⟨Nat.le_of_ble_eq_true rfl, Nat.le_of_ble_eq_true rfl⟩ dL_law_432 ?_
  rintro _ _ ⟨tx2_432, ln2_432, rfl, rfl, f432_0, f432_1⟩
  refine g_eq (ws' := ((xW cI cC x0 n0 n1 t0 t1 s0 s1 g0 g1 w0 w1 w2 m0 m1 m2 m3 m4 p0 p1 (bI hs) c ct cs r (nI od) (nI z) sg2_423 (nI ln2_423) tr (nI lf) (nI rg) (bI bd) wi ol orr sf (nI rl) nb) ++ (rW cI cC q0 q1 q2 q3 q4 q5 q6 q7 q8 q9 q10 q11 (nI 0) ss asd sts (nI z) snp (bI hs) tx2_432 (nI ln2_432) can szs ptn nms pth att isw rdd rmy))) (st' := [.int (apV ln (xs (i + 1))), .int (apV ln (xs (i + 1)))]) rfl rfl ?_
  refine g_icmp_eq (pc := 435) C 838 dL_law_435 (by decide) (fun _ => ?_) (fun cN => absurd rfl cN)
  obtain ⟨gX, gT, rfl⟩ := APP hX hT f423_0 f423_1 f432_0 f432_1
  exact K _ (lINV_mk hS hH ho hz gX gT hN hrl)

set_option maxHeartbeats 4000000 in
set_option maxRecDepth 100000 in
theorem lc_8 {p : Program} {l : Launch} {e : Env} {s : State} {m : MethodId} {args : Array Value} {below : List Frame} {meth : Method} {co : Code} {Q : State → Prop} {D : va_G} {A : Nat → Prop} {cI cC : ClassId} {x0 n0 n1 t0 t1 s0 s1 g0 g1 w0 w1 w2 m0 m1 m2 m3 m4 p0 p1 q0 q1 q2 q3 q4 q5 q6 q7 q8 q9 q10 q11 : Nat} {hs : Bool} {c ct cs r : Nat → Int32} {od z : Nat} {sg : Nat → Int32} {ln : Nat} {tr : Nat → Int32} {lf rg : Nat} {bd : Bool} {wi ol orr sf : Nat → Int32} {rl : Nat} {nb : Nat → Int32} {th : Int32} {ss asd sts snp tx can szs ptn nms pth : Nat → Int32} {att isw : Int32} {rdd : Nat → Int32} {rmy : Int32} {sb SL i : Nat} {xs : Nat → Int32} (C : g_C p s m args meth co cL_law 8 RL wsL_law D cI cC A) (S0 : lS s A sb SL xs) (hi : i + 4 ≤ SL) (hL : SL ≤ 2048) (hS : SR c ss) (hH : HR r sts od z) (ho : od < 5) (hz : z ≤ 5) (hX : HX sg tx ln) (hT : ∀ k, k < ln → sg k = nI (cN sg k)) (hN : hs = true → SR cs snp) (hrl : rl < 256) (K : ∀ w : va_W, lINV cI cC x0 n0 n1 t0 t1 s0 s1 g0 g1 w0 w1 w2 m0 m1 m2 m3 m4 p0 p1 q0 q1 q2 q3 q4 q5 q6 q7 q8 q9 q10 q11 w → g_J p l e room_1 s m args below meth co Q D A 8 31 5852 w 838 [(3, .int (nI i)), (0, .ref sb), (1, .ref x0), (2, .ref q0)] []) : g_J p l e room_1 s m args below meth co Q D A 8 31 5852 ((xW cI cC x0 n0 n1 t0 t1 s0 s1 g0 g1 w0 w1 w2 m0 m1 m2 m3 m4 p0 p1 (bI hs) c ct cs r (nI od) (nI z) sg (nI ln) tr (nI lf) (nI rg) (bI bd) wi ol orr sf (nI rl) nb) ++ (rW cI cC q0 q1 q2 q3 q4 q5 q6 q7 q8 q9 q10 q11 th ss asd sts (nI z) snp (bI hs) tx (nI ln) can szs ptn nms pth att isw rdd rmy)) 440 [(3, .int (nI i)), (0, .ref sb), (1, .ref x0), (2, .ref q0)] [] := by
  have hc : cOK c := hS.ok
  have hn : ln ≤ 80 := hX.1
  have ht : ∀ k, k < ln → sg k = nI (cN sg k) ∧ cN sg k < 128 := fun k hk => ⟨hT k hk, (hX.2 k hk).2⟩
  have hcs : hs = true → cOK cs := fun h => (hN h).ok
  refine g_aload_n (pc := 440) C dL_law_440 2 rfl rfl ?_
  refine g_callX (pc := 441) (st := []) (As := []) (nn := 0) (ci := 5) C (m_X5_clearText l D cI cC x0 n0 n1 t0 t1 s0 s1 g0 g1 w0 w1 w2 m0 m1 m2 m3 m4 p0 p1 c ct cs r sg tr wi ol orr sf nb hs od z ln lf rg bd rl) gL_law_X5_clearText rfl rfl rfl yd_X5_clearText ⟨Nat.le_of_ble_eq_true rfl, Nat.le_of_ble_eq_true rfl⟩ rfl 19 rfl (by decide) rfl rfl rfl (Nat.le_of_ble_eq_true rfl) ⟨Nat.le_of_ble_eq_true rfl, Nat.le_of_ble_eq_true rfl⟩ dL_law_441 ?_
  rintro _ _ ⟨rfl, rfl⟩
  refine g_eq (ws' := ((xW cI cC x0 n0 n1 t0 t1 s0 s1 g0 g1 w0 w1 w2 m0 m1 m2 m3 m4 p0 p1 (bI hs) c ct cs r (nI od) (nI z) sg (nI 0) tr (nI lf) (nI rg) (bI bd) wi ol orr sf (nI rl) nb) ++ (rW cI cC q0 q1 q2 q3 q4 q5 q6 q7 q8 q9 q10 q11 th ss asd sts (nI z) snp (bI hs) tx (nI ln) can szs ptn nms pth att isw rdd rmy))) (st' := [.int (nI ln)]) rfl rfl ?_
  refine g_aload_n (pc := 444) C dL_law_444 3 rfl rfl ?_
  refine g_callR (pc := 445) (st := [.int (nI ln)]) (As := []) (nn := 0) (ci := 6) C (m_X6_clearText l D cI cC q0 q1 q2 q3 q4 q5 q6 q7 q8 q9 q10 q11 th ss asd sts (nI z) snp (bI hs) tx can szs ptn nms pth att isw rdd rmy ln) gL_law_X6_clearText rfl rfl rfl yd_X6_clearText ⟨Nat.le_of_ble_eq_true rfl, Nat.le_of_ble_eq_true rfl⟩ rfl 12 19 rfl rfl (by decide) rfl rfl rfl (Nat.le_of_ble_eq_true rfl) ⟨Nat.le_of_ble_eq_true rfl, Nat.le_of_ble_eq_true rfl⟩ dL_law_445 ?_
  rintro _ _ ⟨rfl, rfl⟩
  refine g_eq (ws' := ((xW cI cC x0 n0 n1 t0 t1 s0 s1 g0 g1 w0 w1 w2 m0 m1 m2 m3 m4 p0 p1 (bI hs) c ct cs r (nI od) (nI z) sg (nI 0) tr (nI lf) (nI rg) (bI bd) wi ol orr sf (nI rl) nb) ++ (rW cI cC q0 q1 q2 q3 q4 q5 q6 q7 q8 q9 q10 q11 (nI 0) ss asd sts (nI z) snp (bI hs) tx (nI 0) can szs ptn nms pth att isw rdd rmy))) (st' := [.int (nI ln), .int (nI ln)]) rfl rfl ?_
  refine g_icmp_eq (pc := 448) C 838 dL_law_448 (by decide) (fun _ => ?_) (fun cN => absurd rfl cN)
  exact K _ (lINV_mk hS hH ho hz HX_0 (fun k hk => absurd hk (Nat.not_lt_zero _)) hN hrl)

set_option maxHeartbeats 4000000 in
set_option maxRecDepth 100000 in
theorem lc_9 {p : Program} {l : Launch} {e : Env} {s : State} {m : MethodId} {args : Array Value} {below : List Frame} {meth : Method} {co : Code} {Q : State → Prop} {D : va_G} {A : Nat → Prop} {cI cC : ClassId} {x0 n0 n1 t0 t1 s0 s1 g0 g1 w0 w1 w2 m0 m1 m2 m3 m4 p0 p1 q0 q1 q2 q3 q4 q5 q6 q7 q8 q9 q10 q11 : Nat} {hs : Bool} {c ct cs r : Nat → Int32} {od z : Nat} {sg : Nat → Int32} {ln : Nat} {tr : Nat → Int32} {lf rg : Nat} {bd : Bool} {wi ol orr sf : Nat → Int32} {rl : Nat} {nb : Nat → Int32} {th : Int32} {ss asd sts snp tx can szs ptn nms pth : Nat → Int32} {att isw : Int32} {rdd : Nat → Int32} {rmy : Int32} {sb SL i : Nat} {xs : Nat → Int32} (C : g_C p s m args meth co cL_law 8 RL wsL_law D cI cC A) (S0 : lS s A sb SL xs) (hi : i + 4 ≤ SL) (hL : SL ≤ 2048) (hS : SR c ss) (hH : HR r sts od z) (ho : od < 5) (hz : z ≤ 5) (hX : HX sg tx ln) (hT : ∀ k, k < ln → sg k = nI (cN sg k)) (hN : hs = true → SR cs snp) (hrl : rl < 256) (K : ∀ w : va_W, lINV cI cC x0 n0 n1 t0 t1 s0 s1 g0 g1 w0 w1 w2 m0 m1 m2 m3 m4 p0 p1 q0 q1 q2 q3 q4 q5 q6 q7 q8 q9 q10 q11 w → g_J p l e room_1 s m args below meth co Q D A 8 31 5852 w 838 [(3, .int (nI i)), (0, .ref sb), (1, .ref x0), (2, .ref q0)] []) : g_J p l e room_1 s m args below meth co Q D A 8 31 5852 ((xW cI cC x0 n0 n1 t0 t1 s0 s1 g0 g1 w0 w1 w2 m0 m1 m2 m3 m4 p0 p1 (bI hs) c ct cs r (nI od) (nI z) sg (nI ln) tr (nI lf) (nI rg) (bI bd) wi ol orr sf (nI rl) nb) ++ (rW cI cC q0 q1 q2 q3 q4 q5 q6 q7 q8 q9 q10 q11 th ss asd sts (nI z) snp (bI hs) tx (nI ln) can szs ptn nms pth att isw rdd rmy)) 453 [(3, .int (nI i)), (0, .ref sb), (1, .ref x0), (2, .ref q0)] [] := by
  have hc : cOK c := hS.ok
  have hn : ln ≤ 80 := hX.1
  have ht : ∀ k, k < ln → sg k = nI (cN sg k) ∧ cN sg k < 128 := fun k hk => ⟨hT k hk, (hX.2 k hk).2⟩
  have hcs : hs = true → cOK cs := fun h => (hN h).ok
  refine g_aload_n (pc := 453) C dL_law_453 2 rfl rfl ?_
  refine g_callX (pc := 454) (st := []) (As := []) (nn := 0) (ci := 5) C (m_X5_fault l D cI cC x0 n0 n1 t0 t1 s0 s1 g0 g1 w0 w1 w2 m0 m1 m2 m3 m4 p0 p1 c ct cs r sg tr wi ol orr sf nb hs od z ln lf rg bd rl (by first | assumption | omega) (by first | assumption | omega)) gL_law_X5_fault rfl rfl rfl yd_X5_fault ⟨Nat.le_of_ble_eq_true rfl, Nat.le_of_ble_eq_true rfl⟩ rfl 19 rfl (by decide) rfl rfl rfl (Nat.le_of_ble_eq_true rfl) ⟨Nat.le_of_ble_eq_true rfl, Nat.le_of_ble_eq_true rfl⟩ dL_law_454 ?_
  rintro _ _ ⟨lf2_454, rg2_454, bd2_454, tr2_454, rfl, rfl, f454_0⟩
  refine g_eq (ws' := ((xW cI cC x0 n0 n1 t0 t1 s0 s1 g0 g1 w0 w1 w2 m0 m1 m2 m3 m4 p0 p1 (bI hs) c ct cs r (nI od) (nI z) sg (nI ln) tr2_454 (nI lf2_454) (nI rg2_454) (bI bd2_454) wi ol orr sf (nI rl) nb) ++ (rW cI cC q0 q1 q2 q3 q4 q5 q6 q7 q8 q9 q10 q11 th ss asd sts (nI z) snp (bI hs) tx (nI ln) can szs ptn nms pth att isw rdd rmy))) (st' := [.int (pres sg (fillF tr (nI 0) 8) ln)]) rfl rfl ?_
  refine g_aload_n (pc := 457) C dL_law_457 3 rfl rfl ?_
  refine g_callR (pc := 458) (st := [.int (pres sg (fillF tr (nI 0) 8) ln)]) (As := []) (nn := 0) (ci := 6) C (m_X6_fault l D cI cC q0 q1 q2 q3 q4 q5 q6 q7 q8 q9 q10 q11 th ss asd sts (nI z) snp (bI hs) tx can szs ptn nms pth att isw rdd rmy ln sg (fillF tr (nI 0) 8) (by first | assumption | omega)) gL_law_X6_fault rfl rfl rfl yd_X6_fault ⟨Nat.le_of_ble_eq_true rfl, Nat.le_of_ble_eq_true rfl⟩ rfl 12 19 rfl rfl (by decide) rfl rfl rfl (Nat.le_of_ble_eq_true rfl) ⟨Nat.le_of_ble_eq_true rfl, Nat.le_of_ble_eq_true rfl⟩ dL_law_458 ?_
  rintro _ _ ⟨w3_458, j3_458, m3_458, rdd3_458, rfl, rfl⟩
  refine g_eq (ws' := ((xW cI cC x0 n0 n1 t0 t1 s0 s1 g0 g1 w0 w1 w2 m0 m1 m2 m3 m4 p0 p1 (bI hs) c ct cs r (nI od) (nI z) sg (nI ln) tr2_454 (nI lf2_454) (nI rg2_454) (bI bd2_454) wi ol orr sf (nI rl) nb) ++ (rW cI cC q0 q1 q2 q3 q4 q5 q6 q7 q8 q9 q10 q11 (nI 0) ss asd sts (nI z) snp (bI hs) tx (nI ln) can szs ptn nms pth (nI j3_458) (bI w3_458) rdd3_458 (nI m3_458)))) (st' := [.int (pres sg (fillF tr (nI 0) 8) ln), .int (pres sg (fillF tr (nI 0) 8) ln)]) rfl rfl ?_
  refine g_icmp_eq (pc := 461) C 838 dL_law_461 (by decide) (fun _ => ?_) (fun cN => absurd rfl cN)
  exact K _ (lINV_mk hS hH ho hz hX hT hN hrl)

set_option maxHeartbeats 4000000 in
set_option maxRecDepth 100000 in
theorem lc_10 {p : Program} {l : Launch} {e : Env} {s : State} {m : MethodId} {args : Array Value} {below : List Frame} {meth : Method} {co : Code} {Q : State → Prop} {D : va_G} {A : Nat → Prop} {cI cC : ClassId} {x0 n0 n1 t0 t1 s0 s1 g0 g1 w0 w1 w2 m0 m1 m2 m3 m4 p0 p1 q0 q1 q2 q3 q4 q5 q6 q7 q8 q9 q10 q11 : Nat} {hs : Bool} {c ct cs r : Nat → Int32} {od z : Nat} {sg : Nat → Int32} {ln : Nat} {tr : Nat → Int32} {lf rg : Nat} {bd : Bool} {wi ol orr sf : Nat → Int32} {rl : Nat} {nb : Nat → Int32} {th : Int32} {ss asd sts snp tx can szs ptn nms pth : Nat → Int32} {att isw : Int32} {rdd : Nat → Int32} {rmy : Int32} {sb SL i : Nat} {xs : Nat → Int32} (C : g_C p s m args meth co cL_law 8 RL wsL_law D cI cC A) (S0 : lS s A sb SL xs) (hi : i + 4 ≤ SL) (hL : SL ≤ 2048) (hS : SR c ss) (hH : HR r sts od z) (ho : od < 5) (hz : z ≤ 5) (hX : HX sg tx ln) (hT : ∀ k, k < ln → sg k = nI (cN sg k)) (hN : hs = true → SR cs snp) (hrl : rl < 256) (K : ∀ w : va_W, lINV cI cC x0 n0 n1 t0 t1 s0 s1 g0 g1 w0 w1 w2 m0 m1 m2 m3 m4 p0 p1 q0 q1 q2 q3 q4 q5 q6 q7 q8 q9 q10 q11 w → g_J p l e room_1 s m args below meth co Q D A 8 31 5852 w 838 [(3, .int (nI i)), (0, .ref sb), (1, .ref x0), (2, .ref q0)] []) : g_J p l e room_1 s m args below meth co Q D A 8 31 5852 ((xW cI cC x0 n0 n1 t0 t1 s0 s1 g0 g1 w0 w1 w2 m0 m1 m2 m3 m4 p0 p1 (bI hs) c ct cs r (nI od) (nI z) sg (nI ln) tr (nI lf) (nI rg) (bI bd) wi ol orr sf (nI rl) nb) ++ (rW cI cC q0 q1 q2 q3 q4 q5 q6 q7 q8 q9 q10 q11 th ss asd sts (nI z) snp (bI hs) tx (nI ln) can szs ptn nms pth att isw rdd rmy)) 466 [(3, .int (nI i)), (0, .ref sb), (1, .ref x0), (2, .ref q0)] [] := by
  have hc : cOK c := hS.ok
  have hn : ln ≤ 80 := hX.1
  have ht : ∀ k, k < ln → sg k = nI (cN sg k) ∧ cN sg k < 128 := fun k hk => ⟨hT k hk, (hX.2 k hk).2⟩
  have hcs : hs = true → cOK cs := fun h => (hN h).ok
  refine g_aload_n (pc := 466) C dL_law_466 2 rfl rfl ?_
  refine g_callX (pc := 467) (st := []) (As := []) (nn := 0) (ci := 5) C (m_X5_read l D cI cC x0 n0 n1 t0 t1 s0 s1 g0 g1 w0 w1 w2 m0 m1 m2 m3 m4 p0 p1 c ct cs r sg tr wi ol orr sf nb hs od z ln lf rg bd rl (by first | assumption | omega) (by first | assumption | omega) (by first | assumption | omega) (by first | assumption | omega) (by first | assumption | omega)) gL_law_X5_read rfl rfl rfl yd_X5_read ⟨Nat.le_of_ble_eq_true rfl, Nat.le_of_ble_eq_true rfl⟩ rfl 19 rfl (by decide) rfl rfl rfl (Nat.le_of_ble_eq_true rfl) ⟨Nat.le_of_ble_eq_true rfl, Nat.le_of_ble_eq_true rfl⟩ dL_law_467 ?_
  rintro _ _ ⟨c2_467, r2_467, od2_467, z2_467, lf2_467, rg2_467, bd2_467, tr2_467, rfl, rfl, f467_0, f467_1⟩
  refine g_eq (ws' := ((xW cI cC x0 n0 n1 t0 t1 s0 s1 g0 g1 w0 w1 w2 m0 m1 m2 m3 m4 p0 p1 (bI hs) c2_467 ct cs r2_467 (nI od2_467) (nI z2_467) sg (nI ln) tr2_467 (nI lf2_467) (nI rg2_467) (bI bd2_467) wi ol orr sf (nI rl) nb) ++ (rW cI cC q0 q1 q2 q3 q4 q5 q6 q7 q8 q9 q10 q11 th ss asd sts (nI z) snp (bI hs) tx (nI ln) can szs ptn nms pth att isw rdd rmy))) (st' := [.int (rdV c sg tr ln)]) rfl rfl ?_
  refine g_aload_n (pc := 470) C dL_law_470 3 rfl rfl ?_
  refine g_callR (pc := 471) (st := [.int (rdV c sg tr ln)]) (As := []) (nn := 0) (ci := 6) C (m_X6_read l D cI cC q0 q1 q2 q3 q4 q5 q6 q7 q8 q9 q10 q11 th ss asd sts snp (bI hs) tx can szs ptn nms pth att isw rdd rmy z ln c sg tr (by first | assumption | omega) (by first | assumption | omega) (by first | assumption | omega)) gL_law_X6_read rfl rfl rfl yd_X6_read ⟨Nat.le_of_ble_eq_true rfl, Nat.le_of_ble_eq_true rfl⟩ rfl 12 19 rfl rfl (by decide) rfl rfl rfl (Nat.le_of_ble_eq_true rfl) ⟨Nat.le_of_ble_eq_true rfl, Nat.le_of_ble_eq_true rfl⟩ dL_law_471 ?_
  rintro _ _ ⟨ss2_471, sts2_471, z2_471, w3_471, j3_471, m3_471, rdd3_471, rfl, rfl, f471_0⟩
  refine g_eq (ws' := ((xW cI cC x0 n0 n1 t0 t1 s0 s1 g0 g1 w0 w1 w2 m0 m1 m2 m3 m4 p0 p1 (bI hs) c2_467 ct cs r2_467 (nI od2_467) (nI z2_467) sg (nI ln) tr2_467 (nI lf2_467) (nI rg2_467) (bI bd2_467) wi ol orr sf (nI rl) nb) ++ (rW cI cC q0 q1 q2 q3 q4 q5 q6 q7 q8 q9 q10 q11 (nI 0) ss2_471 asd sts2_471 (nI z2_471) snp (bI hs) tx (nI ln) can szs ptn nms pth (nI j3_471) (bI w3_471) rdd3_471 (nI m3_471)))) (st' := [.int (rdV c sg tr ln), .int (rdV c sg tr ln)]) rfl rfl ?_
  refine g_icmp_eq (pc := 474) C 838 dL_law_474 (by decide) (fun _ => ?_) (fun cN => absurd rfl cN)
  obtain ⟨gS, gH, rfl, go, gz⟩ := ACT f467_0 f471_0 hS hH ho hz
  exact K _ (lINV_mk gS gH go gz hX hT hN hrl)

set_option maxHeartbeats 4000000 in
set_option maxRecDepth 100000 in
theorem lc_11 {p : Program} {l : Launch} {e : Env} {s : State} {m : MethodId} {args : Array Value} {below : List Frame} {meth : Method} {co : Code} {Q : State → Prop} {D : va_G} {A : Nat → Prop} {cI cC : ClassId} {x0 n0 n1 t0 t1 s0 s1 g0 g1 w0 w1 w2 m0 m1 m2 m3 m4 p0 p1 q0 q1 q2 q3 q4 q5 q6 q7 q8 q9 q10 q11 : Nat} {hs : Bool} {c ct cs r : Nat → Int32} {od z : Nat} {sg : Nat → Int32} {ln : Nat} {tr : Nat → Int32} {lf rg : Nat} {bd : Bool} {wi ol orr sf : Nat → Int32} {rl : Nat} {nb : Nat → Int32} {th : Int32} {ss asd sts snp tx can szs ptn nms pth : Nat → Int32} {att isw : Int32} {rdd : Nat → Int32} {rmy : Int32} {sb SL i : Nat} {xs : Nat → Int32} (C : g_C p s m args meth co cL_law 8 RL wsL_law D cI cC A) (S0 : lS s A sb SL xs) (hi : i + 4 ≤ SL) (hL : SL ≤ 2048) (hS : SR c ss) (hH : HR r sts od z) (ho : od < 5) (hz : z ≤ 5) (hX : HX sg tx ln) (hT : ∀ k, k < ln → sg k = nI (cN sg k)) (hN : hs = true → SR cs snp) (hrl : rl < 256) (K : ∀ w : va_W, lINV cI cC x0 n0 n1 t0 t1 s0 s1 g0 g1 w0 w1 w2 m0 m1 m2 m3 m4 p0 p1 q0 q1 q2 q3 q4 q5 q6 q7 q8 q9 q10 q11 w → g_J p l e room_1 s m args below meth co Q D A 8 31 5852 w 838 [(3, .int (nI i)), (0, .ref sb), (1, .ref x0), (2, .ref q0)] []) : g_J p l e room_1 s m args below meth co Q D A 8 31 5852 ((xW cI cC x0 n0 n1 t0 t1 s0 s1 g0 g1 w0 w1 w2 m0 m1 m2 m3 m4 p0 p1 (bI hs) c ct cs r (nI od) (nI z) sg (nI ln) tr (nI lf) (nI rg) (bI bd) wi ol orr sf (nI rl) nb) ++ (rW cI cC q0 q1 q2 q3 q4 q5 q6 q7 q8 q9 q10 q11 th ss asd sts (nI z) snp (bI hs) tx (nI ln) can szs ptn nms pth att isw rdd rmy)) 479 [(3, .int (nI i)), (0, .ref sb), (1, .ref x0), (2, .ref q0)] [] := by
  have hc : cOK c := hS.ok
  have hn : ln ≤ 80 := hX.1
  have ht : ∀ k, k < ln → sg k = nI (cN sg k) ∧ cN sg k < 128 := fun k hk => ⟨hT k hk, (hX.2 k hk).2⟩
  have hcs : hs = true → cOK cs := fun h => (hN h).ok
  refine g_aload_n (pc := 479) C dL_law_479 2 rfl rfl ?_
  refine g_callX (pc := 480) (st := []) (As := []) (nn := 0) (ci := 5) C (m_X5_undo l D cI cC x0 n0 n1 t0 t1 s0 s1 g0 g1 w0 w1 w2 m0 m1 m2 m3 m4 p0 p1 c ct cs r sg tr wi ol orr sf nb hs od z ln lf rg bd rl (by first | assumption | omega) (by first | assumption | omega)) gL_law_X5_undo rfl rfl rfl yd_X5_undo ⟨Nat.le_of_ble_eq_true rfl, Nat.le_of_ble_eq_true rfl⟩ rfl 19 rfl (by decide) rfl rfl rfl (Nat.le_of_ble_eq_true rfl) ⟨Nat.le_of_ble_eq_true rfl, Nat.le_of_ble_eq_true rfl⟩ dL_law_480 ?_
  rintro _ _ ⟨c2_480, z2_480, rfl, rfl, f480_0, f480_1⟩
  refine g_eq (ws' := ((xW cI cC x0 n0 n1 t0 t1 s0 s1 g0 g1 w0 w1 w2 m0 m1 m2 m3 m4 p0 p1 (bI hs) c2_480 ct cs r (nI od) (nI z2_480) sg (nI ln) tr (nI lf) (nI rg) (bI bd) wi ol orr sf (nI rl) nb) ++ (rW cI cC q0 q1 q2 q3 q4 q5 q6 q7 q8 q9 q10 q11 th ss asd sts (nI z) snp (bI hs) tx (nI ln) can szs ptn nms pth att isw rdd rmy))) (st' := [.int (if z = 0 then -5 else nI (z - 1))]) rfl rfl ?_
  refine g_aload_n (pc := 483) C dL_law_483 3 rfl rfl ?_
  refine g_callR (pc := 484) (st := [.int (if z = 0 then -5 else nI (z - 1))]) (As := []) (nn := 0) (ci := 6) C (m_X6_undo l D cI cC q0 q1 q2 q3 q4 q5 q6 q7 q8 q9 q10 q11 th ss asd sts snp (bI hs) tx (nI ln) can szs ptn nms pth att isw rdd rmy z (by first | assumption | omega)) gL_law_X6_undo rfl rfl rfl yd_X6_undo ⟨Nat.le_of_ble_eq_true rfl, Nat.le_of_ble_eq_true rfl⟩ rfl 12 19 rfl rfl (by decide) rfl rfl rfl (Nat.le_of_ble_eq_true rfl) ⟨Nat.le_of_ble_eq_true rfl, Nat.le_of_ble_eq_true rfl⟩ dL_law_484 ?_
  rintro _ _ ⟨ss2_484, z2_484, rfl, rfl, f484_0, f484_1⟩
  refine g_eq (ws' := ((xW cI cC x0 n0 n1 t0 t1 s0 s1 g0 g1 w0 w1 w2 m0 m1 m2 m3 m4 p0 p1 (bI hs) c2_480 ct cs r (nI od) (nI z2_480) sg (nI ln) tr (nI lf) (nI rg) (bI bd) wi ol orr sf (nI rl) nb) ++ (rW cI cC q0 q1 q2 q3 q4 q5 q6 q7 q8 q9 q10 q11 (nI 0) ss2_484 asd sts (nI z2_484) snp (bI hs) tx (nI ln) can szs ptn nms pth att isw rdd rmy))) (st' := [.int (if z = 0 then -5 else nI (z - 1)), .int (if z = 0 then -5 else nI (z - 1))]) rfl rfl ?_
  refine g_icmp_eq (pc := 487) C 838 dL_law_487 (by decide) (fun _ => ?_) (fun cN => absurd rfl cN)
  obtain ⟨gS, gH, rfl, gz⟩ := UNB hS hH hz f480_0 f480_1 f484_0 f484_1
  exact K _ (lINV_mk gS gH ho gz hX hT hN hrl)
