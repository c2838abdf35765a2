
def pINV (cI cC : ClassId) (x0 n0 n1 t0 t1 s0 s1 g0 g1 w0 w1 w2 m0 m1 m2 m3 m4 p0 p1 : Nat) (w : va_W) : Prop := ∃ (hs : Bool) (c : Nat → Int32) (ct : Nat → Int32) (cs : Nat → Int32) (r : Nat → Int32) (od : Nat) (z : Nat) (sg : Nat → Int32) (ln : Nat) (tr : Nat → Int32) (lf : Nat) (rg : Nat) (bd : Bool) (wi : Nat → Int32) (ol : Nat → Int32) (orr : Nat → Int32) (sf : Nat → Int32) (rl : Nat) (nb : Nat → Int32), w = xW cI cC x0 n0 n1 t0 t1 s0 s1 g0 g1 w0 w1 w2 m0 m1 m2 m3 m4 p0 p1 (bI hs) c ct cs r (nI od) (nI z) sg (nI ln) tr (nI lf) (nI rg) (bI bd) wi ol orr sf (nI rl) nb ∧ cOK c ∧ fOK c ∧ (hs = true → cOK cs ∧ fOK cs) ∧ od < 5 ∧ z ≤ 5 ∧ rl < 256
theorem pINV_mk {cI cC : ClassId} {x0 n0 n1 t0 t1 s0 s1 g0 g1 w0 w1 w2 m0 m1 m2 m3 m4 p0 p1 : Nat} {hs : Bool} {c : Nat → Int32} {ct : Nat → Int32} {cs : Nat → Int32} {r : Nat → Int32} {od : Nat} {z : Nat} {sg : Nat → Int32} {ln : Nat} {tr : Nat → Int32} {lf : Nat} {rg : Nat} {bd : Bool} {wi : Nat → Int32} {ol : Nat → Int32} {orr : Nat → Int32} {sf : Nat → Int32} {rl : Nat} {nb : Nat → Int32} (hc : cOK c) (hf : fOK c) (hcs : hs = true → cOK cs ∧ fOK cs) (ho : od < 5) (hz : z ≤ 5) (hrl : rl < 256) : pINV cI cC x0 n0 n1 t0 t1 s0 s1 g0 g1 w0 w1 w2 m0 m1 m2 m3 m4 p0 p1 (xW cI cC x0 n0 n1 t0 t1 s0 s1 g0 g1 w0 w1 w2 m0 m1 m2 m3 m4 p0 p1 (bI hs) c ct cs r (nI od) (nI z) sg (nI ln) tr (nI lf) (nI rg) (bI bd) wi ol orr sf (nI rl) nb) := ⟨_, _, _, _, _, _, _, _, _, _, _, _, _, _, _, _, _, _, _, rfl, hc, hf, hcs, ho, hz, hrl⟩
theorem XA_inv {t : Int32 × Bool × (Nat → Int32)} {c r c2 r2 : Nat → Int32} {od z od2 z2 : Nat} (hT : tOK t) (hc : cOK c) (hf : fOK c) (ho : od < 5) (hz : z ≤ 5) (hX : XA t.2.1 c t.2.2 r od z c2 r2 od2 z2) : cOK c2 ∧ fOK c2 ∧ od2 < 5 ∧ z2 ≤ 5 := by
  cases h : t.2.1 with
  | true =>
    rw [h] at hX
    obtain ⟨e1, e2, e3, -⟩ := hX.1 rfl
    obtain ⟨-, h1, h2⟩ := hT.1 h
    rw [e1, e2, e3]
    exact ⟨h1, h2, kpO_lt ho, kpS_le hz⟩
  | false =>
    rw [h] at hX
    obtain ⟨e1, -, e2, e3⟩ := hX.2 rfl
    rw [e1, e2, e3]
    exact ⟨hc, hf, ho, hz⟩
theorem XA_neg {t : Int32 × Bool × (Nat → Int32)} {c r c2 r2 : Nat → Int32} {od z od2 z2 : Nat} (hT : tOK t) (hX : XA t.2.1 c t.2.2 r od z c2 r2 od2 z2) (hn : t.1 < 0) : c2 = c ∧ z2 = z := by
  cases h : t.2.1 with
  | true =>
    obtain ⟨⟨n, h1, h2⟩, -⟩ := hT.1 h
    rw [h2] at hn
    exact absurd hn (nI_pos h1)
  | false =>
    rw [h] at hX
    obtain ⟨e1, -, -, e3⟩ := hX.2 rfl
    exact ⟨e1, e3⟩
theorem XA_pos {t : Int32 × Bool × (Nat → Int32)} {c r c2 r2 : Nat → Int32} {od z od2 z2 : Nat} (hT : tOK t) (hX : XA t.2.1 c t.2.2 r od z c2 r2 od2 z2) (hn : ¬ t.1 < 0) : c2 = t.2.2 ∧ od2 = kpO od z ∧ z2 = kpS z ∧ r2 = va_cpy c r 0 ((kpO od z + (kpS z - 1)) % 5 * 154) 154 := by
  cases h : t.2.1 with
  | true =>
    rw [h] at hX
    exact hX.1 rfl
  | false => exact absurd (hT.2 h) hn
theorem XA_und {c c2 r r2 : Nat → Int32} {od z od2 z2 : Nat} (e2 : od2 = kpO od z) (e3 : z2 = kpS z) (e4 : r2 = va_cpy c r 0 ((kpO od z + (kpS z - 1)) % 5 * 154) 154) : ∀ k, k < 154 → va_cpy r2 c2 ((od2 + (z2 - 1)) % 5 * 154) 0 154 k = c k := by
  subst e2; subst e3; subst e4
  exact und_same c r c2 _
set_option maxHeartbeats 8000000 in
set_option maxRecDepth 100000 in
theorem ls_c {p : Program} {l : Launch} {e : Env} {s : State} {m : MethodId} {args : Array Value} {below : List Frame} {meth : Method} {co : Code} {Q : State → Prop} {D : va_G} {A : Nat → Prop} {cI cC : ClassId} {x0 n0 n1 t0 t1 s0 s1 g0 g1 w0 w1 w2 m0 m1 m2 m3 m4 p0 p1 : Nat} {hs : Bool} {c : Nat → Int32} {ct : Nat → Int32} {cs : Nat → Int32} {r : Nat → Int32} {od : Nat} {z : Nat} {sg : Nat → Int32} {ln : Nat} {tr : Nat → Int32} {lf : Nat} {rg : Nat} {bd : Bool} {wi : Nat → Int32} {ol : Nat → Int32} {orr : Nat → Int32} {sf : Nat → Int32} {rl : Nat} {nb : Nat → Int32} {sb i : Nat} {y4 : Int32} (C : g_C p s m args meth co cL_law 12 RL wsL_law D cI cC A) (hi : i < 34) (hc : cOK c) (hf : fOK c) (hcs : hs = true → cOK cs ∧ fOK cs) (ho : od < 5) (hz : z ≤ 5) (hrl : rl < 256) (K : ∀ w : va_W, pINV cI cC x0 n0 n1 t0 t1 s0 s1 g0 g1 w0 w1 w2 m0 m1 m2 m3 m4 p0 p1 w → g_J p l e room_1 s m args below meth co Q D A 12 19 1442 w 282 [(2, .int (nI i)), (0, .ref sb), (1, .ref x0)] []) : g_J p l e room_1 s m args below meth co Q D A 12 19 1442 (xW cI cC x0 n0 n1 t0 t1 s0 s1 g0 g1 w0 w1 w2 m0 m1 m2 m3 m4 p0 p1 (bI hs) c ct cs r (nI od) (nI z) sg (nI ln) tr (nI lf) (nI rg) (bI bd) wi ol orr sf (nI rl) nb) 241 [(2, .int (nI i)), (4, .int y4), (0, .ref sb), (1, .ref x0)] [] := by
  refine g_iload_n (pc := 241) C dL_law_241 0 rfl rfl ?_
  refine g_iconst (pc := 242) (v := nI 3) C dL_law_242 (by decide) ?_
  refine g_iremN (pc := 243) C dL_law_243 (by omega) (by omega) (by omega) ?_
  refine g_iconst (pc := 244) (v := nI 2) C dL_law_244 (by decide) ?_
  refine g_icmp_neN (pc := 245) C 282 (by omega) (by omega) dL_law_245 (by decide) (fun c245 => ?_) (fun c245 => ?_)
  · refine g_lvp (lv' := [(2, .int (nI i)), (0, .ref sb), (1, .ref x0)]) [0, 2, 3] rfl ?_
    exact K _ (pINV_mk hc hf hcs ho hz hrl)
  · refine g_aload_n (pc := 248) C dL_law_248 3 rfl rfl ?_
    refine g_callSW (pc := 249) (st := []) (As := [.ref x0]) (nn := 1) C (m_L_holds l D cI cC x0 n0 n1 t0 t1 s0 s1 g0 g1 w0 w1 w2 m0 m1 m2 m3 m4 p0 p1 c ct cs r sg tr wi ol orr sf nb hs od z ln lf rg bd rl (by first | assumption | omega) (by first | assumption | omega) (by first | assumption | omega)) gL_law_L_holds rfl rfl rfl yd_L_holds.2 ⟨Nat.le_of_ble_eq_true rfl, Nat.le_of_ble_eq_true rfl⟩ rfl 19 rfl (by decide) rfl (Nat.le_of_ble_eq_true rfl) ⟨Nat.le_of_ble_eq_true rfl, Nat.le_of_ble_eq_true rfl⟩ dL_law_249 ?_
    rintro _ _ ⟨wi2h, ol2h, orr2h, sf2h, rl2h, rfl, rfl, h9⟩
    refine g_eq (ws' := (xW cI cC x0 n0 n1 t0 t1 s0 s1 g0 g1 w0 w1 w2 m0 m1 m2 m3 m4 p0 p1 (bI hs) c ct cs r (nI od) (nI z) sg (nI ln) tr (nI lf) (nI rg) (bI bd) wi2h ol2h orr2h sf2h (nI rl2h) nb)) (st' := [.int (bI true)]) rfl rfl ?_
    refine g_if_eqB (pc := 252) C 280 dL_law_252 (by decide) (fun c252 => ?_) (fun c252 => ?_)
    · exact absurd c252 (by decide)
    · refine g_aload_n (pc := 255) C dL_law_255 3 rfl rfl ?_
      refine g_iload (pc := 256) C dL_law_256 1 rfl ?_
      refine g_iconst (pc := 258) (v := nI 2) C dL_law_258 (by decide) ?_
      refine g_ishr (pc := 259) C dL_law_259 ?_
      refine g_bipush (pc := 260) (v := nI 8) C dL_law_260 (by decide) ?_
      refine g_callS (pc := 262) (st := [.ref x0]) (As := [.int (y4 >>> ((nI 2) &&& 31)), .int (nI 8)]) (nn := 2) C (m_L_low l D cI cC (y4 >>> ((nI 2) &&& 31)) 8 (by decide) (by decide)) gL_law_L_low rfl rfl rfl yd_L_low.2 ⟨Nat.le_of_ble_eq_true rfl, Nat.le_of_ble_eq_true rfl⟩ rfl [] rfl rfl rfl (Nat.le_of_ble_eq_true rfl) ⟨Nat.le_of_ble_eq_true rfl, Nat.le_of_ble_eq_true rfl⟩ dL_law_262 ?_
      rintro _ _ ⟨rfl, rfl⟩
      refine g_eq (ws' := (xW cI cC x0 n0 n1 t0 t1 s0 s1 g0 g1 w0 w1 w2 m0 m1 m2 m3 m4 p0 p1 (bI hs) c ct cs r (nI od) (nI z) sg (nI ln) tr (nI lf) (nI rg) (bI bd) wi2h ol2h orr2h sf2h (nI rl2h) nb)) (st' := [.int (nI (lowN (y4 >>> ((nI 2) &&& 31)) 8)), .ref x0]) rfl rfl ?_
      refine g_iload (pc := 265) C dL_law_265 1 rfl ?_
      refine g_iconst (pc := 267) (v := nI 5) C dL_law_267 (by decide) ?_
      refine g_ishr (pc := 268) C dL_law_268 ?_
      refine g_bipush (pc := 269) (v := nI 8) C dL_law_269 (by decide) ?_
      refine g_callS (pc := 271) (st := [.int (nI (lowN (y4 >>> ((nI 2) &&& 31)) 8)), .ref x0]) (As := [.int (y4 >>> ((nI 5) &&& 31)), .int (nI 8)]) (nn := 2) C (m_L_low l D cI cC (y4 >>> ((nI 5) &&& 31)) 8 (by decide) (by decide)) gL_law_L_low rfl rfl rfl yd_L_low.2 ⟨Nat.le_of_ble_eq_true rfl, Nat.le_of_ble_eq_true rfl⟩ rfl [] rfl rfl rfl (Nat.le_of_ble_eq_true rfl) ⟨Nat.le_of_ble_eq_true rfl, Nat.le_of_ble_eq_true rfl⟩ dL_law_271 ?_
      rintro _ _ ⟨rfl, rfl⟩
      refine g_eq (ws' := (xW cI cC x0 n0 n1 t0 t1 s0 s1 g0 g1 w0 w1 w2 m0 m1 m2 m3 m4 p0 p1 (bI hs) c ct cs r (nI od) (nI z) sg (nI ln) tr (nI lf) (nI rg) (bI bd) wi2h ol2h orr2h sf2h (nI rl2h) nb)) (st' := [.int (nI (lowN (y4 >>> ((nI 5) &&& 31)) 8)), .int (nI (lowN (y4 >>> ((nI 2) &&& 31)) 8)), .ref x0]) rfl rfl ?_
      refine g_callSW (pc := 274) (st := []) (As := [.ref x0, .int (nI (lowN (y4 >>> ((nI 2) &&& 31)) 8)), .int (nI (lowN (y4 >>> ((nI 5) &&& 31)) 8))]) (nn := 3) C (m_L_isRound l D cI cC x0 n0 n1 t0 t1 s0 s1 g0 g1 w0 w1 w2 m0 m1 m2 m3 m4 p0 p1 c ct cs r sg tr wi2h ol2h orr2h sf2h nb hs od z ln lf rg bd rl2h (lowN (y4 >>> ((nI 2) &&& 31)) 8) (lowN (y4 >>> ((nI 5) &&& 31)) 8) (by first | assumption | omega) (by first | assumption | omega) (by first | assumption | omega) (by first | assumption | omega) (by first | assumption | omega) (low_lt (by decide)) (low_lt (by decide))) gL_law_L_isRound rfl rfl rfl yd_L_isRound.2 ⟨Nat.le_of_ble_eq_true rfl, Nat.le_of_ble_eq_true rfl⟩ rfl 19 rfl (by decide) rfl (Nat.le_of_ble_eq_true rfl) ⟨Nat.le_of_ble_eq_true rfl, Nat.le_of_ble_eq_true rfl⟩ dL_law_274 ?_
      rintro _ _ ⟨r2q, od2q, z2q, wi2q, ol2q, orr2q, sf2q, rl2q, rfl, rfl, q1, q2, q3⟩
      refine g_eq (ws' := (xW cI cC x0 n0 n1 t0 t1 s0 s1 g0 g1 w0 w1 w2 m0 m1 m2 m3 m4 p0 p1 (bI hs) c ct cs r2q (nI od2q) (nI z2q) sg (nI ln) tr (nI lf) (nI rg) (bI bd) wi2q ol2q orr2q sf2q (nI rl2q) nb)) (st' := [.int (bI true)]) rfl rfl ?_
      refine g_if_neB (pc := 277) C 282 dL_law_277 (by decide) (fun c277 => ?_) (fun c277 => ?_)
      · refine g_lvp (lv' := [(2, .int (nI i)), (0, .ref sb), (1, .ref x0)]) [0, 2, 3] rfl ?_
        exact K _ (pINV_mk hc hf hcs q1 q2 q3)
      · exact absurd c277 (by decide)
set_option maxHeartbeats 8000000 in
set_option maxRecDepth 100000 in
theorem ls_b {p : Program} {l : Launch} {e : Env} {s : State} {m : MethodId} {args : Array Value} {below : List Frame} {meth : Method} {co : Code} {Q : State → Prop} {D : va_G} {A : Nat → Prop} {cI cC : ClassId} {x0 n0 n1 t0 t1 s0 s1 g0 g1 w0 w1 w2 m0 m1 m2 m3 m4 p0 p1 : Nat} {hs : Bool} {c : Nat → Int32} {ct : Nat → Int32} {cs : Nat → Int32} {r : Nat → Int32} {od : Nat} {z : Nat} {sg : Nat → Int32} {ln : Nat} {tr : Nat → Int32} {lf : Nat} {rg : Nat} {bd : Bool} {wi : Nat → Int32} {ol : Nat → Int32} {orr : Nat → Int32} {sf : Nat → Int32} {rl : Nat} {nb : Nat → Int32} {sb i : Nat} {c2 r2 : Nat → Int32} {od2 z2 : Nat} {v y4 : Int32} (C : g_C p s m args meth co cL_law 12 RL wsL_law D cI cC A) (hc : cOK c) (hf : fOK c) (hcs : hs = true → cOK cs ∧ fOK cs) (ho : od < 5) (hz : z ≤ 5) (hrl : rl < 256) (hX : XA (AT hs c cs v y4).2.1 c (AT hs c cs v y4).2.2 r od z c2 r2 od2 z2) (K : ∀ w : va_W, pINV cI cC x0 n0 n1 t0 t1 s0 s1 g0 g1 w0 w1 w2 m0 m1 m2 m3 m4 p0 p1 w → g_J p l e room_1 s m args below meth co Q D A 12 19 1442 w 241 [(2, .int (nI i)), (4, .int y4), (0, .ref sb), (1, .ref x0)] []) : g_J p l e room_1 s m args below meth co Q D A 12 19 1442 (xW cI cC x0 n0 n1 t0 t1 s0 s1 g0 g1 w0 w1 w2 m0 m1 m2 m3 m4 p0 p1 (bI hs) c2 ct cs r2 (nI od2) (nI z2) sg (nI ln) tr (nI lf) (nI rg) (bI bd) wi ol orr sf (nI rl) nb) 174 [(2, .int (nI i)), (3, .int v), (4, .int y4), (5, .long (TD c)), (8, .int ((AT hs c cs v y4).1)), (9, .long (TD c2)), (0, .ref sb), (1, .ref x0)] [] := by
  have hT := AT_ok hc hf hcs v y4
  obtain ⟨b1, b2, b3, b4⟩ := XA_inv hT hc hf ho hz hX
  have hcs1 : hs = true → cOK cs := fun h => (hcs h).1
  refine g_iload (pc := 174) C dL_law_174 4 rfl ?_
  refine g_if_lt (pc := 176) C 241 dL_law_176 (by decide) (fun c176 => ?_) (fun c176 => ?_)
  · refine g_lvp (lv' := [(2, .int (nI i)), (4, .int y4), (0, .ref sb), (1, .ref x0)]) [0, 2, 6, 7] rfl ?_
    exact K _ (pINV_mk b1 b2 hcs b3 b4 hrl)
  · obtain ⟨e1, e2, e3, e4⟩ := XA_pos hT hX c176
    have hz0 : 1 ≤ z2 := by have := kp_5 (z := z); omega
    refine g_iload_n (pc := 179) C dL_law_179 1 rfl rfl ?_
    refine g_bipush (pc := 180) (v := nI 10) C dL_law_180 (by decide) ?_
    refine g_ishr (pc := 182) C dL_law_182 ?_
    refine g_iconst (pc := 183) (v := nI 1) C dL_law_183 (by decide) ?_
    refine g_iand (pc := 184) C dL_law_184 ?_
    refine g_if_ne (pc := 185) C 241 dL_law_185 (by decide) (fun c185 => ?_) (fun c185 => ?_)
    · refine g_lvp (lv' := [(2, .int (nI i)), (4, .int y4), (0, .ref sb), (1, .ref x0)]) [0, 2, 6, 7] rfl ?_
      exact K _ (pINV_mk b1 b2 hcs b3 b4 hrl)
    · refine g_aload_n (pc := 188) C dL_law_188 7 rfl rfl ?_
      refine g_bipush (pc := 189) (v := nI 8) C dL_law_189 (by decide) ?_
      refine g_callVW (pc := 191) (st := []) (As := [.int (nI 8)]) (nn := 1) (ci := 5) C (m_X5_count l D cI cC x0 n0 n1 t0 t1 s0 s1 g0 g1 w0 w1 w2 m0 m1 m2 m3 m4 p0 p1 c2 ct cs r2 sg tr wi ol orr sf nb hs od2 z2 ln lf rg bd rl (nI 8) (by first | assumption | omega) (by first | assumption | omega)) gL_law_X5_count rfl rfl rfl yd_X5_count ⟨Nat.le_of_ble_eq_true rfl, Nat.le_of_ble_eq_true rfl⟩ rfl 19 rfl (by decide) rfl rfl rfl (Nat.le_of_ble_eq_true rfl) ⟨Nat.le_of_ble_eq_true rfl, Nat.le_of_ble_eq_true rfl⟩ dL_law_191 ?_
      rintro _ _ ⟨wi2a, ol2a, orr2a, sf2a, rl2a, rfl, rfl, h1⟩
      refine g_eq (ws' := (xW cI cC x0 n0 n1 t0 t1 s0 s1 g0 g1 w0 w1 w2 m0 m1 m2 m3 m4 p0 p1 (bI hs) c2 ct cs r2 (nI od2) (nI z2) sg (nI ln) tr (nI lf) (nI rg) (bI bd) wi2a ol2a orr2a sf2a (nI rl2a) nb)) (st' := [.int (coV c2 z2 ln (nI 8))]) rfl rfl ?_
      refine g_top (y := nI z2) (co_8 c2 z2 ln) ?_
      refine g_iconst (pc := 194) (v := nI 1) C dL_law_194 (by decide) ?_
      refine g_isubN (pc := 195) C dL_law_195 (by omega) ?_
      refine g_istore (pc := 196) (lv' := [(11, .int (nI (z2 - 1))), (2, .int (nI i)), (3, .int v), (4, .int y4), (5, .long (TD c)), (8, .int ((AT hs c cs v y4).1)), (9, .long (TD c2)), (0, .ref sb), (1, .ref x0)]) C dL_law_196 (by decide) rfl ?_
      refine g_aload_n (pc := 198) C dL_law_198 8 rfl rfl ?_
      refine g_callVW (pc := 199) (st := []) (As := []) (nn := 0) (ci := 5) C (m_X5_undo l D cI cC x0 n0 n1 t0 t1 s0 s1 g0 g1 w0 w1 w2 m0 m1 m2 m3 m4 p0 p1 c2 ct cs r2 sg tr wi2a ol2a orr2a sf2a nb hs od2 z2 ln lf rg bd rl2a (by first | assumption | omega) (by first | assumption | omega)) gL_law_X5_undo rfl rfl rfl yd_X5_undo ⟨Nat.le_of_ble_eq_true rfl, Nat.le_of_ble_eq_true rfl⟩ rfl 19 rfl (by decide) rfl rfl rfl (Nat.le_of_ble_eq_true rfl) ⟨Nat.le_of_ble_eq_true rfl, Nat.le_of_ble_eq_true rfl⟩ dL_law_199 ?_
      rintro _ _ ⟨cu, zu, rfl, rfl, u0, u1⟩
      refine g_eq (ws' := (xW cI cC x0 n0 n1 t0 t1 s0 s1 g0 g1 w0 w1 w2 m0 m1 m2 m3 m4 p0 p1 (bI hs) cu ct cs r2 (nI od2) (nI zu) sg (nI ln) tr (nI lf) (nI rg) (bI bd) wi2a ol2a orr2a sf2a (nI rl2a) nb)) (st' := [.int (if z2 = 0 then -5 else nI (z2 - 1))]) rfl rfl ?_
      obtain ⟨e5, e6⟩ := u1 (by omega)
      refine g_top (y := nI (z2 - 1)) (if_neg (by omega)) ?_
      refine g_same 2 (g := c) (ws' := (xW cI cC x0 n0 n1 t0 t1 s0 s1 g0 g1 w0 w1 w2 m0 m1 m2 m3 m4 p0 p1 (bI hs) c ct cs r2 (nI od2) (nI zu) sg (nI ln) tr (nI lf) (nI rg) (bI bd) wi2a ol2a orr2a sf2a (nI rl2a) nb)) rfl (by intro k hk; rw [e5]; exact XA_und e2 e3 e4 k hk) rfl ?_
      refine g_ws (ws' := (xW cI cC x0 n0 n1 t0 t1 s0 s1 g0 g1 w0 w1 w2 m0 m1 m2 m3 m4 p0 p1 (bI hs) c ct cs r2 (nI od2) (nI (z2 - 1)) sg (nI ln) tr (nI lf) (nI rg) (bI bd) wi2a ol2a orr2a sf2a (nI rl2a) nb)) (by rw [e6]) ?_
      refine g_iload (pc := 202) C dL_law_202 0 rfl ?_
      refine g_icmp_neN (pc := 204) C 239 (by omega) (by omega) dL_law_204 (by decide) (fun c204 => ?_) (fun c204 => ?_)
      · exact absurd rfl c204
      · refine g_aload_n (pc := 207) C dL_law_207 8 rfl rfl ?_
        refine g_callSW (pc := 208) (st := []) (As := [.ref x0]) (nn := 1) C (m_L_told l D cI cC x0 n0 n1 t0 t1 s0 s1 g0 g1 w0 w1 w2 m0 m1 m2 m3 m4 p0 p1 c ct cs r2 sg tr wi2a ol2a orr2a sf2a nb hs od2 (z2 - 1) ln lf rg bd rl2a (by first | assumption | omega) (by first | assumption | omega)) gL_law_L_told rfl rfl rfl yd_L_told.2 ⟨Nat.le_of_ble_eq_true rfl, Nat.le_of_ble_eq_true rfl⟩ rfl 19 rfl (by decide) rfl (Nat.le_of_ble_eq_true rfl) ⟨Nat.le_of_ble_eq_true rfl, Nat.le_of_ble_eq_true rfl⟩ dL_law_208 ?_
        rintro _ _ ⟨wi2b, ol2b, orr2b, sf2b, rl2b, rfl, rfl, h2⟩
        refine g_eq (ws' := (xW cI cC x0 n0 n1 t0 t1 s0 s1 g0 g1 w0 w1 w2 m0 m1 m2 m3 m4 p0 p1 (bI hs) c ct cs r2 (nI od2) (nI (z2 - 1)) sg (nI ln) tr (nI lf) (nI rg) (bI bd) wi2b ol2b orr2b sf2b (nI rl2b) nb)) (st' := [.long (TD c)]) rfl rfl ?_
        refine g_lload (pc := 211) C dL_law_211 4 rfl ?_
        refine g_lcmp0 (pc := 213) C dL_law_213 (rfl) ?_
        refine g_if_neN (pc := 214) C 239 (by omega) dL_law_214 (by decide) (fun c214 => ?_) (fun c214 => ?_)
        · exact absurd rfl c214
        · refine g_aload_n (pc := 217) C dL_law_217 8 rfl rfl ?_
          refine g_iload_n (pc := 218) C dL_law_218 2 rfl rfl ?_
          refine g_iload (pc := 219) C dL_law_219 3 rfl ?_
          refine g_callSW (pc := 221) (st := []) (As := [.ref x0, .int v, .int y4]) (nn := 3) C (m_L_act l D cI cC x0 n0 n1 t0 t1 s0 s1 g0 g1 w0 w1 w2 m0 m1 m2 m3 m4 p0 p1 c ct cs r2 sg tr wi2b ol2b orr2b sf2b nb hs od2 (z2 - 1) ln lf rg bd rl2b v y4 (by first | assumption | omega) (by first | assumption | omega) (by first | assumption | omega) (by first | assumption | omega) (by first | assumption | omega)) gL_law_L_act rfl rfl rfl yd_L_act.2 ⟨Nat.le_of_ble_eq_true rfl, Nat.le_of_ble_eq_true rfl⟩ rfl 19 rfl (by decide) rfl (Nat.le_of_ble_eq_true rfl) ⟨Nat.le_of_ble_eq_true rfl, Nat.le_of_ble_eq_true rfl⟩ dL_law_221 ?_
          rintro _ _ ⟨c2q, r2q, od2q, z2q, wi2q, ol2q, orr2q, sf2q, rl2q, rfl, rfl, fx, rq⟩
          refine g_eq (ws' := (xW cI cC x0 n0 n1 t0 t1 s0 s1 g0 g1 w0 w1 w2 m0 m1 m2 m3 m4 p0 p1 (bI hs) c2q ct cs r2q (nI od2q) (nI z2q) sg (nI ln) tr (nI lf) (nI rg) (bI bd) wi2q ol2q orr2q sf2q (nI rl2q) nb)) (st' := [.int ((AT hs c cs v y4).1)]) rfl rfl ?_
          obtain ⟨v1, v2, v3, v4⟩ := XA_inv hT hc hf b3 (by omega) fx
          obtain ⟨gg1, -, -, -⟩ := XA_pos hT fx c176
          refine g_iload (pc := 224) C dL_law_224 5 rfl ?_
          refine g_icmp_ne (pc := 226) C 239 dL_law_226 (by decide) (fun c226 => ?_) (fun c226 => ?_)
          · exact absurd rfl c226
          · refine g_aload_n (pc := 229) C dL_law_229 8 rfl rfl ?_
            refine g_callSW (pc := 230) (st := []) (As := [.ref x0]) (nn := 1) C (m_L_told l D cI cC x0 n0 n1 t0 t1 s0 s1 g0 g1 w0 w1 w2 m0 m1 m2 m3 m4 p0 p1 c2q ct cs r2q sg tr wi2q ol2q orr2q sf2q nb hs od2q z2q ln lf rg bd rl2q (by first | assumption | omega) (by first | assumption | omega)) gL_law_L_told rfl rfl rfl yd_L_told.2 ⟨Nat.le_of_ble_eq_true rfl, Nat.le_of_ble_eq_true rfl⟩ rfl 19 rfl (by decide) rfl (Nat.le_of_ble_eq_true rfl) ⟨Nat.le_of_ble_eq_true rfl, Nat.le_of_ble_eq_true rfl⟩ dL_law_230 ?_
            rintro _ _ ⟨wi2d, ol2d, orr2d, sf2d, rl2d, rfl, rfl, rq⟩
            refine g_eq (ws' := (xW cI cC x0 n0 n1 t0 t1 s0 s1 g0 g1 w0 w1 w2 m0 m1 m2 m3 m4 p0 p1 (bI hs) c2q ct cs r2q (nI od2q) (nI z2q) sg (nI ln) tr (nI lf) (nI rg) (bI bd) wi2d ol2d orr2d sf2d (nI rl2d) nb)) (st' := [.long (TD c2q)]) rfl rfl ?_
            refine g_lload (pc := 233) C dL_law_233 6 rfl ?_
            refine g_lcmp0 (pc := 235) C dL_law_235 (congrArg TD (gg1.trans e1.symm)) ?_
            refine g_if_eqN (pc := 236) C 241 (by omega) dL_law_236 (by decide) (fun c236 => ?_) (fun c236 => ?_)
            · refine g_lvp (lv' := [(2, .int (nI i)), (4, .int y4), (0, .ref sb), (1, .ref x0)]) [1, 3, 7, 8] rfl ?_
              exact K _ (pINV_mk v1 v2 hcs v3 v4 rq)
            · exact absurd rfl c236
set_option maxHeartbeats 8000000 in
set_option maxRecDepth 100000 in
theorem ls_a {p : Program} {l : Launch} {e : Env} {s : State} {m : MethodId} {args : Array Value} {below : List Frame} {meth : Method} {co : Code} {Q : State → Prop} {D : va_G} {A : Nat → Prop} {cI cC : ClassId} {x0 n0 n1 t0 t1 s0 s1 g0 g1 w0 w1 w2 m0 m1 m2 m3 m4 p0 p1 : Nat} {hs : Bool} {c : Nat → Int32} {ct : Nat → Int32} {cs : Nat → Int32} {r : Nat → Int32} {od : Nat} {z : Nat} {sg : Nat → Int32} {ln : Nat} {tr : Nat → Int32} {lf : Nat} {rg : Nat} {bd : Bool} {wi : Nat → Int32} {ol : Nat → Int32} {orr : Nat → Int32} {sf : Nat → Int32} {rl : Nat} {nb : Nat → Int32} {sb SL i : Nat} {xs : Nat → Int32} {v : Int32} (C : g_C p s m args meth co cL_law 12 RL wsL_law D cI cC A) (S0 : lS s A sb SL xs) (hL : SL ≤ 260) (hi : i < 34) (hc : cOK c) (hf : fOK c) (hcs : hs = true → cOK cs ∧ fOK cs) (ho : od < 5) (hz : z ≤ 5) (hrl : rl < 256) (K : ∀ (y4 : Int32) (c2 r2 : Nat → Int32) (od2 z2 : Nat) (wi2 ol2 orr2 sf2 : Nat → Int32) (rl2 : Nat), XA (AT hs c cs v y4).2.1 c (AT hs c cs v y4).2.2 r od z c2 r2 od2 z2 → rl2 < 256 → g_J p l e room_1 s m args below meth co Q D A 12 19 1442 (xW cI cC x0 n0 n1 t0 t1 s0 s1 g0 g1 w0 w1 w2 m0 m1 m2 m3 m4 p0 p1 (bI hs) c2 ct cs r2 (nI od2) (nI z2) sg (nI ln) tr (nI lf) (nI rg) (bI bd) wi2 ol2 orr2 sf2 (nI rl2) nb) 174 [(2, .int (nI i)), (3, .int v), (4, .int y4), (5, .long (TD c)), (8, .int ((AT hs c cs v y4).1)), (9, .long (TD c2)), (0, .ref sb), (1, .ref x0)] []) : g_J p l e room_1 s m args below meth co Q D A 12 19 1442 (xW cI cC x0 n0 n1 t0 t1 s0 s1 g0 g1 w0 w1 w2 m0 m1 m2 m3 m4 p0 p1 (bI hs) c ct cs r (nI od) (nI z) sg (nI ln) tr (nI lf) (nI rg) (bI bd) wi ol orr sf (nI rl) nb) 81 [(2, .int (nI i)), (0, .ref sb), (1, .ref x0)] [.int v] := by
  have hcs1 : hs = true → cOK cs := fun h => (hcs h).1
  refine g_istore_n (pc := 81) (lv' := [(3, .int v), (2, .int (nI i)), (0, .ref sb), (1, .ref x0)]) C dL_law_81 rfl (by decide) rfl ?_
  refine g_aload_n (pc := 82) C dL_law_82 2 rfl rfl ?_
  refine g_iconst (pc := 83) (v := nI 2) C dL_law_83 (by decide) ?_
  refine g_iload_n (pc := 84) C dL_law_84 1 rfl rfl ?_
  refine g_imulN (pc := 85) C dL_law_85 ?_
  refine g_iconst (pc := 86) (v := nI 1) C dL_law_86 (by decide) ?_
  refine g_iaddN (pc := 87) C dL_law_87 ?_
  refine g_callSX (pc := 88) (st := []) (As := [.ref sb, .int (nI ((2 * i) + 1))]) (nn := 2) C S0 (m_L_cell l D cI cC sb SL xs ((2 * i) + 1) (by omega) (by omega)) gL_law_L_cell rfl rfl rfl yd_L_cell.2 ⟨Nat.le_of_ble_eq_true rfl, Nat.le_of_ble_eq_true rfl⟩ rfl rfl (Nat.le_of_ble_eq_true rfl) ⟨Nat.le_of_ble_eq_true rfl, Nat.le_of_ble_eq_true rfl⟩ dL_law_88 ?_
  rintro _ _ ⟨_, x88, rfl⟩
  refine g_eq (ws' := (xW cI cC x0 n0 n1 t0 t1 s0 s1 g0 g1 w0 w1 w2 m0 m1 m2 m3 m4 p0 p1 (bI hs) c ct cs r (nI od) (nI z) sg (nI ln) tr (nI lf) (nI rg) (bI bd) wi ol orr sf (nI rl) nb)) (st' := [.int x88]) rfl rfl ?_
  refine g_istore (pc := 91) (lv' := [(4, .int x88), (3, .int v), (2, .int (nI i)), (0, .ref sb), (1, .ref x0)]) C dL_law_91 (by decide) rfl ?_
  refine g_aload_n (pc := 93) C dL_law_93 4 rfl rfl ?_
  refine g_callSW (pc := 94) (st := []) (As := [.ref x0]) (nn := 1) C (m_L_told l D cI cC x0 n0 n1 t0 t1 s0 s1 g0 g1 w0 w1 w2 m0 m1 m2 m3 m4 p0 p1 c ct cs r sg tr wi ol orr sf nb hs od z ln lf rg bd rl (by first | assumption | omega) (by first | assumption | omega)) gL_law_L_told rfl rfl rfl yd_L_told.2 ⟨Nat.le_of_ble_eq_true rfl, Nat.le_of_ble_eq_true rfl⟩ rfl 19 rfl (by decide) rfl (Nat.le_of_ble_eq_true rfl) ⟨Nat.le_of_ble_eq_true rfl, Nat.le_of_ble_eq_true rfl⟩ dL_law_94 ?_
  rintro _ _ ⟨wi2a, ol2a, orr2a, sf2a, rl2a, rfl, rfl, h1⟩
  refine g_eq (ws' := (xW cI cC x0 n0 n1 t0 t1 s0 s1 g0 g1 w0 w1 w2 m0 m1 m2 m3 m4 p0 p1 (bI hs) c ct cs r (nI od) (nI z) sg (nI ln) tr (nI lf) (nI rg) (bI bd) wi2a ol2a orr2a sf2a (nI rl2a) nb)) (st' := [.long (TD c)]) rfl rfl ?_
  refine g_lstore (pc := 97) (lv' := [(5, .long (TD c)), (4, .int x88), (3, .int v), (2, .int (nI i)), (0, .ref sb), (1, .ref x0)]) C dL_law_97 (by decide) rfl ?_
  refine g_aload_n (pc := 99) C dL_law_99 5 rfl rfl ?_
  refine g_bipush (pc := 100) (v := nI 8) C dL_law_100 (by decide) ?_
  refine g_callVW (pc := 102) (st := []) (As := [.int (nI 8)]) (nn := 1) (ci := 5) C (m_X5_count l D cI cC x0 n0 n1 t0 t1 s0 s1 g0 g1 w0 w1 w2 m0 m1 m2 m3 m4 p0 p1 c ct cs r sg tr wi2a ol2a orr2a sf2a nb hs od z ln lf rg bd rl2a (nI 8) (by first | assumption | omega) (by first | assumption | omega)) gL_law_X5_count rfl rfl rfl yd_X5_count ⟨Nat.le_of_ble_eq_true rfl, Nat.le_of_ble_eq_true rfl⟩ rfl 19 rfl (by decide) rfl rfl rfl (Nat.le_of_ble_eq_true rfl) ⟨Nat.le_of_ble_eq_true rfl, Nat.le_of_ble_eq_true rfl⟩ dL_law_102 ?_
  rintro _ _ ⟨wi2b, ol2b, orr2b, sf2b, rl2b, rfl, rfl, h2⟩
  refine g_eq (ws' := (xW cI cC x0 n0 n1 t0 t1 s0 s1 g0 g1 w0 w1 w2 m0 m1 m2 m3 m4 p0 p1 (bI hs) c ct cs r (nI od) (nI z) sg (nI ln) tr (nI lf) (nI rg) (bI bd) wi2b ol2b orr2b sf2b (nI rl2b) nb)) (st' := [.int (coV c z ln (nI 8))]) rfl rfl ?_
  refine g_top (y := nI z) (co_8 c z ln) ?_
  refine g_istore (pc := 105) (lv' := [(7, .int (nI z)), (5, .long (TD c)), (4, .int x88), (3, .int v), (2, .int (nI i)), (0, .ref sb), (1, .ref x0)]) C dL_law_105 (by decide) rfl ?_
  refine g_aload_n (pc := 107) C dL_law_107 6 rfl rfl ?_
  refine g_iload_n (pc := 108) C dL_law_108 3 rfl rfl ?_
  refine g_iload (pc := 109) C dL_law_109 2 rfl ?_
  refine g_callSW (pc := 111) (st := []) (As := [.ref x0, .int v, .int x88]) (nn := 3) C (m_L_act l D cI cC x0 n0 n1 t0 t1 s0 s1 g0 g1 w0 w1 w2 m0 m1 m2 m3 m4 p0 p1 c ct cs r sg tr wi2b ol2b orr2b sf2b nb hs od z ln lf rg bd rl2b v x88 (by first | assumption | omega) (by first | assumption | omega) (by first | assumption | omega) (by first | assumption | omega) (by first | assumption | omega)) gL_law_L_act rfl rfl rfl yd_L_act.2 ⟨Nat.le_of_ble_eq_true rfl, Nat.le_of_ble_eq_true rfl⟩ rfl 19 rfl (by decide) rfl (Nat.le_of_ble_eq_true rfl) ⟨Nat.le_of_ble_eq_true rfl, Nat.le_of_ble_eq_true rfl⟩ dL_law_111 ?_
  rintro _ _ ⟨c2, r2, od2, z2, wi2c, ol2c, orr2c, sf2c, rl2c, rfl, rfl, hX, h3⟩
  refine g_eq (ws' := (xW cI cC x0 n0 n1 t0 t1 s0 s1 g0 g1 w0 w1 w2 m0 m1 m2 m3 m4 p0 p1 (bI hs) c2 ct cs r2 (nI od2) (nI z2) sg (nI ln) tr (nI lf) (nI rg) (bI bd) wi2c ol2c orr2c sf2c (nI rl2c) nb)) (st' := [.int ((AT hs c cs v x88).1)]) rfl rfl ?_
  have hT := AT_ok hc hf hcs v x88
  obtain ⟨b1, b2, b3, b4⟩ := XA_inv hT hc hf ho hz hX
  refine g_istore (pc := 114) (lv' := [(8, .int ((AT hs c cs v x88).1)), (7, .int (nI z)), (5, .long (TD c)), (4, .int x88), (3, .int v), (2, .int (nI i)), (0, .ref sb), (1, .ref x0)]) C dL_law_114 (by decide) rfl ?_
  refine g_aload_n (pc := 116) C dL_law_116 7 rfl rfl ?_
  refine g_callSW (pc := 117) (st := []) (As := [.ref x0]) (nn := 1) C (m_L_told l D cI cC x0 n0 n1 t0 t1 s0 s1 g0 g1 w0 w1 w2 m0 m1 m2 m3 m4 p0 p1 c2 ct cs r2 sg tr wi2c ol2c orr2c sf2c nb hs od2 z2 ln lf rg bd rl2c (by first | assumption | omega) (by first | assumption | omega)) gL_law_L_told rfl rfl rfl yd_L_told.2 ⟨Nat.le_of_ble_eq_true rfl, Nat.le_of_ble_eq_true rfl⟩ rfl 19 rfl (by decide) rfl (Nat.le_of_ble_eq_true rfl) ⟨Nat.le_of_ble_eq_true rfl, Nat.le_of_ble_eq_true rfl⟩ dL_law_117 ?_
  rintro _ _ ⟨wi2d, ol2d, orr2d, sf2d, rl2d, rfl, rfl, h4⟩
  refine g_eq (ws' := (xW cI cC x0 n0 n1 t0 t1 s0 s1 g0 g1 w0 w1 w2 m0 m1 m2 m3 m4 p0 p1 (bI hs) c2 ct cs r2 (nI od2) (nI z2) sg (nI ln) tr (nI lf) (nI rg) (bI bd) wi2d ol2d orr2d sf2d (nI rl2d) nb)) (st' := [.long (TD c2)]) rfl rfl ?_
  refine g_lstore (pc := 120) (lv' := [(9, .long (TD c2)), (8, .int ((AT hs c cs v x88).1)), (7, .int (nI z)), (5, .long (TD c)), (4, .int x88), (3, .int v), (2, .int (nI i)), (0, .ref sb), (1, .ref x0)]) C dL_law_120 (by decide) rfl ?_
  refine g_iload (pc := 122) C dL_law_122 1 rfl ?_
  refine g_if_ge (pc := 124) C 149 dL_law_124 (by decide) (fun c124 => ?_) (fun c124 => ?_)
  · obtain ⟨e1, -, e2, -⟩ := XA_pos hT hX (Int32.not_lt.mpr c124)
    rw [kp_cnt hz] at e2
    refine g_aload_n (pc := 149) C dL_law_149 8 rfl rfl ?_
    refine g_bipush (pc := 150) (v := nI 8) C dL_law_150 (by decide) ?_
    refine g_callVW (pc := 152) (st := []) (As := [.int (nI 8)]) (nn := 1) (ci := 5) C (m_X5_count l D cI cC x0 n0 n1 t0 t1 s0 s1 g0 g1 w0 w1 w2 m0 m1 m2 m3 m4 p0 p1 c2 ct cs r2 sg tr wi2d ol2d orr2d sf2d nb hs od2 z2 ln lf rg bd rl2d (nI 8) (by first | assumption | omega) (by first | assumption | omega)) gL_law_X5_count rfl rfl rfl yd_X5_count ⟨Nat.le_of_ble_eq_true rfl, Nat.le_of_ble_eq_true rfl⟩ rfl 19 rfl (by decide) rfl rfl rfl (Nat.le_of_ble_eq_true rfl) ⟨Nat.le_of_ble_eq_true rfl, Nat.le_of_ble_eq_true rfl⟩ dL_law_152 ?_
    rintro _ _ ⟨wi2q, ol2q, orr2q, sf2q, rl2q, rfl, rfl, rq⟩
    refine g_eq (ws' := (xW cI cC x0 n0 n1 t0 t1 s0 s1 g0 g1 w0 w1 w2 m0 m1 m2 m3 m4 p0 p1 (bI hs) c2 ct cs r2 (nI od2) (nI z2) sg (nI ln) tr (nI lf) (nI rg) (bI bd) wi2q ol2q orr2q sf2q (nI rl2q) nb)) (st' := [.int (coV c2 z2 ln (nI 8))]) rfl rfl ?_
    refine g_top (y := nI z2) (co_8 c2 z2 ln) ?_
    refine g_iload (pc := 155) C dL_law_155 2 rfl ?_
    refine g_iconst (pc := 157) (v := nI 5) C dL_law_157 (by decide) ?_
    refine g_icmp_geN (pc := 158) C 168 (by omega) (by omega) dL_law_158 (by decide) (fun c158 => ?_) (fun c158 => ?_)
    · refine g_iconst (pc := 168) (v := nI 5) C dL_law_168 (by decide) ?_
      refine g_icmp_eqN (pc := 169) C 174 (by omega) (by omega) dL_law_169 (by decide) (fun c169 => ?_) (fun c169 => ?_)
      · refine g_lvp (lv' := [(2, .int (nI i)), (3, .int v), (4, .int x88), (5, .long (TD c)), (8, .int ((AT hs c cs v x88).1)), (9, .long (TD c2)), (0, .ref sb), (1, .ref x0)]) [6, 5, 4, 3, 1, 0, 7, 8] rfl ?_
        exact K _ _ _ _ _ _ _ _ _ _ hX rq
      · rw [if_pos (by omega)] at e2; exact absurd e2 c169
    · refine g_iload (pc := 161) C dL_law_161 2 rfl ?_
      refine g_iconst (pc := 163) (v := nI 1) C dL_law_163 (by decide) ?_
      refine g_iaddN (pc := 164) C dL_law_164 ?_
      refine g_goto (pc := 165) C 169 dL_law_165 (by decide) ?_
      refine g_icmp_eqN (pc := 169) C 174 (by omega) (by omega) dL_law_169 (by decide) (fun c169 => ?_) (fun c169 => ?_)
      · refine g_lvp (lv' := [(2, .int (nI i)), (3, .int v), (4, .int x88), (5, .long (TD c)), (8, .int ((AT hs c cs v x88).1)), (9, .long (TD c2)), (0, .ref sb), (1, .ref x0)]) [6, 5, 4, 3, 1, 0, 7, 8] rfl ?_
        exact K _ _ _ _ _ _ _ _ _ _ hX rq
      · rw [if_neg (by omega)] at e2; exact absurd e2 c169
  · obtain ⟨e1, e2⟩ := XA_neg hT hX (Int32.not_le.mp c124)
    refine g_lload (pc := 127) C dL_law_127 0 rfl ?_
    refine g_lload (pc := 129) C dL_law_129 3 rfl ?_
    refine g_lcmp0 (pc := 131) C dL_law_131 (congrArg TD e1) ?_
    refine g_if_neN (pc := 132) C 172 (by omega) dL_law_132 (by decide) (fun c132 => ?_) (fun c132 => ?_)
    · exact absurd rfl c132
    · refine g_aload_n (pc := 135) C dL_law_135 8 rfl rfl ?_
      refine g_bipush (pc := 136) (v := nI 8) C dL_law_136 (by decide) ?_
      refine g_callVW (pc := 138) (st := []) (As := [.int (nI 8)]) (nn := 1) (ci := 5) C (m_X5_count l D cI cC x0 n0 n1 t0 t1 s0 s1 g0 g1 w0 w1 w2 m0 m1 m2 m3 m4 p0 p1 c2 ct cs r2 sg tr wi2d ol2d orr2d sf2d nb hs od2 z2 ln lf rg bd rl2d (nI 8) (by first | assumption | omega) (by first | assumption | omega)) gL_law_X5_count rfl rfl rfl yd_X5_count ⟨Nat.le_of_ble_eq_true rfl, Nat.le_of_ble_eq_true rfl⟩ rfl 19 rfl (by decide) rfl rfl rfl (Nat.le_of_ble_eq_true rfl) ⟨Nat.le_of_ble_eq_true rfl, Nat.le_of_ble_eq_true rfl⟩ dL_law_138 ?_
      rintro _ _ ⟨wi2q, ol2q, orr2q, sf2q, rl2q, rfl, rfl, rq⟩
      refine g_eq (ws' := (xW cI cC x0 n0 n1 t0 t1 s0 s1 g0 g1 w0 w1 w2 m0 m1 m2 m3 m4 p0 p1 (bI hs) c2 ct cs r2 (nI od2) (nI z2) sg (nI ln) tr (nI lf) (nI rg) (bI bd) wi2q ol2q orr2q sf2q (nI rl2q) nb)) (st' := [.int (coV c2 z2 ln (nI 8))]) rfl rfl ?_
      refine g_top (y := nI z2) (co_8 c2 z2 ln) ?_
      refine g_iload (pc := 141) C dL_law_141 2 rfl ?_
      refine g_icmp_eqN (pc := 143) C 174 (by omega) (by omega) dL_law_143 (by decide) (fun c143 => ?_) (fun c143 => ?_)
      · refine g_lvp (lv' := [(2, .int (nI i)), (3, .int v), (4, .int x88), (5, .long (TD c)), (8, .int ((AT hs c cs v x88).1)), (9, .long (TD c2)), (0, .ref sb), (1, .ref x0)]) [6, 5, 4, 3, 1, 0, 7, 8] rfl ?_
        exact K _ _ _ _ _ _ _ _ _ _ hX rq
      · exact absurd e2 c143
set_option maxHeartbeats 8000000 in
set_option maxRecDepth 100000 in
theorem law_loop {p : Program} {l : Launch} {e : Env} {s : State} {m : MethodId} {args : Array Value} {below : List Frame} {meth : Method} {co : Code} {Q : State → Prop} {D : va_G} {A : Nat → Prop} {cI cC : ClassId} {x0 n0 n1 t0 t1 s0 s1 g0 g1 w0 w1 w2 m0 m1 m2 m3 m4 p0 p1 : Nat} {sb SL : Nat} {xs : Nat → Int32} (C : g_C p s m args meth co cL_law 12 RL wsL_law D cI cC A) (S0 : lS s A sb SL xs) (hL : SL ≤ 260) (E : ∀ (w : va_W) (lv : List (Nat × Value)), g_J p l e room_1 s m args below meth co Q D A 12 19 1442 w 288 lv []) : ∀ (NZ i : Nat), 34 - i < NZ → i ≤ 34 → ∀ w : va_W, pINV cI cC x0 n0 n1 t0 t1 s0 s1 g0 g1 w0 w1 w2 m0 m1 m2 m3 m4 p0 p1 w → g_J p l e room_1 s m args below meth co Q D A 12 19 1442 w 53 [(2, .int (nI i)), (0, .ref sb), (1, .ref x0)] [] := by
  intro NZ
  induction NZ with
  | zero => intro i hN; exact absurd hN (Nat.not_lt_zero _)
  | succ NZ ih =>
    intro i hN hi w hw
    refine g_iload_n (pc := 53) C dL_law_53 0 rfl rfl ?_
    refine g_bipush (pc := 54) (v := nI 34) C dL_law_54 (by decide) ?_
    refine g_icmp_geN (pc := 56) C 288 (by omega) (by omega) dL_law_56 (by decide) (fun _ => E w _) (fun c56 => ?_)
    have K282 : ∀ w : va_W, pINV cI cC x0 n0 n1 t0 t1 s0 s1 g0 g1 w0 w1 w2 m0 m1 m2 m3 m4 p0 p1 w → g_J p l e room_1 s m args below meth co Q D A 12 19 1442 w 282 [(2, .int (nI i)), (0, .ref sb), (1, .ref x0)] [] := by
      intro w hw
      refine g_iinc (pc := 282) (lv' := [(2, .int (nI (i + 1))), (0, .ref sb), (1, .ref x0)]) C dL_law_282 0 rfl (nI_add i 1) (by decide) rfl ?_
      refine g_goto (pc := 285) C 53 dL_law_285 (by decide) ?_
      exact ih (i + 1) (by omega) (by omega) w hw
    have K241 : ∀ (y4 : Int32) (w : va_W), pINV cI cC x0 n0 n1 t0 t1 s0 s1 g0 g1 w0 w1 w2 m0 m1 m2 m3 m4 p0 p1 w → g_J p l e room_1 s m args below meth co Q D A 12 19 1442 w 241 [(2, .int (nI i)), (4, .int y4), (0, .ref sb), (1, .ref x0)] [] := by
      intro y4 w hw
      obtain ⟨hs, c, ct, cs, r, od, z, sg, ln, tr, lf, rg, bd, wi, ol, orr, sf, rl, nb, rfl, hc, hf, hcs, ho, hz, hrl⟩ := hw
      exact ls_c C c56 hc hf hcs ho hz hrl K282
    obtain ⟨hs, c, ct, cs, r, od, z, sg, ln, tr, lf, rg, bd, wi, ol, orr, sf, rl, nb, rfl, hc, hf, hcs, ho, hz, hrl⟩ := hw
    have K81 : ∀ v : Int32, g_J p l e room_1 s m args below meth co Q D A 12 19 1442 (xW cI cC x0 n0 n1 t0 t1 s0 s1 g0 g1 w0 w1 w2 m0 m1 m2 m3 m4 p0 p1 (bI hs) c ct cs r (nI od) (nI z) sg (nI ln) tr (nI lf) (nI rg) (bI bd) wi ol orr sf (nI rl) nb) 81 [(2, .int (nI i)), (0, .ref sb), (1, .ref x0)] [.int v] := by
      intro v
      exact ls_a C S0 hL c56 hc hf hcs ho hz hrl (fun y4 c2 r2 od2 z2 wi2 ol2 orr2 sf2 rl2 hX h2 => ls_b C hc hf hcs ho hz h2 hX (K241 y4))
    refine g_aload_n (pc := 59) C dL_law_59 1 rfl rfl ?_
    refine g_iconst (pc := 60) (v := nI 2) C dL_law_60 (by decide) ?_
    refine g_iload_n (pc := 61) C dL_law_61 0 rfl rfl ?_
    refine g_imulN (pc := 62) C dL_law_62 ?_
    refine g_callSX (pc := 63) (st := []) (As := [.ref sb, .int (nI (2 * i))]) (nn := 2) C S0 (m_L_cell l D cI cC sb SL xs (2 * i) (by omega) (by omega)) gL_law_L_cell rfl rfl rfl yd_L_cell.2 ⟨Nat.le_of_ble_eq_true rfl, Nat.le_of_ble_eq_true rfl⟩ rfl rfl (Nat.le_of_ble_eq_true rfl) ⟨Nat.le_of_ble_eq_true rfl, Nat.le_of_ble_eq_true rfl⟩ dL_law_63 ?_
    rintro _ _ ⟨_, x63, rfl⟩
    refine g_eq (ws' := (xW cI cC x0 n0 n1 t0 t1 s0 s1 g0 g1 w0 w1 w2 m0 m1 m2 m3 m4 p0 p1 (bI hs) c ct cs r (nI od) (nI z) sg (nI ln) tr (nI lf) (nI rg) (bI bd) wi ol orr sf (nI rl) nb)) (st' := [.int x63]) rfl rfl ?_
    refine g_istore_n (pc := 66) (lv' := [(3, .int x63), (2, .int (nI i)), (0, .ref sb), (1, .ref x0)]) C dL_law_66 rfl (by decide) rfl ?_
    refine g_iload_n (pc := 67) C dL_law_67 1 rfl rfl ?_
    refine g_bipush (pc := 68) (v := nI 6) C dL_law_68 (by decide) ?_
    refine g_icmp_geN (pc := 70) C 80 (by omega) (by omega) dL_law_70 (by decide) (fun c70 => ?_) (fun c70 => ?_)
    · refine g_iload_n (pc := 80) C dL_law_80 0 rfl rfl ?_
      refine g_lvp (lv' := [(2, .int (nI i)), (0, .ref sb), (1, .ref x0)]) [1, 2, 3] rfl ?_
      exact K81 _
    · refine g_iload_n (pc := 73) C dL_law_73 0 rfl rfl ?_
      refine g_bipush (pc := 74) (v := (-16)) C dL_law_74 (by decide) ?_
      refine g_iand (pc := 76) C dL_law_76 ?_
      refine g_goto (pc := 77) C 81 dL_law_77 (by decide) ?_
      refine g_lvp (lv' := [(2, .int (nI i)), (0, .ref sb), (1, .ref x0)]) [1, 2, 3] rfl ?_
      exact K81 _
