/-! names of the far part of the library: they stand first, so that a new machine reads the claim over the whole library from its first row on -/
def gw_1 := @FP.Core.isNaN_bits
def gw_2 := @FP.Core.i2d_mag
def gw_3 := @FP.Core.ddiv_out
def gw_4 := @FP.Core.i2d_fin
def gw_5 := @FP.Core.i2d_ne_zero
def gw_6 := @FP.Core.zero_bits2
def gw_7 := @FP.Core.dcmp_self
