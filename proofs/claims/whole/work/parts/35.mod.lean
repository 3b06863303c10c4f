def vX11_digest_1 (S : Mm) : Int64 := ((1799581 + (((up2 S 18 0 0) 0 28).toInt64)) * 31) + (((up2 S 18 0 0) 17 (0 : Int32).toNatClampNeg).toInt64)
def vX11_digest_2 (S : Mm) : Int64 := ((((vX11_digest_1 S) * 31) + (((up2 S 18 0 0) 17 (1 : Int32).toNatClampNeg).toInt64)) * 31) + (((up2 S 18 0 0) 17 (2 : Int32).toNatClampNeg).toInt64)
def vX11_digest_3 (S : Mm) : Int64 := ((((vX11_digest_2 S) * 31) + (((up2 S 18 0 0) 17 (3 : Int32).toNatClampNeg).toInt64)) * 31) + (((up2 S 18 0 0) 17 (4 : Int32).toNatClampNeg).toInt64)
def vX11_digest_4 (S : Mm) : Int64 := ((((vX11_digest_3 S) * 31) + (((up2 S 18 0 0) 17 (5 : Int32).toNatClampNeg).toInt64)) * 31) + (((up2 S 18 0 0) 17 (6 : Int32).toNatClampNeg).toInt64)
def vX11_digest_5 (S : Mm) : Int64 := ((((vX11_digest_4 S) * 31) + (((up2 S 18 0 0) 17 (7 : Int32).toNatClampNeg).toInt64)) * 31) + (((up2 S 18 0 0) 0 31).toInt64)
def vX11_digest_6 (S : Mm) : Int64 := ((((vX11_digest_5 S) * 31) + (((up2 S 18 0 0) 0 32).toInt64)) * 31) + (((up2 S 18 0 0) 0 33).toInt64)
def vX11_digest_7 (S : Mm) : Int64 := ((((vX11_digest_6 S) * 31) + ((rX10_sounding (up2 S 18 0 0)).toInt64)) * 31) + (((up2 S 18 0 0) 0 14).toInt64)
def jX11_digest_8 (S : Mm) : Int32 := (if (up2 S 18 0 0) 0 24 = 0 then 0 else 1)
def vX11_digest_9 (S : Mm) : Int64 := ((((vX11_digest_7 S) * 31) + ((jX11_digest_8 S).toInt64)) * 31) + ((rX11_stepNow (up2 S 18 0 0)).toInt64)
def vX11_digest_10 (S : Mm) : Int64 := ((((vX11_digest_9 S) * 31) + ((rX10_nextVoice (up2 S 18 0 0)).toInt64)) * 31) + ((rX11_voiceNow (up2 S 18 0 0) (0 : Int32) (0 : Int32)).toInt64)
def vX11_digest_11 (S : Mm) : Int64 := ((((vX11_digest_10 S) * 31) + ((rX11_voiceNow (up2 S 18 0 0) (0 : Int32) (1 : Int32)).toInt64)) * 31) + ((rX11_voiceNow (up2 S 18 0 0) (0 : Int32) (2 : Int32)).toInt64)
def vX11_digest_12 (S : Mm) : Int64 := ((((vX11_digest_11 S) * 31) + ((rX11_voiceNow (up2 S 18 0 0) (0 : Int32) (3 : Int32)).toInt64)) * 31) + ((rX11_voiceNow (up2 S 18 0 0) (0 : Int32) (4 : Int32)).toInt64)
def vX11_digest_13 (S : Mm) : Int64 := ((((vX11_digest_12 S) * 31) + ((rX11_voiceNow (up2 S 18 0 0) (0 : Int32) (5 : Int32)).toInt64)) * 31) + ((rX11_voiceNow (up2 S 18 0 0) (0 : Int32) (6 : Int32)).toInt64)
def vX11_digest_14 (S : Mm) : Int64 := ((((vX11_digest_13 S) * 31) + ((rX11_voiceNow (up2 S 18 0 0) (0 : Int32) (7 : Int32)).toInt64)) * 31) + ((rX11_voiceNow (up2 S 18 0 0) (0 : Int32) (8 : Int32)).toInt64)
def vX11_digest_15 (S : Mm) : Int64 := ((((vX11_digest_14 S) * 31) + ((rX11_voiceNow (up2 S 18 0 0) (0 : Int32) (9 : Int32)).toInt64)) * 31) + ((rX11_voiceNow (up2 S 18 0 0) (1 : Int32) (0 : Int32)).toInt64)
def vX11_digest_16 (S : Mm) : Int64 := ((((vX11_digest_15 S) * 31) + ((rX11_voiceNow (up2 S 18 0 0) (1 : Int32) (1 : Int32)).toInt64)) * 31) + ((rX11_voiceNow (up2 S 18 0 0) (1 : Int32) (2 : Int32)).toInt64)
def vX11_digest_17 (S : Mm) : Int64 := ((((vX11_digest_16 S) * 31) + ((rX11_voiceNow (up2 S 18 0 0) (1 : Int32) (3 : Int32)).toInt64)) * 31) + ((rX11_voiceNow (up2 S 18 0 0) (1 : Int32) (4 : Int32)).toInt64)
def vX11_digest_18 (S : Mm) : Int64 := ((((vX11_digest_17 S) * 31) + ((rX11_voiceNow (up2 S 18 0 0) (1 : Int32) (5 : Int32)).toInt64)) * 31) + ((rX11_voiceNow (up2 S 18 0 0) (1 : Int32) (6 : Int32)).toInt64)
def vX11_digest_19 (S : Mm) : Int64 := ((((vX11_digest_18 S) * 31) + ((rX11_voiceNow (up2 S 18 0 0) (1 : Int32) (7 : Int32)).toInt64)) * 31) + ((rX11_voiceNow (up2 S 18 0 0) (1 : Int32) (8 : Int32)).toInt64)
def vX11_digest_20 (S : Mm) : Int64 := ((((vX11_digest_19 S) * 31) + ((rX11_voiceNow (up2 S 18 0 0) (1 : Int32) (9 : Int32)).toInt64)) * 31) + ((rX11_voiceNow (up2 S 18 0 0) (2 : Int32) (0 : Int32)).toInt64)
def vX11_digest_21 (S : Mm) : Int64 := ((((vX11_digest_20 S) * 31) + ((rX11_voiceNow (up2 S 18 0 0) (2 : Int32) (1 : Int32)).toInt64)) * 31) + ((rX11_voiceNow (up2 S 18 0 0) (2 : Int32) (2 : Int32)).toInt64)
def vX11_digest_22 (S : Mm) : Int64 := ((((vX11_digest_21 S) * 31) + ((rX11_voiceNow (up2 S 18 0 0) (2 : Int32) (3 : Int32)).toInt64)) * 31) + ((rX11_voiceNow (up2 S 18 0 0) (2 : Int32) (4 : Int32)).toInt64)
def vX11_digest_23 (S : Mm) : Int64 := ((((vX11_digest_22 S) * 31) + ((rX11_voiceNow (up2 S 18 0 0) (2 : Int32) (5 : Int32)).toInt64)) * 31) + ((rX11_voiceNow (up2 S 18 0 0) (2 : Int32) (6 : Int32)).toInt64)
def vX11_digest_24 (S : Mm) : Int64 := ((((vX11_digest_23 S) * 31) + ((rX11_voiceNow (up2 S 18 0 0) (2 : Int32) (7 : Int32)).toInt64)) * 31) + ((rX11_voiceNow (up2 S 18 0 0) (2 : Int32) (8 : Int32)).toInt64)
def vX11_digest_25 (S : Mm) : Int64 := ((((vX11_digest_24 S) * 31) + ((rX11_voiceNow (up2 S 18 0 0) (2 : Int32) (9 : Int32)).toInt64)) * 31) + ((rX11_voiceNow (up2 S 18 0 0) (3 : Int32) (0 : Int32)).toInt64)
def vX11_digest_26 (S : Mm) : Int64 := ((((vX11_digest_25 S) * 31) + ((rX11_voiceNow (up2 S 18 0 0) (3 : Int32) (1 : Int32)).toInt64)) * 31) + ((rX11_voiceNow (up2 S 18 0 0) (3 : Int32) (2 : Int32)).toInt64)
def vX11_digest_27 (S : Mm) : Int64 := ((((vX11_digest_26 S) * 31) + ((rX11_voiceNow (up2 S 18 0 0) (3 : Int32) (3 : Int32)).toInt64)) * 31) + ((rX11_voiceNow (up2 S 18 0 0) (3 : Int32) (4 : Int32)).toInt64)
def vX11_digest_28 (S : Mm) : Int64 := ((((vX11_digest_27 S) * 31) + ((rX11_voiceNow (up2 S 18 0 0) (3 : Int32) (5 : Int32)).toInt64)) * 31) + ((rX11_voiceNow (up2 S 18 0 0) (3 : Int32) (6 : Int32)).toInt64)
def vX11_digest_29 (S : Mm) : Int64 := ((((vX11_digest_28 S) * 31) + ((rX11_voiceNow (up2 S 18 0 0) (3 : Int32) (7 : Int32)).toInt64)) * 31) + ((rX11_voiceNow (up2 S 18 0 0) (3 : Int32) (8 : Int32)).toInt64)
def vX11_digest_30 (S : Mm) : Int64 := ((((vX11_digest_29 S) * 31) + ((rX11_voiceNow (up2 S 18 0 0) (3 : Int32) (9 : Int32)).toInt64)) * 31) + (((up2 S 18 0 0) 16 (0 : Int32).toNatClampNeg).toInt64)
def vX11_digest_31 (S : Mm) : Int64 := ((((vX11_digest_30 S) * 31) + (((up2 S 18 0 0) 16 (1 : Int32).toNatClampNeg).toInt64)) * 31) + (((up2 S 18 0 0) 16 (2 : Int32).toNatClampNeg).toInt64)
def vX11_digest_32 (S : Mm) : Int64 := ((((vX11_digest_31 S) * 31) + (((up2 S 18 0 0) 16 (3 : Int32).toNatClampNeg).toInt64)) * 31) + (((up2 S 18 0 0) 16 (4 : Int32).toNatClampNeg).toInt64)
def vX11_digest_33 (S : Mm) : Int64 := ((((vX11_digest_32 S) * 31) + (((up2 S 18 0 0) 16 (5 : Int32).toNatClampNeg).toInt64)) * 31) + (((up2 S 18 0 0) 16 (6 : Int32).toNatClampNeg).toInt64)
def vX11_digest_34 (S : Mm) : Int64 := ((((vX11_digest_33 S) * 31) + (((up2 S 18 0 0) 16 (7 : Int32).toNatClampNeg).toInt64)) * 31) + (((up2 S 18 0 0) 16 (8 : Int32).toNatClampNeg).toInt64)
def vX11_digest_35 (S : Mm) : Int64 := ((((vX11_digest_34 S) * 31) + (((up2 S 18 0 0) 16 (9 : Int32).toNatClampNeg).toInt64)) * 31) + (((up2 S 18 0 0) 16 (10 : Int32).toNatClampNeg).toInt64)
def vX11_digest_36 (S : Mm) : Int64 := ((((vX11_digest_35 S) * 31) + (((up2 S 18 0 0) 16 (11 : Int32).toNatClampNeg).toInt64)) * 31) + (((up2 S 18 0 0) 16 (12 : Int32).toNatClampNeg).toInt64)
def vX11_digest_37 (S : Mm) : Int64 := ((((vX11_digest_36 S) * 31) + (((up2 S 18 0 0) 16 (13 : Int32).toNatClampNeg).toInt64)) * 31) + (((up2 S 18 0 0) 16 (14 : Int32).toNatClampNeg).toInt64)
def vX11_digest_38 (S : Mm) : Int64 := ((((vX11_digest_37 S) * 31) + (((up2 S 18 0 0) 16 (15 : Int32).toNatClampNeg).toInt64)) * 31) + (((up2 S 18 0 0) 16 (16 : Int32).toNatClampNeg).toInt64)
def vX11_digest_39 (S : Mm) : Int64 := ((((vX11_digest_38 S) * 31) + (((up2 S 18 0 0) 16 (17 : Int32).toNatClampNeg).toInt64)) * 31) + (((up2 S 18 0 0) 16 (18 : Int32).toNatClampNeg).toInt64)
def vX11_digest_40 (S : Mm) : Int64 := ((((vX11_digest_39 S) * 31) + (((up2 S 18 0 0) 16 (19 : Int32).toNatClampNeg).toInt64)) * 31) + (((up2 S 18 0 0) 16 (20 : Int32).toNatClampNeg).toInt64)
def vX11_digest_41 (S : Mm) : Int64 := ((((vX11_digest_40 S) * 31) + (((up2 S 18 0 0) 16 (21 : Int32).toNatClampNeg).toInt64)) * 31) + (((up2 S 18 0 0) 16 (22 : Int32).toNatClampNeg).toInt64)
def vX11_digest_42 (S : Mm) : Int64 := ((((vX11_digest_41 S) * 31) + (((up2 S 18 0 0) 16 (23 : Int32).toNatClampNeg).toInt64)) * 31) + (((up2 S 18 0 0) 16 (24 : Int32).toNatClampNeg).toInt64)
def vX11_digest_43 (S : Mm) : Int64 := ((((vX11_digest_42 S) * 31) + (((up2 S 18 0 0) 16 (25 : Int32).toNatClampNeg).toInt64)) * 31) + (((up2 S 18 0 0) 16 (26 : Int32).toNatClampNeg).toInt64)
def vX11_digest_44 (S : Mm) : Int64 := ((((vX11_digest_43 S) * 31) + (((up2 S 18 0 0) 16 (27 : Int32).toNatClampNeg).toInt64)) * 31) + (((up2 S 18 0 0) 16 (28 : Int32).toNatClampNeg).toInt64)
def vX11_digest_45 (S : Mm) : Int64 := ((((vX11_digest_44 S) * 31) + (((up2 S 18 0 0) 16 (29 : Int32).toNatClampNeg).toInt64)) * 31) + (((up2 S 18 0 0) 16 (30 : Int32).toNatClampNeg).toInt64)
def vX11_digest_46 (S : Mm) : Int64 := ((((vX11_digest_45 S) * 31) + (((up2 S 18 0 0) 16 (31 : Int32).toNatClampNeg).toInt64)) * 31) + (((up2 S 18 0 0) 16 (32 : Int32).toNatClampNeg).toInt64)
def vX11_digest_47 (S : Mm) : Int64 := ((((vX11_digest_46 S) * 31) + (((up2 S 18 0 0) 16 (33 : Int32).toNatClampNeg).toInt64)) * 31) + (((up2 S 18 0 0) 16 (34 : Int32).toNatClampNeg).toInt64)
def vX11_digest_48 (S : Mm) : Int64 := ((((vX11_digest_47 S) * 31) + (((up2 S 18 0 0) 16 (35 : Int32).toNatClampNeg).toInt64)) * 31) + (((up2 S 18 0 0) 16 (36 : Int32).toNatClampNeg).toInt64)
def vX11_digest_49 (S : Mm) : Int64 := ((((vX11_digest_48 S) * 31) + (((up2 S 18 0 0) 16 (37 : Int32).toNatClampNeg).toInt64)) * 31) + (((up2 S 18 0 0) 16 (38 : Int32).toNatClampNeg).toInt64)
def vX11_digest_50 (S : Mm) : Int64 := ((((vX11_digest_49 S) * 31) + (((up2 S 18 0 0) 16 (39 : Int32).toNatClampNeg).toInt64)) * 31) + (((up2 S 18 0 0) 16 (40 : Int32).toNatClampNeg).toInt64)
def vX11_digest_51 (S : Mm) : Int64 := ((((vX11_digest_50 S) * 31) + (((up2 S 18 0 0) 16 (41 : Int32).toNatClampNeg).toInt64)) * 31) + (((up2 S 18 0 0) 16 (42 : Int32).toNatClampNeg).toInt64)
def vX11_digest_52 (S : Mm) : Int64 := ((((vX11_digest_51 S) * 31) + (((up2 S 18 0 0) 16 (43 : Int32).toNatClampNeg).toInt64)) * 31) + (((up2 S 18 0 0) 16 (44 : Int32).toNatClampNeg).toInt64)
def vX11_digest_53 (S : Mm) : Int64 := ((((vX11_digest_52 S) * 31) + (((up2 S 18 0 0) 16 (45 : Int32).toNatClampNeg).toInt64)) * 31) + (((up2 S 18 0 0) 16 (46 : Int32).toNatClampNeg).toInt64)
def vX11_digest_54 (S : Mm) : Int64 := ((((vX11_digest_53 S) * 31) + (((up2 S 18 0 0) 16 (47 : Int32).toNatClampNeg).toInt64)) * 31) + (((up2 S 18 0 0) 16 (48 : Int32).toNatClampNeg).toInt64)
def vX11_digest_55 (S : Mm) : Int64 := ((((vX11_digest_54 S) * 31) + (((up2 S 18 0 0) 16 (49 : Int32).toNatClampNeg).toInt64)) * 31) + (((up2 S 18 0 0) 16 (50 : Int32).toNatClampNeg).toInt64)
def vX11_digest_56 (S : Mm) : Int64 := ((((vX11_digest_55 S) * 31) + (((up2 S 18 0 0) 16 (51 : Int32).toNatClampNeg).toInt64)) * 31) + (((up2 S 18 0 0) 16 (52 : Int32).toNatClampNeg).toInt64)
def vX11_digest_57 (S : Mm) : Int64 := ((((vX11_digest_56 S) * 31) + (((up2 S 18 0 0) 16 (53 : Int32).toNatClampNeg).toInt64)) * 31) + (((up2 S 18 0 0) 16 (54 : Int32).toNatClampNeg).toInt64)
def vX11_digest_58 (S : Mm) : Int64 := ((((vX11_digest_57 S) * 31) + (((up2 S 18 0 0) 16 (55 : Int32).toNatClampNeg).toInt64)) * 31) + (((up2 S 18 0 0) 16 (56 : Int32).toNatClampNeg).toInt64)
def vX11_digest_59 (S : Mm) : Int64 := ((((vX11_digest_58 S) * 31) + (((up2 S 18 0 0) 16 (57 : Int32).toNatClampNeg).toInt64)) * 31) + (((up2 S 18 0 0) 16 (58 : Int32).toNatClampNeg).toInt64)
def vX11_digest_60 (S : Mm) : Int64 := ((((vX11_digest_59 S) * 31) + (((up2 S 18 0 0) 16 (59 : Int32).toNatClampNeg).toInt64)) * 31) + (((up2 S 18 0 0) 16 (60 : Int32).toNatClampNeg).toInt64)
def vX11_digest_61 (S : Mm) : Int64 := ((((vX11_digest_60 S) * 31) + (((up2 S 18 0 0) 16 (61 : Int32).toNatClampNeg).toInt64)) * 31) + (((up2 S 18 0 0) 16 (62 : Int32).toNatClampNeg).toInt64)
def vX11_digest_62 (S : Mm) : Int64 := ((((vX11_digest_61 S) * 31) + (((up2 S 18 0 0) 16 (63 : Int32).toNatClampNeg).toInt64)) * 31) + (((up2 S 18 0 0) 16 (64 : Int32).toNatClampNeg).toInt64)
def vX11_digest_63 (S : Mm) : Int64 := ((((vX11_digest_62 S) * 31) + (((up2 S 18 0 0) 16 (65 : Int32).toNatClampNeg).toInt64)) * 31) + (((up2 S 18 0 0) 16 (66 : Int32).toNatClampNeg).toInt64)
def vX11_digest_64 (S : Mm) : Int64 := ((((vX11_digest_63 S) * 31) + (((up2 S 18 0 0) 16 (67 : Int32).toNatClampNeg).toInt64)) * 31) + (((up2 S 18 0 0) 16 (68 : Int32).toNatClampNeg).toInt64)
def vX11_digest_65 (S : Mm) : Int64 := ((((vX11_digest_64 S) * 31) + (((up2 S 18 0 0) 16 (69 : Int32).toNatClampNeg).toInt64)) * 31) + (((up2 S 18 0 0) 16 (70 : Int32).toNatClampNeg).toInt64)
def bX11_digest_252_z1 (S : Mm) (z1 : Int64) (i : Nat) : Int64 := (z1 * 31) + (((up2 S 18 0 0) 14 (nI i).toNatClampNeg).toInt64)
def lpX11_digest_252 (S : Mm) : Nat → Int64
  | 0 => ((vX11_digest_65 S) * 31) + (((up2 S 18 0 0) 16 (71 : Int32).toNatClampNeg).toInt64)
  | i + 1 => bX11_digest_252_z1 S (lpX11_digest_252 S i) i
theorem lpX11_digest_252_0 (S : Mm) : lpX11_digest_252 S 0 = ((vX11_digest_65 S) * 31) + (((up2 S 18 0 0) 16 (71 : Int32).toNatClampNeg).toInt64) := by rw [lpX11_digest_252]
theorem lpX11_digest_252_s (S : Mm) (i : Nat) : lpX11_digest_252 S (i + 1) = bX11_digest_252_z1 S (lpX11_digest_252 S i) i := by rw [lpX11_digest_252]
def rX11_digest (S : Mm) : Int64 := (lpX11_digest_252 S (((up2 S 18 0 0) 0 16).toNatClampNeg))
def fX11_digest (S : Mm) : Mm := up2 S 18 0 0
theorem iX11_digest_X10 : ∀ w ∈ u_ws RX10 TX10 35, w ∈ wsX11_digest := by decide +kernel
theorem iX11_digest_X11 : ∀ w ∈ u_ws RX11 TX11 2, w ∈ wsX11_digest := by decide +kernel
set_option maxHeartbeats 4000000 in
set_option maxRecDepth 100000 in
theorem c_X11_digest (l : Launch) (G : va_G) (cA : ClassId) (zq : Nat) (a : Nat → Nat) (ha : apart 19 a) (S : Mm) (L : Int64) (sz : Nat)   (hL : rg ((up2 S 18 0 0) 0 16) 0 200) : Met l yX11_digest wsX11_digest ({ frames := 1, cells := 0, slots := 0, locals := 22 } : Room) (va_Pc [.ref (a 18)] (gI G cA zq 19 a (cD a cA) S L sz)) (gQl (rX11_digest S) G 19 a (cD a cA) (fX11_digest S) L sz) 0 0 (mA 19 a sz) := by
  refine g_met (cc := cX11_digest) (maxL := 7) (ret := (some .long)) (by decide) rfl (Nat.le_of_ble_eq_true rfl) ?_
  intro p e s m below meth c ls hx hb hr hlocks hml hts hown hnm hsz hK hP hS hl
  subst hsz
  have hl : lv_has ls 7 [(0, .ref (a 18))] := hl
  refine lv_aload_n hx hb dX11_digest_0 rfl (lv_at hl 0 rfl) ?_
  refine lv_iconst (v := 0) hx hb dX11_digest_1 (by decide) ?_
  refine g_put (ci := 11) (C := RX11) (T := TX11) (N := 2) (ty := .int) hx hb hts iX11_digest_X11 tyX11 tyX11_ok nmX11 hown hK ha mA_in hP hS (by decide) cD_Mo rfl 0 (by decide) rfl (by decide +kernel) rfl (by decide +kernel) rfl rfl (Nat.le_of_ble_eq_true rfl) (cD_Mo_set (by decide)) dX11_digest_2 (fun H locs hP hS => ?_)
  refine lv_ldc2 (v := 1799581) hx hb hown (hts (.constantLong RX11 200 1799581) (by decide +kernel)) dX11_digest_5 ?_
  refine lv_aload_n hx hb dX11_digest_8 rfl (lv_at hl 0 rfl) ?_
  refine g_get (ci := 11) (C := RX11) (T := TX11) (N := 2) (v := .ref (a 0)) hx hb hts iX11_digest_X11 hown hK hP (by decide) cD_Mo rfl 1 (by decide) rfl (by decide +kernel) rfl dX11_digest_9 ?_
  refine g_get (ci := 10) (C := RX10) (T := TX10) (N := 35) (v := .int ((up2 S 18 0 0) 0 28)) hx hb hts iX11_digest_X10 hown hK hP (lt_hn (by decide) (by decide)) cD_D rfl 28 (by decide) rfl (by decide +kernel) rfl dX11_digest_12 ?_
  refine lv_i2l hx hb dX11_digest_15 rfl ?_
  refine lv_ladd hx hb dX11_digest_16 ?_
  refine lv_lstore_n (lv' := [(1, .long (1799581 + (((up2 S 18 0 0) 0 28).toInt64))), (0, .ref (a 18))]) hx hb dX11_digest_17 rfl hl (by decide) rfl (fun ls hl => ?_)
  refine lv_iconst (v := 0) hx hb dX11_digest_18 (by decide) ?_
  refine lv_istore_n (lv' := [(3, .int 0), (1, .long (1799581 + (((up2 S 18 0 0) 0 28).toInt64))), (0, .ref (a 18))]) hx hb dX11_digest_19 rfl hl (by decide) rfl (fun ls hl => ?_)
  refine lv_iload_n hx hb dX11_digest_20 rfl (lv_at hl 0 rfl) ?_
  refine lv_bipush (v := 8) hx hb dX11_digest_21 (by decide) ?_
  refine lv_icmp_ge (tgt := 49) hx hb dX11_digest_23 (by decide) (fun c => absurd c (by decide)) (fun _ => ?_)
  refine lv_lload_n hx hb dX11_digest_26 rfl (lv_at hl 1 rfl) ?_
  refine lv_ldc2 (v := 31) hx hb hown (hts (.constantLong RX11 202 31) (by decide +kernel)) dX11_digest_27 ?_
  refine lv_lmul hx hb dX11_digest_30 ?_
  refine lv_aload_n hx hb dX11_digest_31 rfl (lv_at hl 2 rfl) ?_
  refine g_get (ci := 11) (C := RX11) (T := TX11) (N := 2) (v := .ref (a 0)) hx hb hts iX11_digest_X11 hown hK hP (by decide) cD_Mo rfl 1 (by decide) rfl (by decide +kernel) rfl dX11_digest_32 ?_
  refine g_get (ci := 10) (C := RX10) (T := TX10) (N := 35) (v := .ref (a 17)) hx hb hts iX11_digest_X10 hown hK hP (lt_hn (by decide) (by decide)) cD_D rfl 29 (by decide) rfl (by decide +kernel) rfl dX11_digest_35 ?_
  refine lv_iload_n hx hb dX11_digest_38 rfl (lv_at hl 0 rfl) ?_
  refine g_iald (N := 64) (g := (up2 S 18 0 0) 17) hx hb hK hP (lt_hn (by decide) (by decide)) rfl (vp_in_lit (by decide)) dX11_digest_39 ?_
  refine lv_i2l hx hb dX11_digest_40 rfl ?_
  refine lv_ladd hx hb dX11_digest_41 ?_
  refine W.eq (g2 := F0 m 42 ls [.long (vX11_digest_1 S)]) rfl ?_
  refine lv_lstore_n (lv' := [(1, .long (vX11_digest_1 S)), (3, .int 0), (0, .ref (a 18))]) hx hb dX11_digest_42 rfl hl (by decide) rfl (fun ls hl => ?_)
  refine lv_iinc (v := 1) (lv' := [(3, .int 1), (1, .long (vX11_digest_1 S)), (0, .ref (a 18))]) hx hb dX11_digest_43 hl (k := 1) rfl (by decide) (by decide) rfl (fun ls hl => ?_)
  refine lv_goto (tgt := 20) hx hb dX11_digest_46 (by decide) ?_
  refine lv_iload_n hx hb dX11_digest_20 rfl (lv_at hl 0 rfl) ?_
  refine lv_bipush (v := 8) hx hb dX11_digest_21 (by decide) ?_
  refine lv_icmp_ge (tgt := 49) hx hb dX11_digest_23 (by decide) (fun c => absurd c (by decide)) (fun _ => ?_)
  refine lv_lload_n hx hb dX11_digest_26 rfl (lv_at hl 1 rfl) ?_
  refine lv_ldc2 (v := 31) hx hb hown (hts (.constantLong RX11 202 31) (by decide +kernel)) dX11_digest_27 ?_
  refine lv_lmul hx hb dX11_digest_30 ?_
  refine lv_aload_n hx hb dX11_digest_31 rfl (lv_at hl 2 rfl) ?_
  refine g_get (ci := 11) (C := RX11) (T := TX11) (N := 2) (v := .ref (a 0)) hx hb hts iX11_digest_X11 hown hK hP (by decide) cD_Mo rfl 1 (by decide) rfl (by decide +kernel) rfl dX11_digest_32 ?_
  refine g_get (ci := 10) (C := RX10) (T := TX10) (N := 35) (v := .ref (a 17)) hx hb hts iX11_digest_X10 hown hK hP (lt_hn (by decide) (by decide)) cD_D rfl 29 (by decide) rfl (by decide +kernel) rfl dX11_digest_35 ?_
  refine lv_iload_n hx hb dX11_digest_38 rfl (lv_at hl 0 rfl) ?_
  refine g_iald (N := 64) (g := (up2 S 18 0 0) 17) hx hb hK hP (lt_hn (by decide) (by decide)) rfl (vp_in_lit (by decide)) dX11_digest_39 ?_
  refine lv_i2l hx hb dX11_digest_40 rfl ?_
  refine lv_ladd hx hb dX11_digest_41 ?_
  refine lv_lstore_n (lv' := [(1, .long (((vX11_digest_1 S) * 31) + (((up2 S 18 0 0) 17 (1 : Int32).toNatClampNeg).toInt64))), (3, .int 1), (0, .ref (a 18))]) hx hb dX11_digest_42 rfl hl (by decide) rfl (fun ls hl => ?_)
  refine lv_iinc (v := 2) (lv' := [(3, .int 2), (1, .long (((vX11_digest_1 S) * 31) + (((up2 S 18 0 0) 17 (1 : Int32).toNatClampNeg).toInt64))), (0, .ref (a 18))]) hx hb dX11_digest_43 hl (k := 1) rfl (by decide) (by decide) rfl (fun ls hl => ?_)
  refine lv_goto (tgt := 20) hx hb dX11_digest_46 (by decide) ?_
  refine lv_iload_n hx hb dX11_digest_20 rfl (lv_at hl 0 rfl) ?_
  refine lv_bipush (v := 8) hx hb dX11_digest_21 (by decide) ?_
  refine lv_icmp_ge (tgt := 49) hx hb dX11_digest_23 (by decide) (fun c => absurd c (by decide)) (fun _ => ?_)
  refine lv_lload_n hx hb dX11_digest_26 rfl (lv_at hl 1 rfl) ?_
  refine lv_ldc2 (v := 31) hx hb hown (hts (.constantLong RX11 202 31) (by decide +kernel)) dX11_digest_27 ?_
  refine lv_lmul hx hb dX11_digest_30 ?_
  refine lv_aload_n hx hb dX11_digest_31 rfl (lv_at hl 2 rfl) ?_
  refine g_get (ci := 11) (C := RX11) (T := TX11) (N := 2) (v := .ref (a 0)) hx hb hts iX11_digest_X11 hown hK hP (by decide) cD_Mo rfl 1 (by decide) rfl (by decide +kernel) rfl dX11_digest_32 ?_
  refine g_get (ci := 10) (C := RX10) (T := TX10) (N := 35) (v := .ref (a 17)) hx hb hts iX11_digest_X10 hown hK hP (lt_hn (by decide) (by decide)) cD_D rfl 29 (by decide) rfl (by decide +kernel) rfl dX11_digest_35 ?_
  refine lv_iload_n hx hb dX11_digest_38 rfl (lv_at hl 0 rfl) ?_
  refine g_iald (N := 64) (g := (up2 S 18 0 0) 17) hx hb hK hP (lt_hn (by decide) (by decide)) rfl (vp_in_lit (by decide)) dX11_digest_39 ?_
  refine lv_i2l hx hb dX11_digest_40 rfl ?_
  refine lv_ladd hx hb dX11_digest_41 ?_
  refine W.eq (g2 := F0 m 42 ls [.long (vX11_digest_2 S)]) rfl ?_
  refine lv_lstore_n (lv' := [(1, .long (vX11_digest_2 S)), (3, .int 2), (0, .ref (a 18))]) hx hb dX11_digest_42 rfl hl (by decide) rfl (fun ls hl => ?_)
  refine lv_iinc (v := 3) (lv' := [(3, .int 3), (1, .long (vX11_digest_2 S)), (0, .ref (a 18))]) hx hb dX11_digest_43 hl (k := 1) rfl (by decide) (by decide) rfl (fun ls hl => ?_)
  refine lv_goto (tgt := 20) hx hb dX11_digest_46 (by decide) ?_
  refine lv_iload_n hx hb dX11_digest_20 rfl (lv_at hl 0 rfl) ?_
  refine lv_bipush (v := 8) hx hb dX11_digest_21 (by decide) ?_
  refine lv_icmp_ge (tgt := 49) hx hb dX11_digest_23 (by decide) (fun c => absurd c (by decide)) (fun _ => ?_)
  refine lv_lload_n hx hb dX11_digest_26 rfl (lv_at hl 1 rfl) ?_
  refine lv_ldc2 (v := 31) hx hb hown (hts (.constantLong RX11 202 31) (by decide +kernel)) dX11_digest_27 ?_
  refine lv_lmul hx hb dX11_digest_30 ?_
  refine lv_aload_n hx hb dX11_digest_31 rfl (lv_at hl 2 rfl) ?_
  refine g_get (ci := 11) (C := RX11) (T := TX11) (N := 2) (v := .ref (a 0)) hx hb hts iX11_digest_X11 hown hK hP (by decide) cD_Mo rfl 1 (by decide) rfl (by decide +kernel) rfl dX11_digest_32 ?_
  refine g_get (ci := 10) (C := RX10) (T := TX10) (N := 35) (v := .ref (a 17)) hx hb hts iX11_digest_X10 hown hK hP (lt_hn (by decide) (by decide)) cD_D rfl 29 (by decide) rfl (by decide +kernel) rfl dX11_digest_35 ?_
  refine lv_iload_n hx hb dX11_digest_38 rfl (lv_at hl 0 rfl) ?_
  refine g_iald (N := 64) (g := (up2 S 18 0 0) 17) hx hb hK hP (lt_hn (by decide) (by decide)) rfl (vp_in_lit (by decide)) dX11_digest_39 ?_
  refine lv_i2l hx hb dX11_digest_40 rfl ?_
  refine lv_ladd hx hb dX11_digest_41 ?_
  refine lv_lstore_n (lv' := [(1, .long (((vX11_digest_2 S) * 31) + (((up2 S 18 0 0) 17 (3 : Int32).toNatClampNeg).toInt64))), (3, .int 3), (0, .ref (a 18))]) hx hb dX11_digest_42 rfl hl (by decide) rfl (fun ls hl => ?_)
  refine lv_iinc (v := 4) (lv' := [(3, .int 4), (1, .long (((vX11_digest_2 S) * 31) + (((up2 S 18 0 0) 17 (3 : Int32).toNatClampNeg).toInt64))), (0, .ref (a 18))]) hx hb dX11_digest_43 hl (k := 1) rfl (by decide) (by decide) rfl (fun ls hl => ?_)
  refine lv_goto (tgt := 20) hx hb dX11_digest_46 (by decide) ?_
  refine lv_iload_n hx hb dX11_digest_20 rfl (lv_at hl 0 rfl) ?_
  refine lv_bipush (v := 8) hx hb dX11_digest_21 (by decide) ?_
  refine lv_icmp_ge (tgt := 49) hx hb dX11_digest_23 (by decide) (fun c => absurd c (by decide)) (fun _ => ?_)
  refine lv_lload_n hx hb dX11_digest_26 rfl (lv_at hl 1 rfl) ?_
  refine lv_ldc2 (v := 31) hx hb hown (hts (.constantLong RX11 202 31) (by decide +kernel)) dX11_digest_27 ?_
  refine lv_lmul hx hb dX11_digest_30 ?_
  refine lv_aload_n hx hb dX11_digest_31 rfl (lv_at hl 2 rfl) ?_
  refine g_get (ci := 11) (C := RX11) (T := TX11) (N := 2) (v := .ref (a 0)) hx hb hts iX11_digest_X11 hown hK hP (by decide) cD_Mo rfl 1 (by decide) rfl (by decide +kernel) rfl dX11_digest_32 ?_
  refine g_get (ci := 10) (C := RX10) (T := TX10) (N := 35) (v := .ref (a 17)) hx hb hts iX11_digest_X10 hown hK hP (lt_hn (by decide) (by decide)) cD_D rfl 29 (by decide) rfl (by decide +kernel) rfl dX11_digest_35 ?_
  refine lv_iload_n hx hb dX11_digest_38 rfl (lv_at hl 0 rfl) ?_
  refine g_iald (N := 64) (g := (up2 S 18 0 0) 17) hx hb hK hP (lt_hn (by decide) (by decide)) rfl (vp_in_lit (by decide)) dX11_digest_39 ?_
  refine lv_i2l hx hb dX11_digest_40 rfl ?_
  refine lv_ladd hx hb dX11_digest_41 ?_
  refine W.eq (g2 := F0 m 42 ls [.long (vX11_digest_3 S)]) rfl ?_
  refine lv_lstore_n (lv' := [(1, .long (vX11_digest_3 S)), (3, .int 4), (0, .ref (a 18))]) hx hb dX11_digest_42 rfl hl (by decide) rfl (fun ls hl => ?_)
  refine lv_iinc (v := 5) (lv' := [(3, .int 5), (1, .long (vX11_digest_3 S)), (0, .ref (a 18))]) hx hb dX11_digest_43 hl (k := 1) rfl (by decide) (by decide) rfl (fun ls hl => ?_)
  refine lv_goto (tgt := 20) hx hb dX11_digest_46 (by decide) ?_
  refine lv_iload_n hx hb dX11_digest_20 rfl (lv_at hl 0 rfl) ?_
  refine lv_bipush (v := 8) hx hb dX11_digest_21 (by decide) ?_
  refine lv_icmp_ge (tgt := 49) hx hb dX11_digest_23 (by decide) (fun c => absurd c (by decide)) (fun _ => ?_)
  refine lv_lload_n hx hb dX11_digest_26 rfl (lv_at hl 1 rfl) ?_
  refine lv_ldc2 (v := 31) hx hb hown (hts (.constantLong RX11 202 31) (by decide +kernel)) dX11_digest_27 ?_
  refine lv_lmul hx hb dX11_digest_30 ?_
  refine lv_aload_n hx hb dX11_digest_31 rfl (lv_at hl 2 rfl) ?_
  refine g_get (ci := 11) (C := RX11) (T := TX11) (N := 2) (v := .ref (a 0)) hx hb hts iX11_digest_X11 hown hK hP (by decide) cD_Mo rfl 1 (by decide) rfl (by decide +kernel) rfl dX11_digest_32 ?_
  refine g_get (ci := 10) (C := RX10) (T := TX10) (N := 35) (v := .ref (a 17)) hx hb hts iX11_digest_X10 hown hK hP (lt_hn (by decide) (by decide)) cD_D rfl 29 (by decide) rfl (by decide +kernel) rfl dX11_digest_35 ?_
  refine lv_iload_n hx hb dX11_digest_38 rfl (lv_at hl 0 rfl) ?_
  refine g_iald (N := 64) (g := (up2 S 18 0 0) 17) hx hb hK hP (lt_hn (by decide) (by decide)) rfl (vp_in_lit (by decide)) dX11_digest_39 ?_
  refine lv_i2l hx hb dX11_digest_40 rfl ?_
  refine lv_ladd hx hb dX11_digest_41 ?_
  refine lv_lstore_n (lv' := [(1, .long (((vX11_digest_3 S) * 31) + (((up2 S 18 0 0) 17 (5 : Int32).toNatClampNeg).toInt64))), (3, .int 5), (0, .ref (a 18))]) hx hb dX11_digest_42 rfl hl (by decide) rfl (fun ls hl => ?_)
  refine lv_iinc (v := 6) (lv' := [(3, .int 6), (1, .long (((vX11_digest_3 S) * 31) + (((up2 S 18 0 0) 17 (5 : Int32).toNatClampNeg).toInt64))), (0, .ref (a 18))]) hx hb dX11_digest_43 hl (k := 1) rfl (by decide) (by decide) rfl (fun ls hl => ?_)
  refine lv_goto (tgt := 20) hx hb dX11_digest_46 (by decide) ?_
  refine lv_iload_n hx hb dX11_digest_20 rfl (lv_at hl 0 rfl) ?_
  refine lv_bipush (v := 8) hx hb dX11_digest_21 (by decide) ?_
  refine lv_icmp_ge (tgt := 49) hx hb dX11_digest_23 (by decide) (fun c => absurd c (by decide)) (fun _ => ?_)
  refine lv_lload_n hx hb dX11_digest_26 rfl (lv_at hl 1 rfl) ?_
  refine lv_ldc2 (v := 31) hx hb hown (hts (.constantLong RX11 202 31) (by decide +kernel)) dX11_digest_27 ?_
  refine lv_lmul hx hb dX11_digest_30 ?_
  refine lv_aload_n hx hb dX11_digest_31 rfl (lv_at hl 2 rfl) ?_
  refine g_get (ci := 11) (C := RX11) (T := TX11) (N := 2) (v := .ref (a 0)) hx hb hts iX11_digest_X11 hown hK hP (by decide) cD_Mo rfl 1 (by decide) rfl (by decide +kernel) rfl dX11_digest_32 ?_
  refine g_get (ci := 10) (C := RX10) (T := TX10) (N := 35) (v := .ref (a 17)) hx hb hts iX11_digest_X10 hown hK hP (lt_hn (by decide) (by decide)) cD_D rfl 29 (by decide) rfl (by decide +kernel) rfl dX11_digest_35 ?_
  refine lv_iload_n hx hb dX11_digest_38 rfl (lv_at hl 0 rfl) ?_
  refine g_iald (N := 64) (g := (up2 S 18 0 0) 17) hx hb hK hP (lt_hn (by decide) (by decide)) rfl (vp_in_lit (by decide)) dX11_digest_39 ?_
  refine lv_i2l hx hb dX11_digest_40 rfl ?_
  refine lv_ladd hx hb dX11_digest_41 ?_
  refine W.eq (g2 := F0 m 42 ls [.long (vX11_digest_4 S)]) rfl ?_
  refine lv_lstore_n (lv' := [(1, .long (vX11_digest_4 S)), (3, .int 6), (0, .ref (a 18))]) hx hb dX11_digest_42 rfl hl (by decide) rfl (fun ls hl => ?_)
  refine lv_iinc (v := 7) (lv' := [(3, .int 7), (1, .long (vX11_digest_4 S)), (0, .ref (a 18))]) hx hb dX11_digest_43 hl (k := 1) rfl (by decide) (by decide) rfl (fun ls hl => ?_)
  refine lv_goto (tgt := 20) hx hb dX11_digest_46 (by decide) ?_
  refine lv_iload_n hx hb dX11_digest_20 rfl (lv_at hl 0 rfl) ?_
  refine lv_bipush (v := 8) hx hb dX11_digest_21 (by decide) ?_
  refine lv_icmp_ge (tgt := 49) hx hb dX11_digest_23 (by decide) (fun c => absurd c (by decide)) (fun _ => ?_)
  refine lv_lload_n hx hb dX11_digest_26 rfl (lv_at hl 1 rfl) ?_
  refine lv_ldc2 (v := 31) hx hb hown (hts (.constantLong RX11 202 31) (by decide +kernel)) dX11_digest_27 ?_
  refine lv_lmul hx hb dX11_digest_30 ?_
  refine lv_aload_n hx hb dX11_digest_31 rfl (lv_at hl 2 rfl) ?_
  refine g_get (ci := 11) (C := RX11) (T := TX11) (N := 2) (v := .ref (a 0)) hx hb hts iX11_digest_X11 hown hK hP (by decide) cD_Mo rfl 1 (by decide) rfl (by decide +kernel) rfl dX11_digest_32 ?_
  refine g_get (ci := 10) (C := RX10) (T := TX10) (N := 35) (v := .ref (a 17)) hx hb hts iX11_digest_X10 hown hK hP (lt_hn (by decide) (by decide)) cD_D rfl 29 (by decide) rfl (by decide +kernel) rfl dX11_digest_35 ?_
  refine lv_iload_n hx hb dX11_digest_38 rfl (lv_at hl 0 rfl) ?_
  refine g_iald (N := 64) (g := (up2 S 18 0 0) 17) hx hb hK hP (lt_hn (by decide) (by decide)) rfl (vp_in_lit (by decide)) dX11_digest_39 ?_
  refine lv_i2l hx hb dX11_digest_40 rfl ?_
  refine lv_ladd hx hb dX11_digest_41 ?_
  refine lv_lstore_n (lv' := [(1, .long (((vX11_digest_4 S) * 31) + (((up2 S 18 0 0) 17 (7 : Int32).toNatClampNeg).toInt64))), (3, .int 7), (0, .ref (a 18))]) hx hb dX11_digest_42 rfl hl (by decide) rfl (fun ls hl => ?_)
  refine lv_iinc (v := 8) (lv' := [(3, .int 8), (1, .long (((vX11_digest_4 S) * 31) + (((up2 S 18 0 0) 17 (7 : Int32).toNatClampNeg).toInt64))), (0, .ref (a 18))]) hx hb dX11_digest_43 hl (k := 1) rfl (by decide) (by decide) rfl (fun ls hl => ?_)
  refine lv_goto (tgt := 20) hx hb dX11_digest_46 (by decide) ?_
  refine lv_iload_n hx hb dX11_digest_20 rfl (lv_at hl 0 rfl) ?_
  refine lv_bipush (v := 8) hx hb dX11_digest_21 (by decide) ?_
  refine lv_icmp_ge (tgt := 49) hx hb dX11_digest_23 (by decide) (fun _ => ?_) (fun c => absurd c (by decide))
  refine lv_lload_n hx hb dX11_digest_49 rfl (lv_at hl 1 rfl) ?_
  refine lv_ldc2 (v := 31) hx hb hown (hts (.constantLong RX11 202 31) (by decide +kernel)) dX11_digest_50 ?_
  refine lv_lmul hx hb dX11_digest_53 ?_
  refine lv_aload_n hx hb dX11_digest_54 rfl (lv_at hl 2 rfl) ?_
  refine g_get (ci := 11) (C := RX11) (T := TX11) (N := 2) (v := .ref (a 0)) hx hb hts iX11_digest_X11 hown hK hP (by decide) cD_Mo rfl 1 (by decide) rfl (by decide +kernel) rfl dX11_digest_55 ?_
  refine g_get (ci := 10) (C := RX10) (T := TX10) (N := 35) (v := .int ((up2 S 18 0 0) 0 31)) hx hb hts iX11_digest_X10 hown hK hP (lt_hn (by decide) (by decide)) cD_D rfl 31 (by decide) rfl (by decide +kernel) rfl dX11_digest_58 ?_
  refine lv_i2l hx hb dX11_digest_61 rfl ?_
  refine lv_ladd hx hb dX11_digest_62 ?_
  refine W.eq (g2 := F0 m 63 ls [.long (vX11_digest_5 S)]) rfl ?_
  refine lv_ldc2 (v := 31) hx hb hown (hts (.constantLong RX11 202 31) (by decide +kernel)) dX11_digest_63 ?_
  refine lv_lmul hx hb dX11_digest_66 ?_
  refine lv_aload_n hx hb dX11_digest_67 rfl (lv_at hl 2 rfl) ?_
  refine g_get (ci := 11) (C := RX11) (T := TX11) (N := 2) (v := .ref (a 0)) hx hb hts iX11_digest_X11 hown hK hP (by decide) cD_Mo rfl 1 (by decide) rfl (by decide +kernel) rfl dX11_digest_68 ?_
  refine g_get (ci := 10) (C := RX10) (T := TX10) (N := 35) (v := .int ((up2 S 18 0 0) 0 32)) hx hb hts iX11_digest_X10 hown hK hP (lt_hn (by decide) (by decide)) cD_D rfl 32 (by decide) rfl (by decide +kernel) rfl dX11_digest_71 ?_
  refine lv_i2l hx hb dX11_digest_74 rfl ?_
  refine lv_ladd hx hb dX11_digest_75 ?_
  refine lv_ldc2 (v := 31) hx hb hown (hts (.constantLong RX11 202 31) (by decide +kernel)) dX11_digest_76 ?_
  refine lv_lmul hx hb dX11_digest_79 ?_
  refine lv_aload_n hx hb dX11_digest_80 rfl (lv_at hl 2 rfl) ?_
  refine g_get (ci := 11) (C := RX11) (T := TX11) (N := 2) (v := .ref (a 0)) hx hb hts iX11_digest_X11 hown hK hP (by decide) cD_Mo rfl 1 (by decide) rfl (by decide +kernel) rfl dX11_digest_81 ?_
  refine g_get (ci := 10) (C := RX10) (T := TX10) (N := 35) (v := .int ((up2 S 18 0 0) 0 33)) hx hb hts iX11_digest_X10 hown hK hP (lt_hn (by decide) (by decide)) cD_D rfl 33 (by decide) rfl (by decide +kernel) rfl dX11_digest_84 ?_
  refine lv_i2l hx hb dX11_digest_87 rfl ?_
  refine lv_ladd hx hb dX11_digest_88 ?_
  refine W.eq (g2 := F0 m 89 ls [.long (vX11_digest_6 S)]) rfl ?_
  refine lv_ldc2 (v := 31) hx hb hown (hts (.constantLong RX11 202 31) (by decide +kernel)) dX11_digest_89 ?_
  refine lv_lmul hx hb dX11_digest_92 ?_
  refine lv_aload_n hx hb dX11_digest_93 rfl (lv_at hl 2 rfl) ?_
  refine g_get (ci := 11) (C := RX11) (T := TX11) (N := 2) (v := .ref (a 0)) hx hb hts iX11_digest_X11 hown hK hP (by decide) cD_Mo rfl 1 (by decide) rfl (by decide +kernel) rfl dX11_digest_94 ?_
  refine g_cVi (As := []) (rest := [.long ((vX11_digest_6 S) * 31)]) ⟨hx, hb, hml, hown, hts⟩ (c_X10_sounding l G cA zq 19 (by decide) a ha (up2 S 18 0 0) L H.size   ) (cwV 0 hts gX11_digest_X10_sounding rfl rfl rfl (by decide +kernel) ⟨Nat.le_of_ble_eq_true rfl, Nat.le_of_ble_eq_true rfl⟩) (g_recv hK hP (lt_hn (by decide) (by decide)) cD_D (C := RX10) (T := TX10) (N := 35) rfl) hK (mA_mono hS.1) hP hS rfl hl.1 rfl (lv_room (Nat.le_of_ble_eq_true rfl)) dX11_digest_97 ⟨Nat.le_of_ble_eq_true rfl, Nat.le_of_ble_eq_true rfl⟩ (fun H locs hP hS _ _ => ?_)
  refine lv_i2l hx hb dX11_digest_100 rfl ?_
  refine lv_ladd hx hb dX11_digest_101 ?_
  refine lv_lstore_n (lv' := [(1, .long (((vX11_digest_6 S) * 31) + ((rX10_sounding (up2 S 18 0 0)).toInt64))), (3, .int 8), (0, .ref (a 18))]) hx hb dX11_digest_102 rfl hl (by decide) rfl (fun ls hl => ?_)
  refine lv_lload_n hx hb dX11_digest_103 rfl (lv_at hl 0 rfl) ?_
  refine lv_ldc2 (v := 31) hx hb hown (hts (.constantLong RX11 202 31) (by decide +kernel)) dX11_digest_104 ?_
  refine lv_lmul hx hb dX11_digest_107 ?_
  refine lv_aload_n hx hb dX11_digest_108 rfl (lv_at hl 2 rfl) ?_
  refine g_get (ci := 11) (C := RX11) (T := TX11) (N := 2) (v := .ref (a 0)) hx hb hts iX11_digest_X11 hown hK hP (by decide) cD_Mo rfl 1 (by decide) rfl (by decide +kernel) rfl dX11_digest_109 ?_
  refine g_get (ci := 10) (C := RX10) (T := TX10) (N := 35) (v := .int ((up2 S 18 0 0) 0 14)) hx hb hts iX11_digest_X10 hown hK hP (lt_hn (by decide) (by decide)) cD_D rfl 14 (by decide) rfl (by decide +kernel) rfl dX11_digest_112 ?_
  refine lv_i2l hx hb dX11_digest_115 rfl ?_
  refine lv_ladd hx hb dX11_digest_116 ?_
  refine W.eq (g2 := F0 m 117 ls [.long (vX11_digest_7 S)]) rfl ?_
  refine lv_ldc2 (v := 31) hx hb hown (hts (.constantLong RX11 202 31) (by decide +kernel)) dX11_digest_117 ?_
  refine lv_lmul hx hb dX11_digest_120 ?_
  refine lv_aload_n hx hb dX11_digest_121 rfl (lv_at hl 2 rfl) ?_
  refine g_get (ci := 11) (C := RX11) (T := TX11) (N := 2) (v := .ref (a 0)) hx hb hts iX11_digest_X11 hown hK hP (by decide) cD_Mo rfl 1 (by decide) rfl (by decide +kernel) rfl dX11_digest_122 ?_
  refine g_get (ci := 10) (C := RX10) (T := TX10) (N := 35) (v := .int ((up2 S 18 0 0) 0 24)) hx hb hts iX11_digest_X10 hown hK hP (lt_hn (by decide) (by decide)) cD_D rfl 24 (by decide) rfl (by decide +kernel) rfl dX11_digest_125 ?_
  have hj2 : ∀ (zy0_hj2 : Int32) (H : Heap) (locs : List Loc) (ls : Array Slot), zy0_hj2 = (jX11_digest_8 S) → va_P G vwCl (wG 19 a (cD a cA) (up2 S 18 0 0) L) H → va_S (mA 19 a s.heap.size) s.heap H locs → lv_has ls 7 [(1, .long (((vX11_digest_6 S) * 31) + ((rX10_sounding (up2 S 18 0 0)).toInt64))), (3, .int 8), (0, .ref (a 18))] → W p l e ({ frames := 1, cells := 0, slots := 0, locals := 22 } : Room) s m ([.ref (a 18)] : List Value).toArray below meth c H locs 0 0 (MQ below (gQl (rX11_digest S) G 19 a (cD a cA) (fX11_digest S) L s.heap.size) ([.ref (a 18)] : List Value).toArray s 0 0 (mA 19 a s.heap.size)) (F0 m 136 ls [.int zy0_hj2, .long ((vX11_digest_7 S) * 31)]) := by
    intro zy0_hj2 H locs ls ezy0_hj2 hP hS hl
    rw [ezy0_hj2]
    refine lv_i2l hx hb dX11_digest_136 rfl ?_
    refine lv_ladd hx hb dX11_digest_137 ?_
    refine lv_ldc2 (v := 31) hx hb hown (hts (.constantLong RX11 202 31) (by decide +kernel)) dX11_digest_138 ?_
    refine lv_lmul hx hb dX11_digest_141 ?_
    refine lv_aload_n hx hb dX11_digest_142 rfl (lv_at hl 2 rfl) ?_
    refine g_cVi (As := []) (rest := [.long ((((vX11_digest_7 S) * 31) + ((jX11_digest_8 S).toInt64)) * 31)]) ⟨hx, hb, hml, hown, hts⟩ (c_X11_stepNow l G cA zq a ha (up2 S 18 0 0) L H.size   ) (cwV 0 hts gX11_digest_X11_stepNow rfl rfl rfl (by decide +kernel) ⟨Nat.le_of_ble_eq_true rfl, Nat.le_of_ble_eq_true rfl⟩) (g_recv hK hP (by decide) cD_Mo (C := RX11) (T := TX11) (N := 2) rfl) hK (mA_mono hS.1) hP hS rfl hl.1 rfl (lv_room (Nat.le_of_ble_eq_true rfl)) dX11_digest_143 ⟨Nat.le_of_ble_eq_true rfl, Nat.le_of_ble_eq_true rfl⟩ (fun H locs hP hS _ _ => ?_)
    refine lv_i2l hx hb dX11_digest_146 rfl ?_
    refine lv_ladd hx hb dX11_digest_147 ?_
    refine W.eq (g2 := F0 m 148 ls [.long (vX11_digest_9 S)]) rfl ?_
    refine lv_ldc2 (v := 31) hx hb hown (hts (.constantLong RX11 202 31) (by decide +kernel)) dX11_digest_148 ?_
    refine lv_lmul hx hb dX11_digest_151 ?_
    refine lv_aload_n hx hb dX11_digest_152 rfl (lv_at hl 2 rfl) ?_
    refine g_get (ci := 11) (C := RX11) (T := TX11) (N := 2) (v := .ref (a 0)) hx hb hts iX11_digest_X11 hown hK hP (by decide) cD_Mo rfl 1 (by decide) rfl (by decide +kernel) rfl dX11_digest_153 ?_
    refine g_cVi (As := []) (rest := [.long ((vX11_digest_9 S) * 31)]) ⟨hx, hb, hml, hown, hts⟩ (c1_X10_nextVoice l G cA zq 19 (by decide) a ha (up2 S 18 0 0) L H.size   ) (cwV 0 hts gX11_digest_X10_nextVoice rfl rfl rfl (by decide +kernel) ⟨Nat.le_of_ble_eq_true rfl, Nat.le_of_ble_eq_true rfl⟩) (g_recv hK hP (lt_hn (by decide) (by decide)) cD_D (C := RX10) (T := TX10) (N := 35) rfl) hK (mA_mono hS.1) hP hS rfl hl.1 rfl (lv_room (Nat.le_of_ble_eq_true rfl)) dX11_digest_156 ⟨Nat.le_of_ble_eq_true rfl, Nat.le_of_ble_eq_true rfl⟩ (fun H locs hP hS _ _ => ?_)
    refine lv_i2l hx hb dX11_digest_159 rfl ?_
    refine lv_ladd hx hb dX11_digest_160 ?_
    refine lv_lstore_n (lv' := [(1, .long (((vX11_digest_9 S) * 31) + ((rX10_nextVoice (up2 S 18 0 0)).toInt64))), (3, .int 8), (0, .ref (a 18))]) hx hb dX11_digest_161 rfl hl (by decide) rfl (fun ls hl => ?_)
    refine lv_iconst (v := 0) hx hb dX11_digest_162 (by decide) ?_
    refine lv_istore_n (lv' := [(3, .int 0), (1, .long (((vX11_digest_9 S) * 31) + ((rX10_nextVoice (up2 S 18 0 0)).toInt64))), (0, .ref (a 18))]) hx hb dX11_digest_163 rfl hl (by decide) rfl (fun ls hl => ?_)
    refine lv_iload_n hx hb dX11_digest_164 rfl (lv_at hl 0 rfl) ?_
    refine lv_iconst (v := 4) hx hb dX11_digest_165 (by decide) ?_
    refine lv_icmp_ge (tgt := 206) hx hb dX11_digest_166 (by decide) (fun c => absurd c (by decide)) (fun _ => ?_)
    refine lv_iconst (v := 0) hx hb dX11_digest_169 (by decide) ?_
    refine lv_istore (lv' := [(4, .int 0), (3, .int 0), (1, .long (((vX11_digest_9 S) * 31) + ((rX10_nextVoice (up2 S 18 0 0)).toInt64))), (0, .ref (a 18))]) hx hb dX11_digest_170 hl (by decide) rfl (fun ls hl => ?_)
    refine lv_iload hx hb dX11_digest_172 (lv_at hl 0 rfl) ?_
    refine lv_bipush (v := 10) hx hb dX11_digest_174 (by decide) ?_
    refine lv_icmp_ge (tgt := 200) hx hb dX11_digest_176 (by decide) (fun c => absurd c (by decide)) (fun _ => ?_)
    refine lv_lload_n hx hb dX11_digest_179 rfl (lv_at hl 2 rfl) ?_
    refine lv_ldc2 (v := 31) hx hb hown (hts (.constantLong RX11 202 31) (by decide +kernel)) dX11_digest_180 ?_
    refine lv_lmul hx hb dX11_digest_183 ?_
    refine lv_aload_n hx hb dX11_digest_184 rfl (lv_at hl 3 rfl) ?_
    refine lv_iload_n hx hb dX11_digest_185 rfl (lv_at hl 1 rfl) ?_
    refine lv_iload hx hb dX11_digest_186 (lv_at hl 0 rfl) ?_
    refine g_cVi (As := [.int 0, .int 0]) (rest := [.long ((((vX11_digest_9 S) * 31) + ((rX10_nextVoice (up2 S 18 0 0)).toInt64)) * 31)]) ⟨hx, hb, hml, hown, hts⟩ (c_X11_voiceNow l G cA zq a ha (up2 S 18 0 0) L H.size (0 : Int32) (0 : Int32)  (vp_in_lit (by decide))) (cwV 2 hts gX11_digest_X11_voiceNow rfl rfl rfl (by decide +kernel) ⟨Nat.le_of_ble_eq_true rfl, Nat.le_of_ble_eq_true rfl⟩) (g_recv hK hP (by decide) cD_Mo (C := RX11) (T := TX11) (N := 2) rfl) hK (mA_mono hS.1) hP hS rfl hl.1 rfl (lv_room (Nat.le_of_ble_eq_true rfl)) dX11_digest_188 ⟨Nat.le_of_ble_eq_true rfl, Nat.le_of_ble_eq_true rfl⟩ (fun H locs hP hS _ _ => ?_)
    refine lv_i2l hx hb dX11_digest_191 rfl ?_
    refine lv_ladd hx hb dX11_digest_192 ?_
    refine W.eq (g2 := F0 m 193 ls [.long (vX11_digest_10 S)]) rfl ?_
    refine lv_lstore_n (lv' := [(1, .long (vX11_digest_10 S)), (4, .int 0), (3, .int 0), (0, .ref (a 18))]) hx hb dX11_digest_193 rfl hl (by decide) rfl (fun ls hl => ?_)
    refine lv_iinc (v := 1) (lv' := [(4, .int 1), (1, .long (vX11_digest_10 S)), (3, .int 0), (0, .ref (a 18))]) hx hb dX11_digest_194 hl (k := 1) rfl (by decide) (by decide) rfl (fun ls hl => ?_)
    refine lv_goto (tgt := 172) hx hb dX11_digest_197 (by decide) ?_
    refine lv_iload hx hb dX11_digest_172 (lv_at hl 0 rfl) ?_
    refine lv_bipush (v := 10) hx hb dX11_digest_174 (by decide) ?_
    refine lv_icmp_ge (tgt := 200) hx hb dX11_digest_176 (by decide) (fun c => absurd c (by decide)) (fun _ => ?_)
    refine lv_lload_n hx hb dX11_digest_179 rfl (lv_at hl 1 rfl) ?_
    refine lv_ldc2 (v := 31) hx hb hown (hts (.constantLong RX11 202 31) (by decide +kernel)) dX11_digest_180 ?_
    refine lv_lmul hx hb dX11_digest_183 ?_
    refine lv_aload_n hx hb dX11_digest_184 rfl (lv_at hl 3 rfl) ?_
    refine lv_iload_n hx hb dX11_digest_185 rfl (lv_at hl 2 rfl) ?_
    refine lv_iload hx hb dX11_digest_186 (lv_at hl 0 rfl) ?_
    refine g_cVi (As := [.int 0, .int 1]) (rest := [.long ((vX11_digest_10 S) * 31)]) ⟨hx, hb, hml, hown, hts⟩ (c_X11_voiceNow l G cA zq a ha (up2 S 18 0 0) L H.size (0 : Int32) (1 : Int32)  (vp_in_lit (by decide))) (cwV 2 hts gX11_digest_X11_voiceNow rfl rfl rfl (by decide +kernel) ⟨Nat.le_of_ble_eq_true rfl, Nat.le_of_ble_eq_true rfl⟩) (g_recv hK hP (by decide) cD_Mo (C := RX11) (T := TX11) (N := 2) rfl) hK (mA_mono hS.1) hP hS rfl hl.1 rfl (lv_room (Nat.le_of_ble_eq_true rfl)) dX11_digest_188 ⟨Nat.le_of_ble_eq_true rfl, Nat.le_of_ble_eq_true rfl⟩ (fun H locs hP hS _ _ => ?_)
    refine lv_i2l hx hb dX11_digest_191 rfl ?_
    refine lv_ladd hx hb dX11_digest_192 ?_
    refine lv_lstore_n (lv' := [(1, .long (((vX11_digest_10 S) * 31) + ((rX11_voiceNow (up2 S 18 0 0) (0 : Int32) (1 : Int32)).toInt64))), (4, .int 1), (3, .int 0), (0, .ref (a 18))]) hx hb dX11_digest_193 rfl hl (by decide) rfl (fun ls hl => ?_)
    refine lv_iinc (v := 2) (lv' := [(4, .int 2), (1, .long (((vX11_digest_10 S) * 31) + ((rX11_voiceNow (up2 S 18 0 0) (0 : Int32) (1 : Int32)).toInt64))), (3, .int 0), (0, .ref (a 18))]) hx hb dX11_digest_194 hl (k := 1) rfl (by decide) (by decide) rfl (fun ls hl => ?_)
    refine lv_goto (tgt := 172) hx hb dX11_digest_197 (by decide) ?_
    refine lv_iload hx hb dX11_digest_172 (lv_at hl 0 rfl) ?_
    refine lv_bipush (v := 10) hx hb dX11_digest_174 (by decide) ?_
    refine lv_icmp_ge (tgt := 200) hx hb dX11_digest_176 (by decide) (fun c => absurd c (by decide)) (fun _ => ?_)
    refine lv_lload_n hx hb dX11_digest_179 rfl (lv_at hl 1 rfl) ?_
    refine lv_ldc2 (v := 31) hx hb hown (hts (.constantLong RX11 202 31) (by decide +kernel)) dX11_digest_180 ?_
    refine lv_lmul hx hb dX11_digest_183 ?_
    refine lv_aload_n hx hb dX11_digest_184 rfl (lv_at hl 3 rfl) ?_
    refine lv_iload_n hx hb dX11_digest_185 rfl (lv_at hl 2 rfl) ?_
    refine lv_iload hx hb dX11_digest_186 (lv_at hl 0 rfl) ?_
    refine g_cVi (As := [.int 0, .int 2]) (rest := [.long ((((vX11_digest_10 S) * 31) + ((rX11_voiceNow (up2 S 18 0 0) (0 : Int32) (1 : Int32)).toInt64)) * 31)]) ⟨hx, hb, hml, hown, hts⟩ (c_X11_voiceNow l G cA zq a ha (up2 S 18 0 0) L H.size (0 : Int32) (2 : Int32)  (vp_in_lit (by decide))) (cwV 2 hts gX11_digest_X11_voiceNow rfl rfl rfl (by decide +kernel) ⟨Nat.le_of_ble_eq_true rfl, Nat.le_of_ble_eq_true rfl⟩) (g_recv hK hP (by decide) cD_Mo (C := RX11) (T := TX11) (N := 2) rfl) hK (mA_mono hS.1) hP hS rfl hl.1 rfl (lv_room (Nat.le_of_ble_eq_true rfl)) dX11_digest_188 ⟨Nat.le_of_ble_eq_true rfl, Nat.le_of_ble_eq_true rfl⟩ (fun H locs hP hS _ _ => ?_)
    refine lv_i2l hx hb dX11_digest_191 rfl ?_
    refine lv_ladd hx hb dX11_digest_192 ?_
    refine W.eq (g2 := F0 m 193 ls [.long (vX11_digest_11 S)]) rfl ?_
    refine lv_lstore_n (lv' := [(1, .long (vX11_digest_11 S)), (4, .int 2), (3, .int 0), (0, .ref (a 18))]) hx hb dX11_digest_193 rfl hl (by decide) rfl (fun ls hl => ?_)
    refine lv_iinc (v := 3) (lv' := [(4, .int 3), (1, .long (vX11_digest_11 S)), (3, .int 0), (0, .ref (a 18))]) hx hb dX11_digest_194 hl (k := 1) rfl (by decide) (by decide) rfl (fun ls hl => ?_)
    refine lv_goto (tgt := 172) hx hb dX11_digest_197 (by decide) ?_
    refine lv_iload hx hb dX11_digest_172 (lv_at hl 0 rfl) ?_
    refine lv_bipush (v := 10) hx hb dX11_digest_174 (by decide) ?_
    refine lv_icmp_ge (tgt := 200) hx hb dX11_digest_176 (by decide) (fun c => absurd c (by decide)) (fun _ => ?_)
    refine lv_lload_n hx hb dX11_digest_179 rfl (lv_at hl 1 rfl) ?_
    refine lv_ldc2 (v := 31) hx hb hown (hts (.constantLong RX11 202 31) (by decide +kernel)) dX11_digest_180 ?_
    refine lv_lmul hx hb dX11_digest_183 ?_
    refine lv_aload_n hx hb dX11_digest_184 rfl (lv_at hl 3 rfl) ?_
    refine lv_iload_n hx hb dX11_digest_185 rfl (lv_at hl 2 rfl) ?_
    refine lv_iload hx hb dX11_digest_186 (lv_at hl 0 rfl) ?_
    refine g_cVi (As := [.int 0, .int 3]) (rest := [.long ((vX11_digest_11 S) * 31)]) ⟨hx, hb, hml, hown, hts⟩ (c_X11_voiceNow l G cA zq a ha (up2 S 18 0 0) L H.size (0 : Int32) (3 : Int32)  (vp_in_lit (by decide))) (cwV 2 hts gX11_digest_X11_voiceNow rfl rfl rfl (by decide +kernel) ⟨Nat.le_of_ble_eq_true rfl, Nat.le_of_ble_eq_true rfl⟩) (g_recv hK hP (by decide) cD_Mo (C := RX11) (T := TX11) (N := 2) rfl) hK (mA_mono hS.1) hP hS rfl hl.1 rfl (lv_room (Nat.le_of_ble_eq_true rfl)) dX11_digest_188 ⟨Nat.le_of_ble_eq_true rfl, Nat.le_of_ble_eq_true rfl⟩ (fun H locs hP hS _ _ => ?_)
    refine lv_i2l hx hb dX11_digest_191 rfl ?_
    refine lv_ladd hx hb dX11_digest_192 ?_
    refine lv_lstore_n (lv' := [(1, .long (((vX11_digest_11 S) * 31) + ((rX11_voiceNow (up2 S 18 0 0) (0 : Int32) (3 : Int32)).toInt64))), (4, .int 3), (3, .int 0), (0, .ref (a 18))]) hx hb dX11_digest_193 rfl hl (by decide) rfl (fun ls hl => ?_)
    refine lv_iinc (v := 4) (lv' := [(4, .int 4), (1, .long (((vX11_digest_11 S) * 31) + ((rX11_voiceNow (up2 S 18 0 0) (0 : Int32) (3 : Int32)).toInt64))), (3, .int 0), (0, .ref (a 18))]) hx hb dX11_digest_194 hl (k := 1) rfl (by decide) (by decide) rfl (fun ls hl => ?_)
    refine lv_goto (tgt := 172) hx hb dX11_digest_197 (by decide) ?_
    refine lv_iload hx hb dX11_digest_172 (lv_at hl 0 rfl) ?_
    refine lv_bipush (v := 10) hx hb dX11_digest_174 (by decide) ?_
    refine lv_icmp_ge (tgt := 200) hx hb dX11_digest_176 (by decide) (fun c => absurd c (by decide)) (fun _ => ?_)
    refine lv_lload_n hx hb dX11_digest_179 rfl (lv_at hl 1 rfl) ?_
    refine lv_ldc2 (v := 31) hx hb hown (hts (.constantLong RX11 202 31) (by decide +kernel)) dX11_digest_180 ?_
    refine lv_lmul hx hb dX11_digest_183 ?_
    refine lv_aload_n hx hb dX11_digest_184 rfl (lv_at hl 3 rfl) ?_
    refine lv_iload_n hx hb dX11_digest_185 rfl (lv_at hl 2 rfl) ?_
    refine lv_iload hx hb dX11_digest_186 (lv_at hl 0 rfl) ?_
    refine g_cVi (As := [.int 0, .int 4]) (rest := [.long ((((vX11_digest_11 S) * 31) + ((rX11_voiceNow (up2 S 18 0 0) (0 : Int32) (3 : Int32)).toInt64)) * 31)]) ⟨hx, hb, hml, hown, hts⟩ (c_X11_voiceNow l G cA zq a ha (up2 S 18 0 0) L H.size (0 : Int32) (4 : Int32)  (vp_in_lit (by decide))) (cwV 2 hts gX11_digest_X11_voiceNow rfl rfl rfl (by decide +kernel) ⟨Nat.le_of_ble_eq_true rfl, Nat.le_of_ble_eq_true rfl⟩) (g_recv hK hP (by decide) cD_Mo (C := RX11) (T := TX11) (N := 2) rfl) hK (mA_mono hS.1) hP hS rfl hl.1 rfl (lv_room (Nat.le_of_ble_eq_true rfl)) dX11_digest_188 ⟨Nat.le_of_ble_eq_true rfl, Nat.le_of_ble_eq_true rfl⟩ (fun H locs hP hS _ _ => ?_)
    refine lv_i2l hx hb dX11_digest_191 rfl ?_
    refine lv_ladd hx hb dX11_digest_192 ?_
    refine W.eq (g2 := F0 m 193 ls [.long (vX11_digest_12 S)]) rfl ?_
    refine lv_lstore_n (lv' := [(1, .long (vX11_digest_12 S)), (4, .int 4), (3, .int 0), (0, .ref (a 18))]) hx hb dX11_digest_193 rfl hl (by decide) rfl (fun ls hl => ?_)
    refine lv_iinc (v := 5) (lv' := [(4, .int 5), (1, .long (vX11_digest_12 S)), (3, .int 0), (0, .ref (a 18))]) hx hb dX11_digest_194 hl (k := 1) rfl (by decide) (by decide) rfl (fun ls hl => ?_)
    refine lv_goto (tgt := 172) hx hb dX11_digest_197 (by decide) ?_
    refine lv_iload hx hb dX11_digest_172 (lv_at hl 0 rfl) ?_
    refine lv_bipush (v := 10) hx hb dX11_digest_174 (by decide) ?_
    refine lv_icmp_ge (tgt := 200) hx hb dX11_digest_176 (by decide) (fun c => absurd c (by decide)) (fun _ => ?_)
    refine lv_lload_n hx hb dX11_digest_179 rfl (lv_at hl 1 rfl) ?_
    refine lv_ldc2 (v := 31) hx hb hown (hts (.constantLong RX11 202 31) (by decide +kernel)) dX11_digest_180 ?_
    refine lv_lmul hx hb dX11_digest_183 ?_
    refine lv_aload_n hx hb dX11_digest_184 rfl (lv_at hl 3 rfl) ?_
    refine lv_iload_n hx hb dX11_digest_185 rfl (lv_at hl 2 rfl) ?_
    refine lv_iload hx hb dX11_digest_186 (lv_at hl 0 rfl) ?_
    refine g_cVi (As := [.int 0, .int 5]) (rest := [.long ((vX11_digest_12 S) * 31)]) ⟨hx, hb, hml, hown, hts⟩ (c_X11_voiceNow l G cA zq a ha (up2 S 18 0 0) L H.size (0 : Int32) (5 : Int32)  (vp_in_lit (by decide))) (cwV 2 hts gX11_digest_X11_voiceNow rfl rfl rfl (by decide +kernel) ⟨Nat.le_of_ble_eq_true rfl, Nat.le_of_ble_eq_true rfl⟩) (g_recv hK hP (by decide) cD_Mo (C := RX11) (T := TX11) (N := 2) rfl) hK (mA_mono hS.1) hP hS rfl hl.1 rfl (lv_room (Nat.le_of_ble_eq_true rfl)) dX11_digest_188 ⟨Nat.le_of_ble_eq_true rfl, Nat.le_of_ble_eq_true rfl⟩ (fun H locs hP hS _ _ => ?_)
    refine lv_i2l hx hb dX11_digest_191 rfl ?_
    refine lv_ladd hx hb dX11_digest_192 ?_
    refine lv_lstore_n (lv' := [(1, .long (((vX11_digest_12 S) * 31) + ((rX11_voiceNow (up2 S 18 0 0) (0 : Int32) (5 : Int32)).toInt64))), (4, .int 5), (3, .int 0), (0, .ref (a 18))]) hx hb dX11_digest_193 rfl hl (by decide) rfl (fun ls hl => ?_)
    refine lv_iinc (v := 6) (lv' := [(4, .int 6), (1, .long (((vX11_digest_12 S) * 31) + ((rX11_voiceNow (up2 S 18 0 0) (0 : Int32) (5 : Int32)).toInt64))), (3, .int 0), (0, .ref (a 18))]) hx hb dX11_digest_194 hl (k := 1) rfl (by decide) (by decide) rfl (fun ls hl => ?_)
    refine lv_goto (tgt := 172) hx hb dX11_digest_197 (by decide) ?_
    refine lv_iload hx hb dX11_digest_172 (lv_at hl 0 rfl) ?_
    refine lv_bipush (v := 10) hx hb dX11_digest_174 (by decide) ?_
    refine lv_icmp_ge (tgt := 200) hx hb dX11_digest_176 (by decide) (fun c => absurd c (by decide)) (fun _ => ?_)
    refine lv_lload_n hx hb dX11_digest_179 rfl (lv_at hl 1 rfl) ?_
    refine lv_ldc2 (v := 31) hx hb hown (hts (.constantLong RX11 202 31) (by decide +kernel)) dX11_digest_180 ?_
    refine lv_lmul hx hb dX11_digest_183 ?_
    refine lv_aload_n hx hb dX11_digest_184 rfl (lv_at hl 3 rfl) ?_
    refine lv_iload_n hx hb dX11_digest_185 rfl (lv_at hl 2 rfl) ?_
    refine lv_iload hx hb dX11_digest_186 (lv_at hl 0 rfl) ?_
    refine g_cVi (As := [.int 0, .int 6]) (rest := [.long ((((vX11_digest_12 S) * 31) + ((rX11_voiceNow (up2 S 18 0 0) (0 : Int32) (5 : Int32)).toInt64)) * 31)]) ⟨hx, hb, hml, hown, hts⟩ (c_X11_voiceNow l G cA zq a ha (up2 S 18 0 0) L H.size (0 : Int32) (6 : Int32)  (vp_in_lit (by decide))) (cwV 2 hts gX11_digest_X11_voiceNow rfl rfl rfl (by decide +kernel) ⟨Nat.le_of_ble_eq_true rfl, Nat.le_of_ble_eq_true rfl⟩) (g_recv hK hP (by decide) cD_Mo (C := RX11) (T := TX11) (N := 2) rfl) hK (mA_mono hS.1) hP hS rfl hl.1 rfl (lv_room (Nat.le_of_ble_eq_true rfl)) dX11_digest_188 ⟨Nat.le_of_ble_eq_true rfl, Nat.le_of_ble_eq_true rfl⟩ (fun H locs hP hS _ _ => ?_)
    refine lv_i2l hx hb dX11_digest_191 rfl ?_
    refine lv_ladd hx hb dX11_digest_192 ?_
    refine W.eq (g2 := F0 m 193 ls [.long (vX11_digest_13 S)]) rfl ?_
    refine lv_lstore_n (lv' := [(1, .long (vX11_digest_13 S)), (4, .int 6), (3, .int 0), (0, .ref (a 18))]) hx hb dX11_digest_193 rfl hl (by decide) rfl (fun ls hl => ?_)
    refine lv_iinc (v := 7) (lv' := [(4, .int 7), (1, .long (vX11_digest_13 S)), (3, .int 0), (0, .ref (a 18))]) hx hb dX11_digest_194 hl (k := 1) rfl (by decide) (by decide) rfl (fun ls hl => ?_)
    refine lv_goto (tgt := 172) hx hb dX11_digest_197 (by decide) ?_
    refine lv_iload hx hb dX11_digest_172 (lv_at hl 0 rfl) ?_
    refine lv_bipush (v := 10) hx hb dX11_digest_174 (by decide) ?_
    refine lv_icmp_ge (tgt := 200) hx hb dX11_digest_176 (by decide) (fun c => absurd c (by decide)) (fun _ => ?_)
    refine lv_lload_n hx hb dX11_digest_179 rfl (lv_at hl 1 rfl) ?_
    refine lv_ldc2 (v := 31) hx hb hown (hts (.constantLong RX11 202 31) (by decide +kernel)) dX11_digest_180 ?_
    refine lv_lmul hx hb dX11_digest_183 ?_
    refine lv_aload_n hx hb dX11_digest_184 rfl (lv_at hl 3 rfl) ?_
    refine lv_iload_n hx hb dX11_digest_185 rfl (lv_at hl 2 rfl) ?_
    refine lv_iload hx hb dX11_digest_186 (lv_at hl 0 rfl) ?_
    refine g_cVi (As := [.int 0, .int 7]) (rest := [.long ((vX11_digest_13 S) * 31)]) ⟨hx, hb, hml, hown, hts⟩ (c_X11_voiceNow l G cA zq a ha (up2 S 18 0 0) L H.size (0 : Int32) (7 : Int32)  (vp_in_lit (by decide))) (cwV 2 hts gX11_digest_X11_voiceNow rfl rfl rfl (by decide +kernel) ⟨Nat.le_of_ble_eq_true rfl, Nat.le_of_ble_eq_true rfl⟩) (g_recv hK hP (by decide) cD_Mo (C := RX11) (T := TX11) (N := 2) rfl) hK (mA_mono hS.1) hP hS rfl hl.1 rfl (lv_room (Nat.le_of_ble_eq_true rfl)) dX11_digest_188 ⟨Nat.le_of_ble_eq_true rfl, Nat.le_of_ble_eq_true rfl⟩ (fun H locs hP hS _ _ => ?_)
    refine lv_i2l hx hb dX11_digest_191 rfl ?_
    refine lv_ladd hx hb dX11_digest_192 ?_
    refine lv_lstore_n (lv' := [(1, .long (((vX11_digest_13 S) * 31) + ((rX11_voiceNow (up2 S 18 0 0) (0 : Int32) (7 : Int32)).toInt64))), (4, .int 7), (3, .int 0), (0, .ref (a 18))]) hx hb dX11_digest_193 rfl hl (by decide) rfl (fun ls hl => ?_)
    refine lv_iinc (v := 8) (lv' := [(4, .int 8), (1, .long (((vX11_digest_13 S) * 31) + ((rX11_voiceNow (up2 S 18 0 0) (0 : Int32) (7 : Int32)).toInt64))), (3, .int 0), (0, .ref (a 18))]) hx hb dX11_digest_194 hl (k := 1) rfl (by decide) (by decide) rfl (fun ls hl => ?_)
    refine lv_goto (tgt := 172) hx hb dX11_digest_197 (by decide) ?_
    refine lv_iload hx hb dX11_digest_172 (lv_at hl 0 rfl) ?_
    refine lv_bipush (v := 10) hx hb dX11_digest_174 (by decide) ?_
    refine lv_icmp_ge (tgt := 200) hx hb dX11_digest_176 (by decide) (fun c => absurd c (by decide)) (fun _ => ?_)
    refine lv_lload_n hx hb dX11_digest_179 rfl (lv_at hl 1 rfl) ?_
    refine lv_ldc2 (v := 31) hx hb hown (hts (.constantLong RX11 202 31) (by decide +kernel)) dX11_digest_180 ?_
    refine lv_lmul hx hb dX11_digest_183 ?_
    refine lv_aload_n hx hb dX11_digest_184 rfl (lv_at hl 3 rfl) ?_
    refine lv_iload_n hx hb dX11_digest_185 rfl (lv_at hl 2 rfl) ?_
    refine lv_iload hx hb dX11_digest_186 (lv_at hl 0 rfl) ?_
    refine g_cVi (As := [.int 0, .int 8]) (rest := [.long ((((vX11_digest_13 S) * 31) + ((rX11_voiceNow (up2 S 18 0 0) (0 : Int32) (7 : Int32)).toInt64)) * 31)]) ⟨hx, hb, hml, hown, hts⟩ (c_X11_voiceNow l G cA zq a ha (up2 S 18 0 0) L H.size (0 : Int32) (8 : Int32)  (vp_in_lit (by decide))) (cwV 2 hts gX11_digest_X11_voiceNow rfl rfl rfl (by decide +kernel) ⟨Nat.le_of_ble_eq_true rfl, Nat.le_of_ble_eq_true rfl⟩) (g_recv hK hP (by decide) cD_Mo (C := RX11) (T := TX11) (N := 2) rfl) hK (mA_mono hS.1) hP hS rfl hl.1 rfl (lv_room (Nat.le_of_ble_eq_true rfl)) dX11_digest_188 ⟨Nat.le_of_ble_eq_true rfl, Nat.le_of_ble_eq_true rfl⟩ (fun H locs hP hS _ _ => ?_)
    refine lv_i2l hx hb dX11_digest_191 rfl ?_
    refine lv_ladd hx hb dX11_digest_192 ?_
    refine W.eq (g2 := F0 m 193 ls [.long (vX11_digest_14 S)]) rfl ?_
    refine lv_lstore_n (lv' := [(1, .long (vX11_digest_14 S)), (4, .int 8), (3, .int 0), (0, .ref (a 18))]) hx hb dX11_digest_193 rfl hl (by decide) rfl (fun ls hl => ?_)
    refine lv_iinc (v := 9) (lv' := [(4, .int 9), (1, .long (vX11_digest_14 S)), (3, .int 0), (0, .ref (a 18))]) hx hb dX11_digest_194 hl (k := 1) rfl (by decide) (by decide) rfl (fun ls hl => ?_)
    refine lv_goto (tgt := 172) hx hb dX11_digest_197 (by decide) ?_
    refine lv_iload hx hb dX11_digest_172 (lv_at hl 0 rfl) ?_
    refine lv_bipush (v := 10) hx hb dX11_digest_174 (by decide) ?_
    refine lv_icmp_ge (tgt := 200) hx hb dX11_digest_176 (by decide) (fun c => absurd c (by decide)) (fun _ => ?_)
    refine lv_lload_n hx hb dX11_digest_179 rfl (lv_at hl 1 rfl) ?_
    refine lv_ldc2 (v := 31) hx hb hown (hts (.constantLong RX11 202 31) (by decide +kernel)) dX11_digest_180 ?_
    refine lv_lmul hx hb dX11_digest_183 ?_
    refine lv_aload_n hx hb dX11_digest_184 rfl (lv_at hl 3 rfl) ?_
    refine lv_iload_n hx hb dX11_digest_185 rfl (lv_at hl 2 rfl) ?_
    refine lv_iload hx hb dX11_digest_186 (lv_at hl 0 rfl) ?_
    refine g_cVi (As := [.int 0, .int 9]) (rest := [.long ((vX11_digest_14 S) * 31)]) ⟨hx, hb, hml, hown, hts⟩ (c_X11_voiceNow l G cA zq a ha (up2 S 18 0 0) L H.size (0 : Int32) (9 : Int32)  (vp_in_lit (by decide))) (cwV 2 hts gX11_digest_X11_voiceNow rfl rfl rfl (by decide +kernel) ⟨Nat.le_of_ble_eq_true rfl, Nat.le_of_ble_eq_true rfl⟩) (g_recv hK hP (by decide) cD_Mo (C := RX11) (T := TX11) (N := 2) rfl) hK (mA_mono hS.1) hP hS rfl hl.1 rfl (lv_room (Nat.le_of_ble_eq_true rfl)) dX11_digest_188 ⟨Nat.le_of_ble_eq_true rfl, Nat.le_of_ble_eq_true rfl⟩ (fun H locs hP hS _ _ => ?_)
    refine lv_i2l hx hb dX11_digest_191 rfl ?_
    refine lv_ladd hx hb dX11_digest_192 ?_
    refine lv_lstore_n (lv' := [(1, .long (((vX11_digest_14 S) * 31) + ((rX11_voiceNow (up2 S 18 0 0) (0 : Int32) (9 : Int32)).toInt64))), (4, .int 9), (3, .int 0), (0, .ref (a 18))]) hx hb dX11_digest_193 rfl hl (by decide) rfl (fun ls hl => ?_)
    refine lv_iinc (v := 10) (lv' := [(4, .int 10), (1, .long (((vX11_digest_14 S) * 31) + ((rX11_voiceNow (up2 S 18 0 0) (0 : Int32) (9 : Int32)).toInt64))), (3, .int 0), (0, .ref (a 18))]) hx hb dX11_digest_194 hl (k := 1) rfl (by decide) (by decide) rfl (fun ls hl => ?_)
    refine lv_goto (tgt := 172) hx hb dX11_digest_197 (by decide) ?_
    refine lv_iload hx hb dX11_digest_172 (lv_at hl 0 rfl) ?_
    refine lv_bipush (v := 10) hx hb dX11_digest_174 (by decide) ?_
    refine lv_icmp_ge (tgt := 200) hx hb dX11_digest_176 (by decide) (fun _ => ?_) (fun c => absurd c (by decide))
    refine lv_iinc (v := 1) (lv' := [(3, .int 1), (4, .int 10), (1, .long (((vX11_digest_14 S) * 31) + ((rX11_voiceNow (up2 S 18 0 0) (0 : Int32) (9 : Int32)).toInt64))), (0, .ref (a 18))]) hx hb dX11_digest_200 hl (k := 2) rfl (by decide) (by decide) rfl (fun ls hl => ?_)
    refine lv_goto (tgt := 164) hx hb dX11_digest_203 (by decide) ?_
    refine lv_iload_n hx hb dX11_digest_164 rfl (lv_at hl 0 rfl) ?_
    refine lv_iconst (v := 4) hx hb dX11_digest_165 (by decide) ?_
    refine lv_icmp_ge (tgt := 206) hx hb dX11_digest_166 (by decide) (fun c => absurd c (by decide)) (fun _ => ?_)
    refine lv_iconst (v := 0) hx hb dX11_digest_169 (by decide) ?_
    refine lv_istore (lv' := [(4, .int 0), (3, .int 1), (1, .long (((vX11_digest_14 S) * 31) + ((rX11_voiceNow (up2 S 18 0 0) (0 : Int32) (9 : Int32)).toInt64))), (0, .ref (a 18))]) hx hb dX11_digest_170 hl (by decide) rfl (fun ls hl => ?_)
    refine lv_iload hx hb dX11_digest_172 (lv_at hl 0 rfl) ?_
    refine lv_bipush (v := 10) hx hb dX11_digest_174 (by decide) ?_
    refine lv_icmp_ge (tgt := 200) hx hb dX11_digest_176 (by decide) (fun c => absurd c (by decide)) (fun _ => ?_)
    refine lv_lload_n hx hb dX11_digest_179 rfl (lv_at hl 2 rfl) ?_
    refine lv_ldc2 (v := 31) hx hb hown (hts (.constantLong RX11 202 31) (by decide +kernel)) dX11_digest_180 ?_
    refine lv_lmul hx hb dX11_digest_183 ?_
    refine lv_aload_n hx hb dX11_digest_184 rfl (lv_at hl 3 rfl) ?_
    refine lv_iload_n hx hb dX11_digest_185 rfl (lv_at hl 1 rfl) ?_
    refine lv_iload hx hb dX11_digest_186 (lv_at hl 0 rfl) ?_
    refine g_cVi (As := [.int 1, .int 0]) (rest := [.long ((((vX11_digest_14 S) * 31) + ((rX11_voiceNow (up2 S 18 0 0) (0 : Int32) (9 : Int32)).toInt64)) * 31)]) ⟨hx, hb, hml, hown, hts⟩ (c_X11_voiceNow l G cA zq a ha (up2 S 18 0 0) L H.size (1 : Int32) (0 : Int32)  (vp_in_lit (by decide))) (cwV 2 hts gX11_digest_X11_voiceNow rfl rfl rfl (by decide +kernel) ⟨Nat.le_of_ble_eq_true rfl, Nat.le_of_ble_eq_true rfl⟩) (g_recv hK hP (by decide) cD_Mo (C := RX11) (T := TX11) (N := 2) rfl) hK (mA_mono hS.1) hP hS rfl hl.1 rfl (lv_room (Nat.le_of_ble_eq_true rfl)) dX11_digest_188 ⟨Nat.le_of_ble_eq_true rfl, Nat.le_of_ble_eq_true rfl⟩ (fun H locs hP hS _ _ => ?_)
    refine lv_i2l hx hb dX11_digest_191 rfl ?_
    refine lv_ladd hx hb dX11_digest_192 ?_
    refine W.eq (g2 := F0 m 193 ls [.long (vX11_digest_15 S)]) rfl ?_
    refine lv_lstore_n (lv' := [(1, .long (vX11_digest_15 S)), (4, .int 0), (3, .int 1), (0, .ref (a 18))]) hx hb dX11_digest_193 rfl hl (by decide) rfl (fun ls hl => ?_)
    refine lv_iinc (v := 1) (lv' := [(4, .int 1), (1, .long (vX11_digest_15 S)), (3, .int 1), (0, .ref (a 18))]) hx hb dX11_digest_194 hl (k := 1) rfl (by decide) (by decide) rfl (fun ls hl => ?_)
    refine lv_goto (tgt := 172) hx hb dX11_digest_197 (by decide) ?_
    refine lv_iload hx hb dX11_digest_172 (lv_at hl 0 rfl) ?_
    refine lv_bipush (v := 10) hx hb dX11_digest_174 (by decide) ?_
    refine lv_icmp_ge (tgt := 200) hx hb dX11_digest_176 (by decide) (fun c => absurd c (by decide)) (fun _ => ?_)
    refine lv_lload_n hx hb dX11_digest_179 rfl (lv_at hl 1 rfl) ?_
    refine lv_ldc2 (v := 31) hx hb hown (hts (.constantLong RX11 202 31) (by decide +kernel)) dX11_digest_180 ?_
    refine lv_lmul hx hb dX11_digest_183 ?_
    refine lv_aload_n hx hb dX11_digest_184 rfl (lv_at hl 3 rfl) ?_
    refine lv_iload_n hx hb dX11_digest_185 rfl (lv_at hl 2 rfl) ?_
    refine lv_iload hx hb dX11_digest_186 (lv_at hl 0 rfl) ?_
    refine g_cVi (As := [.int 1, .int 1]) (rest := [.long ((vX11_digest_15 S) * 31)]) ⟨hx, hb, hml, hown, hts⟩ (c_X11_voiceNow l G cA zq a ha (up2 S 18 0 0) L H.size (1 : Int32) (1 : Int32)  (vp_in_lit (by decide))) (cwV 2 hts gX11_digest_X11_voiceNow rfl rfl rfl (by decide +kernel) ⟨Nat.le_of_ble_eq_true rfl, Nat.le_of_ble_eq_true rfl⟩) (g_recv hK hP (by decide) cD_Mo (C := RX11) (T := TX11) (N := 2) rfl) hK (mA_mono hS.1) hP hS rfl hl.1 rfl (lv_room (Nat.le_of_ble_eq_true rfl)) dX11_digest_188 ⟨Nat.le_of_ble_eq_true rfl, Nat.le_of_ble_eq_true rfl⟩ (fun H locs hP hS _ _ => ?_)
    refine lv_i2l hx hb dX11_digest_191 rfl ?_
    refine lv_ladd hx hb dX11_digest_192 ?_
    refine lv_lstore_n (lv' := [(1, .long (((vX11_digest_15 S) * 31) + ((rX11_voiceNow (up2 S 18 0 0) (1 : Int32) (1 : Int32)).toInt64))), (4, .int 1), (3, .int 1), (0, .ref (a 18))]) hx hb dX11_digest_193 rfl hl (by decide) rfl (fun ls hl => ?_)
    refine lv_iinc (v := 2) (lv' := [(4, .int 2), (1, .long (((vX11_digest_15 S) * 31) + ((rX11_voiceNow (up2 S 18 0 0) (1 : Int32) (1 : Int32)).toInt64))), (3, .int 1), (0, .ref (a 18))]) hx hb dX11_digest_194 hl (k := 1) rfl (by decide) (by decide) rfl (fun ls hl => ?_)
    refine lv_goto (tgt := 172) hx hb dX11_digest_197 (by decide) ?_
    refine lv_iload hx hb dX11_digest_172 (lv_at hl 0 rfl) ?_
    refine lv_bipush (v := 10) hx hb dX11_digest_174 (by decide) ?_
    refine lv_icmp_ge (tgt := 200) hx hb dX11_digest_176 (by decide) (fun c => absurd c (by decide)) (fun _ => ?_)
    refine lv_lload_n hx hb dX11_digest_179 rfl (lv_at hl 1 rfl) ?_
    refine lv_ldc2 (v := 31) hx hb hown (hts (.constantLong RX11 202 31) (by decide +kernel)) dX11_digest_180 ?_
    refine lv_lmul hx hb dX11_digest_183 ?_
    refine lv_aload_n hx hb dX11_digest_184 rfl (lv_at hl 3 rfl) ?_
    refine lv_iload_n hx hb dX11_digest_185 rfl (lv_at hl 2 rfl) ?_
    refine lv_iload hx hb dX11_digest_186 (lv_at hl 0 rfl) ?_
    refine g_cVi (As := [.int 1, .int 2]) (rest := [.long ((((vX11_digest_15 S) * 31) + ((rX11_voiceNow (up2 S 18 0 0) (1 : Int32) (1 : Int32)).toInt64)) * 31)]) ⟨hx, hb, hml, hown, hts⟩ (c_X11_voiceNow l G cA zq a ha (up2 S 18 0 0) L H.size (1 : Int32) (2 : Int32)  (vp_in_lit (by decide))) (cwV 2 hts gX11_digest_X11_voiceNow rfl rfl rfl (by decide +kernel) ⟨Nat.le_of_ble_eq_true rfl, Nat.le_of_ble_eq_true rfl⟩) (g_recv hK hP (by decide) cD_Mo (C := RX11) (T := TX11) (N := 2) rfl) hK (mA_mono hS.1) hP hS rfl hl.1 rfl (lv_room (Nat.le_of_ble_eq_true rfl)) dX11_digest_188 ⟨Nat.le_of_ble_eq_true rfl, Nat.le_of_ble_eq_true rfl⟩ (fun H locs hP hS _ _ => ?_)
    refine lv_i2l hx hb dX11_digest_191 rfl ?_
    refine lv_ladd hx hb dX11_digest_192 ?_
    refine W.eq (g2 := F0 m 193 ls [.long (vX11_digest_16 S)]) rfl ?_
    refine lv_lstore_n (lv' := [(1, .long (vX11_digest_16 S)), (4, .int 2), (3, .int 1), (0, .ref (a 18))]) hx hb dX11_digest_193 rfl hl (by decide) rfl (fun ls hl => ?_)
    refine lv_iinc (v := 3) (lv' := [(4, .int 3), (1, .long (vX11_digest_16 S)), (3, .int 1), (0, .ref (a 18))]) hx hb dX11_digest_194 hl (k := 1) rfl (by decide) (by decide) rfl (fun ls hl => ?_)
    refine lv_goto (tgt := 172) hx hb dX11_digest_197 (by decide) ?_
    refine lv_iload hx hb dX11_digest_172 (lv_at hl 0 rfl) ?_
    refine lv_bipush (v := 10) hx hb dX11_digest_174 (by decide) ?_
    refine lv_icmp_ge (tgt := 200) hx hb dX11_digest_176 (by decide) (fun c => absurd c (by decide)) (fun _ => ?_)
    refine lv_lload_n hx hb dX11_digest_179 rfl (lv_at hl 1 rfl) ?_
    refine lv_ldc2 (v := 31) hx hb hown (hts (.constantLong RX11 202 31) (by decide +kernel)) dX11_digest_180 ?_
    refine lv_lmul hx hb dX11_digest_183 ?_
    refine lv_aload_n hx hb dX11_digest_184 rfl (lv_at hl 3 rfl) ?_
    refine lv_iload_n hx hb dX11_digest_185 rfl (lv_at hl 2 rfl) ?_
    refine lv_iload hx hb dX11_digest_186 (lv_at hl 0 rfl) ?_
    refine g_cVi (As := [.int 1, .int 3]) (rest := [.long ((vX11_digest_16 S) * 31)]) ⟨hx, hb, hml, hown, hts⟩ (c_X11_voiceNow l G cA zq a ha (up2 S 18 0 0) L H.size (1 : Int32) (3 : Int32)  (vp_in_lit (by decide))) (cwV 2 hts gX11_digest_X11_voiceNow rfl rfl rfl (by decide +kernel) ⟨Nat.le_of_ble_eq_true rfl, Nat.le_of_ble_eq_true rfl⟩) (g_recv hK hP (by decide) cD_Mo (C := RX11) (T := TX11) (N := 2) rfl) hK (mA_mono hS.1) hP hS rfl hl.1 rfl (lv_room (Nat.le_of_ble_eq_true rfl)) dX11_digest_188 ⟨Nat.le_of_ble_eq_true rfl, Nat.le_of_ble_eq_true rfl⟩ (fun H locs hP hS _ _ => ?_)
    refine lv_i2l hx hb dX11_digest_191 rfl ?_
    refine lv_ladd hx hb dX11_digest_192 ?_
    refine lv_lstore_n (lv' := [(1, .long (((vX11_digest_16 S) * 31) + ((rX11_voiceNow (up2 S 18 0 0) (1 : Int32) (3 : Int32)).toInt64))), (4, .int 3), (3, .int 1), (0, .ref (a 18))]) hx hb dX11_digest_193 rfl hl (by decide) rfl (fun ls hl => ?_)
    refine lv_iinc (v := 4) (lv' := [(4, .int 4), (1, .long (((vX11_digest_16 S) * 31) + ((rX11_voiceNow (up2 S 18 0 0) (1 : Int32) (3 : Int32)).toInt64))), (3, .int 1), (0, .ref (a 18))]) hx hb dX11_digest_194 hl (k := 1) rfl (by decide) (by decide) rfl (fun ls hl => ?_)
    refine lv_goto (tgt := 172) hx hb dX11_digest_197 (by decide) ?_
    refine lv_iload hx hb dX11_digest_172 (lv_at hl 0 rfl) ?_
    refine lv_bipush (v := 10) hx hb dX11_digest_174 (by decide) ?_
    refine lv_icmp_ge (tgt := 200) hx hb dX11_digest_176 (by decide) (fun c => absurd c (by decide)) (fun _ => ?_)
    refine lv_lload_n hx hb dX11_digest_179 rfl (lv_at hl 1 rfl) ?_
    refine lv_ldc2 (v := 31) hx hb hown (hts (.constantLong RX11 202 31) (by decide +kernel)) dX11_digest_180 ?_
    refine lv_lmul hx hb dX11_digest_183 ?_
    refine lv_aload_n hx hb dX11_digest_184 rfl (lv_at hl 3 rfl) ?_
    refine lv_iload_n hx hb dX11_digest_185 rfl (lv_at hl 2 rfl) ?_
    refine lv_iload hx hb dX11_digest_186 (lv_at hl 0 rfl) ?_
    refine g_cVi (As := [.int 1, .int 4]) (rest := [.long ((((vX11_digest_16 S) * 31) + ((rX11_voiceNow (up2 S 18 0 0) (1 : Int32) (3 : Int32)).toInt64)) * 31)]) ⟨hx, hb, hml, hown, hts⟩ (c_X11_voiceNow l G cA zq a ha (up2 S 18 0 0) L H.size (1 : Int32) (4 : Int32)  (vp_in_lit (by decide))) (cwV 2 hts gX11_digest_X11_voiceNow rfl rfl rfl (by decide +kernel) ⟨Nat.le_of_ble_eq_true rfl, Nat.le_of_ble_eq_true rfl⟩) (g_recv hK hP (by decide) cD_Mo (C := RX11) (T := TX11) (N := 2) rfl) hK (mA_mono hS.1) hP hS rfl hl.1 rfl (lv_room (Nat.le_of_ble_eq_true rfl)) dX11_digest_188 ⟨Nat.le_of_ble_eq_true rfl, Nat.le_of_ble_eq_true rfl⟩ (fun H locs hP hS _ _ => ?_)
    refine lv_i2l hx hb dX11_digest_191 rfl ?_
    refine lv_ladd hx hb dX11_digest_192 ?_
    refine W.eq (g2 := F0 m 193 ls [.long (vX11_digest_17 S)]) rfl ?_
    refine lv_lstore_n (lv' := [(1, .long (vX11_digest_17 S)), (4, .int 4), (3, .int 1), (0, .ref (a 18))]) hx hb dX11_digest_193 rfl hl (by decide) rfl (fun ls hl => ?_)
    refine lv_iinc (v := 5) (lv' := [(4, .int 5), (1, .long (vX11_digest_17 S)), (3, .int 1), (0, .ref (a 18))]) hx hb dX11_digest_194 hl (k := 1) rfl (by decide) (by decide) rfl (fun ls hl => ?_)
    refine lv_goto (tgt := 172) hx hb dX11_digest_197 (by decide) ?_
    refine lv_iload hx hb dX11_digest_172 (lv_at hl 0 rfl) ?_
    refine lv_bipush (v := 10) hx hb dX11_digest_174 (by decide) ?_
    refine lv_icmp_ge (tgt := 200) hx hb dX11_digest_176 (by decide) (fun c => absurd c (by decide)) (fun _ => ?_)
    refine lv_lload_n hx hb dX11_digest_179 rfl (lv_at hl 1 rfl) ?_
    refine lv_ldc2 (v := 31) hx hb hown (hts (.constantLong RX11 202 31) (by decide +kernel)) dX11_digest_180 ?_
    refine lv_lmul hx hb dX11_digest_183 ?_
    refine lv_aload_n hx hb dX11_digest_184 rfl (lv_at hl 3 rfl) ?_
    refine lv_iload_n hx hb dX11_digest_185 rfl (lv_at hl 2 rfl) ?_
    refine lv_iload hx hb dX11_digest_186 (lv_at hl 0 rfl) ?_
    refine g_cVi (As := [.int 1, .int 5]) (rest := [.long ((vX11_digest_17 S) * 31)]) ⟨hx, hb, hml, hown, hts⟩ (c_X11_voiceNow l G cA zq a ha (up2 S 18 0 0) L H.size (1 : Int32) (5 : Int32)  (vp_in_lit (by decide))) (cwV 2 hts gX11_digest_X11_voiceNow rfl rfl rfl (by decide +kernel) ⟨Nat.le_of_ble_eq_true rfl, Nat.le_of_ble_eq_true rfl⟩) (g_recv hK hP (by decide) cD_Mo (C := RX11) (T := TX11) (N := 2) rfl) hK (mA_mono hS.1) hP hS rfl hl.1 rfl (lv_room (Nat.le_of_ble_eq_true rfl)) dX11_digest_188 ⟨Nat.le_of_ble_eq_true rfl, Nat.le_of_ble_eq_true rfl⟩ (fun H locs hP hS _ _ => ?_)
    refine lv_i2l hx hb dX11_digest_191 rfl ?_
    refine lv_ladd hx hb dX11_digest_192 ?_
    refine lv_lstore_n (lv' := [(1, .long (((vX11_digest_17 S) * 31) + ((rX11_voiceNow (up2 S 18 0 0) (1 : Int32) (5 : Int32)).toInt64))), (4, .int 5), (3, .int 1), (0, .ref (a 18))]) hx hb dX11_digest_193 rfl hl (by decide) rfl (fun ls hl => ?_)
    refine lv_iinc (v := 6) (lv' := [(4, .int 6), (1, .long (((vX11_digest_17 S) * 31) + ((rX11_voiceNow (up2 S 18 0 0) (1 : Int32) (5 : Int32)).toInt64))), (3, .int 1), (0, .ref (a 18))]) hx hb dX11_digest_194 hl (k := 1) rfl (by decide) (by decide) rfl (fun ls hl => ?_)
    refine lv_goto (tgt := 172) hx hb dX11_digest_197 (by decide) ?_
    refine lv_iload hx hb dX11_digest_172 (lv_at hl 0 rfl) ?_
    refine lv_bipush (v := 10) hx hb dX11_digest_174 (by decide) ?_
    refine lv_icmp_ge (tgt := 200) hx hb dX11_digest_176 (by decide) (fun c => absurd c (by decide)) (fun _ => ?_)
    refine lv_lload_n hx hb dX11_digest_179 rfl (lv_at hl 1 rfl) ?_
    refine lv_ldc2 (v := 31) hx hb hown (hts (.constantLong RX11 202 31) (by decide +kernel)) dX11_digest_180 ?_
    refine lv_lmul hx hb dX11_digest_183 ?_
    refine lv_aload_n hx hb dX11_digest_184 rfl (lv_at hl 3 rfl) ?_
    refine lv_iload_n hx hb dX11_digest_185 rfl (lv_at hl 2 rfl) ?_
    refine lv_iload hx hb dX11_digest_186 (lv_at hl 0 rfl) ?_
    refine g_cVi (As := [.int 1, .int 6]) (rest := [.long ((((vX11_digest_17 S) * 31) + ((rX11_voiceNow (up2 S 18 0 0) (1 : Int32) (5 : Int32)).toInt64)) * 31)]) ⟨hx, hb, hml, hown, hts⟩ (c_X11_voiceNow l G cA zq a ha (up2 S 18 0 0) L H.size (1 : Int32) (6 : Int32)  (vp_in_lit (by decide))) (cwV 2 hts gX11_digest_X11_voiceNow rfl rfl rfl (by decide +kernel) ⟨Nat.le_of_ble_eq_true rfl, Nat.le_of_ble_eq_true rfl⟩) (g_recv hK hP (by decide) cD_Mo (C := RX11) (T := TX11) (N := 2) rfl) hK (mA_mono hS.1) hP hS rfl hl.1 rfl (lv_room (Nat.le_of_ble_eq_true rfl)) dX11_digest_188 ⟨Nat.le_of_ble_eq_true rfl, Nat.le_of_ble_eq_true rfl⟩ (fun H locs hP hS _ _ => ?_)
    refine lv_i2l hx hb dX11_digest_191 rfl ?_
    refine lv_ladd hx hb dX11_digest_192 ?_
    refine W.eq (g2 := F0 m 193 ls [.long (vX11_digest_18 S)]) rfl ?_
    refine lv_lstore_n (lv' := [(1, .long (vX11_digest_18 S)), (4, .int 6), (3, .int 1), (0, .ref (a 18))]) hx hb dX11_digest_193 rfl hl (by decide) rfl (fun ls hl => ?_)
    refine lv_iinc (v := 7) (lv' := [(4, .int 7), (1, .long (vX11_digest_18 S)), (3, .int 1), (0, .ref (a 18))]) hx hb dX11_digest_194 hl (k := 1) rfl (by decide) (by decide) rfl (fun ls hl => ?_)
    refine lv_goto (tgt := 172) hx hb dX11_digest_197 (by decide) ?_
    refine lv_iload hx hb dX11_digest_172 (lv_at hl 0 rfl) ?_
    refine lv_bipush (v := 10) hx hb dX11_digest_174 (by decide) ?_
    refine lv_icmp_ge (tgt := 200) hx hb dX11_digest_176 (by decide) (fun c => absurd c (by decide)) (fun _ => ?_)
    refine lv_lload_n hx hb dX11_digest_179 rfl (lv_at hl 1 rfl) ?_
    refine lv_ldc2 (v := 31) hx hb hown (hts (.constantLong RX11 202 31) (by decide +kernel)) dX11_digest_180 ?_
    refine lv_lmul hx hb dX11_digest_183 ?_
    refine lv_aload_n hx hb dX11_digest_184 rfl (lv_at hl 3 rfl) ?_
    refine lv_iload_n hx hb dX11_digest_185 rfl (lv_at hl 2 rfl) ?_
    refine lv_iload hx hb dX11_digest_186 (lv_at hl 0 rfl) ?_
    refine g_cVi (As := [.int 1, .int 7]) (rest := [.long ((vX11_digest_18 S) * 31)]) ⟨hx, hb, hml, hown, hts⟩ (c_X11_voiceNow l G cA zq a ha (up2 S 18 0 0) L H.size (1 : Int32) (7 : Int32)  (vp_in_lit (by decide))) (cwV 2 hts gX11_digest_X11_voiceNow rfl rfl rfl (by decide +kernel) ⟨Nat.le_of_ble_eq_true rfl, Nat.le_of_ble_eq_true rfl⟩) (g_recv hK hP (by decide) cD_Mo (C := RX11) (T := TX11) (N := 2) rfl) hK (mA_mono hS.1) hP hS rfl hl.1 rfl (lv_room (Nat.le_of_ble_eq_true rfl)) dX11_digest_188 ⟨Nat.le_of_ble_eq_true rfl, Nat.le_of_ble_eq_true rfl⟩ (fun H locs hP hS _ _ => ?_)
    refine lv_i2l hx hb dX11_digest_191 rfl ?_
    refine lv_ladd hx hb dX11_digest_192 ?_
    refine lv_lstore_n (lv' := [(1, .long (((vX11_digest_18 S) * 31) + ((rX11_voiceNow (up2 S 18 0 0) (1 : Int32) (7 : Int32)).toInt64))), (4, .int 7), (3, .int 1), (0, .ref (a 18))]) hx hb dX11_digest_193 rfl hl (by decide) rfl (fun ls hl => ?_)
    refine lv_iinc (v := 8) (lv' := [(4, .int 8), (1, .long (((vX11_digest_18 S) * 31) + ((rX11_voiceNow (up2 S 18 0 0) (1 : Int32) (7 : Int32)).toInt64))), (3, .int 1), (0, .ref (a 18))]) hx hb dX11_digest_194 hl (k := 1) rfl (by decide) (by decide) rfl (fun ls hl => ?_)
    refine lv_goto (tgt := 172) hx hb dX11_digest_197 (by decide) ?_
    refine lv_iload hx hb dX11_digest_172 (lv_at hl 0 rfl) ?_
    refine lv_bipush (v := 10) hx hb dX11_digest_174 (by decide) ?_
    refine lv_icmp_ge (tgt := 200) hx hb dX11_digest_176 (by decide) (fun c => absurd c (by decide)) (fun _ => ?_)
    refine lv_lload_n hx hb dX11_digest_179 rfl (lv_at hl 1 rfl) ?_
    refine lv_ldc2 (v := 31) hx hb hown (hts (.constantLong RX11 202 31) (by decide +kernel)) dX11_digest_180 ?_
    refine lv_lmul hx hb dX11_digest_183 ?_
    refine lv_aload_n hx hb dX11_digest_184 rfl (lv_at hl 3 rfl) ?_
    refine lv_iload_n hx hb dX11_digest_185 rfl (lv_at hl 2 rfl) ?_
    refine lv_iload hx hb dX11_digest_186 (lv_at hl 0 rfl) ?_
    refine g_cVi (As := [.int 1, .int 8]) (rest := [.long ((((vX11_digest_18 S) * 31) + ((rX11_voiceNow (up2 S 18 0 0) (1 : Int32) (7 : Int32)).toInt64)) * 31)]) ⟨hx, hb, hml, hown, hts⟩ (c_X11_voiceNow l G cA zq a ha (up2 S 18 0 0) L H.size (1 : Int32) (8 : Int32)  (vp_in_lit (by decide))) (cwV 2 hts gX11_digest_X11_voiceNow rfl rfl rfl (by decide +kernel) ⟨Nat.le_of_ble_eq_true rfl, Nat.le_of_ble_eq_true rfl⟩) (g_recv hK hP (by decide) cD_Mo (C := RX11) (T := TX11) (N := 2) rfl) hK (mA_mono hS.1) hP hS rfl hl.1 rfl (lv_room (Nat.le_of_ble_eq_true rfl)) dX11_digest_188 ⟨Nat.le_of_ble_eq_true rfl, Nat.le_of_ble_eq_true rfl⟩ (fun H locs hP hS _ _ => ?_)
    refine lv_i2l hx hb dX11_digest_191 rfl ?_
    refine lv_ladd hx hb dX11_digest_192 ?_
    refine W.eq (g2 := F0 m 193 ls [.long (vX11_digest_19 S)]) rfl ?_
    refine lv_lstore_n (lv' := [(1, .long (vX11_digest_19 S)), (4, .int 8), (3, .int 1), (0, .ref (a 18))]) hx hb dX11_digest_193 rfl hl (by decide) rfl (fun ls hl => ?_)
    refine lv_iinc (v := 9) (lv' := [(4, .int 9), (1, .long (vX11_digest_19 S)), (3, .int 1), (0, .ref (a 18))]) hx hb dX11_digest_194 hl (k := 1) rfl (by decide) (by decide) rfl (fun ls hl => ?_)
    refine lv_goto (tgt := 172) hx hb dX11_digest_197 (by decide) ?_
    refine lv_iload hx hb dX11_digest_172 (lv_at hl 0 rfl) ?_
    refine lv_bipush (v := 10) hx hb dX11_digest_174 (by decide) ?_
    refine lv_icmp_ge (tgt := 200) hx hb dX11_digest_176 (by decide) (fun c => absurd c (by decide)) (fun _ => ?_)
    refine lv_lload_n hx hb dX11_digest_179 rfl (lv_at hl 1 rfl) ?_
    refine lv_ldc2 (v := 31) hx hb hown (hts (.constantLong RX11 202 31) (by decide +kernel)) dX11_digest_180 ?_
    refine lv_lmul hx hb dX11_digest_183 ?_
    refine lv_aload_n hx hb dX11_digest_184 rfl (lv_at hl 3 rfl) ?_
    refine lv_iload_n hx hb dX11_digest_185 rfl (lv_at hl 2 rfl) ?_
    refine lv_iload hx hb dX11_digest_186 (lv_at hl 0 rfl) ?_
    refine g_cVi (As := [.int 1, .int 9]) (rest := [.long ((vX11_digest_19 S) * 31)]) ⟨hx, hb, hml, hown, hts⟩ (c_X11_voiceNow l G cA zq a ha (up2 S 18 0 0) L H.size (1 : Int32) (9 : Int32)  (vp_in_lit (by decide))) (cwV 2 hts gX11_digest_X11_voiceNow rfl rfl rfl (by decide +kernel) ⟨Nat.le_of_ble_eq_true rfl, Nat.le_of_ble_eq_true rfl⟩) (g_recv hK hP (by decide) cD_Mo (C := RX11) (T := TX11) (N := 2) rfl) hK (mA_mono hS.1) hP hS rfl hl.1 rfl (lv_room (Nat.le_of_ble_eq_true rfl)) dX11_digest_188 ⟨Nat.le_of_ble_eq_true rfl, Nat.le_of_ble_eq_true rfl⟩ (fun H locs hP hS _ _ => ?_)
    refine lv_i2l hx hb dX11_digest_191 rfl ?_
    refine lv_ladd hx hb dX11_digest_192 ?_
    refine lv_lstore_n (lv' := [(1, .long (((vX11_digest_19 S) * 31) + ((rX11_voiceNow (up2 S 18 0 0) (1 : Int32) (9 : Int32)).toInt64))), (4, .int 9), (3, .int 1), (0, .ref (a 18))]) hx hb dX11_digest_193 rfl hl (by decide) rfl (fun ls hl => ?_)
    refine lv_iinc (v := 10) (lv' := [(4, .int 10), (1, .long (((vX11_digest_19 S) * 31) + ((rX11_voiceNow (up2 S 18 0 0) (1 : Int32) (9 : Int32)).toInt64))), (3, .int 1), (0, .ref (a 18))]) hx hb dX11_digest_194 hl (k := 1) rfl (by decide) (by decide) rfl (fun ls hl => ?_)
    refine lv_goto (tgt := 172) hx hb dX11_digest_197 (by decide) ?_
    refine lv_iload hx hb dX11_digest_172 (lv_at hl 0 rfl) ?_
    refine lv_bipush (v := 10) hx hb dX11_digest_174 (by decide) ?_
    refine lv_icmp_ge (tgt := 200) hx hb dX11_digest_176 (by decide) (fun _ => ?_) (fun c => absurd c (by decide))
    refine lv_iinc (v := 2) (lv' := [(3, .int 2), (4, .int 10), (1, .long (((vX11_digest_19 S) * 31) + ((rX11_voiceNow (up2 S 18 0 0) (1 : Int32) (9 : Int32)).toInt64))), (0, .ref (a 18))]) hx hb dX11_digest_200 hl (k := 2) rfl (by decide) (by decide) rfl (fun ls hl => ?_)
    refine lv_goto (tgt := 164) hx hb dX11_digest_203 (by decide) ?_
    refine lv_iload_n hx hb dX11_digest_164 rfl (lv_at hl 0 rfl) ?_
    refine lv_iconst (v := 4) hx hb dX11_digest_165 (by decide) ?_
    refine lv_icmp_ge (tgt := 206) hx hb dX11_digest_166 (by decide) (fun c => absurd c (by decide)) (fun _ => ?_)
    refine lv_iconst (v := 0) hx hb dX11_digest_169 (by decide) ?_
    refine lv_istore (lv' := [(4, .int 0), (3, .int 2), (1, .long (((vX11_digest_19 S) * 31) + ((rX11_voiceNow (up2 S 18 0 0) (1 : Int32) (9 : Int32)).toInt64))), (0, .ref (a 18))]) hx hb dX11_digest_170 hl (by decide) rfl (fun ls hl => ?_)
    refine lv_iload hx hb dX11_digest_172 (lv_at hl 0 rfl) ?_
    refine lv_bipush (v := 10) hx hb dX11_digest_174 (by decide) ?_
    refine lv_icmp_ge (tgt := 200) hx hb dX11_digest_176 (by decide) (fun c => absurd c (by decide)) (fun _ => ?_)
    refine lv_lload_n hx hb dX11_digest_179 rfl (lv_at hl 2 rfl) ?_
    refine lv_ldc2 (v := 31) hx hb hown (hts (.constantLong RX11 202 31) (by decide +kernel)) dX11_digest_180 ?_
    refine lv_lmul hx hb dX11_digest_183 ?_
    refine lv_aload_n hx hb dX11_digest_184 rfl (lv_at hl 3 rfl) ?_
    refine lv_iload_n hx hb dX11_digest_185 rfl (lv_at hl 1 rfl) ?_
    refine lv_iload hx hb dX11_digest_186 (lv_at hl 0 rfl) ?_
    refine g_cVi (As := [.int 2, .int 0]) (rest := [.long ((((vX11_digest_19 S) * 31) + ((rX11_voiceNow (up2 S 18 0 0) (1 : Int32) (9 : Int32)).toInt64)) * 31)]) ⟨hx, hb, hml, hown, hts⟩ (c_X11_voiceNow l G cA zq a ha (up2 S 18 0 0) L H.size (2 : Int32) (0 : Int32)  (vp_in_lit (by decide))) (cwV 2 hts gX11_digest_X11_voiceNow rfl rfl rfl (by decide +kernel) ⟨Nat.le_of_ble_eq_true rfl, Nat.le_of_ble_eq_true rfl⟩) (g_recv hK hP (by decide) cD_Mo (C := RX11) (T := TX11) (N := 2) rfl) hK (mA_mono hS.1) hP hS rfl hl.1 rfl (lv_room (Nat.le_of_ble_eq_true rfl)) dX11_digest_188 ⟨Nat.le_of_ble_eq_true rfl, Nat.le_of_ble_eq_true rfl⟩ (fun H locs hP hS _ _ => ?_)
    refine lv_i2l hx hb dX11_digest_191 rfl ?_
    refine lv_ladd hx hb dX11_digest_192 ?_
    refine W.eq (g2 := F0 m 193 ls [.long (vX11_digest_20 S)]) rfl ?_
    refine lv_lstore_n (lv' := [(1, .long (vX11_digest_20 S)), (4, .int 0), (3, .int 2), (0, .ref (a 18))]) hx hb dX11_digest_193 rfl hl (by decide) rfl (fun ls hl => ?_)
    refine lv_iinc (v := 1) (lv' := [(4, .int 1), (1, .long (vX11_digest_20 S)), (3, .int 2), (0, .ref (a 18))]) hx hb dX11_digest_194 hl (k := 1) rfl (by decide) (by decide) rfl (fun ls hl => ?_)
    refine lv_goto (tgt := 172) hx hb dX11_digest_197 (by decide) ?_
    refine lv_iload hx hb dX11_digest_172 (lv_at hl 0 rfl) ?_
    refine lv_bipush (v := 10) hx hb dX11_digest_174 (by decide) ?_
    refine lv_icmp_ge (tgt := 200) hx hb dX11_digest_176 (by decide) (fun c => absurd c (by decide)) (fun _ => ?_)
    refine lv_lload_n hx hb dX11_digest_179 rfl (lv_at hl 1 rfl) ?_
    refine lv_ldc2 (v := 31) hx hb hown (hts (.constantLong RX11 202 31) (by decide +kernel)) dX11_digest_180 ?_
    refine lv_lmul hx hb dX11_digest_183 ?_
    refine lv_aload_n hx hb dX11_digest_184 rfl (lv_at hl 3 rfl) ?_
    refine lv_iload_n hx hb dX11_digest_185 rfl (lv_at hl 2 rfl) ?_
    refine lv_iload hx hb dX11_digest_186 (lv_at hl 0 rfl) ?_
    refine g_cVi (As := [.int 2, .int 1]) (rest := [.long ((vX11_digest_20 S) * 31)]) ⟨hx, hb, hml, hown, hts⟩ (c_X11_voiceNow l G cA zq a ha (up2 S 18 0 0) L H.size (2 : Int32) (1 : Int32)  (vp_in_lit (by decide))) (cwV 2 hts gX11_digest_X11_voiceNow rfl rfl rfl (by decide +kernel) ⟨Nat.le_of_ble_eq_true rfl, Nat.le_of_ble_eq_true rfl⟩) (g_recv hK hP (by decide) cD_Mo (C := RX11) (T := TX11) (N := 2) rfl) hK (mA_mono hS.1) hP hS rfl hl.1 rfl (lv_room (Nat.le_of_ble_eq_true rfl)) dX11_digest_188 ⟨Nat.le_of_ble_eq_true rfl, Nat.le_of_ble_eq_true rfl⟩ (fun H locs hP hS _ _ => ?_)
    refine lv_i2l hx hb dX11_digest_191 rfl ?_
    refine lv_ladd hx hb dX11_digest_192 ?_
    refine lv_lstore_n (lv' := [(1, .long (((vX11_digest_20 S) * 31) + ((rX11_voiceNow (up2 S 18 0 0) (2 : Int32) (1 : Int32)).toInt64))), (4, .int 1), (3, .int 2), (0, .ref (a 18))]) hx hb dX11_digest_193 rfl hl (by decide) rfl (fun ls hl => ?_)
    refine lv_iinc (v := 2) (lv' := [(4, .int 2), (1, .long (((vX11_digest_20 S) * 31) + ((rX11_voiceNow (up2 S 18 0 0) (2 : Int32) (1 : Int32)).toInt64))), (3, .int 2), (0, .ref (a 18))]) hx hb dX11_digest_194 hl (k := 1) rfl (by decide) (by decide) rfl (fun ls hl => ?_)
    refine lv_goto (tgt := 172) hx hb dX11_digest_197 (by decide) ?_
    refine lv_iload hx hb dX11_digest_172 (lv_at hl 0 rfl) ?_
    refine lv_bipush (v := 10) hx hb dX11_digest_174 (by decide) ?_
    refine lv_icmp_ge (tgt := 200) hx hb dX11_digest_176 (by decide) (fun c => absurd c (by decide)) (fun _ => ?_)
    refine lv_lload_n hx hb dX11_digest_179 rfl (lv_at hl 1 rfl) ?_
    refine lv_ldc2 (v := 31) hx hb hown (hts (.constantLong RX11 202 31) (by decide +kernel)) dX11_digest_180 ?_
    refine lv_lmul hx hb dX11_digest_183 ?_
    refine lv_aload_n hx hb dX11_digest_184 rfl (lv_at hl 3 rfl) ?_
    refine lv_iload_n hx hb dX11_digest_185 rfl (lv_at hl 2 rfl) ?_
    refine lv_iload hx hb dX11_digest_186 (lv_at hl 0 rfl) ?_
    refine g_cVi (As := [.int 2, .int 2]) (rest := [.long ((((vX11_digest_20 S) * 31) + ((rX11_voiceNow (up2 S 18 0 0) (2 : Int32) (1 : Int32)).toInt64)) * 31)]) ⟨hx, hb, hml, hown, hts⟩ (c_X11_voiceNow l G cA zq a ha (up2 S 18 0 0) L H.size (2 : Int32) (2 : Int32)  (vp_in_lit (by decide))) (cwV 2 hts gX11_digest_X11_voiceNow rfl rfl rfl (by decide +kernel) ⟨Nat.le_of_ble_eq_true rfl, Nat.le_of_ble_eq_true rfl⟩) (g_recv hK hP (by decide) cD_Mo (C := RX11) (T := TX11) (N := 2) rfl) hK (mA_mono hS.1) hP hS rfl hl.1 rfl (lv_room (Nat.le_of_ble_eq_true rfl)) dX11_digest_188 ⟨Nat.le_of_ble_eq_true rfl, Nat.le_of_ble_eq_true rfl⟩ (fun H locs hP hS _ _ => ?_)
    refine lv_i2l hx hb dX11_digest_191 rfl ?_
    refine lv_ladd hx hb dX11_digest_192 ?_
    refine W.eq (g2 := F0 m 193 ls [.long (vX11_digest_21 S)]) rfl ?_
    refine lv_lstore_n (lv' := [(1, .long (vX11_digest_21 S)), (4, .int 2), (3, .int 2), (0, .ref (a 18))]) hx hb dX11_digest_193 rfl hl (by decide) rfl (fun ls hl => ?_)
    refine lv_iinc (v := 3) (lv' := [(4, .int 3), (1, .long (vX11_digest_21 S)), (3, .int 2), (0, .ref (a 18))]) hx hb dX11_digest_194 hl (k := 1) rfl (by decide) (by decide) rfl (fun ls hl => ?_)
    refine lv_goto (tgt := 172) hx hb dX11_digest_197 (by decide) ?_
    refine lv_iload hx hb dX11_digest_172 (lv_at hl 0 rfl) ?_
    refine lv_bipush (v := 10) hx hb dX11_digest_174 (by decide) ?_
    refine lv_icmp_ge (tgt := 200) hx hb dX11_digest_176 (by decide) (fun c => absurd c (by decide)) (fun _ => ?_)
    refine lv_lload_n hx hb dX11_digest_179 rfl (lv_at hl 1 rfl) ?_
    refine lv_ldc2 (v := 31) hx hb hown (hts (.constantLong RX11 202 31) (by decide +kernel)) dX11_digest_180 ?_
    refine lv_lmul hx hb dX11_digest_183 ?_
    refine lv_aload_n hx hb dX11_digest_184 rfl (lv_at hl 3 rfl) ?_
    refine lv_iload_n hx hb dX11_digest_185 rfl (lv_at hl 2 rfl) ?_
    refine lv_iload hx hb dX11_digest_186 (lv_at hl 0 rfl) ?_
    refine g_cVi (As := [.int 2, .int 3]) (rest := [.long ((vX11_digest_21 S) * 31)]) ⟨hx, hb, hml, hown, hts⟩ (c_X11_voiceNow l G cA zq a ha (up2 S 18 0 0) L H.size (2 : Int32) (3 : Int32)  (vp_in_lit (by decide))) (cwV 2 hts gX11_digest_X11_voiceNow rfl rfl rfl (by decide +kernel) ⟨Nat.le_of_ble_eq_true rfl, Nat.le_of_ble_eq_true rfl⟩) (g_recv hK hP (by decide) cD_Mo (C := RX11) (T := TX11) (N := 2) rfl) hK (mA_mono hS.1) hP hS rfl hl.1 rfl (lv_room (Nat.le_of_ble_eq_true rfl)) dX11_digest_188 ⟨Nat.le_of_ble_eq_true rfl, Nat.le_of_ble_eq_true rfl⟩ (fun H locs hP hS _ _ => ?_)
    refine lv_i2l hx hb dX11_digest_191 rfl ?_
    refine lv_ladd hx hb dX11_digest_192 ?_
    refine lv_lstore_n (lv' := [(1, .long (((vX11_digest_21 S) * 31) + ((rX11_voiceNow (up2 S 18 0 0) (2 : Int32) (3 : Int32)).toInt64))), (4, .int 3), (3, .int 2), (0, .ref (a 18))]) hx hb dX11_digest_193 rfl hl (by decide) rfl (fun ls hl => ?_)
    refine lv_iinc (v := 4) (lv' := [(4, .int 4), (1, .long (((vX11_digest_21 S) * 31) + ((rX11_voiceNow (up2 S 18 0 0) (2 : Int32) (3 : Int32)).toInt64))), (3, .int 2), (0, .ref (a 18))]) hx hb dX11_digest_194 hl (k := 1) rfl (by decide) (by decide) rfl (fun ls hl => ?_)
    refine lv_goto (tgt := 172) hx hb dX11_digest_197 (by decide) ?_
    refine lv_iload hx hb dX11_digest_172 (lv_at hl 0 rfl) ?_
    refine lv_bipush (v := 10) hx hb dX11_digest_174 (by decide) ?_
    refine lv_icmp_ge (tgt := 200) hx hb dX11_digest_176 (by decide) (fun c => absurd c (by decide)) (fun _ => ?_)
    refine lv_lload_n hx hb dX11_digest_179 rfl (lv_at hl 1 rfl) ?_
    refine lv_ldc2 (v := 31) hx hb hown (hts (.constantLong RX11 202 31) (by decide +kernel)) dX11_digest_180 ?_
    refine lv_lmul hx hb dX11_digest_183 ?_
    refine lv_aload_n hx hb dX11_digest_184 rfl (lv_at hl 3 rfl) ?_
    refine lv_iload_n hx hb dX11_digest_185 rfl (lv_at hl 2 rfl) ?_
    refine lv_iload hx hb dX11_digest_186 (lv_at hl 0 rfl) ?_
    refine g_cVi (As := [.int 2, .int 4]) (rest := [.long ((((vX11_digest_21 S) * 31) + ((rX11_voiceNow (up2 S 18 0 0) (2 : Int32) (3 : Int32)).toInt64)) * 31)]) ⟨hx, hb, hml, hown, hts⟩ (c_X11_voiceNow l G cA zq a ha (up2 S 18 0 0) L H.size (2 : Int32) (4 : Int32)  (vp_in_lit (by decide))) (cwV 2 hts gX11_digest_X11_voiceNow rfl rfl rfl (by decide +kernel) ⟨Nat.le_of_ble_eq_true rfl, Nat.le_of_ble_eq_true rfl⟩) (g_recv hK hP (by decide) cD_Mo (C := RX11) (T := TX11) (N := 2) rfl) hK (mA_mono hS.1) hP hS rfl hl.1 rfl (lv_room (Nat.le_of_ble_eq_true rfl)) dX11_digest_188 ⟨Nat.le_of_ble_eq_true rfl, Nat.le_of_ble_eq_true rfl⟩ (fun H locs hP hS _ _ => ?_)
    refine lv_i2l hx hb dX11_digest_191 rfl ?_
    refine lv_ladd hx hb dX11_digest_192 ?_
    refine W.eq (g2 := F0 m 193 ls [.long (vX11_digest_22 S)]) rfl ?_
    refine lv_lstore_n (lv' := [(1, .long (vX11_digest_22 S)), (4, .int 4), (3, .int 2), (0, .ref (a 18))]) hx hb dX11_digest_193 rfl hl (by decide) rfl (fun ls hl => ?_)
    refine lv_iinc (v := 5) (lv' := [(4, .int 5), (1, .long (vX11_digest_22 S)), (3, .int 2), (0, .ref (a 18))]) hx hb dX11_digest_194 hl (k := 1) rfl (by decide) (by decide) rfl (fun ls hl => ?_)
    refine lv_goto (tgt := 172) hx hb dX11_digest_197 (by decide) ?_
    refine lv_iload hx hb dX11_digest_172 (lv_at hl 0 rfl) ?_
    refine lv_bipush (v := 10) hx hb dX11_digest_174 (by decide) ?_
    refine lv_icmp_ge (tgt := 200) hx hb dX11_digest_176 (by decide) (fun c => absurd c (by decide)) (fun _ => ?_)
    refine lv_lload_n hx hb dX11_digest_179 rfl (lv_at hl 1 rfl) ?_
    refine lv_ldc2 (v := 31) hx hb hown (hts (.constantLong RX11 202 31) (by decide +kernel)) dX11_digest_180 ?_
    refine lv_lmul hx hb dX11_digest_183 ?_
    refine lv_aload_n hx hb dX11_digest_184 rfl (lv_at hl 3 rfl) ?_
    refine lv_iload_n hx hb dX11_digest_185 rfl (lv_at hl 2 rfl) ?_
    refine lv_iload hx hb dX11_digest_186 (lv_at hl 0 rfl) ?_
    refine g_cVi (As := [.int 2, .int 5]) (rest := [.long ((vX11_digest_22 S) * 31)]) ⟨hx, hb, hml, hown, hts⟩ (c_X11_voiceNow l G cA zq a ha (up2 S 18 0 0) L H.size (2 : Int32) (5 : Int32)  (vp_in_lit (by decide))) (cwV 2 hts gX11_digest_X11_voiceNow rfl rfl rfl (by decide +kernel) ⟨Nat.le_of_ble_eq_true rfl, Nat.le_of_ble_eq_true rfl⟩) (g_recv hK hP (by decide) cD_Mo (C := RX11) (T := TX11) (N := 2) rfl) hK (mA_mono hS.1) hP hS rfl hl.1 rfl (lv_room (Nat.le_of_ble_eq_true rfl)) dX11_digest_188 ⟨Nat.le_of_ble_eq_true rfl, Nat.le_of_ble_eq_true rfl⟩ (fun H locs hP hS _ _ => ?_)
    refine lv_i2l hx hb dX11_digest_191 rfl ?_
    refine lv_ladd hx hb dX11_digest_192 ?_
    refine lv_lstore_n (lv' := [(1, .long (((vX11_digest_22 S) * 31) + ((rX11_voiceNow (up2 S 18 0 0) (2 : Int32) (5 : Int32)).toInt64))), (4, .int 5), (3, .int 2), (0, .ref (a 18))]) hx hb dX11_digest_193 rfl hl (by decide) rfl (fun ls hl => ?_)
    refine lv_iinc (v := 6) (lv' := [(4, .int 6), (1, .long (((vX11_digest_22 S) * 31) + ((rX11_voiceNow (up2 S 18 0 0) (2 : Int32) (5 : Int32)).toInt64))), (3, .int 2), (0, .ref (a 18))]) hx hb dX11_digest_194 hl (k := 1) rfl (by decide) (by decide) rfl (fun ls hl => ?_)
    refine lv_goto (tgt := 172) hx hb dX11_digest_197 (by decide) ?_
    refine lv_iload hx hb dX11_digest_172 (lv_at hl 0 rfl) ?_
    refine lv_bipush (v := 10) hx hb dX11_digest_174 (by decide) ?_
    refine lv_icmp_ge (tgt := 200) hx hb dX11_digest_176 (by decide) (fun c => absurd c (by decide)) (fun _ => ?_)
    refine lv_lload_n hx hb dX11_digest_179 rfl (lv_at hl 1 rfl) ?_
    refine lv_ldc2 (v := 31) hx hb hown (hts (.constantLong RX11 202 31) (by decide +kernel)) dX11_digest_180 ?_
    refine lv_lmul hx hb dX11_digest_183 ?_
    refine lv_aload_n hx hb dX11_digest_184 rfl (lv_at hl 3 rfl) ?_
    refine lv_iload_n hx hb dX11_digest_185 rfl (lv_at hl 2 rfl) ?_
    refine lv_iload hx hb dX11_digest_186 (lv_at hl 0 rfl) ?_
    refine g_cVi (As := [.int 2, .int 6]) (rest := [.long ((((vX11_digest_22 S) * 31) + ((rX11_voiceNow (up2 S 18 0 0) (2 : Int32) (5 : Int32)).toInt64)) * 31)]) ⟨hx, hb, hml, hown, hts⟩ (c_X11_voiceNow l G cA zq a ha (up2 S 18 0 0) L H.size (2 : Int32) (6 : Int32)  (vp_in_lit (by decide))) (cwV 2 hts gX11_digest_X11_voiceNow rfl rfl rfl (by decide +kernel) ⟨Nat.le_of_ble_eq_true rfl, Nat.le_of_ble_eq_true rfl⟩) (g_recv hK hP (by decide) cD_Mo (C := RX11) (T := TX11) (N := 2) rfl) hK (mA_mono hS.1) hP hS rfl hl.1 rfl (lv_room (Nat.le_of_ble_eq_true rfl)) dX11_digest_188 ⟨Nat.le_of_ble_eq_true rfl, Nat.le_of_ble_eq_true rfl⟩ (fun H locs hP hS _ _ => ?_)
    refine lv_i2l hx hb dX11_digest_191 rfl ?_
    refine lv_ladd hx hb dX11_digest_192 ?_
    refine W.eq (g2 := F0 m 193 ls [.long (vX11_digest_23 S)]) rfl ?_
    refine lv_lstore_n (lv' := [(1, .long (vX11_digest_23 S)), (4, .int 6), (3, .int 2), (0, .ref (a 18))]) hx hb dX11_digest_193 rfl hl (by decide) rfl (fun ls hl => ?_)
    refine lv_iinc (v := 7) (lv' := [(4, .int 7), (1, .long (vX11_digest_23 S)), (3, .int 2), (0, .ref (a 18))]) hx hb dX11_digest_194 hl (k := 1) rfl (by decide) (by decide) rfl (fun ls hl => ?_)
    refine lv_goto (tgt := 172) hx hb dX11_digest_197 (by decide) ?_
    refine lv_iload hx hb dX11_digest_172 (lv_at hl 0 rfl) ?_
    refine lv_bipush (v := 10) hx hb dX11_digest_174 (by decide) ?_
    refine lv_icmp_ge (tgt := 200) hx hb dX11_digest_176 (by decide) (fun c => absurd c (by decide)) (fun _ => ?_)
    refine lv_lload_n hx hb dX11_digest_179 rfl (lv_at hl 1 rfl) ?_
    refine lv_ldc2 (v := 31) hx hb hown (hts (.constantLong RX11 202 31) (by decide +kernel)) dX11_digest_180 ?_
    refine lv_lmul hx hb dX11_digest_183 ?_
    refine lv_aload_n hx hb dX11_digest_184 rfl (lv_at hl 3 rfl) ?_
    refine lv_iload_n hx hb dX11_digest_185 rfl (lv_at hl 2 rfl) ?_
    refine lv_iload hx hb dX11_digest_186 (lv_at hl 0 rfl) ?_
    refine g_cVi (As := [.int 2, .int 7]) (rest := [.long ((vX11_digest_23 S) * 31)]) ⟨hx, hb, hml, hown, hts⟩ (c_X11_voiceNow l G cA zq a ha (up2 S 18 0 0) L H.size (2 : Int32) (7 : Int32)  (vp_in_lit (by decide))) (cwV 2 hts gX11_digest_X11_voiceNow rfl rfl rfl (by decide +kernel) ⟨Nat.le_of_ble_eq_true rfl, Nat.le_of_ble_eq_true rfl⟩) (g_recv hK hP (by decide) cD_Mo (C := RX11) (T := TX11) (N := 2) rfl) hK (mA_mono hS.1) hP hS rfl hl.1 rfl (lv_room (Nat.le_of_ble_eq_true rfl)) dX11_digest_188 ⟨Nat.le_of_ble_eq_true rfl, Nat.le_of_ble_eq_true rfl⟩ (fun H locs hP hS _ _ => ?_)
    refine lv_i2l hx hb dX11_digest_191 rfl ?_
    refine lv_ladd hx hb dX11_digest_192 ?_
    refine lv_lstore_n (lv' := [(1, .long (((vX11_digest_23 S) * 31) + ((rX11_voiceNow (up2 S 18 0 0) (2 : Int32) (7 : Int32)).toInt64))), (4, .int 7), (3, .int 2), (0, .ref (a 18))]) hx hb dX11_digest_193 rfl hl (by decide) rfl (fun ls hl => ?_)
    refine lv_iinc (v := 8) (lv' := [(4, .int 8), (1, .long (((vX11_digest_23 S) * 31) + ((rX11_voiceNow (up2 S 18 0 0) (2 : Int32) (7 : Int32)).toInt64))), (3, .int 2), (0, .ref (a 18))]) hx hb dX11_digest_194 hl (k := 1) rfl (by decide) (by decide) rfl (fun ls hl => ?_)
    refine lv_goto (tgt := 172) hx hb dX11_digest_197 (by decide) ?_
    refine lv_iload hx hb dX11_digest_172 (lv_at hl 0 rfl) ?_
    refine lv_bipush (v := 10) hx hb dX11_digest_174 (by decide) ?_
    refine lv_icmp_ge (tgt := 200) hx hb dX11_digest_176 (by decide) (fun c => absurd c (by decide)) (fun _ => ?_)
    refine lv_lload_n hx hb dX11_digest_179 rfl (lv_at hl 1 rfl) ?_
    refine lv_ldc2 (v := 31) hx hb hown (hts (.constantLong RX11 202 31) (by decide +kernel)) dX11_digest_180 ?_
    refine lv_lmul hx hb dX11_digest_183 ?_
    refine lv_aload_n hx hb dX11_digest_184 rfl (lv_at hl 3 rfl) ?_
    refine lv_iload_n hx hb dX11_digest_185 rfl (lv_at hl 2 rfl) ?_
    refine lv_iload hx hb dX11_digest_186 (lv_at hl 0 rfl) ?_
    refine g_cVi (As := [.int 2, .int 8]) (rest := [.long ((((vX11_digest_23 S) * 31) + ((rX11_voiceNow (up2 S 18 0 0) (2 : Int32) (7 : Int32)).toInt64)) * 31)]) ⟨hx, hb, hml, hown, hts⟩ (c_X11_voiceNow l G cA zq a ha (up2 S 18 0 0) L H.size (2 : Int32) (8 : Int32)  (vp_in_lit (by decide))) (cwV 2 hts gX11_digest_X11_voiceNow rfl rfl rfl (by decide +kernel) ⟨Nat.le_of_ble_eq_true rfl, Nat.le_of_ble_eq_true rfl⟩) (g_recv hK hP (by decide) cD_Mo (C := RX11) (T := TX11) (N := 2) rfl) hK (mA_mono hS.1) hP hS rfl hl.1 rfl (lv_room (Nat.le_of_ble_eq_true rfl)) dX11_digest_188 ⟨Nat.le_of_ble_eq_true rfl, Nat.le_of_ble_eq_true rfl⟩ (fun H locs hP hS _ _ => ?_)
    refine lv_i2l hx hb dX11_digest_191 rfl ?_
    refine lv_ladd hx hb dX11_digest_192 ?_
    refine W.eq (g2 := F0 m 193 ls [.long (vX11_digest_24 S)]) rfl ?_
    refine lv_lstore_n (lv' := [(1, .long (vX11_digest_24 S)), (4, .int 8), (3, .int 2), (0, .ref (a 18))]) hx hb dX11_digest_193 rfl hl (by decide) rfl (fun ls hl => ?_)
    refine lv_iinc (v := 9) (lv' := [(4, .int 9), (1, .long (vX11_digest_24 S)), (3, .int 2), (0, .ref (a 18))]) hx hb dX11_digest_194 hl (k := 1) rfl (by decide) (by decide) rfl (fun ls hl => ?_)
    refine lv_goto (tgt := 172) hx hb dX11_digest_197 (by decide) ?_
    refine lv_iload hx hb dX11_digest_172 (lv_at hl 0 rfl) ?_
    refine lv_bipush (v := 10) hx hb dX11_digest_174 (by decide) ?_
    refine lv_icmp_ge (tgt := 200) hx hb dX11_digest_176 (by decide) (fun c => absurd c (by decide)) (fun _ => ?_)
    refine lv_lload_n hx hb dX11_digest_179 rfl (lv_at hl 1 rfl) ?_
    refine lv_ldc2 (v := 31) hx hb hown (hts (.constantLong RX11 202 31) (by decide +kernel)) dX11_digest_180 ?_
    refine lv_lmul hx hb dX11_digest_183 ?_
    refine lv_aload_n hx hb dX11_digest_184 rfl (lv_at hl 3 rfl) ?_
    refine lv_iload_n hx hb dX11_digest_185 rfl (lv_at hl 2 rfl) ?_
    refine lv_iload hx hb dX11_digest_186 (lv_at hl 0 rfl) ?_
    refine g_cVi (As := [.int 2, .int 9]) (rest := [.long ((vX11_digest_24 S) * 31)]) ⟨hx, hb, hml, hown, hts⟩ (c_X11_voiceNow l G cA zq a ha (up2 S 18 0 0) L H.size (2 : Int32) (9 : Int32)  (vp_in_lit (by decide))) (cwV 2 hts gX11_digest_X11_voiceNow rfl rfl rfl (by decide +kernel) ⟨Nat.le_of_ble_eq_true rfl, Nat.le_of_ble_eq_true rfl⟩) (g_recv hK hP (by decide) cD_Mo (C := RX11) (T := TX11) (N := 2) rfl) hK (mA_mono hS.1) hP hS rfl hl.1 rfl (lv_room (Nat.le_of_ble_eq_true rfl)) dX11_digest_188 ⟨Nat.le_of_ble_eq_true rfl, Nat.le_of_ble_eq_true rfl⟩ (fun H locs hP hS _ _ => ?_)
    refine lv_i2l hx hb dX11_digest_191 rfl ?_
    refine lv_ladd hx hb dX11_digest_192 ?_
    refine lv_lstore_n (lv' := [(1, .long (((vX11_digest_24 S) * 31) + ((rX11_voiceNow (up2 S 18 0 0) (2 : Int32) (9 : Int32)).toInt64))), (4, .int 9), (3, .int 2), (0, .ref (a 18))]) hx hb dX11_digest_193 rfl hl (by decide) rfl (fun ls hl => ?_)
    refine lv_iinc (v := 10) (lv' := [(4, .int 10), (1, .long (((vX11_digest_24 S) * 31) + ((rX11_voiceNow (up2 S 18 0 0) (2 : Int32) (9 : Int32)).toInt64))), (3, .int 2), (0, .ref (a 18))]) hx hb dX11_digest_194 hl (k := 1) rfl (by decide) (by decide) rfl (fun ls hl => ?_)
    refine lv_goto (tgt := 172) hx hb dX11_digest_197 (by decide) ?_
    refine lv_iload hx hb dX11_digest_172 (lv_at hl 0 rfl) ?_
    refine lv_bipush (v := 10) hx hb dX11_digest_174 (by decide) ?_
    refine lv_icmp_ge (tgt := 200) hx hb dX11_digest_176 (by decide) (fun _ => ?_) (fun c => absurd c (by decide))
    refine lv_iinc (v := 3) (lv' := [(3, .int 3), (4, .int 10), (1, .long (((vX11_digest_24 S) * 31) + ((rX11_voiceNow (up2 S 18 0 0) (2 : Int32) (9 : Int32)).toInt64))), (0, .ref (a 18))]) hx hb dX11_digest_200 hl (k := 2) rfl (by decide) (by decide) rfl (fun ls hl => ?_)
    refine lv_goto (tgt := 164) hx hb dX11_digest_203 (by decide) ?_
    refine lv_iload_n hx hb dX11_digest_164 rfl (lv_at hl 0 rfl) ?_
    refine lv_iconst (v := 4) hx hb dX11_digest_165 (by decide) ?_
    refine lv_icmp_ge (tgt := 206) hx hb dX11_digest_166 (by decide) (fun c => absurd c (by decide)) (fun _ => ?_)
    refine lv_iconst (v := 0) hx hb dX11_digest_169 (by decide) ?_
    refine lv_istore (lv' := [(4, .int 0), (3, .int 3), (1, .long (((vX11_digest_24 S) * 31) + ((rX11_voiceNow (up2 S 18 0 0) (2 : Int32) (9 : Int32)).toInt64))), (0, .ref (a 18))]) hx hb dX11_digest_170 hl (by decide) rfl (fun ls hl => ?_)
    refine lv_iload hx hb dX11_digest_172 (lv_at hl 0 rfl) ?_
    refine lv_bipush (v := 10) hx hb dX11_digest_174 (by decide) ?_
    refine lv_icmp_ge (tgt := 200) hx hb dX11_digest_176 (by decide) (fun c => absurd c (by decide)) (fun _ => ?_)
    refine lv_lload_n hx hb dX11_digest_179 rfl (lv_at hl 2 rfl) ?_
    refine lv_ldc2 (v := 31) hx hb hown (hts (.constantLong RX11 202 31) (by decide +kernel)) dX11_digest_180 ?_
    refine lv_lmul hx hb dX11_digest_183 ?_
    refine lv_aload_n hx hb dX11_digest_184 rfl (lv_at hl 3 rfl) ?_
    refine lv_iload_n hx hb dX11_digest_185 rfl (lv_at hl 1 rfl) ?_
    refine lv_iload hx hb dX11_digest_186 (lv_at hl 0 rfl) ?_
    refine g_cVi (As := [.int 3, .int 0]) (rest := [.long ((((vX11_digest_24 S) * 31) + ((rX11_voiceNow (up2 S 18 0 0) (2 : Int32) (9 : Int32)).toInt64)) * 31)]) ⟨hx, hb, hml, hown, hts⟩ (c_X11_voiceNow l G cA zq a ha (up2 S 18 0 0) L H.size (3 : Int32) (0 : Int32)  (vp_in_lit (by decide))) (cwV 2 hts gX11_digest_X11_voiceNow rfl rfl rfl (by decide +kernel) ⟨Nat.le_of_ble_eq_true rfl, Nat.le_of_ble_eq_true rfl⟩) (g_recv hK hP (by decide) cD_Mo (C := RX11) (T := TX11) (N := 2) rfl) hK (mA_mono hS.1) hP hS rfl hl.1 rfl (lv_room (Nat.le_of_ble_eq_true rfl)) dX11_digest_188 ⟨Nat.le_of_ble_eq_true rfl, Nat.le_of_ble_eq_true rfl⟩ (fun H locs hP hS _ _ => ?_)
    refine lv_i2l hx hb dX11_digest_191 rfl ?_
    refine lv_ladd hx hb dX11_digest_192 ?_
    refine W.eq (g2 := F0 m 193 ls [.long (vX11_digest_25 S)]) rfl ?_
    refine lv_lstore_n (lv' := [(1, .long (vX11_digest_25 S)), (4, .int 0), (3, .int 3), (0, .ref (a 18))]) hx hb dX11_digest_193 rfl hl (by decide) rfl (fun ls hl => ?_)
    refine lv_iinc (v := 1) (lv' := [(4, .int 1), (1, .long (vX11_digest_25 S)), (3, .int 3), (0, .ref (a 18))]) hx hb dX11_digest_194 hl (k := 1) rfl (by decide) (by decide) rfl (fun ls hl => ?_)
    refine lv_goto (tgt := 172) hx hb dX11_digest_197 (by decide) ?_
    refine lv_iload hx hb dX11_digest_172 (lv_at hl 0 rfl) ?_
    refine lv_bipush (v := 10) hx hb dX11_digest_174 (by decide) ?_
    refine lv_icmp_ge (tgt := 200) hx hb dX11_digest_176 (by decide) (fun c => absurd c (by decide)) (fun _ => ?_)
    refine lv_lload_n hx hb dX11_digest_179 rfl (lv_at hl 1 rfl) ?_
    refine lv_ldc2 (v := 31) hx hb hown (hts (.constantLong RX11 202 31) (by decide +kernel)) dX11_digest_180 ?_
    refine lv_lmul hx hb dX11_digest_183 ?_
    refine lv_aload_n hx hb dX11_digest_184 rfl (lv_at hl 3 rfl) ?_
    refine lv_iload_n hx hb dX11_digest_185 rfl (lv_at hl 2 rfl) ?_
    refine lv_iload hx hb dX11_digest_186 (lv_at hl 0 rfl) ?_
    refine g_cVi (As := [.int 3, .int 1]) (rest := [.long ((vX11_digest_25 S) * 31)]) ⟨hx, hb, hml, hown, hts⟩ (c_X11_voiceNow l G cA zq a ha (up2 S 18 0 0) L H.size (3 : Int32) (1 : Int32)  (vp_in_lit (by decide))) (cwV 2 hts gX11_digest_X11_voiceNow rfl rfl rfl (by decide +kernel) ⟨Nat.le_of_ble_eq_true rfl, Nat.le_of_ble_eq_true rfl⟩) (g_recv hK hP (by decide) cD_Mo (C := RX11) (T := TX11) (N := 2) rfl) hK (mA_mono hS.1) hP hS rfl hl.1 rfl (lv_room (Nat.le_of_ble_eq_true rfl)) dX11_digest_188 ⟨Nat.le_of_ble_eq_true rfl, Nat.le_of_ble_eq_true rfl⟩ (fun H locs hP hS _ _ => ?_)
    refine lv_i2l hx hb dX11_digest_191 rfl ?_
    refine lv_ladd hx hb dX11_digest_192 ?_
    refine lv_lstore_n (lv' := [(1, .long (((vX11_digest_25 S) * 31) + ((rX11_voiceNow (up2 S 18 0 0) (3 : Int32) (1 : Int32)).toInt64))), (4, .int 1), (3, .int 3), (0, .ref (a 18))]) hx hb dX11_digest_193 rfl hl (by decide) rfl (fun ls hl => ?_)
    refine lv_iinc (v := 2) (lv' := [(4, .int 2), (1, .long (((vX11_digest_25 S) * 31) + ((rX11_voiceNow (up2 S 18 0 0) (3 : Int32) (1 : Int32)).toInt64))), (3, .int 3), (0, .ref (a 18))]) hx hb dX11_digest_194 hl (k := 1) rfl (by decide) (by decide) rfl (fun ls hl => ?_)
    refine lv_goto (tgt := 172) hx hb dX11_digest_197 (by decide) ?_
    refine lv_iload hx hb dX11_digest_172 (lv_at hl 0 rfl) ?_
    refine lv_bipush (v := 10) hx hb dX11_digest_174 (by decide) ?_
    refine lv_icmp_ge (tgt := 200) hx hb dX11_digest_176 (by decide) (fun c => absurd c (by decide)) (fun _ => ?_)
    refine lv_lload_n hx hb dX11_digest_179 rfl (lv_at hl 1 rfl) ?_
    refine lv_ldc2 (v := 31) hx hb hown (hts (.constantLong RX11 202 31) (by decide +kernel)) dX11_digest_180 ?_
    refine lv_lmul hx hb dX11_digest_183 ?_
    refine lv_aload_n hx hb dX11_digest_184 rfl (lv_at hl 3 rfl) ?_
    refine lv_iload_n hx hb dX11_digest_185 rfl (lv_at hl 2 rfl) ?_
    refine lv_iload hx hb dX11_digest_186 (lv_at hl 0 rfl) ?_
    refine g_cVi (As := [.int 3, .int 2]) (rest := [.long ((((vX11_digest_25 S) * 31) + ((rX11_voiceNow (up2 S 18 0 0) (3 : Int32) (1 : Int32)).toInt64)) * 31)]) ⟨hx, hb, hml, hown, hts⟩ (c_X11_voiceNow l G cA zq a ha (up2 S 18 0 0) L H.size (3 : Int32) (2 : Int32)  (vp_in_lit (by decide))) (cwV 2 hts gX11_digest_X11_voiceNow rfl rfl rfl (by decide +kernel) ⟨Nat.le_of_ble_eq_true rfl, Nat.le_of_ble_eq_true rfl⟩) (g_recv hK hP (by decide) cD_Mo (C := RX11) (T := TX11) (N := 2) rfl) hK (mA_mono hS.1) hP hS rfl hl.1 rfl (lv_room (Nat.le_of_ble_eq_true rfl)) dX11_digest_188 ⟨Nat.le_of_ble_eq_true rfl, Nat.le_of_ble_eq_true rfl⟩ (fun H locs hP hS _ _ => ?_)
    refine lv_i2l hx hb dX11_digest_191 rfl ?_
    refine lv_ladd hx hb dX11_digest_192 ?_
    refine W.eq (g2 := F0 m 193 ls [.long (vX11_digest_26 S)]) rfl ?_
    refine lv_lstore_n (lv' := [(1, .long (vX11_digest_26 S)), (4, .int 2), (3, .int 3), (0, .ref (a 18))]) hx hb dX11_digest_193 rfl hl (by decide) rfl (fun ls hl => ?_)
    refine lv_iinc (v := 3) (lv' := [(4, .int 3), (1, .long (vX11_digest_26 S)), (3, .int 3), (0, .ref (a 18))]) hx hb dX11_digest_194 hl (k := 1) rfl (by decide) (by decide) rfl (fun ls hl => ?_)
    refine lv_goto (tgt := 172) hx hb dX11_digest_197 (by decide) ?_
    refine lv_iload hx hb dX11_digest_172 (lv_at hl 0 rfl) ?_
    refine lv_bipush (v := 10) hx hb dX11_digest_174 (by decide) ?_
    refine lv_icmp_ge (tgt := 200) hx hb dX11_digest_176 (by decide) (fun c => absurd c (by decide)) (fun _ => ?_)
    refine lv_lload_n hx hb dX11_digest_179 rfl (lv_at hl 1 rfl) ?_
    refine lv_ldc2 (v := 31) hx hb hown (hts (.constantLong RX11 202 31) (by decide +kernel)) dX11_digest_180 ?_
    refine lv_lmul hx hb dX11_digest_183 ?_
    refine lv_aload_n hx hb dX11_digest_184 rfl (lv_at hl 3 rfl) ?_
    refine lv_iload_n hx hb dX11_digest_185 rfl (lv_at hl 2 rfl) ?_
    refine lv_iload hx hb dX11_digest_186 (lv_at hl 0 rfl) ?_
    refine g_cVi (As := [.int 3, .int 3]) (rest := [.long ((vX11_digest_26 S) * 31)]) ⟨hx, hb, hml, hown, hts⟩ (c_X11_voiceNow l G cA zq a ha (up2 S 18 0 0) L H.size (3 : Int32) (3 : Int32)  (vp_in_lit (by decide))) (cwV 2 hts gX11_digest_X11_voiceNow rfl rfl rfl (by decide +kernel) ⟨Nat.le_of_ble_eq_true rfl, Nat.le_of_ble_eq_true rfl⟩) (g_recv hK hP (by decide) cD_Mo (C := RX11) (T := TX11) (N := 2) rfl) hK (mA_mono hS.1) hP hS rfl hl.1 rfl (lv_room (Nat.le_of_ble_eq_true rfl)) dX11_digest_188 ⟨Nat.le_of_ble_eq_true rfl, Nat.le_of_ble_eq_true rfl⟩ (fun H locs hP hS _ _ => ?_)
    refine lv_i2l hx hb dX11_digest_191 rfl ?_
    refine lv_ladd hx hb dX11_digest_192 ?_
    refine lv_lstore_n (lv' := [(1, .long (((vX11_digest_26 S) * 31) + ((rX11_voiceNow (up2 S 18 0 0) (3 : Int32) (3 : Int32)).toInt64))), (4, .int 3), (3, .int 3), (0, .ref (a 18))]) hx hb dX11_digest_193 rfl hl (by decide) rfl (fun ls hl => ?_)
    refine lv_iinc (v := 4) (lv' := [(4, .int 4), (1, .long (((vX11_digest_26 S) * 31) + ((rX11_voiceNow (up2 S 18 0 0) (3 : Int32) (3 : Int32)).toInt64))), (3, .int 3), (0, .ref (a 18))]) hx hb dX11_digest_194 hl (k := 1) rfl (by decide) (by decide) rfl (fun ls hl => ?_)
    refine lv_goto (tgt := 172) hx hb dX11_digest_197 (by decide) ?_
    refine lv_iload hx hb dX11_digest_172 (lv_at hl 0 rfl) ?_
    refine lv_bipush (v := 10) hx hb dX11_digest_174 (by decide) ?_
    refine lv_icmp_ge (tgt := 200) hx hb dX11_digest_176 (by decide) (fun c => absurd c (by decide)) (fun _ => ?_)
    refine lv_lload_n hx hb dX11_digest_179 rfl (lv_at hl 1 rfl) ?_
    refine lv_ldc2 (v := 31) hx hb hown (hts (.constantLong RX11 202 31) (by decide +kernel)) dX11_digest_180 ?_
    refine lv_lmul hx hb dX11_digest_183 ?_
    refine lv_aload_n hx hb dX11_digest_184 rfl (lv_at hl 3 rfl) ?_
    refine lv_iload_n hx hb dX11_digest_185 rfl (lv_at hl 2 rfl) ?_
    refine lv_iload hx hb dX11_digest_186 (lv_at hl 0 rfl) ?_
    refine g_cVi (As := [.int 3, .int 4]) (rest := [.long ((((vX11_digest_26 S) * 31) + ((rX11_voiceNow (up2 S 18 0 0) (3 : Int32) (3 : Int32)).toInt64)) * 31)]) ⟨hx, hb, hml, hown, hts⟩ (c_X11_voiceNow l G cA zq a ha (up2 S 18 0 0) L H.size (3 : Int32) (4 : Int32)  (vp_in_lit (by decide))) (cwV 2 hts gX11_digest_X11_voiceNow rfl rfl rfl (by decide +kernel) ⟨Nat.le_of_ble_eq_true rfl, Nat.le_of_ble_eq_true rfl⟩) (g_recv hK hP (by decide) cD_Mo (C := RX11) (T := TX11) (N := 2) rfl) hK (mA_mono hS.1) hP hS rfl hl.1 rfl (lv_room (Nat.le_of_ble_eq_true rfl)) dX11_digest_188 ⟨Nat.le_of_ble_eq_true rfl, Nat.le_of_ble_eq_true rfl⟩ (fun H locs hP hS _ _ => ?_)
    refine lv_i2l hx hb dX11_digest_191 rfl ?_
    refine lv_ladd hx hb dX11_digest_192 ?_
    refine W.eq (g2 := F0 m 193 ls [.long (vX11_digest_27 S)]) rfl ?_
    refine lv_lstore_n (lv' := [(1, .long (vX11_digest_27 S)), (4, .int 4), (3, .int 3), (0, .ref (a 18))]) hx hb dX11_digest_193 rfl hl (by decide) rfl (fun ls hl => ?_)
    refine lv_iinc (v := 5) (lv' := [(4, .int 5), (1, .long (vX11_digest_27 S)), (3, .int 3), (0, .ref (a 18))]) hx hb dX11_digest_194 hl (k := 1) rfl (by decide) (by decide) rfl (fun ls hl => ?_)
    refine lv_goto (tgt := 172) hx hb dX11_digest_197 (by decide) ?_
    refine lv_iload hx hb dX11_digest_172 (lv_at hl 0 rfl) ?_
    refine lv_bipush (v := 10) hx hb dX11_digest_174 (by decide) ?_
    refine lv_icmp_ge (tgt := 200) hx hb dX11_digest_176 (by decide) (fun c => absurd c (by decide)) (fun _ => ?_)
    refine lv_lload_n hx hb dX11_digest_179 rfl (lv_at hl 1 rfl) ?_
    refine lv_ldc2 (v := 31) hx hb hown (hts (.constantLong RX11 202 31) (by decide +kernel)) dX11_digest_180 ?_
    refine lv_lmul hx hb dX11_digest_183 ?_
    refine lv_aload_n hx hb dX11_digest_184 rfl (lv_at hl 3 rfl) ?_
    refine lv_iload_n hx hb dX11_digest_185 rfl (lv_at hl 2 rfl) ?_
    refine lv_iload hx hb dX11_digest_186 (lv_at hl 0 rfl) ?_
    refine g_cVi (As := [.int 3, .int 5]) (rest := [.long ((vX11_digest_27 S) * 31)]) ⟨hx, hb, hml, hown, hts⟩ (c_X11_voiceNow l G cA zq a ha (up2 S 18 0 0) L H.size (3 : Int32) (5 : Int32)  (vp_in_lit (by decide))) (cwV 2 hts gX11_digest_X11_voiceNow rfl rfl rfl (by decide +kernel) ⟨Nat.le_of_ble_eq_true rfl, Nat.le_of_ble_eq_true rfl⟩) (g_recv hK hP (by decide) cD_Mo (C := RX11) (T := TX11) (N := 2) rfl) hK (mA_mono hS.1) hP hS rfl hl.1 rfl (lv_room (Nat.le_of_ble_eq_true rfl)) dX11_digest_188 ⟨Nat.le_of_ble_eq_true rfl, Nat.le_of_ble_eq_true rfl⟩ (fun H locs hP hS _ _ => ?_)
    refine lv_i2l hx hb dX11_digest_191 rfl ?_
    refine lv_ladd hx hb dX11_digest_192 ?_
    refine lv_lstore_n (lv' := [(1, .long (((vX11_digest_27 S) * 31) + ((rX11_voiceNow (up2 S 18 0 0) (3 : Int32) (5 : Int32)).toInt64))), (4, .int 5), (3, .int 3), (0, .ref (a 18))]) hx hb dX11_digest_193 rfl hl (by decide) rfl (fun ls hl => ?_)
    refine lv_iinc (v := 6) (lv' := [(4, .int 6), (1, .long (((vX11_digest_27 S) * 31) + ((rX11_voiceNow (up2 S 18 0 0) (3 : Int32) (5 : Int32)).toInt64))), (3, .int 3), (0, .ref (a 18))]) hx hb dX11_digest_194 hl (k := 1) rfl (by decide) (by decide) rfl (fun ls hl => ?_)
    refine lv_goto (tgt := 172) hx hb dX11_digest_197 (by decide) ?_
    refine lv_iload hx hb dX11_digest_172 (lv_at hl 0 rfl) ?_
    refine lv_bipush (v := 10) hx hb dX11_digest_174 (by decide) ?_
    refine lv_icmp_ge (tgt := 200) hx hb dX11_digest_176 (by decide) (fun c => absurd c (by decide)) (fun _ => ?_)
    refine lv_lload_n hx hb dX11_digest_179 rfl (lv_at hl 1 rfl) ?_
    refine lv_ldc2 (v := 31) hx hb hown (hts (.constantLong RX11 202 31) (by decide +kernel)) dX11_digest_180 ?_
    refine lv_lmul hx hb dX11_digest_183 ?_
    refine lv_aload_n hx hb dX11_digest_184 rfl (lv_at hl 3 rfl) ?_
    refine lv_iload_n hx hb dX11_digest_185 rfl (lv_at hl 2 rfl) ?_
    refine lv_iload hx hb dX11_digest_186 (lv_at hl 0 rfl) ?_
    refine g_cVi (As := [.int 3, .int 6]) (rest := [.long ((((vX11_digest_27 S) * 31) + ((rX11_voiceNow (up2 S 18 0 0) (3 : Int32) (5 : Int32)).toInt64)) * 31)]) ⟨hx, hb, hml, hown, hts⟩ (c_X11_voiceNow l G cA zq a ha (up2 S 18 0 0) L H.size (3 : Int32) (6 : Int32)  (vp_in_lit (by decide))) (cwV 2 hts gX11_digest_X11_voiceNow rfl rfl rfl (by decide +kernel) ⟨Nat.le_of_ble_eq_true rfl, Nat.le_of_ble_eq_true rfl⟩) (g_recv hK hP (by decide) cD_Mo (C := RX11) (T := TX11) (N := 2) rfl) hK (mA_mono hS.1) hP hS rfl hl.1 rfl (lv_room (Nat.le_of_ble_eq_true rfl)) dX11_digest_188 ⟨Nat.le_of_ble_eq_true rfl, Nat.le_of_ble_eq_true rfl⟩ (fun H locs hP hS _ _ => ?_)
    refine lv_i2l hx hb dX11_digest_191 rfl ?_
    refine lv_ladd hx hb dX11_digest_192 ?_
    refine W.eq (g2 := F0 m 193 ls [.long (vX11_digest_28 S)]) rfl ?_
    refine lv_lstore_n (lv' := [(1, .long (vX11_digest_28 S)), (4, .int 6), (3, .int 3), (0, .ref (a 18))]) hx hb dX11_digest_193 rfl hl (by decide) rfl (fun ls hl => ?_)
    refine lv_iinc (v := 7) (lv' := [(4, .int 7), (1, .long (vX11_digest_28 S)), (3, .int 3), (0, .ref (a 18))]) hx hb dX11_digest_194 hl (k := 1) rfl (by decide) (by decide) rfl (fun ls hl => ?_)
    refine lv_goto (tgt := 172) hx hb dX11_digest_197 (by decide) ?_
    refine lv_iload hx hb dX11_digest_172 (lv_at hl 0 rfl) ?_
    refine lv_bipush (v := 10) hx hb dX11_digest_174 (by decide) ?_
    refine lv_icmp_ge (tgt := 200) hx hb dX11_digest_176 (by decide) (fun c => absurd c (by decide)) (fun _ => ?_)
    refine lv_lload_n hx hb dX11_digest_179 rfl (lv_at hl 1 rfl) ?_
    refine lv_ldc2 (v := 31) hx hb hown (hts (.constantLong RX11 202 31) (by decide +kernel)) dX11_digest_180 ?_
    refine lv_lmul hx hb dX11_digest_183 ?_
    refine lv_aload_n hx hb dX11_digest_184 rfl (lv_at hl 3 rfl) ?_
    refine lv_iload_n hx hb dX11_digest_185 rfl (lv_at hl 2 rfl) ?_
    refine lv_iload hx hb dX11_digest_186 (lv_at hl 0 rfl) ?_
    refine g_cVi (As := [.int 3, .int 7]) (rest := [.long ((vX11_digest_28 S) * 31)]) ⟨hx, hb, hml, hown, hts⟩ (c_X11_voiceNow l G cA zq a ha (up2 S 18 0 0) L H.size (3 : Int32) (7 : Int32)  (vp_in_lit (by decide))) (cwV 2 hts gX11_digest_X11_voiceNow rfl rfl rfl (by decide +kernel) ⟨Nat.le_of_ble_eq_true rfl, Nat.le_of_ble_eq_true rfl⟩) (g_recv hK hP (by decide) cD_Mo (C := RX11) (T := TX11) (N := 2) rfl) hK (mA_mono hS.1) hP hS rfl hl.1 rfl (lv_room (Nat.le_of_ble_eq_true rfl)) dX11_digest_188 ⟨Nat.le_of_ble_eq_true rfl, Nat.le_of_ble_eq_true rfl⟩ (fun H locs hP hS _ _ => ?_)
    refine lv_i2l hx hb dX11_digest_191 rfl ?_
    refine lv_ladd hx hb dX11_digest_192 ?_
    refine lv_lstore_n (lv' := [(1, .long (((vX11_digest_28 S) * 31) + ((rX11_voiceNow (up2 S 18 0 0) (3 : Int32) (7 : Int32)).toInt64))), (4, .int 7), (3, .int 3), (0, .ref (a 18))]) hx hb dX11_digest_193 rfl hl (by decide) rfl (fun ls hl => ?_)
    refine lv_iinc (v := 8) (lv' := [(4, .int 8), (1, .long (((vX11_digest_28 S) * 31) + ((rX11_voiceNow (up2 S 18 0 0) (3 : Int32) (7 : Int32)).toInt64))), (3, .int 3), (0, .ref (a 18))]) hx hb dX11_digest_194 hl (k := 1) rfl (by decide) (by decide) rfl (fun ls hl => ?_)
    refine lv_goto (tgt := 172) hx hb dX11_digest_197 (by decide) ?_
    refine lv_iload hx hb dX11_digest_172 (lv_at hl 0 rfl) ?_
    refine lv_bipush (v := 10) hx hb dX11_digest_174 (by decide) ?_
    refine lv_icmp_ge (tgt := 200) hx hb dX11_digest_176 (by decide) (fun c => absurd c (by decide)) (fun _ => ?_)
    refine lv_lload_n hx hb dX11_digest_179 rfl (lv_at hl 1 rfl) ?_
    refine lv_ldc2 (v := 31) hx hb hown (hts (.constantLong RX11 202 31) (by decide +kernel)) dX11_digest_180 ?_
    refine lv_lmul hx hb dX11_digest_183 ?_
    refine lv_aload_n hx hb dX11_digest_184 rfl (lv_at hl 3 rfl) ?_
    refine lv_iload_n hx hb dX11_digest_185 rfl (lv_at hl 2 rfl) ?_
    refine lv_iload hx hb dX11_digest_186 (lv_at hl 0 rfl) ?_
    refine g_cVi (As := [.int 3, .int 8]) (rest := [.long ((((vX11_digest_28 S) * 31) + ((rX11_voiceNow (up2 S 18 0 0) (3 : Int32) (7 : Int32)).toInt64)) * 31)]) ⟨hx, hb, hml, hown, hts⟩ (c_X11_voiceNow l G cA zq a ha (up2 S 18 0 0) L H.size (3 : Int32) (8 : Int32)  (vp_in_lit (by decide))) (cwV 2 hts gX11_digest_X11_voiceNow rfl rfl rfl (by decide +kernel) ⟨Nat.le_of_ble_eq_true rfl, Nat.le_of_ble_eq_true rfl⟩) (g_recv hK hP (by decide) cD_Mo (C := RX11) (T := TX11) (N := 2) rfl) hK (mA_mono hS.1) hP hS rfl hl.1 rfl (lv_room (Nat.le_of_ble_eq_true rfl)) dX11_digest_188 ⟨Nat.le_of_ble_eq_true rfl, Nat.le_of_ble_eq_true rfl⟩ (fun H locs hP hS _ _ => ?_)
    refine lv_i2l hx hb dX11_digest_191 rfl ?_
    refine lv_ladd hx hb dX11_digest_192 ?_
    refine W.eq (g2 := F0 m 193 ls [.long (vX11_digest_29 S)]) rfl ?_
    refine lv_lstore_n (lv' := [(1, .long (vX11_digest_29 S)), (4, .int 8), (3, .int 3), (0, .ref (a 18))]) hx hb dX11_digest_193 rfl hl (by decide) rfl (fun ls hl => ?_)
    refine lv_iinc (v := 9) (lv' := [(4, .int 9), (1, .long (vX11_digest_29 S)), (3, .int 3), (0, .ref (a 18))]) hx hb dX11_digest_194 hl (k := 1) rfl (by decide) (by decide) rfl (fun ls hl => ?_)
    refine lv_goto (tgt := 172) hx hb dX11_digest_197 (by decide) ?_
    refine lv_iload hx hb dX11_digest_172 (lv_at hl 0 rfl) ?_
    refine lv_bipush (v := 10) hx hb dX11_digest_174 (by decide) ?_
    refine lv_icmp_ge (tgt := 200) hx hb dX11_digest_176 (by decide) (fun c => absurd c (by decide)) (fun _ => ?_)
    refine lv_lload_n hx hb dX11_digest_179 rfl (lv_at hl 1 rfl) ?_
    refine lv_ldc2 (v := 31) hx hb hown (hts (.constantLong RX11 202 31) (by decide +kernel)) dX11_digest_180 ?_
    refine lv_lmul hx hb dX11_digest_183 ?_
    refine lv_aload_n hx hb dX11_digest_184 rfl (lv_at hl 3 rfl) ?_
    refine lv_iload_n hx hb dX11_digest_185 rfl (lv_at hl 2 rfl) ?_
    refine lv_iload hx hb dX11_digest_186 (lv_at hl 0 rfl) ?_
    refine g_cVi (As := [.int 3, .int 9]) (rest := [.long ((vX11_digest_29 S) * 31)]) ⟨hx, hb, hml, hown, hts⟩ (c_X11_voiceNow l G cA zq a ha (up2 S 18 0 0) L H.size (3 : Int32) (9 : Int32)  (vp_in_lit (by decide))) (cwV 2 hts gX11_digest_X11_voiceNow rfl rfl rfl (by decide +kernel) ⟨Nat.le_of_ble_eq_true rfl, Nat.le_of_ble_eq_true rfl⟩) (g_recv hK hP (by decide) cD_Mo (C := RX11) (T := TX11) (N := 2) rfl) hK (mA_mono hS.1) hP hS rfl hl.1 rfl (lv_room (Nat.le_of_ble_eq_true rfl)) dX11_digest_188 ⟨Nat.le_of_ble_eq_true rfl, Nat.le_of_ble_eq_true rfl⟩ (fun H locs hP hS _ _ => ?_)
    refine lv_i2l hx hb dX11_digest_191 rfl ?_
    refine lv_ladd hx hb dX11_digest_192 ?_
    refine lv_lstore_n (lv' := [(1, .long (((vX11_digest_29 S) * 31) + ((rX11_voiceNow (up2 S 18 0 0) (3 : Int32) (9 : Int32)).toInt64))), (4, .int 9), (3, .int 3), (0, .ref (a 18))]) hx hb dX11_digest_193 rfl hl (by decide) rfl (fun ls hl => ?_)
    refine lv_iinc (v := 10) (lv' := [(4, .int 10), (1, .long (((vX11_digest_29 S) * 31) + ((rX11_voiceNow (up2 S 18 0 0) (3 : Int32) (9 : Int32)).toInt64))), (3, .int 3), (0, .ref (a 18))]) hx hb dX11_digest_194 hl (k := 1) rfl (by decide) (by decide) rfl (fun ls hl => ?_)
    refine lv_goto (tgt := 172) hx hb dX11_digest_197 (by decide) ?_
    refine lv_iload hx hb dX11_digest_172 (lv_at hl 0 rfl) ?_
    refine lv_bipush (v := 10) hx hb dX11_digest_174 (by decide) ?_
    refine lv_icmp_ge (tgt := 200) hx hb dX11_digest_176 (by decide) (fun _ => ?_) (fun c => absurd c (by decide))
    refine lv_iinc (v := 4) (lv' := [(3, .int 4), (4, .int 10), (1, .long (((vX11_digest_29 S) * 31) + ((rX11_voiceNow (up2 S 18 0 0) (3 : Int32) (9 : Int32)).toInt64))), (0, .ref (a 18))]) hx hb dX11_digest_200 hl (k := 2) rfl (by decide) (by decide) rfl (fun ls hl => ?_)
    refine lv_goto (tgt := 164) hx hb dX11_digest_203 (by decide) ?_
    refine lv_iload_n hx hb dX11_digest_164 rfl (lv_at hl 0 rfl) ?_
    refine lv_iconst (v := 4) hx hb dX11_digest_165 (by decide) ?_
    refine lv_icmp_ge (tgt := 206) hx hb dX11_digest_166 (by decide) (fun _ => ?_) (fun c => absurd c (by decide))
    refine lv_aload_n hx hb dX11_digest_206 rfl (lv_at hl 3 rfl) ?_
    refine g_get (ci := 11) (C := RX11) (T := TX11) (N := 2) (v := .ref (a 0)) hx hb hts iX11_digest_X11 hown hK hP (by decide) cD_Mo rfl 1 (by decide) rfl (by decide +kernel) rfl dX11_digest_207 ?_
    refine g_get (ci := 10) (C := RX10) (T := TX10) (N := 35) (v := .ref (a 16)) hx hb hts iX11_digest_X10 hown hK hP (lt_hn (by decide) (by decide)) cD_D rfl 21 (by decide) rfl (by decide +kernel) rfl dX11_digest_210 ?_
    refine lv_astore_n (lv' := [(3, .ref (a 16)), (4, .int 10), (1, .long (((vX11_digest_29 S) * 31) + ((rX11_voiceNow (up2 S 18 0 0) (3 : Int32) (9 : Int32)).toInt64))), (0, .ref (a 18))]) hx hb dX11_digest_213 rfl hl (by decide) rfl (fun ls hl => ?_)
    refine lv_aload_n hx hb dX11_digest_214 rfl (lv_at hl 0 rfl) ?_
    refine g_alen (N := 72) hx hb hK hP (lt_hn (by decide) (by decide)) rfl dX11_digest_215 ?_
    rw [show Int32.ofNat 72 = (72 : Int32) from rfl]
    refine lv_istore (lv' := [(4, .int 72), (3, .ref (a 16)), (1, .long (((vX11_digest_29 S) * 31) + ((rX11_voiceNow (up2 S 18 0 0) (3 : Int32) (9 : Int32)).toInt64))), (0, .ref (a 18))]) hx hb dX11_digest_216 hl (by decide) rfl (fun ls hl => ?_)
    refine lv_iconst (v := 0) hx hb dX11_digest_218 (by decide) ?_
    refine lv_istore (lv' := [(5, .int 0), (4, .int 72), (3, .ref (a 16)), (1, .long (((vX11_digest_29 S) * 31) + ((rX11_voiceNow (up2 S 18 0 0) (3 : Int32) (9 : Int32)).toInt64))), (0, .ref (a 18))]) hx hb dX11_digest_219 hl (by decide) rfl (fun ls hl => ?_)
    refine lv_iload hx hb dX11_digest_221 (lv_at hl 0 rfl) ?_
    refine lv_iload hx hb dX11_digest_223 (lv_at hl 1 rfl) ?_
    refine lv_icmp_ge (tgt := 250) hx hb dX11_digest_225 (by decide) (fun c => absurd c (by decide)) (fun _ => ?_)
    refine lv_aload_n hx hb dX11_digest_228 rfl (lv_at hl 2 rfl) ?_
    refine lv_iload hx hb dX11_digest_229 (lv_at hl 0 rfl) ?_
    refine g_iald (N := 72) (g := (up2 S 18 0 0) 16) hx hb hK hP (lt_hn (by decide) (by decide)) rfl (vp_in_lit (by decide)) dX11_digest_231 ?_
    refine lv_istore (lv' := [(6, .int ((up2 S 18 0 0) 16 (0 : Int32).toNatClampNeg)), (5, .int 0), (4, .int 72), (3, .ref (a 16)), (1, .long (((vX11_digest_29 S) * 31) + ((rX11_voiceNow (up2 S 18 0 0) (3 : Int32) (9 : Int32)).toInt64))), (0, .ref (a 18))]) hx hb dX11_digest_232 hl (by decide) rfl (fun ls hl => ?_)
    refine lv_lload_n hx hb dX11_digest_234 rfl (lv_at hl 4 rfl) ?_
    refine lv_ldc2 (v := 31) hx hb hown (hts (.constantLong RX11 202 31) (by decide +kernel)) dX11_digest_235 ?_
    refine lv_lmul hx hb dX11_digest_238 ?_
    refine lv_iload hx hb dX11_digest_239 (lv_at hl 0 rfl) ?_
    refine lv_i2l hx hb dX11_digest_241 rfl ?_
    refine lv_ladd hx hb dX11_digest_242 ?_
    refine W.eq (g2 := F0 m 243 ls [.long (vX11_digest_30 S)]) rfl ?_
    refine lv_lstore_n (lv' := [(1, .long (vX11_digest_30 S)), (6, .int ((up2 S 18 0 0) 16 (0 : Int32).toNatClampNeg)), (5, .int 0), (4, .int 72), (3, .ref (a 16)), (0, .ref (a 18))]) hx hb dX11_digest_243 rfl hl (by decide) rfl (fun ls hl => ?_)
    refine lv_iinc (v := 1) (lv' := [(5, .int 1), (1, .long (vX11_digest_30 S)), (6, .int ((up2 S 18 0 0) 16 (0 : Int32).toNatClampNeg)), (4, .int 72), (3, .ref (a 16)), (0, .ref (a 18))]) hx hb dX11_digest_244 hl (k := 2) rfl (by decide) (by decide) rfl (fun ls hl => ?_)
    refine lv_goto (tgt := 221) hx hb dX11_digest_247 (by decide) ?_
    refine lv_iload hx hb dX11_digest_221 (lv_at hl 0 rfl) ?_
    refine lv_iload hx hb dX11_digest_223 (lv_at hl 3 rfl) ?_
    refine lv_icmp_ge (tgt := 250) hx hb dX11_digest_225 (by decide) (fun c => absurd c (by decide)) (fun _ => ?_)
    refine lv_aload_n hx hb dX11_digest_228 rfl (lv_at hl 4 rfl) ?_
    refine lv_iload hx hb dX11_digest_229 (lv_at hl 0 rfl) ?_
    refine g_iald (N := 72) (g := (up2 S 18 0 0) 16) hx hb hK hP (lt_hn (by decide) (by decide)) rfl (vp_in_lit (by decide)) dX11_digest_231 ?_
    refine lv_istore (lv' := [(6, .int ((up2 S 18 0 0) 16 (1 : Int32).toNatClampNeg)), (5, .int 1), (1, .long (vX11_digest_30 S)), (4, .int 72), (3, .ref (a 16)), (0, .ref (a 18))]) hx hb dX11_digest_232 hl (by decide) rfl (fun ls hl => ?_)
    refine lv_lload_n hx hb dX11_digest_234 rfl (lv_at hl 2 rfl) ?_
    refine lv_ldc2 (v := 31) hx hb hown (hts (.constantLong RX11 202 31) (by decide +kernel)) dX11_digest_235 ?_
    refine lv_lmul hx hb dX11_digest_238 ?_
    refine lv_iload hx hb dX11_digest_239 (lv_at hl 0 rfl) ?_
    refine lv_i2l hx hb dX11_digest_241 rfl ?_
    refine lv_ladd hx hb dX11_digest_242 ?_
    refine lv_lstore_n (lv' := [(1, .long (((vX11_digest_30 S) * 31) + (((up2 S 18 0 0) 16 (1 : Int32).toNatClampNeg).toInt64))), (6, .int ((up2 S 18 0 0) 16 (1 : Int32).toNatClampNeg)), (5, .int 1), (4, .int 72), (3, .ref (a 16)), (0, .ref (a 18))]) hx hb dX11_digest_243 rfl hl (by decide) rfl (fun ls hl => ?_)
    refine lv_iinc (v := 2) (lv' := [(5, .int 2), (1, .long (((vX11_digest_30 S) * 31) + (((up2 S 18 0 0) 16 (1 : Int32).toNatClampNeg).toInt64))), (6, .int ((up2 S 18 0 0) 16 (1 : Int32).toNatClampNeg)), (4, .int 72), (3, .ref (a 16)), (0, .ref (a 18))]) hx hb dX11_digest_244 hl (k := 2) rfl (by decide) (by decide) rfl (fun ls hl => ?_)
    refine lv_goto (tgt := 221) hx hb dX11_digest_247 (by decide) ?_
    refine lv_iload hx hb dX11_digest_221 (lv_at hl 0 rfl) ?_
    refine lv_iload hx hb dX11_digest_223 (lv_at hl 3 rfl) ?_
    refine lv_icmp_ge (tgt := 250) hx hb dX11_digest_225 (by decide) (fun c => absurd c (by decide)) (fun _ => ?_)
    refine lv_aload_n hx hb dX11_digest_228 rfl (lv_at hl 4 rfl) ?_
    refine lv_iload hx hb dX11_digest_229 (lv_at hl 0 rfl) ?_
    refine g_iald (N := 72) (g := (up2 S 18 0 0) 16) hx hb hK hP (lt_hn (by decide) (by decide)) rfl (vp_in_lit (by decide)) dX11_digest_231 ?_
    refine lv_istore (lv' := [(6, .int ((up2 S 18 0 0) 16 (2 : Int32).toNatClampNeg)), (5, .int 2), (1, .long (((vX11_digest_30 S) * 31) + (((up2 S 18 0 0) 16 (1 : Int32).toNatClampNeg).toInt64))), (4, .int 72), (3, .ref (a 16)), (0, .ref (a 18))]) hx hb dX11_digest_232 hl (by decide) rfl (fun ls hl => ?_)
    refine lv_lload_n hx hb dX11_digest_234 rfl (lv_at hl 2 rfl) ?_
    refine lv_ldc2 (v := 31) hx hb hown (hts (.constantLong RX11 202 31) (by decide +kernel)) dX11_digest_235 ?_
    refine lv_lmul hx hb dX11_digest_238 ?_
    refine lv_iload hx hb dX11_digest_239 (lv_at hl 0 rfl) ?_
    refine lv_i2l hx hb dX11_digest_241 rfl ?_
    refine lv_ladd hx hb dX11_digest_242 ?_
    refine W.eq (g2 := F0 m 243 ls [.long (vX11_digest_31 S)]) rfl ?_
    refine lv_lstore_n (lv' := [(1, .long (vX11_digest_31 S)), (6, .int ((up2 S 18 0 0) 16 (2 : Int32).toNatClampNeg)), (5, .int 2), (4, .int 72), (3, .ref (a 16)), (0, .ref (a 18))]) hx hb dX11_digest_243 rfl hl (by decide) rfl (fun ls hl => ?_)
    refine lv_iinc (v := 3) (lv' := [(5, .int 3), (1, .long (vX11_digest_31 S)), (6, .int ((up2 S 18 0 0) 16 (2 : Int32).toNatClampNeg)), (4, .int 72), (3, .ref (a 16)), (0, .ref (a 18))]) hx hb dX11_digest_244 hl (k := 2) rfl (by decide) (by decide) rfl (fun ls hl => ?_)
    refine lv_goto (tgt := 221) hx hb dX11_digest_247 (by decide) ?_
    refine lv_iload hx hb dX11_digest_221 (lv_at hl 0 rfl) ?_
    refine lv_iload hx hb dX11_digest_223 (lv_at hl 3 rfl) ?_
    refine lv_icmp_ge (tgt := 250) hx hb dX11_digest_225 (by decide) (fun c => absurd c (by decide)) (fun _ => ?_)
    refine lv_aload_n hx hb dX11_digest_228 rfl (lv_at hl 4 rfl) ?_
    refine lv_iload hx hb dX11_digest_229 (lv_at hl 0 rfl) ?_
    refine g_iald (N := 72) (g := (up2 S 18 0 0) 16) hx hb hK hP (lt_hn (by decide) (by decide)) rfl (vp_in_lit (by decide)) dX11_digest_231 ?_
    refine lv_istore (lv' := [(6, .int ((up2 S 18 0 0) 16 (3 : Int32).toNatClampNeg)), (5, .int 3), (1, .long (vX11_digest_31 S)), (4, .int 72), (3, .ref (a 16)), (0, .ref (a 18))]) hx hb dX11_digest_232 hl (by decide) rfl (fun ls hl => ?_)
    refine lv_lload_n hx hb dX11_digest_234 rfl (lv_at hl 2 rfl) ?_
    refine lv_ldc2 (v := 31) hx hb hown (hts (.constantLong RX11 202 31) (by decide +kernel)) dX11_digest_235 ?_
    refine lv_lmul hx hb dX11_digest_238 ?_
    refine lv_iload hx hb dX11_digest_239 (lv_at hl 0 rfl) ?_
    refine lv_i2l hx hb dX11_digest_241 rfl ?_
    refine lv_ladd hx hb dX11_digest_242 ?_
    refine lv_lstore_n (lv' := [(1, .long (((vX11_digest_31 S) * 31) + (((up2 S 18 0 0) 16 (3 : Int32).toNatClampNeg).toInt64))), (6, .int ((up2 S 18 0 0) 16 (3 : Int32).toNatClampNeg)), (5, .int 3), (4, .int 72), (3, .ref (a 16)), (0, .ref (a 18))]) hx hb dX11_digest_243 rfl hl (by decide) rfl (fun ls hl => ?_)
    refine lv_iinc (v := 4) (lv' := [(5, .int 4), (1, .long (((vX11_digest_31 S) * 31) + (((up2 S 18 0 0) 16 (3 : Int32).toNatClampNeg).toInt64))), (6, .int ((up2 S 18 0 0) 16 (3 : Int32).toNatClampNeg)), (4, .int 72), (3, .ref (a 16)), (0, .ref (a 18))]) hx hb dX11_digest_244 hl (k := 2) rfl (by decide) (by decide) rfl (fun ls hl => ?_)
    refine lv_goto (tgt := 221) hx hb dX11_digest_247 (by decide) ?_
    refine lv_iload hx hb dX11_digest_221 (lv_at hl 0 rfl) ?_
    refine lv_iload hx hb dX11_digest_223 (lv_at hl 3 rfl) ?_
    refine lv_icmp_ge (tgt := 250) hx hb dX11_digest_225 (by decide) (fun c => absurd c (by decide)) (fun _ => ?_)
    refine lv_aload_n hx hb dX11_digest_228 rfl (lv_at hl 4 rfl) ?_
    refine lv_iload hx hb dX11_digest_229 (lv_at hl 0 rfl) ?_
    refine g_iald (N := 72) (g := (up2 S 18 0 0) 16) hx hb hK hP (lt_hn (by decide) (by decide)) rfl (vp_in_lit (by decide)) dX11_digest_231 ?_
    refine lv_istore (lv' := [(6, .int ((up2 S 18 0 0) 16 (4 : Int32).toNatClampNeg)), (5, .int 4), (1, .long (((vX11_digest_31 S) * 31) + (((up2 S 18 0 0) 16 (3 : Int32).toNatClampNeg).toInt64))), (4, .int 72), (3, .ref (a 16)), (0, .ref (a 18))]) hx hb dX11_digest_232 hl (by decide) rfl (fun ls hl => ?_)
    refine lv_lload_n hx hb dX11_digest_234 rfl (lv_at hl 2 rfl) ?_
    refine lv_ldc2 (v := 31) hx hb hown (hts (.constantLong RX11 202 31) (by decide +kernel)) dX11_digest_235 ?_
    refine lv_lmul hx hb dX11_digest_238 ?_
    refine lv_iload hx hb dX11_digest_239 (lv_at hl 0 rfl) ?_
    refine lv_i2l hx hb dX11_digest_241 rfl ?_
    refine lv_ladd hx hb dX11_digest_242 ?_
    refine W.eq (g2 := F0 m 243 ls [.long (vX11_digest_32 S)]) rfl ?_
    refine lv_lstore_n (lv' := [(1, .long (vX11_digest_32 S)), (6, .int ((up2 S 18 0 0) 16 (4 : Int32).toNatClampNeg)), (5, .int 4), (4, .int 72), (3, .ref (a 16)), (0, .ref (a 18))]) hx hb dX11_digest_243 rfl hl (by decide) rfl (fun ls hl => ?_)
    refine lv_iinc (v := 5) (lv' := [(5, .int 5), (1, .long (vX11_digest_32 S)), (6, .int ((up2 S 18 0 0) 16 (4 : Int32).toNatClampNeg)), (4, .int 72), (3, .ref (a 16)), (0, .ref (a 18))]) hx hb dX11_digest_244 hl (k := 2) rfl (by decide) (by decide) rfl (fun ls hl => ?_)
    refine lv_goto (tgt := 221) hx hb dX11_digest_247 (by decide) ?_
    refine lv_iload hx hb dX11_digest_221 (lv_at hl 0 rfl) ?_
    refine lv_iload hx hb dX11_digest_223 (lv_at hl 3 rfl) ?_
    refine lv_icmp_ge (tgt := 250) hx hb dX11_digest_225 (by decide) (fun c => absurd c (by decide)) (fun _ => ?_)
    refine lv_aload_n hx hb dX11_digest_228 rfl (lv_at hl 4 rfl) ?_
    refine lv_iload hx hb dX11_digest_229 (lv_at hl 0 rfl) ?_
    refine g_iald (N := 72) (g := (up2 S 18 0 0) 16) hx hb hK hP (lt_hn (by decide) (by decide)) rfl (vp_in_lit (by decide)) dX11_digest_231 ?_
    refine lv_istore (lv' := [(6, .int ((up2 S 18 0 0) 16 (5 : Int32).toNatClampNeg)), (5, .int 5), (1, .long (vX11_digest_32 S)), (4, .int 72), (3, .ref (a 16)), (0, .ref (a 18))]) hx hb dX11_digest_232 hl (by decide) rfl (fun ls hl => ?_)
    refine lv_lload_n hx hb dX11_digest_234 rfl (lv_at hl 2 rfl) ?_
    refine lv_ldc2 (v := 31) hx hb hown (hts (.constantLong RX11 202 31) (by decide +kernel)) dX11_digest_235 ?_
    refine lv_lmul hx hb dX11_digest_238 ?_
    refine lv_iload hx hb dX11_digest_239 (lv_at hl 0 rfl) ?_
    refine lv_i2l hx hb dX11_digest_241 rfl ?_
    refine lv_ladd hx hb dX11_digest_242 ?_
    refine lv_lstore_n (lv' := [(1, .long (((vX11_digest_32 S) * 31) + (((up2 S 18 0 0) 16 (5 : Int32).toNatClampNeg).toInt64))), (6, .int ((up2 S 18 0 0) 16 (5 : Int32).toNatClampNeg)), (5, .int 5), (4, .int 72), (3, .ref (a 16)), (0, .ref (a 18))]) hx hb dX11_digest_243 rfl hl (by decide) rfl (fun ls hl => ?_)
    refine lv_iinc (v := 6) (lv' := [(5, .int 6), (1, .long (((vX11_digest_32 S) * 31) + (((up2 S 18 0 0) 16 (5 : Int32).toNatClampNeg).toInt64))), (6, .int ((up2 S 18 0 0) 16 (5 : Int32).toNatClampNeg)), (4, .int 72), (3, .ref (a 16)), (0, .ref (a 18))]) hx hb dX11_digest_244 hl (k := 2) rfl (by decide) (by decide) rfl (fun ls hl => ?_)
    refine lv_goto (tgt := 221) hx hb dX11_digest_247 (by decide) ?_
    refine lv_iload hx hb dX11_digest_221 (lv_at hl 0 rfl) ?_
    refine lv_iload hx hb dX11_digest_223 (lv_at hl 3 rfl) ?_
    refine lv_icmp_ge (tgt := 250) hx hb dX11_digest_225 (by decide) (fun c => absurd c (by decide)) (fun _ => ?_)
    refine lv_aload_n hx hb dX11_digest_228 rfl (lv_at hl 4 rfl) ?_
    refine lv_iload hx hb dX11_digest_229 (lv_at hl 0 rfl) ?_
    refine g_iald (N := 72) (g := (up2 S 18 0 0) 16) hx hb hK hP (lt_hn (by decide) (by decide)) rfl (vp_in_lit (by decide)) dX11_digest_231 ?_
    refine lv_istore (lv' := [(6, .int ((up2 S 18 0 0) 16 (6 : Int32).toNatClampNeg)), (5, .int 6), (1, .long (((vX11_digest_32 S) * 31) + (((up2 S 18 0 0) 16 (5 : Int32).toNatClampNeg).toInt64))), (4, .int 72), (3, .ref (a 16)), (0, .ref (a 18))]) hx hb dX11_digest_232 hl (by decide) rfl (fun ls hl => ?_)
    refine lv_lload_n hx hb dX11_digest_234 rfl (lv_at hl 2 rfl) ?_
    refine lv_ldc2 (v := 31) hx hb hown (hts (.constantLong RX11 202 31) (by decide +kernel)) dX11_digest_235 ?_
    refine lv_lmul hx hb dX11_digest_238 ?_
    refine lv_iload hx hb dX11_digest_239 (lv_at hl 0 rfl) ?_
    refine lv_i2l hx hb dX11_digest_241 rfl ?_
    refine lv_ladd hx hb dX11_digest_242 ?_
    refine W.eq (g2 := F0 m 243 ls [.long (vX11_digest_33 S)]) rfl ?_
    refine lv_lstore_n (lv' := [(1, .long (vX11_digest_33 S)), (6, .int ((up2 S 18 0 0) 16 (6 : Int32).toNatClampNeg)), (5, .int 6), (4, .int 72), (3, .ref (a 16)), (0, .ref (a 18))]) hx hb dX11_digest_243 rfl hl (by decide) rfl (fun ls hl => ?_)
    refine lv_iinc (v := 7) (lv' := [(5, .int 7), (1, .long (vX11_digest_33 S)), (6, .int ((up2 S 18 0 0) 16 (6 : Int32).toNatClampNeg)), (4, .int 72), (3, .ref (a 16)), (0, .ref (a 18))]) hx hb dX11_digest_244 hl (k := 2) rfl (by decide) (by decide) rfl (fun ls hl => ?_)
    refine lv_goto (tgt := 221) hx hb dX11_digest_247 (by decide) ?_
    refine lv_iload hx hb dX11_digest_221 (lv_at hl 0 rfl) ?_
    refine lv_iload hx hb dX11_digest_223 (lv_at hl 3 rfl) ?_
    refine lv_icmp_ge (tgt := 250) hx hb dX11_digest_225 (by decide) (fun c => absurd c (by decide)) (fun _ => ?_)
    refine lv_aload_n hx hb dX11_digest_228 rfl (lv_at hl 4 rfl) ?_
    refine lv_iload hx hb dX11_digest_229 (lv_at hl 0 rfl) ?_
    refine g_iald (N := 72) (g := (up2 S 18 0 0) 16) hx hb hK hP (lt_hn (by decide) (by decide)) rfl (vp_in_lit (by decide)) dX11_digest_231 ?_
    refine lv_istore (lv' := [(6, .int ((up2 S 18 0 0) 16 (7 : Int32).toNatClampNeg)), (5, .int 7), (1, .long (vX11_digest_33 S)), (4, .int 72), (3, .ref (a 16)), (0, .ref (a 18))]) hx hb dX11_digest_232 hl (by decide) rfl (fun ls hl => ?_)
    refine lv_lload_n hx hb dX11_digest_234 rfl (lv_at hl 2 rfl) ?_
    refine lv_ldc2 (v := 31) hx hb hown (hts (.constantLong RX11 202 31) (by decide +kernel)) dX11_digest_235 ?_
    refine lv_lmul hx hb dX11_digest_238 ?_
    refine lv_iload hx hb dX11_digest_239 (lv_at hl 0 rfl) ?_
    refine lv_i2l hx hb dX11_digest_241 rfl ?_
    refine lv_ladd hx hb dX11_digest_242 ?_
    refine lv_lstore_n (lv' := [(1, .long (((vX11_digest_33 S) * 31) + (((up2 S 18 0 0) 16 (7 : Int32).toNatClampNeg).toInt64))), (6, .int ((up2 S 18 0 0) 16 (7 : Int32).toNatClampNeg)), (5, .int 7), (4, .int 72), (3, .ref (a 16)), (0, .ref (a 18))]) hx hb dX11_digest_243 rfl hl (by decide) rfl (fun ls hl => ?_)
    refine lv_iinc (v := 8) (lv' := [(5, .int 8), (1, .long (((vX11_digest_33 S) * 31) + (((up2 S 18 0 0) 16 (7 : Int32).toNatClampNeg).toInt64))), (6, .int ((up2 S 18 0 0) 16 (7 : Int32).toNatClampNeg)), (4, .int 72), (3, .ref (a 16)), (0, .ref (a 18))]) hx hb dX11_digest_244 hl (k := 2) rfl (by decide) (by decide) rfl (fun ls hl => ?_)
    refine lv_goto (tgt := 221) hx hb dX11_digest_247 (by decide) ?_
    refine lv_iload hx hb dX11_digest_221 (lv_at hl 0 rfl) ?_
    refine lv_iload hx hb dX11_digest_223 (lv_at hl 3 rfl) ?_
    refine lv_icmp_ge (tgt := 250) hx hb dX11_digest_225 (by decide) (fun c => absurd c (by decide)) (fun _ => ?_)
    refine lv_aload_n hx hb dX11_digest_228 rfl (lv_at hl 4 rfl) ?_
    refine lv_iload hx hb dX11_digest_229 (lv_at hl 0 rfl) ?_
    refine g_iald (N := 72) (g := (up2 S 18 0 0) 16) hx hb hK hP (lt_hn (by decide) (by decide)) rfl (vp_in_lit (by decide)) dX11_digest_231 ?_
    refine lv_istore (lv' := [(6, .int ((up2 S 18 0 0) 16 (8 : Int32).toNatClampNeg)), (5, .int 8), (1, .long (((vX11_digest_33 S) * 31) + (((up2 S 18 0 0) 16 (7 : Int32).toNatClampNeg).toInt64))), (4, .int 72), (3, .ref (a 16)), (0, .ref (a 18))]) hx hb dX11_digest_232 hl (by decide) rfl (fun ls hl => ?_)
    refine lv_lload_n hx hb dX11_digest_234 rfl (lv_at hl 2 rfl) ?_
    refine lv_ldc2 (v := 31) hx hb hown (hts (.constantLong RX11 202 31) (by decide +kernel)) dX11_digest_235 ?_
    refine lv_lmul hx hb dX11_digest_238 ?_
    refine lv_iload hx hb dX11_digest_239 (lv_at hl 0 rfl) ?_
    refine lv_i2l hx hb dX11_digest_241 rfl ?_
    refine lv_ladd hx hb dX11_digest_242 ?_
    refine W.eq (g2 := F0 m 243 ls [.long (vX11_digest_34 S)]) rfl ?_
    refine lv_lstore_n (lv' := [(1, .long (vX11_digest_34 S)), (6, .int ((up2 S 18 0 0) 16 (8 : Int32).toNatClampNeg)), (5, .int 8), (4, .int 72), (3, .ref (a 16)), (0, .ref (a 18))]) hx hb dX11_digest_243 rfl hl (by decide) rfl (fun ls hl => ?_)
    refine lv_iinc (v := 9) (lv' := [(5, .int 9), (1, .long (vX11_digest_34 S)), (6, .int ((up2 S 18 0 0) 16 (8 : Int32).toNatClampNeg)), (4, .int 72), (3, .ref (a 16)), (0, .ref (a 18))]) hx hb dX11_digest_244 hl (k := 2) rfl (by decide) (by decide) rfl (fun ls hl => ?_)
    refine lv_goto (tgt := 221) hx hb dX11_digest_247 (by decide) ?_
    refine lv_iload hx hb dX11_digest_221 (lv_at hl 0 rfl) ?_
    refine lv_iload hx hb dX11_digest_223 (lv_at hl 3 rfl) ?_
    refine lv_icmp_ge (tgt := 250) hx hb dX11_digest_225 (by decide) (fun c => absurd c (by decide)) (fun _ => ?_)
    refine lv_aload_n hx hb dX11_digest_228 rfl (lv_at hl 4 rfl) ?_
    refine lv_iload hx hb dX11_digest_229 (lv_at hl 0 rfl) ?_
    refine g_iald (N := 72) (g := (up2 S 18 0 0) 16) hx hb hK hP (lt_hn (by decide) (by decide)) rfl (vp_in_lit (by decide)) dX11_digest_231 ?_
    refine lv_istore (lv' := [(6, .int ((up2 S 18 0 0) 16 (9 : Int32).toNatClampNeg)), (5, .int 9), (1, .long (vX11_digest_34 S)), (4, .int 72), (3, .ref (a 16)), (0, .ref (a 18))]) hx hb dX11_digest_232 hl (by decide) rfl (fun ls hl => ?_)
    refine lv_lload_n hx hb dX11_digest_234 rfl (lv_at hl 2 rfl) ?_
    refine lv_ldc2 (v := 31) hx hb hown (hts (.constantLong RX11 202 31) (by decide +kernel)) dX11_digest_235 ?_
    refine lv_lmul hx hb dX11_digest_238 ?_
    refine lv_iload hx hb dX11_digest_239 (lv_at hl 0 rfl) ?_
    refine lv_i2l hx hb dX11_digest_241 rfl ?_
    refine lv_ladd hx hb dX11_digest_242 ?_
    refine lv_lstore_n (lv' := [(1, .long (((vX11_digest_34 S) * 31) + (((up2 S 18 0 0) 16 (9 : Int32).toNatClampNeg).toInt64))), (6, .int ((up2 S 18 0 0) 16 (9 : Int32).toNatClampNeg)), (5, .int 9), (4, .int 72), (3, .ref (a 16)), (0, .ref (a 18))]) hx hb dX11_digest_243 rfl hl (by decide) rfl (fun ls hl => ?_)
    refine lv_iinc (v := 10) (lv' := [(5, .int 10), (1, .long (((vX11_digest_34 S) * 31) + (((up2 S 18 0 0) 16 (9 : Int32).toNatClampNeg).toInt64))), (6, .int ((up2 S 18 0 0) 16 (9 : Int32).toNatClampNeg)), (4, .int 72), (3, .ref (a 16)), (0, .ref (a 18))]) hx hb dX11_digest_244 hl (k := 2) rfl (by decide) (by decide) rfl (fun ls hl => ?_)
    refine lv_goto (tgt := 221) hx hb dX11_digest_247 (by decide) ?_
    refine lv_iload hx hb dX11_digest_221 (lv_at hl 0 rfl) ?_
    refine lv_iload hx hb dX11_digest_223 (lv_at hl 3 rfl) ?_
    refine lv_icmp_ge (tgt := 250) hx hb dX11_digest_225 (by decide) (fun c => absurd c (by decide)) (fun _ => ?_)
    refine lv_aload_n hx hb dX11_digest_228 rfl (lv_at hl 4 rfl) ?_
    refine lv_iload hx hb dX11_digest_229 (lv_at hl 0 rfl) ?_
    refine g_iald (N := 72) (g := (up2 S 18 0 0) 16) hx hb hK hP (lt_hn (by decide) (by decide)) rfl (vp_in_lit (by decide)) dX11_digest_231 ?_
    refine lv_istore (lv' := [(6, .int ((up2 S 18 0 0) 16 (10 : Int32).toNatClampNeg)), (5, .int 10), (1, .long (((vX11_digest_34 S) * 31) + (((up2 S 18 0 0) 16 (9 : Int32).toNatClampNeg).toInt64))), (4, .int 72), (3, .ref (a 16)), (0, .ref (a 18))]) hx hb dX11_digest_232 hl (by decide) rfl (fun ls hl => ?_)
    refine lv_lload_n hx hb dX11_digest_234 rfl (lv_at hl 2 rfl) ?_
    refine lv_ldc2 (v := 31) hx hb hown (hts (.constantLong RX11 202 31) (by decide +kernel)) dX11_digest_235 ?_
    refine lv_lmul hx hb dX11_digest_238 ?_
    refine lv_iload hx hb dX11_digest_239 (lv_at hl 0 rfl) ?_
    refine lv_i2l hx hb dX11_digest_241 rfl ?_
    refine lv_ladd hx hb dX11_digest_242 ?_
    refine W.eq (g2 := F0 m 243 ls [.long (vX11_digest_35 S)]) rfl ?_
    refine lv_lstore_n (lv' := [(1, .long (vX11_digest_35 S)), (6, .int ((up2 S 18 0 0) 16 (10 : Int32).toNatClampNeg)), (5, .int 10), (4, .int 72), (3, .ref (a 16)), (0, .ref (a 18))]) hx hb dX11_digest_243 rfl hl (by decide) rfl (fun ls hl => ?_)
    refine lv_iinc (v := 11) (lv' := [(5, .int 11), (1, .long (vX11_digest_35 S)), (6, .int ((up2 S 18 0 0) 16 (10 : Int32).toNatClampNeg)), (4, .int 72), (3, .ref (a 16)), (0, .ref (a 18))]) hx hb dX11_digest_244 hl (k := 2) rfl (by decide) (by decide) rfl (fun ls hl => ?_)
    refine lv_goto (tgt := 221) hx hb dX11_digest_247 (by decide) ?_
    refine lv_iload hx hb dX11_digest_221 (lv_at hl 0 rfl) ?_
    refine lv_iload hx hb dX11_digest_223 (lv_at hl 3 rfl) ?_
    refine lv_icmp_ge (tgt := 250) hx hb dX11_digest_225 (by decide) (fun c => absurd c (by decide)) (fun _ => ?_)
    refine lv_aload_n hx hb dX11_digest_228 rfl (lv_at hl 4 rfl) ?_
    refine lv_iload hx hb dX11_digest_229 (lv_at hl 0 rfl) ?_
    refine g_iald (N := 72) (g := (up2 S 18 0 0) 16) hx hb hK hP (lt_hn (by decide) (by decide)) rfl (vp_in_lit (by decide)) dX11_digest_231 ?_
    refine lv_istore (lv' := [(6, .int ((up2 S 18 0 0) 16 (11 : Int32).toNatClampNeg)), (5, .int 11), (1, .long (vX11_digest_35 S)), (4, .int 72), (3, .ref (a 16)), (0, .ref (a 18))]) hx hb dX11_digest_232 hl (by decide) rfl (fun ls hl => ?_)
    refine lv_lload_n hx hb dX11_digest_234 rfl (lv_at hl 2 rfl) ?_
    refine lv_ldc2 (v := 31) hx hb hown (hts (.constantLong RX11 202 31) (by decide +kernel)) dX11_digest_235 ?_
    refine lv_lmul hx hb dX11_digest_238 ?_
    refine lv_iload hx hb dX11_digest_239 (lv_at hl 0 rfl) ?_
    refine lv_i2l hx hb dX11_digest_241 rfl ?_
    refine lv_ladd hx hb dX11_digest_242 ?_
    refine lv_lstore_n (lv' := [(1, .long (((vX11_digest_35 S) * 31) + (((up2 S 18 0 0) 16 (11 : Int32).toNatClampNeg).toInt64))), (6, .int ((up2 S 18 0 0) 16 (11 : Int32).toNatClampNeg)), (5, .int 11), (4, .int 72), (3, .ref (a 16)), (0, .ref (a 18))]) hx hb dX11_digest_243 rfl hl (by decide) rfl (fun ls hl => ?_)
    refine lv_iinc (v := 12) (lv' := [(5, .int 12), (1, .long (((vX11_digest_35 S) * 31) + (((up2 S 18 0 0) 16 (11 : Int32).toNatClampNeg).toInt64))), (6, .int ((up2 S 18 0 0) 16 (11 : Int32).toNatClampNeg)), (4, .int 72), (3, .ref (a 16)), (0, .ref (a 18))]) hx hb dX11_digest_244 hl (k := 2) rfl (by decide) (by decide) rfl (fun ls hl => ?_)
    refine lv_goto (tgt := 221) hx hb dX11_digest_247 (by decide) ?_
    refine lv_iload hx hb dX11_digest_221 (lv_at hl 0 rfl) ?_
    refine lv_iload hx hb dX11_digest_223 (lv_at hl 3 rfl) ?_
    refine lv_icmp_ge (tgt := 250) hx hb dX11_digest_225 (by decide) (fun c => absurd c (by decide)) (fun _ => ?_)
    refine lv_aload_n hx hb dX11_digest_228 rfl (lv_at hl 4 rfl) ?_
    refine lv_iload hx hb dX11_digest_229 (lv_at hl 0 rfl) ?_
    refine g_iald (N := 72) (g := (up2 S 18 0 0) 16) hx hb hK hP (lt_hn (by decide) (by decide)) rfl (vp_in_lit (by decide)) dX11_digest_231 ?_
    refine lv_istore (lv' := [(6, .int ((up2 S 18 0 0) 16 (12 : Int32).toNatClampNeg)), (5, .int 12), (1, .long (((vX11_digest_35 S) * 31) + (((up2 S 18 0 0) 16 (11 : Int32).toNatClampNeg).toInt64))), (4, .int 72), (3, .ref (a 16)), (0, .ref (a 18))]) hx hb dX11_digest_232 hl (by decide) rfl (fun ls hl => ?_)
    refine lv_lload_n hx hb dX11_digest_234 rfl (lv_at hl 2 rfl) ?_
    refine lv_ldc2 (v := 31) hx hb hown (hts (.constantLong RX11 202 31) (by decide +kernel)) dX11_digest_235 ?_
    refine lv_lmul hx hb dX11_digest_238 ?_
    refine lv_iload hx hb dX11_digest_239 (lv_at hl 0 rfl) ?_
    refine lv_i2l hx hb dX11_digest_241 rfl ?_
    refine lv_ladd hx hb dX11_digest_242 ?_
    refine W.eq (g2 := F0 m 243 ls [.long (vX11_digest_36 S)]) rfl ?_
    refine lv_lstore_n (lv' := [(1, .long (vX11_digest_36 S)), (6, .int ((up2 S 18 0 0) 16 (12 : Int32).toNatClampNeg)), (5, .int 12), (4, .int 72), (3, .ref (a 16)), (0, .ref (a 18))]) hx hb dX11_digest_243 rfl hl (by decide) rfl (fun ls hl => ?_)
    refine lv_iinc (v := 13) (lv' := [(5, .int 13), (1, .long (vX11_digest_36 S)), (6, .int ((up2 S 18 0 0) 16 (12 : Int32).toNatClampNeg)), (4, .int 72), (3, .ref (a 16)), (0, .ref (a 18))]) hx hb dX11_digest_244 hl (k := 2) rfl (by decide) (by decide) rfl (fun ls hl => ?_)
    refine lv_goto (tgt := 221) hx hb dX11_digest_247 (by decide) ?_
    refine lv_iload hx hb dX11_digest_221 (lv_at hl 0 rfl) ?_
    refine lv_iload hx hb dX11_digest_223 (lv_at hl 3 rfl) ?_
    refine lv_icmp_ge (tgt := 250) hx hb dX11_digest_225 (by decide) (fun c => absurd c (by decide)) (fun _ => ?_)
    refine lv_aload_n hx hb dX11_digest_228 rfl (lv_at hl 4 rfl) ?_
    refine lv_iload hx hb dX11_digest_229 (lv_at hl 0 rfl) ?_
    refine g_iald (N := 72) (g := (up2 S 18 0 0) 16) hx hb hK hP (lt_hn (by decide) (by decide)) rfl (vp_in_lit (by decide)) dX11_digest_231 ?_
    refine lv_istore (lv' := [(6, .int ((up2 S 18 0 0) 16 (13 : Int32).toNatClampNeg)), (5, .int 13), (1, .long (vX11_digest_36 S)), (4, .int 72), (3, .ref (a 16)), (0, .ref (a 18))]) hx hb dX11_digest_232 hl (by decide) rfl (fun ls hl => ?_)
    refine lv_lload_n hx hb dX11_digest_234 rfl (lv_at hl 2 rfl) ?_
    refine lv_ldc2 (v := 31) hx hb hown (hts (.constantLong RX11 202 31) (by decide +kernel)) dX11_digest_235 ?_
    refine lv_lmul hx hb dX11_digest_238 ?_
    refine lv_iload hx hb dX11_digest_239 (lv_at hl 0 rfl) ?_
    refine lv_i2l hx hb dX11_digest_241 rfl ?_
    refine lv_ladd hx hb dX11_digest_242 ?_
    refine lv_lstore_n (lv' := [(1, .long (((vX11_digest_36 S) * 31) + (((up2 S 18 0 0) 16 (13 : Int32).toNatClampNeg).toInt64))), (6, .int ((up2 S 18 0 0) 16 (13 : Int32).toNatClampNeg)), (5, .int 13), (4, .int 72), (3, .ref (a 16)), (0, .ref (a 18))]) hx hb dX11_digest_243 rfl hl (by decide) rfl (fun ls hl => ?_)
    refine lv_iinc (v := 14) (lv' := [(5, .int 14), (1, .long (((vX11_digest_36 S) * 31) + (((up2 S 18 0 0) 16 (13 : Int32).toNatClampNeg).toInt64))), (6, .int ((up2 S 18 0 0) 16 (13 : Int32).toNatClampNeg)), (4, .int 72), (3, .ref (a 16)), (0, .ref (a 18))]) hx hb dX11_digest_244 hl (k := 2) rfl (by decide) (by decide) rfl (fun ls hl => ?_)
    refine lv_goto (tgt := 221) hx hb dX11_digest_247 (by decide) ?_
    refine lv_iload hx hb dX11_digest_221 (lv_at hl 0 rfl) ?_
    refine lv_iload hx hb dX11_digest_223 (lv_at hl 3 rfl) ?_
    refine lv_icmp_ge (tgt := 250) hx hb dX11_digest_225 (by decide) (fun c => absurd c (by decide)) (fun _ => ?_)
    refine lv_aload_n hx hb dX11_digest_228 rfl (lv_at hl 4 rfl) ?_
    refine lv_iload hx hb dX11_digest_229 (lv_at hl 0 rfl) ?_
    refine g_iald (N := 72) (g := (up2 S 18 0 0) 16) hx hb hK hP (lt_hn (by decide) (by decide)) rfl (vp_in_lit (by decide)) dX11_digest_231 ?_
    refine lv_istore (lv' := [(6, .int ((up2 S 18 0 0) 16 (14 : Int32).toNatClampNeg)), (5, .int 14), (1, .long (((vX11_digest_36 S) * 31) + (((up2 S 18 0 0) 16 (13 : Int32).toNatClampNeg).toInt64))), (4, .int 72), (3, .ref (a 16)), (0, .ref (a 18))]) hx hb dX11_digest_232 hl (by decide) rfl (fun ls hl => ?_)
    refine lv_lload_n hx hb dX11_digest_234 rfl (lv_at hl 2 rfl) ?_
    refine lv_ldc2 (v := 31) hx hb hown (hts (.constantLong RX11 202 31) (by decide +kernel)) dX11_digest_235 ?_
    refine lv_lmul hx hb dX11_digest_238 ?_
    refine lv_iload hx hb dX11_digest_239 (lv_at hl 0 rfl) ?_
    refine lv_i2l hx hb dX11_digest_241 rfl ?_
    refine lv_ladd hx hb dX11_digest_242 ?_
    refine W.eq (g2 := F0 m 243 ls [.long (vX11_digest_37 S)]) rfl ?_
    refine lv_lstore_n (lv' := [(1, .long (vX11_digest_37 S)), (6, .int ((up2 S 18 0 0) 16 (14 : Int32).toNatClampNeg)), (5, .int 14), (4, .int 72), (3, .ref (a 16)), (0, .ref (a 18))]) hx hb dX11_digest_243 rfl hl (by decide) rfl (fun ls hl => ?_)
    refine lv_iinc (v := 15) (lv' := [(5, .int 15), (1, .long (vX11_digest_37 S)), (6, .int ((up2 S 18 0 0) 16 (14 : Int32).toNatClampNeg)), (4, .int 72), (3, .ref (a 16)), (0, .ref (a 18))]) hx hb dX11_digest_244 hl (k := 2) rfl (by decide) (by decide) rfl (fun ls hl => ?_)
    refine lv_goto (tgt := 221) hx hb dX11_digest_247 (by decide) ?_
    refine lv_iload hx hb dX11_digest_221 (lv_at hl 0 rfl) ?_
    refine lv_iload hx hb dX11_digest_223 (lv_at hl 3 rfl) ?_
    refine lv_icmp_ge (tgt := 250) hx hb dX11_digest_225 (by decide) (fun c => absurd c (by decide)) (fun _ => ?_)
    refine lv_aload_n hx hb dX11_digest_228 rfl (lv_at hl 4 rfl) ?_
    refine lv_iload hx hb dX11_digest_229 (lv_at hl 0 rfl) ?_
    refine g_iald (N := 72) (g := (up2 S 18 0 0) 16) hx hb hK hP (lt_hn (by decide) (by decide)) rfl (vp_in_lit (by decide)) dX11_digest_231 ?_
    refine lv_istore (lv' := [(6, .int ((up2 S 18 0 0) 16 (15 : Int32).toNatClampNeg)), (5, .int 15), (1, .long (vX11_digest_37 S)), (4, .int 72), (3, .ref (a 16)), (0, .ref (a 18))]) hx hb dX11_digest_232 hl (by decide) rfl (fun ls hl => ?_)
    refine lv_lload_n hx hb dX11_digest_234 rfl (lv_at hl 2 rfl) ?_
    refine lv_ldc2 (v := 31) hx hb hown (hts (.constantLong RX11 202 31) (by decide +kernel)) dX11_digest_235 ?_
    refine lv_lmul hx hb dX11_digest_238 ?_
    refine lv_iload hx hb dX11_digest_239 (lv_at hl 0 rfl) ?_
    refine lv_i2l hx hb dX11_digest_241 rfl ?_
    refine lv_ladd hx hb dX11_digest_242 ?_
    refine lv_lstore_n (lv' := [(1, .long (((vX11_digest_37 S) * 31) + (((up2 S 18 0 0) 16 (15 : Int32).toNatClampNeg).toInt64))), (6, .int ((up2 S 18 0 0) 16 (15 : Int32).toNatClampNeg)), (5, .int 15), (4, .int 72), (3, .ref (a 16)), (0, .ref (a 18))]) hx hb dX11_digest_243 rfl hl (by decide) rfl (fun ls hl => ?_)
    refine lv_iinc (v := 16) (lv' := [(5, .int 16), (1, .long (((vX11_digest_37 S) * 31) + (((up2 S 18 0 0) 16 (15 : Int32).toNatClampNeg).toInt64))), (6, .int ((up2 S 18 0 0) 16 (15 : Int32).toNatClampNeg)), (4, .int 72), (3, .ref (a 16)), (0, .ref (a 18))]) hx hb dX11_digest_244 hl (k := 2) rfl (by decide) (by decide) rfl (fun ls hl => ?_)
    refine lv_goto (tgt := 221) hx hb dX11_digest_247 (by decide) ?_
    refine lv_iload hx hb dX11_digest_221 (lv_at hl 0 rfl) ?_
    refine lv_iload hx hb dX11_digest_223 (lv_at hl 3 rfl) ?_
    refine lv_icmp_ge (tgt := 250) hx hb dX11_digest_225 (by decide) (fun c => absurd c (by decide)) (fun _ => ?_)
    refine lv_aload_n hx hb dX11_digest_228 rfl (lv_at hl 4 rfl) ?_
    refine lv_iload hx hb dX11_digest_229 (lv_at hl 0 rfl) ?_
    refine g_iald (N := 72) (g := (up2 S 18 0 0) 16) hx hb hK hP (lt_hn (by decide) (by decide)) rfl (vp_in_lit (by decide)) dX11_digest_231 ?_
    refine lv_istore (lv' := [(6, .int ((up2 S 18 0 0) 16 (16 : Int32).toNatClampNeg)), (5, .int 16), (1, .long (((vX11_digest_37 S) * 31) + (((up2 S 18 0 0) 16 (15 : Int32).toNatClampNeg).toInt64))), (4, .int 72), (3, .ref (a 16)), (0, .ref (a 18))]) hx hb dX11_digest_232 hl (by decide) rfl (fun ls hl => ?_)
    refine lv_lload_n hx hb dX11_digest_234 rfl (lv_at hl 2 rfl) ?_
    refine lv_ldc2 (v := 31) hx hb hown (hts (.constantLong RX11 202 31) (by decide +kernel)) dX11_digest_235 ?_
    refine lv_lmul hx hb dX11_digest_238 ?_
    refine lv_iload hx hb dX11_digest_239 (lv_at hl 0 rfl) ?_
    refine lv_i2l hx hb dX11_digest_241 rfl ?_
    refine lv_ladd hx hb dX11_digest_242 ?_
    refine W.eq (g2 := F0 m 243 ls [.long (vX11_digest_38 S)]) rfl ?_
    refine lv_lstore_n (lv' := [(1, .long (vX11_digest_38 S)), (6, .int ((up2 S 18 0 0) 16 (16 : Int32).toNatClampNeg)), (5, .int 16), (4, .int 72), (3, .ref (a 16)), (0, .ref (a 18))]) hx hb dX11_digest_243 rfl hl (by decide) rfl (fun ls hl => ?_)
    refine lv_iinc (v := 17) (lv' := [(5, .int 17), (1, .long (vX11_digest_38 S)), (6, .int ((up2 S 18 0 0) 16 (16 : Int32).toNatClampNeg)), (4, .int 72), (3, .ref (a 16)), (0, .ref (a 18))]) hx hb dX11_digest_244 hl (k := 2) rfl (by decide) (by decide) rfl (fun ls hl => ?_)
    refine lv_goto (tgt := 221) hx hb dX11_digest_247 (by decide) ?_
    refine lv_iload hx hb dX11_digest_221 (lv_at hl 0 rfl) ?_
    refine lv_iload hx hb dX11_digest_223 (lv_at hl 3 rfl) ?_
    refine lv_icmp_ge (tgt := 250) hx hb dX11_digest_225 (by decide) (fun c => absurd c (by decide)) (fun _ => ?_)
    refine lv_aload_n hx hb dX11_digest_228 rfl (lv_at hl 4 rfl) ?_
    refine lv_iload hx hb dX11_digest_229 (lv_at hl 0 rfl) ?_
    refine g_iald (N := 72) (g := (up2 S 18 0 0) 16) hx hb hK hP (lt_hn (by decide) (by decide)) rfl (vp_in_lit (by decide)) dX11_digest_231 ?_
    refine lv_istore (lv' := [(6, .int ((up2 S 18 0 0) 16 (17 : Int32).toNatClampNeg)), (5, .int 17), (1, .long (vX11_digest_38 S)), (4, .int 72), (3, .ref (a 16)), (0, .ref (a 18))]) hx hb dX11_digest_232 hl (by decide) rfl (fun ls hl => ?_)
    refine lv_lload_n hx hb dX11_digest_234 rfl (lv_at hl 2 rfl) ?_
    refine lv_ldc2 (v := 31) hx hb hown (hts (.constantLong RX11 202 31) (by decide +kernel)) dX11_digest_235 ?_
    refine lv_lmul hx hb dX11_digest_238 ?_
    refine lv_iload hx hb dX11_digest_239 (lv_at hl 0 rfl) ?_
    refine lv_i2l hx hb dX11_digest_241 rfl ?_
    refine lv_ladd hx hb dX11_digest_242 ?_
    refine lv_lstore_n (lv' := [(1, .long (((vX11_digest_38 S) * 31) + (((up2 S 18 0 0) 16 (17 : Int32).toNatClampNeg).toInt64))), (6, .int ((up2 S 18 0 0) 16 (17 : Int32).toNatClampNeg)), (5, .int 17), (4, .int 72), (3, .ref (a 16)), (0, .ref (a 18))]) hx hb dX11_digest_243 rfl hl (by decide) rfl (fun ls hl => ?_)
    refine lv_iinc (v := 18) (lv' := [(5, .int 18), (1, .long (((vX11_digest_38 S) * 31) + (((up2 S 18 0 0) 16 (17 : Int32).toNatClampNeg).toInt64))), (6, .int ((up2 S 18 0 0) 16 (17 : Int32).toNatClampNeg)), (4, .int 72), (3, .ref (a 16)), (0, .ref (a 18))]) hx hb dX11_digest_244 hl (k := 2) rfl (by decide) (by decide) rfl (fun ls hl => ?_)
    refine lv_goto (tgt := 221) hx hb dX11_digest_247 (by decide) ?_
    refine lv_iload hx hb dX11_digest_221 (lv_at hl 0 rfl) ?_
    refine lv_iload hx hb dX11_digest_223 (lv_at hl 3 rfl) ?_
    refine lv_icmp_ge (tgt := 250) hx hb dX11_digest_225 (by decide) (fun c => absurd c (by decide)) (fun _ => ?_)
    refine lv_aload_n hx hb dX11_digest_228 rfl (lv_at hl 4 rfl) ?_
    refine lv_iload hx hb dX11_digest_229 (lv_at hl 0 rfl) ?_
    refine g_iald (N := 72) (g := (up2 S 18 0 0) 16) hx hb hK hP (lt_hn (by decide) (by decide)) rfl (vp_in_lit (by decide)) dX11_digest_231 ?_
    refine lv_istore (lv' := [(6, .int ((up2 S 18 0 0) 16 (18 : Int32).toNatClampNeg)), (5, .int 18), (1, .long (((vX11_digest_38 S) * 31) + (((up2 S 18 0 0) 16 (17 : Int32).toNatClampNeg).toInt64))), (4, .int 72), (3, .ref (a 16)), (0, .ref (a 18))]) hx hb dX11_digest_232 hl (by decide) rfl (fun ls hl => ?_)
    refine lv_lload_n hx hb dX11_digest_234 rfl (lv_at hl 2 rfl) ?_
    refine lv_ldc2 (v := 31) hx hb hown (hts (.constantLong RX11 202 31) (by decide +kernel)) dX11_digest_235 ?_
    refine lv_lmul hx hb dX11_digest_238 ?_
    refine lv_iload hx hb dX11_digest_239 (lv_at hl 0 rfl) ?_
    refine lv_i2l hx hb dX11_digest_241 rfl ?_
    refine lv_ladd hx hb dX11_digest_242 ?_
    refine W.eq (g2 := F0 m 243 ls [.long (vX11_digest_39 S)]) rfl ?_
    refine lv_lstore_n (lv' := [(1, .long (vX11_digest_39 S)), (6, .int ((up2 S 18 0 0) 16 (18 : Int32).toNatClampNeg)), (5, .int 18), (4, .int 72), (3, .ref (a 16)), (0, .ref (a 18))]) hx hb dX11_digest_243 rfl hl (by decide) rfl (fun ls hl => ?_)
    refine lv_iinc (v := 19) (lv' := [(5, .int 19), (1, .long (vX11_digest_39 S)), (6, .int ((up2 S 18 0 0) 16 (18 : Int32).toNatClampNeg)), (4, .int 72), (3, .ref (a 16)), (0, .ref (a 18))]) hx hb dX11_digest_244 hl (k := 2) rfl (by decide) (by decide) rfl (fun ls hl => ?_)
    refine lv_goto (tgt := 221) hx hb dX11_digest_247 (by decide) ?_
    refine lv_iload hx hb dX11_digest_221 (lv_at hl 0 rfl) ?_
    refine lv_iload hx hb dX11_digest_223 (lv_at hl 3 rfl) ?_
    refine lv_icmp_ge (tgt := 250) hx hb dX11_digest_225 (by decide) (fun c => absurd c (by decide)) (fun _ => ?_)
    refine lv_aload_n hx hb dX11_digest_228 rfl (lv_at hl 4 rfl) ?_
    refine lv_iload hx hb dX11_digest_229 (lv_at hl 0 rfl) ?_
    refine g_iald (N := 72) (g := (up2 S 18 0 0) 16) hx hb hK hP (lt_hn (by decide) (by decide)) rfl (vp_in_lit (by decide)) dX11_digest_231 ?_
    refine lv_istore (lv' := [(6, .int ((up2 S 18 0 0) 16 (19 : Int32).toNatClampNeg)), (5, .int 19), (1, .long (vX11_digest_39 S)), (4, .int 72), (3, .ref (a 16)), (0, .ref (a 18))]) hx hb dX11_digest_232 hl (by decide) rfl (fun ls hl => ?_)
    refine lv_lload_n hx hb dX11_digest_234 rfl (lv_at hl 2 rfl) ?_
    refine lv_ldc2 (v := 31) hx hb hown (hts (.constantLong RX11 202 31) (by decide +kernel)) dX11_digest_235 ?_
    refine lv_lmul hx hb dX11_digest_238 ?_
    refine lv_iload hx hb dX11_digest_239 (lv_at hl 0 rfl) ?_
    refine lv_i2l hx hb dX11_digest_241 rfl ?_
    refine lv_ladd hx hb dX11_digest_242 ?_
    refine lv_lstore_n (lv' := [(1, .long (((vX11_digest_39 S) * 31) + (((up2 S 18 0 0) 16 (19 : Int32).toNatClampNeg).toInt64))), (6, .int ((up2 S 18 0 0) 16 (19 : Int32).toNatClampNeg)), (5, .int 19), (4, .int 72), (3, .ref (a 16)), (0, .ref (a 18))]) hx hb dX11_digest_243 rfl hl (by decide) rfl (fun ls hl => ?_)
    refine lv_iinc (v := 20) (lv' := [(5, .int 20), (1, .long (((vX11_digest_39 S) * 31) + (((up2 S 18 0 0) 16 (19 : Int32).toNatClampNeg).toInt64))), (6, .int ((up2 S 18 0 0) 16 (19 : Int32).toNatClampNeg)), (4, .int 72), (3, .ref (a 16)), (0, .ref (a 18))]) hx hb dX11_digest_244 hl (k := 2) rfl (by decide) (by decide) rfl (fun ls hl => ?_)
    refine lv_goto (tgt := 221) hx hb dX11_digest_247 (by decide) ?_
    refine lv_iload hx hb dX11_digest_221 (lv_at hl 0 rfl) ?_
    refine lv_iload hx hb dX11_digest_223 (lv_at hl 3 rfl) ?_
    refine lv_icmp_ge (tgt := 250) hx hb dX11_digest_225 (by decide) (fun c => absurd c (by decide)) (fun _ => ?_)
    refine lv_aload_n hx hb dX11_digest_228 rfl (lv_at hl 4 rfl) ?_
    refine lv_iload hx hb dX11_digest_229 (lv_at hl 0 rfl) ?_
    refine g_iald (N := 72) (g := (up2 S 18 0 0) 16) hx hb hK hP (lt_hn (by decide) (by decide)) rfl (vp_in_lit (by decide)) dX11_digest_231 ?_
    refine lv_istore (lv' := [(6, .int ((up2 S 18 0 0) 16 (20 : Int32).toNatClampNeg)), (5, .int 20), (1, .long (((vX11_digest_39 S) * 31) + (((up2 S 18 0 0) 16 (19 : Int32).toNatClampNeg).toInt64))), (4, .int 72), (3, .ref (a 16)), (0, .ref (a 18))]) hx hb dX11_digest_232 hl (by decide) rfl (fun ls hl => ?_)
    refine lv_lload_n hx hb dX11_digest_234 rfl (lv_at hl 2 rfl) ?_
    refine lv_ldc2 (v := 31) hx hb hown (hts (.constantLong RX11 202 31) (by decide +kernel)) dX11_digest_235 ?_
    refine lv_lmul hx hb dX11_digest_238 ?_
    refine lv_iload hx hb dX11_digest_239 (lv_at hl 0 rfl) ?_
    refine lv_i2l hx hb dX11_digest_241 rfl ?_
    refine lv_ladd hx hb dX11_digest_242 ?_
    refine W.eq (g2 := F0 m 243 ls [.long (vX11_digest_40 S)]) rfl ?_
    refine lv_lstore_n (lv' := [(1, .long (vX11_digest_40 S)), (6, .int ((up2 S 18 0 0) 16 (20 : Int32).toNatClampNeg)), (5, .int 20), (4, .int 72), (3, .ref (a 16)), (0, .ref (a 18))]) hx hb dX11_digest_243 rfl hl (by decide) rfl (fun ls hl => ?_)
    refine lv_iinc (v := 21) (lv' := [(5, .int 21), (1, .long (vX11_digest_40 S)), (6, .int ((up2 S 18 0 0) 16 (20 : Int32).toNatClampNeg)), (4, .int 72), (3, .ref (a 16)), (0, .ref (a 18))]) hx hb dX11_digest_244 hl (k := 2) rfl (by decide) (by decide) rfl (fun ls hl => ?_)
    refine lv_goto (tgt := 221) hx hb dX11_digest_247 (by decide) ?_
    refine lv_iload hx hb dX11_digest_221 (lv_at hl 0 rfl) ?_
    refine lv_iload hx hb dX11_digest_223 (lv_at hl 3 rfl) ?_
    refine lv_icmp_ge (tgt := 250) hx hb dX11_digest_225 (by decide) (fun c => absurd c (by decide)) (fun _ => ?_)
    refine lv_aload_n hx hb dX11_digest_228 rfl (lv_at hl 4 rfl) ?_
    refine lv_iload hx hb dX11_digest_229 (lv_at hl 0 rfl) ?_
    refine g_iald (N := 72) (g := (up2 S 18 0 0) 16) hx hb hK hP (lt_hn (by decide) (by decide)) rfl (vp_in_lit (by decide)) dX11_digest_231 ?_
    refine lv_istore (lv' := [(6, .int ((up2 S 18 0 0) 16 (21 : Int32).toNatClampNeg)), (5, .int 21), (1, .long (vX11_digest_40 S)), (4, .int 72), (3, .ref (a 16)), (0, .ref (a 18))]) hx hb dX11_digest_232 hl (by decide) rfl (fun ls hl => ?_)
    refine lv_lload_n hx hb dX11_digest_234 rfl (lv_at hl 2 rfl) ?_
    refine lv_ldc2 (v := 31) hx hb hown (hts (.constantLong RX11 202 31) (by decide +kernel)) dX11_digest_235 ?_
    refine lv_lmul hx hb dX11_digest_238 ?_
    refine lv_iload hx hb dX11_digest_239 (lv_at hl 0 rfl) ?_
    refine lv_i2l hx hb dX11_digest_241 rfl ?_
    refine lv_ladd hx hb dX11_digest_242 ?_
    refine lv_lstore_n (lv' := [(1, .long (((vX11_digest_40 S) * 31) + (((up2 S 18 0 0) 16 (21 : Int32).toNatClampNeg).toInt64))), (6, .int ((up2 S 18 0 0) 16 (21 : Int32).toNatClampNeg)), (5, .int 21), (4, .int 72), (3, .ref (a 16)), (0, .ref (a 18))]) hx hb dX11_digest_243 rfl hl (by decide) rfl (fun ls hl => ?_)
    refine lv_iinc (v := 22) (lv' := [(5, .int 22), (1, .long (((vX11_digest_40 S) * 31) + (((up2 S 18 0 0) 16 (21 : Int32).toNatClampNeg).toInt64))), (6, .int ((up2 S 18 0 0) 16 (21 : Int32).toNatClampNeg)), (4, .int 72), (3, .ref (a 16)), (0, .ref (a 18))]) hx hb dX11_digest_244 hl (k := 2) rfl (by decide) (by decide) rfl (fun ls hl => ?_)
    refine lv_goto (tgt := 221) hx hb dX11_digest_247 (by decide) ?_
    refine lv_iload hx hb dX11_digest_221 (lv_at hl 0 rfl) ?_
    refine lv_iload hx hb dX11_digest_223 (lv_at hl 3 rfl) ?_
    refine lv_icmp_ge (tgt := 250) hx hb dX11_digest_225 (by decide) (fun c => absurd c (by decide)) (fun _ => ?_)
    refine lv_aload_n hx hb dX11_digest_228 rfl (lv_at hl 4 rfl) ?_
    refine lv_iload hx hb dX11_digest_229 (lv_at hl 0 rfl) ?_
    refine g_iald (N := 72) (g := (up2 S 18 0 0) 16) hx hb hK hP (lt_hn (by decide) (by decide)) rfl (vp_in_lit (by decide)) dX11_digest_231 ?_
    refine lv_istore (lv' := [(6, .int ((up2 S 18 0 0) 16 (22 : Int32).toNatClampNeg)), (5, .int 22), (1, .long (((vX11_digest_40 S) * 31) + (((up2 S 18 0 0) 16 (21 : Int32).toNatClampNeg).toInt64))), (4, .int 72), (3, .ref (a 16)), (0, .ref (a 18))]) hx hb dX11_digest_232 hl (by decide) rfl (fun ls hl => ?_)
    refine lv_lload_n hx hb dX11_digest_234 rfl (lv_at hl 2 rfl) ?_
    refine lv_ldc2 (v := 31) hx hb hown (hts (.constantLong RX11 202 31) (by decide +kernel)) dX11_digest_235 ?_
    refine lv_lmul hx hb dX11_digest_238 ?_
    refine lv_iload hx hb dX11_digest_239 (lv_at hl 0 rfl) ?_
    refine lv_i2l hx hb dX11_digest_241 rfl ?_
    refine lv_ladd hx hb dX11_digest_242 ?_
    refine W.eq (g2 := F0 m 243 ls [.long (vX11_digest_41 S)]) rfl ?_
    refine lv_lstore_n (lv' := [(1, .long (vX11_digest_41 S)), (6, .int ((up2 S 18 0 0) 16 (22 : Int32).toNatClampNeg)), (5, .int 22), (4, .int 72), (3, .ref (a 16)), (0, .ref (a 18))]) hx hb dX11_digest_243 rfl hl (by decide) rfl (fun ls hl => ?_)
    refine lv_iinc (v := 23) (lv' := [(5, .int 23), (1, .long (vX11_digest_41 S)), (6, .int ((up2 S 18 0 0) 16 (22 : Int32).toNatClampNeg)), (4, .int 72), (3, .ref (a 16)), (0, .ref (a 18))]) hx hb dX11_digest_244 hl (k := 2) rfl (by decide) (by decide) rfl (fun ls hl => ?_)
    refine lv_goto (tgt := 221) hx hb dX11_digest_247 (by decide) ?_
    refine lv_iload hx hb dX11_digest_221 (lv_at hl 0 rfl) ?_
    refine lv_iload hx hb dX11_digest_223 (lv_at hl 3 rfl) ?_
    refine lv_icmp_ge (tgt := 250) hx hb dX11_digest_225 (by decide) (fun c => absurd c (by decide)) (fun _ => ?_)
    refine lv_aload_n hx hb dX11_digest_228 rfl (lv_at hl 4 rfl) ?_
    refine lv_iload hx hb dX11_digest_229 (lv_at hl 0 rfl) ?_
    refine g_iald (N := 72) (g := (up2 S 18 0 0) 16) hx hb hK hP (lt_hn (by decide) (by decide)) rfl (vp_in_lit (by decide)) dX11_digest_231 ?_
    refine lv_istore (lv' := [(6, .int ((up2 S 18 0 0) 16 (23 : Int32).toNatClampNeg)), (5, .int 23), (1, .long (vX11_digest_41 S)), (4, .int 72), (3, .ref (a 16)), (0, .ref (a 18))]) hx hb dX11_digest_232 hl (by decide) rfl (fun ls hl => ?_)
    refine lv_lload_n hx hb dX11_digest_234 rfl (lv_at hl 2 rfl) ?_
    refine lv_ldc2 (v := 31) hx hb hown (hts (.constantLong RX11 202 31) (by decide +kernel)) dX11_digest_235 ?_
    refine lv_lmul hx hb dX11_digest_238 ?_
    refine lv_iload hx hb dX11_digest_239 (lv_at hl 0 rfl) ?_
    refine lv_i2l hx hb dX11_digest_241 rfl ?_
    refine lv_ladd hx hb dX11_digest_242 ?_
    refine lv_lstore_n (lv' := [(1, .long (((vX11_digest_41 S) * 31) + (((up2 S 18 0 0) 16 (23 : Int32).toNatClampNeg).toInt64))), (6, .int ((up2 S 18 0 0) 16 (23 : Int32).toNatClampNeg)), (5, .int 23), (4, .int 72), (3, .ref (a 16)), (0, .ref (a 18))]) hx hb dX11_digest_243 rfl hl (by decide) rfl (fun ls hl => ?_)
    refine lv_iinc (v := 24) (lv' := [(5, .int 24), (1, .long (((vX11_digest_41 S) * 31) + (((up2 S 18 0 0) 16 (23 : Int32).toNatClampNeg).toInt64))), (6, .int ((up2 S 18 0 0) 16 (23 : Int32).toNatClampNeg)), (4, .int 72), (3, .ref (a 16)), (0, .ref (a 18))]) hx hb dX11_digest_244 hl (k := 2) rfl (by decide) (by decide) rfl (fun ls hl => ?_)
    refine lv_goto (tgt := 221) hx hb dX11_digest_247 (by decide) ?_
    refine lv_iload hx hb dX11_digest_221 (lv_at hl 0 rfl) ?_
    refine lv_iload hx hb dX11_digest_223 (lv_at hl 3 rfl) ?_
    refine lv_icmp_ge (tgt := 250) hx hb dX11_digest_225 (by decide) (fun c => absurd c (by decide)) (fun _ => ?_)
    refine lv_aload_n hx hb dX11_digest_228 rfl (lv_at hl 4 rfl) ?_
    refine lv_iload hx hb dX11_digest_229 (lv_at hl 0 rfl) ?_
    refine g_iald (N := 72) (g := (up2 S 18 0 0) 16) hx hb hK hP (lt_hn (by decide) (by decide)) rfl (vp_in_lit (by decide)) dX11_digest_231 ?_
    refine lv_istore (lv' := [(6, .int ((up2 S 18 0 0) 16 (24 : Int32).toNatClampNeg)), (5, .int 24), (1, .long (((vX11_digest_41 S) * 31) + (((up2 S 18 0 0) 16 (23 : Int32).toNatClampNeg).toInt64))), (4, .int 72), (3, .ref (a 16)), (0, .ref (a 18))]) hx hb dX11_digest_232 hl (by decide) rfl (fun ls hl => ?_)
    refine lv_lload_n hx hb dX11_digest_234 rfl (lv_at hl 2 rfl) ?_
    refine lv_ldc2 (v := 31) hx hb hown (hts (.constantLong RX11 202 31) (by decide +kernel)) dX11_digest_235 ?_
    refine lv_lmul hx hb dX11_digest_238 ?_
    refine lv_iload hx hb dX11_digest_239 (lv_at hl 0 rfl) ?_
    refine lv_i2l hx hb dX11_digest_241 rfl ?_
    refine lv_ladd hx hb dX11_digest_242 ?_
    refine W.eq (g2 := F0 m 243 ls [.long (vX11_digest_42 S)]) rfl ?_
    refine lv_lstore_n (lv' := [(1, .long (vX11_digest_42 S)), (6, .int ((up2 S 18 0 0) 16 (24 : Int32).toNatClampNeg)), (5, .int 24), (4, .int 72), (3, .ref (a 16)), (0, .ref (a 18))]) hx hb dX11_digest_243 rfl hl (by decide) rfl (fun ls hl => ?_)
    refine lv_iinc (v := 25) (lv' := [(5, .int 25), (1, .long (vX11_digest_42 S)), (6, .int ((up2 S 18 0 0) 16 (24 : Int32).toNatClampNeg)), (4, .int 72), (3, .ref (a 16)), (0, .ref (a 18))]) hx hb dX11_digest_244 hl (k := 2) rfl (by decide) (by decide) rfl (fun ls hl => ?_)
    refine lv_goto (tgt := 221) hx hb dX11_digest_247 (by decide) ?_
    refine lv_iload hx hb dX11_digest_221 (lv_at hl 0 rfl) ?_
    refine lv_iload hx hb dX11_digest_223 (lv_at hl 3 rfl) ?_
    refine lv_icmp_ge (tgt := 250) hx hb dX11_digest_225 (by decide) (fun c => absurd c (by decide)) (fun _ => ?_)
    refine lv_aload_n hx hb dX11_digest_228 rfl (lv_at hl 4 rfl) ?_
    refine lv_iload hx hb dX11_digest_229 (lv_at hl 0 rfl) ?_
    refine g_iald (N := 72) (g := (up2 S 18 0 0) 16) hx hb hK hP (lt_hn (by decide) (by decide)) rfl (vp_in_lit (by decide)) dX11_digest_231 ?_
    refine lv_istore (lv' := [(6, .int ((up2 S 18 0 0) 16 (25 : Int32).toNatClampNeg)), (5, .int 25), (1, .long (vX11_digest_42 S)), (4, .int 72), (3, .ref (a 16)), (0, .ref (a 18))]) hx hb dX11_digest_232 hl (by decide) rfl (fun ls hl => ?_)
    refine lv_lload_n hx hb dX11_digest_234 rfl (lv_at hl 2 rfl) ?_
    refine lv_ldc2 (v := 31) hx hb hown (hts (.constantLong RX11 202 31) (by decide +kernel)) dX11_digest_235 ?_
    refine lv_lmul hx hb dX11_digest_238 ?_
    refine lv_iload hx hb dX11_digest_239 (lv_at hl 0 rfl) ?_
    refine lv_i2l hx hb dX11_digest_241 rfl ?_
    refine lv_ladd hx hb dX11_digest_242 ?_
    refine lv_lstore_n (lv' := [(1, .long (((vX11_digest_42 S) * 31) + (((up2 S 18 0 0) 16 (25 : Int32).toNatClampNeg).toInt64))), (6, .int ((up2 S 18 0 0) 16 (25 : Int32).toNatClampNeg)), (5, .int 25), (4, .int 72), (3, .ref (a 16)), (0, .ref (a 18))]) hx hb dX11_digest_243 rfl hl (by decide) rfl (fun ls hl => ?_)
    refine lv_iinc (v := 26) (lv' := [(5, .int 26), (1, .long (((vX11_digest_42 S) * 31) + (((up2 S 18 0 0) 16 (25 : Int32).toNatClampNeg).toInt64))), (6, .int ((up2 S 18 0 0) 16 (25 : Int32).toNatClampNeg)), (4, .int 72), (3, .ref (a 16)), (0, .ref (a 18))]) hx hb dX11_digest_244 hl (k := 2) rfl (by decide) (by decide) rfl (fun ls hl => ?_)
    refine lv_goto (tgt := 221) hx hb dX11_digest_247 (by decide) ?_
    refine lv_iload hx hb dX11_digest_221 (lv_at hl 0 rfl) ?_
    refine lv_iload hx hb dX11_digest_223 (lv_at hl 3 rfl) ?_
    refine lv_icmp_ge (tgt := 250) hx hb dX11_digest_225 (by decide) (fun c => absurd c (by decide)) (fun _ => ?_)
    refine lv_aload_n hx hb dX11_digest_228 rfl (lv_at hl 4 rfl) ?_
    refine lv_iload hx hb dX11_digest_229 (lv_at hl 0 rfl) ?_
    refine g_iald (N := 72) (g := (up2 S 18 0 0) 16) hx hb hK hP (lt_hn (by decide) (by decide)) rfl (vp_in_lit (by decide)) dX11_digest_231 ?_
    refine lv_istore (lv' := [(6, .int ((up2 S 18 0 0) 16 (26 : Int32).toNatClampNeg)), (5, .int 26), (1, .long (((vX11_digest_42 S) * 31) + (((up2 S 18 0 0) 16 (25 : Int32).toNatClampNeg).toInt64))), (4, .int 72), (3, .ref (a 16)), (0, .ref (a 18))]) hx hb dX11_digest_232 hl (by decide) rfl (fun ls hl => ?_)
    refine lv_lload_n hx hb dX11_digest_234 rfl (lv_at hl 2 rfl) ?_
    refine lv_ldc2 (v := 31) hx hb hown (hts (.constantLong RX11 202 31) (by decide +kernel)) dX11_digest_235 ?_
    refine lv_lmul hx hb dX11_digest_238 ?_
    refine lv_iload hx hb dX11_digest_239 (lv_at hl 0 rfl) ?_
    refine lv_i2l hx hb dX11_digest_241 rfl ?_
    refine lv_ladd hx hb dX11_digest_242 ?_
    refine W.eq (g2 := F0 m 243 ls [.long (vX11_digest_43 S)]) rfl ?_
    refine lv_lstore_n (lv' := [(1, .long (vX11_digest_43 S)), (6, .int ((up2 S 18 0 0) 16 (26 : Int32).toNatClampNeg)), (5, .int 26), (4, .int 72), (3, .ref (a 16)), (0, .ref (a 18))]) hx hb dX11_digest_243 rfl hl (by decide) rfl (fun ls hl => ?_)
    refine lv_iinc (v := 27) (lv' := [(5, .int 27), (1, .long (vX11_digest_43 S)), (6, .int ((up2 S 18 0 0) 16 (26 : Int32).toNatClampNeg)), (4, .int 72), (3, .ref (a 16)), (0, .ref (a 18))]) hx hb dX11_digest_244 hl (k := 2) rfl (by decide) (by decide) rfl (fun ls hl => ?_)
    refine lv_goto (tgt := 221) hx hb dX11_digest_247 (by decide) ?_
    refine lv_iload hx hb dX11_digest_221 (lv_at hl 0 rfl) ?_
    refine lv_iload hx hb dX11_digest_223 (lv_at hl 3 rfl) ?_
    refine lv_icmp_ge (tgt := 250) hx hb dX11_digest_225 (by decide) (fun c => absurd c (by decide)) (fun _ => ?_)
    refine lv_aload_n hx hb dX11_digest_228 rfl (lv_at hl 4 rfl) ?_
    refine lv_iload hx hb dX11_digest_229 (lv_at hl 0 rfl) ?_
    refine g_iald (N := 72) (g := (up2 S 18 0 0) 16) hx hb hK hP (lt_hn (by decide) (by decide)) rfl (vp_in_lit (by decide)) dX11_digest_231 ?_
    refine lv_istore (lv' := [(6, .int ((up2 S 18 0 0) 16 (27 : Int32).toNatClampNeg)), (5, .int 27), (1, .long (vX11_digest_43 S)), (4, .int 72), (3, .ref (a 16)), (0, .ref (a 18))]) hx hb dX11_digest_232 hl (by decide) rfl (fun ls hl => ?_)
    refine lv_lload_n hx hb dX11_digest_234 rfl (lv_at hl 2 rfl) ?_
    refine lv_ldc2 (v := 31) hx hb hown (hts (.constantLong RX11 202 31) (by decide +kernel)) dX11_digest_235 ?_
    refine lv_lmul hx hb dX11_digest_238 ?_
    refine lv_iload hx hb dX11_digest_239 (lv_at hl 0 rfl) ?_
    refine lv_i2l hx hb dX11_digest_241 rfl ?_
    refine lv_ladd hx hb dX11_digest_242 ?_
    refine lv_lstore_n (lv' := [(1, .long (((vX11_digest_43 S) * 31) + (((up2 S 18 0 0) 16 (27 : Int32).toNatClampNeg).toInt64))), (6, .int ((up2 S 18 0 0) 16 (27 : Int32).toNatClampNeg)), (5, .int 27), (4, .int 72), (3, .ref (a 16)), (0, .ref (a 18))]) hx hb dX11_digest_243 rfl hl (by decide) rfl (fun ls hl => ?_)
    refine lv_iinc (v := 28) (lv' := [(5, .int 28), (1, .long (((vX11_digest_43 S) * 31) + (((up2 S 18 0 0) 16 (27 : Int32).toNatClampNeg).toInt64))), (6, .int ((up2 S 18 0 0) 16 (27 : Int32).toNatClampNeg)), (4, .int 72), (3, .ref (a 16)), (0, .ref (a 18))]) hx hb dX11_digest_244 hl (k := 2) rfl (by decide) (by decide) rfl (fun ls hl => ?_)
    refine lv_goto (tgt := 221) hx hb dX11_digest_247 (by decide) ?_
    refine lv_iload hx hb dX11_digest_221 (lv_at hl 0 rfl) ?_
    refine lv_iload hx hb dX11_digest_223 (lv_at hl 3 rfl) ?_
    refine lv_icmp_ge (tgt := 250) hx hb dX11_digest_225 (by decide) (fun c => absurd c (by decide)) (fun _ => ?_)
    refine lv_aload_n hx hb dX11_digest_228 rfl (lv_at hl 4 rfl) ?_
    refine lv_iload hx hb dX11_digest_229 (lv_at hl 0 rfl) ?_
    refine g_iald (N := 72) (g := (up2 S 18 0 0) 16) hx hb hK hP (lt_hn (by decide) (by decide)) rfl (vp_in_lit (by decide)) dX11_digest_231 ?_
    refine lv_istore (lv' := [(6, .int ((up2 S 18 0 0) 16 (28 : Int32).toNatClampNeg)), (5, .int 28), (1, .long (((vX11_digest_43 S) * 31) + (((up2 S 18 0 0) 16 (27 : Int32).toNatClampNeg).toInt64))), (4, .int 72), (3, .ref (a 16)), (0, .ref (a 18))]) hx hb dX11_digest_232 hl (by decide) rfl (fun ls hl => ?_)
    refine lv_lload_n hx hb dX11_digest_234 rfl (lv_at hl 2 rfl) ?_
    refine lv_ldc2 (v := 31) hx hb hown (hts (.constantLong RX11 202 31) (by decide +kernel)) dX11_digest_235 ?_
    refine lv_lmul hx hb dX11_digest_238 ?_
    refine lv_iload hx hb dX11_digest_239 (lv_at hl 0 rfl) ?_
    refine lv_i2l hx hb dX11_digest_241 rfl ?_
    refine lv_ladd hx hb dX11_digest_242 ?_
    refine W.eq (g2 := F0 m 243 ls [.long (vX11_digest_44 S)]) rfl ?_
    refine lv_lstore_n (lv' := [(1, .long (vX11_digest_44 S)), (6, .int ((up2 S 18 0 0) 16 (28 : Int32).toNatClampNeg)), (5, .int 28), (4, .int 72), (3, .ref (a 16)), (0, .ref (a 18))]) hx hb dX11_digest_243 rfl hl (by decide) rfl (fun ls hl => ?_)
    refine lv_iinc (v := 29) (lv' := [(5, .int 29), (1, .long (vX11_digest_44 S)), (6, .int ((up2 S 18 0 0) 16 (28 : Int32).toNatClampNeg)), (4, .int 72), (3, .ref (a 16)), (0, .ref (a 18))]) hx hb dX11_digest_244 hl (k := 2) rfl (by decide) (by decide) rfl (fun ls hl => ?_)
    refine lv_goto (tgt := 221) hx hb dX11_digest_247 (by decide) ?_
    refine lv_iload hx hb dX11_digest_221 (lv_at hl 0 rfl) ?_
    refine lv_iload hx hb dX11_digest_223 (lv_at hl 3 rfl) ?_
    refine lv_icmp_ge (tgt := 250) hx hb dX11_digest_225 (by decide) (fun c => absurd c (by decide)) (fun _ => ?_)
    refine lv_aload_n hx hb dX11_digest_228 rfl (lv_at hl 4 rfl) ?_
    refine lv_iload hx hb dX11_digest_229 (lv_at hl 0 rfl) ?_
    refine g_iald (N := 72) (g := (up2 S 18 0 0) 16) hx hb hK hP (lt_hn (by decide) (by decide)) rfl (vp_in_lit (by decide)) dX11_digest_231 ?_
    refine lv_istore (lv' := [(6, .int ((up2 S 18 0 0) 16 (29 : Int32).toNatClampNeg)), (5, .int 29), (1, .long (vX11_digest_44 S)), (4, .int 72), (3, .ref (a 16)), (0, .ref (a 18))]) hx hb dX11_digest_232 hl (by decide) rfl (fun ls hl => ?_)
    refine lv_lload_n hx hb dX11_digest_234 rfl (lv_at hl 2 rfl) ?_
    refine lv_ldc2 (v := 31) hx hb hown (hts (.constantLong RX11 202 31) (by decide +kernel)) dX11_digest_235 ?_
    refine lv_lmul hx hb dX11_digest_238 ?_
    refine lv_iload hx hb dX11_digest_239 (lv_at hl 0 rfl) ?_
    refine lv_i2l hx hb dX11_digest_241 rfl ?_
    refine lv_ladd hx hb dX11_digest_242 ?_
    refine lv_lstore_n (lv' := [(1, .long (((vX11_digest_44 S) * 31) + (((up2 S 18 0 0) 16 (29 : Int32).toNatClampNeg).toInt64))), (6, .int ((up2 S 18 0 0) 16 (29 : Int32).toNatClampNeg)), (5, .int 29), (4, .int 72), (3, .ref (a 16)), (0, .ref (a 18))]) hx hb dX11_digest_243 rfl hl (by decide) rfl (fun ls hl => ?_)
    refine lv_iinc (v := 30) (lv' := [(5, .int 30), (1, .long (((vX11_digest_44 S) * 31) + (((up2 S 18 0 0) 16 (29 : Int32).toNatClampNeg).toInt64))), (6, .int ((up2 S 18 0 0) 16 (29 : Int32).toNatClampNeg)), (4, .int 72), (3, .ref (a 16)), (0, .ref (a 18))]) hx hb dX11_digest_244 hl (k := 2) rfl (by decide) (by decide) rfl (fun ls hl => ?_)
    refine lv_goto (tgt := 221) hx hb dX11_digest_247 (by decide) ?_
    refine lv_iload hx hb dX11_digest_221 (lv_at hl 0 rfl) ?_
    refine lv_iload hx hb dX11_digest_223 (lv_at hl 3 rfl) ?_
    refine lv_icmp_ge (tgt := 250) hx hb dX11_digest_225 (by decide) (fun c => absurd c (by decide)) (fun _ => ?_)
    refine lv_aload_n hx hb dX11_digest_228 rfl (lv_at hl 4 rfl) ?_
    refine lv_iload hx hb dX11_digest_229 (lv_at hl 0 rfl) ?_
    refine g_iald (N := 72) (g := (up2 S 18 0 0) 16) hx hb hK hP (lt_hn (by decide) (by decide)) rfl (vp_in_lit (by decide)) dX11_digest_231 ?_
    refine lv_istore (lv' := [(6, .int ((up2 S 18 0 0) 16 (30 : Int32).toNatClampNeg)), (5, .int 30), (1, .long (((vX11_digest_44 S) * 31) + (((up2 S 18 0 0) 16 (29 : Int32).toNatClampNeg).toInt64))), (4, .int 72), (3, .ref (a 16)), (0, .ref (a 18))]) hx hb dX11_digest_232 hl (by decide) rfl (fun ls hl => ?_)
    refine lv_lload_n hx hb dX11_digest_234 rfl (lv_at hl 2 rfl) ?_
    refine lv_ldc2 (v := 31) hx hb hown (hts (.constantLong RX11 202 31) (by decide +kernel)) dX11_digest_235 ?_
    refine lv_lmul hx hb dX11_digest_238 ?_
    refine lv_iload hx hb dX11_digest_239 (lv_at hl 0 rfl) ?_
    refine lv_i2l hx hb dX11_digest_241 rfl ?_
    refine lv_ladd hx hb dX11_digest_242 ?_
    refine W.eq (g2 := F0 m 243 ls [.long (vX11_digest_45 S)]) rfl ?_
    refine lv_lstore_n (lv' := [(1, .long (vX11_digest_45 S)), (6, .int ((up2 S 18 0 0) 16 (30 : Int32).toNatClampNeg)), (5, .int 30), (4, .int 72), (3, .ref (a 16)), (0, .ref (a 18))]) hx hb dX11_digest_243 rfl hl (by decide) rfl (fun ls hl => ?_)
    refine lv_iinc (v := 31) (lv' := [(5, .int 31), (1, .long (vX11_digest_45 S)), (6, .int ((up2 S 18 0 0) 16 (30 : Int32).toNatClampNeg)), (4, .int 72), (3, .ref (a 16)), (0, .ref (a 18))]) hx hb dX11_digest_244 hl (k := 2) rfl (by decide) (by decide) rfl (fun ls hl => ?_)
    refine lv_goto (tgt := 221) hx hb dX11_digest_247 (by decide) ?_
    refine lv_iload hx hb dX11_digest_221 (lv_at hl 0 rfl) ?_
    refine lv_iload hx hb dX11_digest_223 (lv_at hl 3 rfl) ?_
    refine lv_icmp_ge (tgt := 250) hx hb dX11_digest_225 (by decide) (fun c => absurd c (by decide)) (fun _ => ?_)
    refine lv_aload_n hx hb dX11_digest_228 rfl (lv_at hl 4 rfl) ?_
    refine lv_iload hx hb dX11_digest_229 (lv_at hl 0 rfl) ?_
    refine g_iald (N := 72) (g := (up2 S 18 0 0) 16) hx hb hK hP (lt_hn (by decide) (by decide)) rfl (vp_in_lit (by decide)) dX11_digest_231 ?_
    refine lv_istore (lv' := [(6, .int ((up2 S 18 0 0) 16 (31 : Int32).toNatClampNeg)), (5, .int 31), (1, .long (vX11_digest_45 S)), (4, .int 72), (3, .ref (a 16)), (0, .ref (a 18))]) hx hb dX11_digest_232 hl (by decide) rfl (fun ls hl => ?_)
    refine lv_lload_n hx hb dX11_digest_234 rfl (lv_at hl 2 rfl) ?_
    refine lv_ldc2 (v := 31) hx hb hown (hts (.constantLong RX11 202 31) (by decide +kernel)) dX11_digest_235 ?_
    refine lv_lmul hx hb dX11_digest_238 ?_
    refine lv_iload hx hb dX11_digest_239 (lv_at hl 0 rfl) ?_
    refine lv_i2l hx hb dX11_digest_241 rfl ?_
    refine lv_ladd hx hb dX11_digest_242 ?_
    refine lv_lstore_n (lv' := [(1, .long (((vX11_digest_45 S) * 31) + (((up2 S 18 0 0) 16 (31 : Int32).toNatClampNeg).toInt64))), (6, .int ((up2 S 18 0 0) 16 (31 : Int32).toNatClampNeg)), (5, .int 31), (4, .int 72), (3, .ref (a 16)), (0, .ref (a 18))]) hx hb dX11_digest_243 rfl hl (by decide) rfl (fun ls hl => ?_)
    refine lv_iinc (v := 32) (lv' := [(5, .int 32), (1, .long (((vX11_digest_45 S) * 31) + (((up2 S 18 0 0) 16 (31 : Int32).toNatClampNeg).toInt64))), (6, .int ((up2 S 18 0 0) 16 (31 : Int32).toNatClampNeg)), (4, .int 72), (3, .ref (a 16)), (0, .ref (a 18))]) hx hb dX11_digest_244 hl (k := 2) rfl (by decide) (by decide) rfl (fun ls hl => ?_)
    refine lv_goto (tgt := 221) hx hb dX11_digest_247 (by decide) ?_
    refine lv_iload hx hb dX11_digest_221 (lv_at hl 0 rfl) ?_
    refine lv_iload hx hb dX11_digest_223 (lv_at hl 3 rfl) ?_
    refine lv_icmp_ge (tgt := 250) hx hb dX11_digest_225 (by decide) (fun c => absurd c (by decide)) (fun _ => ?_)
    refine lv_aload_n hx hb dX11_digest_228 rfl (lv_at hl 4 rfl) ?_
    refine lv_iload hx hb dX11_digest_229 (lv_at hl 0 rfl) ?_
    refine g_iald (N := 72) (g := (up2 S 18 0 0) 16) hx hb hK hP (lt_hn (by decide) (by decide)) rfl (vp_in_lit (by decide)) dX11_digest_231 ?_
    refine lv_istore (lv' := [(6, .int ((up2 S 18 0 0) 16 (32 : Int32).toNatClampNeg)), (5, .int 32), (1, .long (((vX11_digest_45 S) * 31) + (((up2 S 18 0 0) 16 (31 : Int32).toNatClampNeg).toInt64))), (4, .int 72), (3, .ref (a 16)), (0, .ref (a 18))]) hx hb dX11_digest_232 hl (by decide) rfl (fun ls hl => ?_)
    refine lv_lload_n hx hb dX11_digest_234 rfl (lv_at hl 2 rfl) ?_
    refine lv_ldc2 (v := 31) hx hb hown (hts (.constantLong RX11 202 31) (by decide +kernel)) dX11_digest_235 ?_
    refine lv_lmul hx hb dX11_digest_238 ?_
    refine lv_iload hx hb dX11_digest_239 (lv_at hl 0 rfl) ?_
    refine lv_i2l hx hb dX11_digest_241 rfl ?_
    refine lv_ladd hx hb dX11_digest_242 ?_
    refine W.eq (g2 := F0 m 243 ls [.long (vX11_digest_46 S)]) rfl ?_
    refine lv_lstore_n (lv' := [(1, .long (vX11_digest_46 S)), (6, .int ((up2 S 18 0 0) 16 (32 : Int32).toNatClampNeg)), (5, .int 32), (4, .int 72), (3, .ref (a 16)), (0, .ref (a 18))]) hx hb dX11_digest_243 rfl hl (by decide) rfl (fun ls hl => ?_)
    refine lv_iinc (v := 33) (lv' := [(5, .int 33), (1, .long (vX11_digest_46 S)), (6, .int ((up2 S 18 0 0) 16 (32 : Int32).toNatClampNeg)), (4, .int 72), (3, .ref (a 16)), (0, .ref (a 18))]) hx hb dX11_digest_244 hl (k := 2) rfl (by decide) (by decide) rfl (fun ls hl => ?_)
    refine lv_goto (tgt := 221) hx hb dX11_digest_247 (by decide) ?_
    refine lv_iload hx hb dX11_digest_221 (lv_at hl 0 rfl) ?_
    refine lv_iload hx hb dX11_digest_223 (lv_at hl 3 rfl) ?_
    refine lv_icmp_ge (tgt := 250) hx hb dX11_digest_225 (by decide) (fun c => absurd c (by decide)) (fun _ => ?_)
    refine lv_aload_n hx hb dX11_digest_228 rfl (lv_at hl 4 rfl) ?_
    refine lv_iload hx hb dX11_digest_229 (lv_at hl 0 rfl) ?_
    refine g_iald (N := 72) (g := (up2 S 18 0 0) 16) hx hb hK hP (lt_hn (by decide) (by decide)) rfl (vp_in_lit (by decide)) dX11_digest_231 ?_
    refine lv_istore (lv' := [(6, .int ((up2 S 18 0 0) 16 (33 : Int32).toNatClampNeg)), (5, .int 33), (1, .long (vX11_digest_46 S)), (4, .int 72), (3, .ref (a 16)), (0, .ref (a 18))]) hx hb dX11_digest_232 hl (by decide) rfl (fun ls hl => ?_)
    refine lv_lload_n hx hb dX11_digest_234 rfl (lv_at hl 2 rfl) ?_
    refine lv_ldc2 (v := 31) hx hb hown (hts (.constantLong RX11 202 31) (by decide +kernel)) dX11_digest_235 ?_
    refine lv_lmul hx hb dX11_digest_238 ?_
    refine lv_iload hx hb dX11_digest_239 (lv_at hl 0 rfl) ?_
    refine lv_i2l hx hb dX11_digest_241 rfl ?_
    refine lv_ladd hx hb dX11_digest_242 ?_
    refine lv_lstore_n (lv' := [(1, .long (((vX11_digest_46 S) * 31) + (((up2 S 18 0 0) 16 (33 : Int32).toNatClampNeg).toInt64))), (6, .int ((up2 S 18 0 0) 16 (33 : Int32).toNatClampNeg)), (5, .int 33), (4, .int 72), (3, .ref (a 16)), (0, .ref (a 18))]) hx hb dX11_digest_243 rfl hl (by decide) rfl (fun ls hl => ?_)
    refine lv_iinc (v := 34) (lv' := [(5, .int 34), (1, .long (((vX11_digest_46 S) * 31) + (((up2 S 18 0 0) 16 (33 : Int32).toNatClampNeg).toInt64))), (6, .int ((up2 S 18 0 0) 16 (33 : Int32).toNatClampNeg)), (4, .int 72), (3, .ref (a 16)), (0, .ref (a 18))]) hx hb dX11_digest_244 hl (k := 2) rfl (by decide) (by decide) rfl (fun ls hl => ?_)
    refine lv_goto (tgt := 221) hx hb dX11_digest_247 (by decide) ?_
    refine lv_iload hx hb dX11_digest_221 (lv_at hl 0 rfl) ?_
    refine lv_iload hx hb dX11_digest_223 (lv_at hl 3 rfl) ?_
    refine lv_icmp_ge (tgt := 250) hx hb dX11_digest_225 (by decide) (fun c => absurd c (by decide)) (fun _ => ?_)
    refine lv_aload_n hx hb dX11_digest_228 rfl (lv_at hl 4 rfl) ?_
    refine lv_iload hx hb dX11_digest_229 (lv_at hl 0 rfl) ?_
    refine g_iald (N := 72) (g := (up2 S 18 0 0) 16) hx hb hK hP (lt_hn (by decide) (by decide)) rfl (vp_in_lit (by decide)) dX11_digest_231 ?_
    refine lv_istore (lv' := [(6, .int ((up2 S 18 0 0) 16 (34 : Int32).toNatClampNeg)), (5, .int 34), (1, .long (((vX11_digest_46 S) * 31) + (((up2 S 18 0 0) 16 (33 : Int32).toNatClampNeg).toInt64))), (4, .int 72), (3, .ref (a 16)), (0, .ref (a 18))]) hx hb dX11_digest_232 hl (by decide) rfl (fun ls hl => ?_)
    refine lv_lload_n hx hb dX11_digest_234 rfl (lv_at hl 2 rfl) ?_
    refine lv_ldc2 (v := 31) hx hb hown (hts (.constantLong RX11 202 31) (by decide +kernel)) dX11_digest_235 ?_
    refine lv_lmul hx hb dX11_digest_238 ?_
    refine lv_iload hx hb dX11_digest_239 (lv_at hl 0 rfl) ?_
    refine lv_i2l hx hb dX11_digest_241 rfl ?_
    refine lv_ladd hx hb dX11_digest_242 ?_
    refine W.eq (g2 := F0 m 243 ls [.long (vX11_digest_47 S)]) rfl ?_
    refine lv_lstore_n (lv' := [(1, .long (vX11_digest_47 S)), (6, .int ((up2 S 18 0 0) 16 (34 : Int32).toNatClampNeg)), (5, .int 34), (4, .int 72), (3, .ref (a 16)), (0, .ref (a 18))]) hx hb dX11_digest_243 rfl hl (by decide) rfl (fun ls hl => ?_)
    refine lv_iinc (v := 35) (lv' := [(5, .int 35), (1, .long (vX11_digest_47 S)), (6, .int ((up2 S 18 0 0) 16 (34 : Int32).toNatClampNeg)), (4, .int 72), (3, .ref (a 16)), (0, .ref (a 18))]) hx hb dX11_digest_244 hl (k := 2) rfl (by decide) (by decide) rfl (fun ls hl => ?_)
    refine lv_goto (tgt := 221) hx hb dX11_digest_247 (by decide) ?_
    refine lv_iload hx hb dX11_digest_221 (lv_at hl 0 rfl) ?_
    refine lv_iload hx hb dX11_digest_223 (lv_at hl 3 rfl) ?_
    refine lv_icmp_ge (tgt := 250) hx hb dX11_digest_225 (by decide) (fun c => absurd c (by decide)) (fun _ => ?_)
    refine lv_aload_n hx hb dX11_digest_228 rfl (lv_at hl 4 rfl) ?_
    refine lv_iload hx hb dX11_digest_229 (lv_at hl 0 rfl) ?_
    refine g_iald (N := 72) (g := (up2 S 18 0 0) 16) hx hb hK hP (lt_hn (by decide) (by decide)) rfl (vp_in_lit (by decide)) dX11_digest_231 ?_
    refine lv_istore (lv' := [(6, .int ((up2 S 18 0 0) 16 (35 : Int32).toNatClampNeg)), (5, .int 35), (1, .long (vX11_digest_47 S)), (4, .int 72), (3, .ref (a 16)), (0, .ref (a 18))]) hx hb dX11_digest_232 hl (by decide) rfl (fun ls hl => ?_)
    refine lv_lload_n hx hb dX11_digest_234 rfl (lv_at hl 2 rfl) ?_
    refine lv_ldc2 (v := 31) hx hb hown (hts (.constantLong RX11 202 31) (by decide +kernel)) dX11_digest_235 ?_
    refine lv_lmul hx hb dX11_digest_238 ?_
    refine lv_iload hx hb dX11_digest_239 (lv_at hl 0 rfl) ?_
    refine lv_i2l hx hb dX11_digest_241 rfl ?_
    refine lv_ladd hx hb dX11_digest_242 ?_
    refine lv_lstore_n (lv' := [(1, .long (((vX11_digest_47 S) * 31) + (((up2 S 18 0 0) 16 (35 : Int32).toNatClampNeg).toInt64))), (6, .int ((up2 S 18 0 0) 16 (35 : Int32).toNatClampNeg)), (5, .int 35), (4, .int 72), (3, .ref (a 16)), (0, .ref (a 18))]) hx hb dX11_digest_243 rfl hl (by decide) rfl (fun ls hl => ?_)
    refine lv_iinc (v := 36) (lv' := [(5, .int 36), (1, .long (((vX11_digest_47 S) * 31) + (((up2 S 18 0 0) 16 (35 : Int32).toNatClampNeg).toInt64))), (6, .int ((up2 S 18 0 0) 16 (35 : Int32).toNatClampNeg)), (4, .int 72), (3, .ref (a 16)), (0, .ref (a 18))]) hx hb dX11_digest_244 hl (k := 2) rfl (by decide) (by decide) rfl (fun ls hl => ?_)
    refine lv_goto (tgt := 221) hx hb dX11_digest_247 (by decide) ?_
    refine lv_iload hx hb dX11_digest_221 (lv_at hl 0 rfl) ?_
    refine lv_iload hx hb dX11_digest_223 (lv_at hl 3 rfl) ?_
    refine lv_icmp_ge (tgt := 250) hx hb dX11_digest_225 (by decide) (fun c => absurd c (by decide)) (fun _ => ?_)
    refine lv_aload_n hx hb dX11_digest_228 rfl (lv_at hl 4 rfl) ?_
    refine lv_iload hx hb dX11_digest_229 (lv_at hl 0 rfl) ?_
    refine g_iald (N := 72) (g := (up2 S 18 0 0) 16) hx hb hK hP (lt_hn (by decide) (by decide)) rfl (vp_in_lit (by decide)) dX11_digest_231 ?_
    refine lv_istore (lv' := [(6, .int ((up2 S 18 0 0) 16 (36 : Int32).toNatClampNeg)), (5, .int 36), (1, .long (((vX11_digest_47 S) * 31) + (((up2 S 18 0 0) 16 (35 : Int32).toNatClampNeg).toInt64))), (4, .int 72), (3, .ref (a 16)), (0, .ref (a 18))]) hx hb dX11_digest_232 hl (by decide) rfl (fun ls hl => ?_)
    refine lv_lload_n hx hb dX11_digest_234 rfl (lv_at hl 2 rfl) ?_
    refine lv_ldc2 (v := 31) hx hb hown (hts (.constantLong RX11 202 31) (by decide +kernel)) dX11_digest_235 ?_
    refine lv_lmul hx hb dX11_digest_238 ?_
    refine lv_iload hx hb dX11_digest_239 (lv_at hl 0 rfl) ?_
    refine lv_i2l hx hb dX11_digest_241 rfl ?_
    refine lv_ladd hx hb dX11_digest_242 ?_
    refine W.eq (g2 := F0 m 243 ls [.long (vX11_digest_48 S)]) rfl ?_
    refine lv_lstore_n (lv' := [(1, .long (vX11_digest_48 S)), (6, .int ((up2 S 18 0 0) 16 (36 : Int32).toNatClampNeg)), (5, .int 36), (4, .int 72), (3, .ref (a 16)), (0, .ref (a 18))]) hx hb dX11_digest_243 rfl hl (by decide) rfl (fun ls hl => ?_)
    refine lv_iinc (v := 37) (lv' := [(5, .int 37), (1, .long (vX11_digest_48 S)), (6, .int ((up2 S 18 0 0) 16 (36 : Int32).toNatClampNeg)), (4, .int 72), (3, .ref (a 16)), (0, .ref (a 18))]) hx hb dX11_digest_244 hl (k := 2) rfl (by decide) (by decide) rfl (fun ls hl => ?_)
    refine lv_goto (tgt := 221) hx hb dX11_digest_247 (by decide) ?_
    refine lv_iload hx hb dX11_digest_221 (lv_at hl 0 rfl) ?_
    refine lv_iload hx hb dX11_digest_223 (lv_at hl 3 rfl) ?_
    refine lv_icmp_ge (tgt := 250) hx hb dX11_digest_225 (by decide) (fun c => absurd c (by decide)) (fun _ => ?_)
    refine lv_aload_n hx hb dX11_digest_228 rfl (lv_at hl 4 rfl) ?_
    refine lv_iload hx hb dX11_digest_229 (lv_at hl 0 rfl) ?_
    refine g_iald (N := 72) (g := (up2 S 18 0 0) 16) hx hb hK hP (lt_hn (by decide) (by decide)) rfl (vp_in_lit (by decide)) dX11_digest_231 ?_
    refine lv_istore (lv' := [(6, .int ((up2 S 18 0 0) 16 (37 : Int32).toNatClampNeg)), (5, .int 37), (1, .long (vX11_digest_48 S)), (4, .int 72), (3, .ref (a 16)), (0, .ref (a 18))]) hx hb dX11_digest_232 hl (by decide) rfl (fun ls hl => ?_)
    refine lv_lload_n hx hb dX11_digest_234 rfl (lv_at hl 2 rfl) ?_
    refine lv_ldc2 (v := 31) hx hb hown (hts (.constantLong RX11 202 31) (by decide +kernel)) dX11_digest_235 ?_
    refine lv_lmul hx hb dX11_digest_238 ?_
    refine lv_iload hx hb dX11_digest_239 (lv_at hl 0 rfl) ?_
    refine lv_i2l hx hb dX11_digest_241 rfl ?_
    refine lv_ladd hx hb dX11_digest_242 ?_
    refine lv_lstore_n (lv' := [(1, .long (((vX11_digest_48 S) * 31) + (((up2 S 18 0 0) 16 (37 : Int32).toNatClampNeg).toInt64))), (6, .int ((up2 S 18 0 0) 16 (37 : Int32).toNatClampNeg)), (5, .int 37), (4, .int 72), (3, .ref (a 16)), (0, .ref (a 18))]) hx hb dX11_digest_243 rfl hl (by decide) rfl (fun ls hl => ?_)
    refine lv_iinc (v := 38) (lv' := [(5, .int 38), (1, .long (((vX11_digest_48 S) * 31) + (((up2 S 18 0 0) 16 (37 : Int32).toNatClampNeg).toInt64))), (6, .int ((up2 S 18 0 0) 16 (37 : Int32).toNatClampNeg)), (4, .int 72), (3, .ref (a 16)), (0, .ref (a 18))]) hx hb dX11_digest_244 hl (k := 2) rfl (by decide) (by decide) rfl (fun ls hl => ?_)
    refine lv_goto (tgt := 221) hx hb dX11_digest_247 (by decide) ?_
    refine lv_iload hx hb dX11_digest_221 (lv_at hl 0 rfl) ?_
    refine lv_iload hx hb dX11_digest_223 (lv_at hl 3 rfl) ?_
    refine lv_icmp_ge (tgt := 250) hx hb dX11_digest_225 (by decide) (fun c => absurd c (by decide)) (fun _ => ?_)
    refine lv_aload_n hx hb dX11_digest_228 rfl (lv_at hl 4 rfl) ?_
    refine lv_iload hx hb dX11_digest_229 (lv_at hl 0 rfl) ?_
    refine g_iald (N := 72) (g := (up2 S 18 0 0) 16) hx hb hK hP (lt_hn (by decide) (by decide)) rfl (vp_in_lit (by decide)) dX11_digest_231 ?_
    refine lv_istore (lv' := [(6, .int ((up2 S 18 0 0) 16 (38 : Int32).toNatClampNeg)), (5, .int 38), (1, .long (((vX11_digest_48 S) * 31) + (((up2 S 18 0 0) 16 (37 : Int32).toNatClampNeg).toInt64))), (4, .int 72), (3, .ref (a 16)), (0, .ref (a 18))]) hx hb dX11_digest_232 hl (by decide) rfl (fun ls hl => ?_)
    refine lv_lload_n hx hb dX11_digest_234 rfl (lv_at hl 2 rfl) ?_
    refine lv_ldc2 (v := 31) hx hb hown (hts (.constantLong RX11 202 31) (by decide +kernel)) dX11_digest_235 ?_
    refine lv_lmul hx hb dX11_digest_238 ?_
    refine lv_iload hx hb dX11_digest_239 (lv_at hl 0 rfl) ?_
    refine lv_i2l hx hb dX11_digest_241 rfl ?_
    refine lv_ladd hx hb dX11_digest_242 ?_
    refine W.eq (g2 := F0 m 243 ls [.long (vX11_digest_49 S)]) rfl ?_
    refine lv_lstore_n (lv' := [(1, .long (vX11_digest_49 S)), (6, .int ((up2 S 18 0 0) 16 (38 : Int32).toNatClampNeg)), (5, .int 38), (4, .int 72), (3, .ref (a 16)), (0, .ref (a 18))]) hx hb dX11_digest_243 rfl hl (by decide) rfl (fun ls hl => ?_)
    refine lv_iinc (v := 39) (lv' := [(5, .int 39), (1, .long (vX11_digest_49 S)), (6, .int ((up2 S 18 0 0) 16 (38 : Int32).toNatClampNeg)), (4, .int 72), (3, .ref (a 16)), (0, .ref (a 18))]) hx hb dX11_digest_244 hl (k := 2) rfl (by decide) (by decide) rfl (fun ls hl => ?_)
    refine lv_goto (tgt := 221) hx hb dX11_digest_247 (by decide) ?_
    refine lv_iload hx hb dX11_digest_221 (lv_at hl 0 rfl) ?_
    refine lv_iload hx hb dX11_digest_223 (lv_at hl 3 rfl) ?_
    refine lv_icmp_ge (tgt := 250) hx hb dX11_digest_225 (by decide) (fun c => absurd c (by decide)) (fun _ => ?_)
    refine lv_aload_n hx hb dX11_digest_228 rfl (lv_at hl 4 rfl) ?_
    refine lv_iload hx hb dX11_digest_229 (lv_at hl 0 rfl) ?_
    refine g_iald (N := 72) (g := (up2 S 18 0 0) 16) hx hb hK hP (lt_hn (by decide) (by decide)) rfl (vp_in_lit (by decide)) dX11_digest_231 ?_
    refine lv_istore (lv' := [(6, .int ((up2 S 18 0 0) 16 (39 : Int32).toNatClampNeg)), (5, .int 39), (1, .long (vX11_digest_49 S)), (4, .int 72), (3, .ref (a 16)), (0, .ref (a 18))]) hx hb dX11_digest_232 hl (by decide) rfl (fun ls hl => ?_)
    refine lv_lload_n hx hb dX11_digest_234 rfl (lv_at hl 2 rfl) ?_
    refine lv_ldc2 (v := 31) hx hb hown (hts (.constantLong RX11 202 31) (by decide +kernel)) dX11_digest_235 ?_
    refine lv_lmul hx hb dX11_digest_238 ?_
    refine lv_iload hx hb dX11_digest_239 (lv_at hl 0 rfl) ?_
    refine lv_i2l hx hb dX11_digest_241 rfl ?_
    refine lv_ladd hx hb dX11_digest_242 ?_
    refine lv_lstore_n (lv' := [(1, .long (((vX11_digest_49 S) * 31) + (((up2 S 18 0 0) 16 (39 : Int32).toNatClampNeg).toInt64))), (6, .int ((up2 S 18 0 0) 16 (39 : Int32).toNatClampNeg)), (5, .int 39), (4, .int 72), (3, .ref (a 16)), (0, .ref (a 18))]) hx hb dX11_digest_243 rfl hl (by decide) rfl (fun ls hl => ?_)
    refine lv_iinc (v := 40) (lv' := [(5, .int 40), (1, .long (((vX11_digest_49 S) * 31) + (((up2 S 18 0 0) 16 (39 : Int32).toNatClampNeg).toInt64))), (6, .int ((up2 S 18 0 0) 16 (39 : Int32).toNatClampNeg)), (4, .int 72), (3, .ref (a 16)), (0, .ref (a 18))]) hx hb dX11_digest_244 hl (k := 2) rfl (by decide) (by decide) rfl (fun ls hl => ?_)
    refine lv_goto (tgt := 221) hx hb dX11_digest_247 (by decide) ?_
    refine lv_iload hx hb dX11_digest_221 (lv_at hl 0 rfl) ?_
    refine lv_iload hx hb dX11_digest_223 (lv_at hl 3 rfl) ?_
    refine lv_icmp_ge (tgt := 250) hx hb dX11_digest_225 (by decide) (fun c => absurd c (by decide)) (fun _ => ?_)
    refine lv_aload_n hx hb dX11_digest_228 rfl (lv_at hl 4 rfl) ?_
    refine lv_iload hx hb dX11_digest_229 (lv_at hl 0 rfl) ?_
    refine g_iald (N := 72) (g := (up2 S 18 0 0) 16) hx hb hK hP (lt_hn (by decide) (by decide)) rfl (vp_in_lit (by decide)) dX11_digest_231 ?_
    refine lv_istore (lv' := [(6, .int ((up2 S 18 0 0) 16 (40 : Int32).toNatClampNeg)), (5, .int 40), (1, .long (((vX11_digest_49 S) * 31) + (((up2 S 18 0 0) 16 (39 : Int32).toNatClampNeg).toInt64))), (4, .int 72), (3, .ref (a 16)), (0, .ref (a 18))]) hx hb dX11_digest_232 hl (by decide) rfl (fun ls hl => ?_)
    refine lv_lload_n hx hb dX11_digest_234 rfl (lv_at hl 2 rfl) ?_
    refine lv_ldc2 (v := 31) hx hb hown (hts (.constantLong RX11 202 31) (by decide +kernel)) dX11_digest_235 ?_
    refine lv_lmul hx hb dX11_digest_238 ?_
    refine lv_iload hx hb dX11_digest_239 (lv_at hl 0 rfl) ?_
    refine lv_i2l hx hb dX11_digest_241 rfl ?_
    refine lv_ladd hx hb dX11_digest_242 ?_
    refine W.eq (g2 := F0 m 243 ls [.long (vX11_digest_50 S)]) rfl ?_
    refine lv_lstore_n (lv' := [(1, .long (vX11_digest_50 S)), (6, .int ((up2 S 18 0 0) 16 (40 : Int32).toNatClampNeg)), (5, .int 40), (4, .int 72), (3, .ref (a 16)), (0, .ref (a 18))]) hx hb dX11_digest_243 rfl hl (by decide) rfl (fun ls hl => ?_)
    refine lv_iinc (v := 41) (lv' := [(5, .int 41), (1, .long (vX11_digest_50 S)), (6, .int ((up2 S 18 0 0) 16 (40 : Int32).toNatClampNeg)), (4, .int 72), (3, .ref (a 16)), (0, .ref (a 18))]) hx hb dX11_digest_244 hl (k := 2) rfl (by decide) (by decide) rfl (fun ls hl => ?_)
    refine lv_goto (tgt := 221) hx hb dX11_digest_247 (by decide) ?_
    refine lv_iload hx hb dX11_digest_221 (lv_at hl 0 rfl) ?_
    refine lv_iload hx hb dX11_digest_223 (lv_at hl 3 rfl) ?_
    refine lv_icmp_ge (tgt := 250) hx hb dX11_digest_225 (by decide) (fun c => absurd c (by decide)) (fun _ => ?_)
    refine lv_aload_n hx hb dX11_digest_228 rfl (lv_at hl 4 rfl) ?_
    refine lv_iload hx hb dX11_digest_229 (lv_at hl 0 rfl) ?_
    refine g_iald (N := 72) (g := (up2 S 18 0 0) 16) hx hb hK hP (lt_hn (by decide) (by decide)) rfl (vp_in_lit (by decide)) dX11_digest_231 ?_
    refine lv_istore (lv' := [(6, .int ((up2 S 18 0 0) 16 (41 : Int32).toNatClampNeg)), (5, .int 41), (1, .long (vX11_digest_50 S)), (4, .int 72), (3, .ref (a 16)), (0, .ref (a 18))]) hx hb dX11_digest_232 hl (by decide) rfl (fun ls hl => ?_)
    refine lv_lload_n hx hb dX11_digest_234 rfl (lv_at hl 2 rfl) ?_
    refine lv_ldc2 (v := 31) hx hb hown (hts (.constantLong RX11 202 31) (by decide +kernel)) dX11_digest_235 ?_
    refine lv_lmul hx hb dX11_digest_238 ?_
    refine lv_iload hx hb dX11_digest_239 (lv_at hl 0 rfl) ?_
    refine lv_i2l hx hb dX11_digest_241 rfl ?_
    refine lv_ladd hx hb dX11_digest_242 ?_
    refine lv_lstore_n (lv' := [(1, .long (((vX11_digest_50 S) * 31) + (((up2 S 18 0 0) 16 (41 : Int32).toNatClampNeg).toInt64))), (6, .int ((up2 S 18 0 0) 16 (41 : Int32).toNatClampNeg)), (5, .int 41), (4, .int 72), (3, .ref (a 16)), (0, .ref (a 18))]) hx hb dX11_digest_243 rfl hl (by decide) rfl (fun ls hl => ?_)
    refine lv_iinc (v := 42) (lv' := [(5, .int 42), (1, .long (((vX11_digest_50 S) * 31) + (((up2 S 18 0 0) 16 (41 : Int32).toNatClampNeg).toInt64))), (6, .int ((up2 S 18 0 0) 16 (41 : Int32).toNatClampNeg)), (4, .int 72), (3, .ref (a 16)), (0, .ref (a 18))]) hx hb dX11_digest_244 hl (k := 2) rfl (by decide) (by decide) rfl (fun ls hl => ?_)
    refine lv_goto (tgt := 221) hx hb dX11_digest_247 (by decide) ?_
    refine lv_iload hx hb dX11_digest_221 (lv_at hl 0 rfl) ?_
    refine lv_iload hx hb dX11_digest_223 (lv_at hl 3 rfl) ?_
    refine lv_icmp_ge (tgt := 250) hx hb dX11_digest_225 (by decide) (fun c => absurd c (by decide)) (fun _ => ?_)
    refine lv_aload_n hx hb dX11_digest_228 rfl (lv_at hl 4 rfl) ?_
    refine lv_iload hx hb dX11_digest_229 (lv_at hl 0 rfl) ?_
    refine g_iald (N := 72) (g := (up2 S 18 0 0) 16) hx hb hK hP (lt_hn (by decide) (by decide)) rfl (vp_in_lit (by decide)) dX11_digest_231 ?_
    refine lv_istore (lv' := [(6, .int ((up2 S 18 0 0) 16 (42 : Int32).toNatClampNeg)), (5, .int 42), (1, .long (((vX11_digest_50 S) * 31) + (((up2 S 18 0 0) 16 (41 : Int32).toNatClampNeg).toInt64))), (4, .int 72), (3, .ref (a 16)), (0, .ref (a 18))]) hx hb dX11_digest_232 hl (by decide) rfl (fun ls hl => ?_)
    refine lv_lload_n hx hb dX11_digest_234 rfl (lv_at hl 2 rfl) ?_
    refine lv_ldc2 (v := 31) hx hb hown (hts (.constantLong RX11 202 31) (by decide +kernel)) dX11_digest_235 ?_
    refine lv_lmul hx hb dX11_digest_238 ?_
    refine lv_iload hx hb dX11_digest_239 (lv_at hl 0 rfl) ?_
    refine lv_i2l hx hb dX11_digest_241 rfl ?_
    refine lv_ladd hx hb dX11_digest_242 ?_
    refine W.eq (g2 := F0 m 243 ls [.long (vX11_digest_51 S)]) rfl ?_
    refine lv_lstore_n (lv' := [(1, .long (vX11_digest_51 S)), (6, .int ((up2 S 18 0 0) 16 (42 : Int32).toNatClampNeg)), (5, .int 42), (4, .int 72), (3, .ref (a 16)), (0, .ref (a 18))]) hx hb dX11_digest_243 rfl hl (by decide) rfl (fun ls hl => ?_)
    refine lv_iinc (v := 43) (lv' := [(5, .int 43), (1, .long (vX11_digest_51 S)), (6, .int ((up2 S 18 0 0) 16 (42 : Int32).toNatClampNeg)), (4, .int 72), (3, .ref (a 16)), (0, .ref (a 18))]) hx hb dX11_digest_244 hl (k := 2) rfl (by decide) (by decide) rfl (fun ls hl => ?_)
    refine lv_goto (tgt := 221) hx hb dX11_digest_247 (by decide) ?_
    refine lv_iload hx hb dX11_digest_221 (lv_at hl 0 rfl) ?_
    refine lv_iload hx hb dX11_digest_223 (lv_at hl 3 rfl) ?_
    refine lv_icmp_ge (tgt := 250) hx hb dX11_digest_225 (by decide) (fun c => absurd c (by decide)) (fun _ => ?_)
    refine lv_aload_n hx hb dX11_digest_228 rfl (lv_at hl 4 rfl) ?_
    refine lv_iload hx hb dX11_digest_229 (lv_at hl 0 rfl) ?_
    refine g_iald (N := 72) (g := (up2 S 18 0 0) 16) hx hb hK hP (lt_hn (by decide) (by decide)) rfl (vp_in_lit (by decide)) dX11_digest_231 ?_
    refine lv_istore (lv' := [(6, .int ((up2 S 18 0 0) 16 (43 : Int32).toNatClampNeg)), (5, .int 43), (1, .long (vX11_digest_51 S)), (4, .int 72), (3, .ref (a 16)), (0, .ref (a 18))]) hx hb dX11_digest_232 hl (by decide) rfl (fun ls hl => ?_)
    refine lv_lload_n hx hb dX11_digest_234 rfl (lv_at hl 2 rfl) ?_
    refine lv_ldc2 (v := 31) hx hb hown (hts (.constantLong RX11 202 31) (by decide +kernel)) dX11_digest_235 ?_
    refine lv_lmul hx hb dX11_digest_238 ?_
    refine lv_iload hx hb dX11_digest_239 (lv_at hl 0 rfl) ?_
    refine lv_i2l hx hb dX11_digest_241 rfl ?_
    refine lv_ladd hx hb dX11_digest_242 ?_
    refine lv_lstore_n (lv' := [(1, .long (((vX11_digest_51 S) * 31) + (((up2 S 18 0 0) 16 (43 : Int32).toNatClampNeg).toInt64))), (6, .int ((up2 S 18 0 0) 16 (43 : Int32).toNatClampNeg)), (5, .int 43), (4, .int 72), (3, .ref (a 16)), (0, .ref (a 18))]) hx hb dX11_digest_243 rfl hl (by decide) rfl (fun ls hl => ?_)
    refine lv_iinc (v := 44) (lv' := [(5, .int 44), (1, .long (((vX11_digest_51 S) * 31) + (((up2 S 18 0 0) 16 (43 : Int32).toNatClampNeg).toInt64))), (6, .int ((up2 S 18 0 0) 16 (43 : Int32).toNatClampNeg)), (4, .int 72), (3, .ref (a 16)), (0, .ref (a 18))]) hx hb dX11_digest_244 hl (k := 2) rfl (by decide) (by decide) rfl (fun ls hl => ?_)
    refine lv_goto (tgt := 221) hx hb dX11_digest_247 (by decide) ?_
    refine lv_iload hx hb dX11_digest_221 (lv_at hl 0 rfl) ?_
    refine lv_iload hx hb dX11_digest_223 (lv_at hl 3 rfl) ?_
    refine lv_icmp_ge (tgt := 250) hx hb dX11_digest_225 (by decide) (fun c => absurd c (by decide)) (fun _ => ?_)
    refine lv_aload_n hx hb dX11_digest_228 rfl (lv_at hl 4 rfl) ?_
    refine lv_iload hx hb dX11_digest_229 (lv_at hl 0 rfl) ?_
    refine g_iald (N := 72) (g := (up2 S 18 0 0) 16) hx hb hK hP (lt_hn (by decide) (by decide)) rfl (vp_in_lit (by decide)) dX11_digest_231 ?_
    refine lv_istore (lv' := [(6, .int ((up2 S 18 0 0) 16 (44 : Int32).toNatClampNeg)), (5, .int 44), (1, .long (((vX11_digest_51 S) * 31) + (((up2 S 18 0 0) 16 (43 : Int32).toNatClampNeg).toInt64))), (4, .int 72), (3, .ref (a 16)), (0, .ref (a 18))]) hx hb dX11_digest_232 hl (by decide) rfl (fun ls hl => ?_)
    refine lv_lload_n hx hb dX11_digest_234 rfl (lv_at hl 2 rfl) ?_
    refine lv_ldc2 (v := 31) hx hb hown (hts (.constantLong RX11 202 31) (by decide +kernel)) dX11_digest_235 ?_
    refine lv_lmul hx hb dX11_digest_238 ?_
    refine lv_iload hx hb dX11_digest_239 (lv_at hl 0 rfl) ?_
    refine lv_i2l hx hb dX11_digest_241 rfl ?_
    refine lv_ladd hx hb dX11_digest_242 ?_
    refine W.eq (g2 := F0 m 243 ls [.long (vX11_digest_52 S)]) rfl ?_
    refine lv_lstore_n (lv' := [(1, .long (vX11_digest_52 S)), (6, .int ((up2 S 18 0 0) 16 (44 : Int32).toNatClampNeg)), (5, .int 44), (4, .int 72), (3, .ref (a 16)), (0, .ref (a 18))]) hx hb dX11_digest_243 rfl hl (by decide) rfl (fun ls hl => ?_)
    refine lv_iinc (v := 45) (lv' := [(5, .int 45), (1, .long (vX11_digest_52 S)), (6, .int ((up2 S 18 0 0) 16 (44 : Int32).toNatClampNeg)), (4, .int 72), (3, .ref (a 16)), (0, .ref (a 18))]) hx hb dX11_digest_244 hl (k := 2) rfl (by decide) (by decide) rfl (fun ls hl => ?_)
    refine lv_goto (tgt := 221) hx hb dX11_digest_247 (by decide) ?_
    refine lv_iload hx hb dX11_digest_221 (lv_at hl 0 rfl) ?_
    refine lv_iload hx hb dX11_digest_223 (lv_at hl 3 rfl) ?_
    refine lv_icmp_ge (tgt := 250) hx hb dX11_digest_225 (by decide) (fun c => absurd c (by decide)) (fun _ => ?_)
    refine lv_aload_n hx hb dX11_digest_228 rfl (lv_at hl 4 rfl) ?_
    refine lv_iload hx hb dX11_digest_229 (lv_at hl 0 rfl) ?_
    refine g_iald (N := 72) (g := (up2 S 18 0 0) 16) hx hb hK hP (lt_hn (by decide) (by decide)) rfl (vp_in_lit (by decide)) dX11_digest_231 ?_
    refine lv_istore (lv' := [(6, .int ((up2 S 18 0 0) 16 (45 : Int32).toNatClampNeg)), (5, .int 45), (1, .long (vX11_digest_52 S)), (4, .int 72), (3, .ref (a 16)), (0, .ref (a 18))]) hx hb dX11_digest_232 hl (by decide) rfl (fun ls hl => ?_)
    refine lv_lload_n hx hb dX11_digest_234 rfl (lv_at hl 2 rfl) ?_
    refine lv_ldc2 (v := 31) hx hb hown (hts (.constantLong RX11 202 31) (by decide +kernel)) dX11_digest_235 ?_
    refine lv_lmul hx hb dX11_digest_238 ?_
    refine lv_iload hx hb dX11_digest_239 (lv_at hl 0 rfl) ?_
    refine lv_i2l hx hb dX11_digest_241 rfl ?_
    refine lv_ladd hx hb dX11_digest_242 ?_
    refine lv_lstore_n (lv' := [(1, .long (((vX11_digest_52 S) * 31) + (((up2 S 18 0 0) 16 (45 : Int32).toNatClampNeg).toInt64))), (6, .int ((up2 S 18 0 0) 16 (45 : Int32).toNatClampNeg)), (5, .int 45), (4, .int 72), (3, .ref (a 16)), (0, .ref (a 18))]) hx hb dX11_digest_243 rfl hl (by decide) rfl (fun ls hl => ?_)
    refine lv_iinc (v := 46) (lv' := [(5, .int 46), (1, .long (((vX11_digest_52 S) * 31) + (((up2 S 18 0 0) 16 (45 : Int32).toNatClampNeg).toInt64))), (6, .int ((up2 S 18 0 0) 16 (45 : Int32).toNatClampNeg)), (4, .int 72), (3, .ref (a 16)), (0, .ref (a 18))]) hx hb dX11_digest_244 hl (k := 2) rfl (by decide) (by decide) rfl (fun ls hl => ?_)
    refine lv_goto (tgt := 221) hx hb dX11_digest_247 (by decide) ?_
    refine lv_iload hx hb dX11_digest_221 (lv_at hl 0 rfl) ?_
    refine lv_iload hx hb dX11_digest_223 (lv_at hl 3 rfl) ?_
    refine lv_icmp_ge (tgt := 250) hx hb dX11_digest_225 (by decide) (fun c => absurd c (by decide)) (fun _ => ?_)
    refine lv_aload_n hx hb dX11_digest_228 rfl (lv_at hl 4 rfl) ?_
    refine lv_iload hx hb dX11_digest_229 (lv_at hl 0 rfl) ?_
    refine g_iald (N := 72) (g := (up2 S 18 0 0) 16) hx hb hK hP (lt_hn (by decide) (by decide)) rfl (vp_in_lit (by decide)) dX11_digest_231 ?_
    refine lv_istore (lv' := [(6, .int ((up2 S 18 0 0) 16 (46 : Int32).toNatClampNeg)), (5, .int 46), (1, .long (((vX11_digest_52 S) * 31) + (((up2 S 18 0 0) 16 (45 : Int32).toNatClampNeg).toInt64))), (4, .int 72), (3, .ref (a 16)), (0, .ref (a 18))]) hx hb dX11_digest_232 hl (by decide) rfl (fun ls hl => ?_)
    refine lv_lload_n hx hb dX11_digest_234 rfl (lv_at hl 2 rfl) ?_
    refine lv_ldc2 (v := 31) hx hb hown (hts (.constantLong RX11 202 31) (by decide +kernel)) dX11_digest_235 ?_
    refine lv_lmul hx hb dX11_digest_238 ?_
    refine lv_iload hx hb dX11_digest_239 (lv_at hl 0 rfl) ?_
    refine lv_i2l hx hb dX11_digest_241 rfl ?_
    refine lv_ladd hx hb dX11_digest_242 ?_
    refine W.eq (g2 := F0 m 243 ls [.long (vX11_digest_53 S)]) rfl ?_
    refine lv_lstore_n (lv' := [(1, .long (vX11_digest_53 S)), (6, .int ((up2 S 18 0 0) 16 (46 : Int32).toNatClampNeg)), (5, .int 46), (4, .int 72), (3, .ref (a 16)), (0, .ref (a 18))]) hx hb dX11_digest_243 rfl hl (by decide) rfl (fun ls hl => ?_)
    refine lv_iinc (v := 47) (lv' := [(5, .int 47), (1, .long (vX11_digest_53 S)), (6, .int ((up2 S 18 0 0) 16 (46 : Int32).toNatClampNeg)), (4, .int 72), (3, .ref (a 16)), (0, .ref (a 18))]) hx hb dX11_digest_244 hl (k := 2) rfl (by decide) (by decide) rfl (fun ls hl => ?_)
    refine lv_goto (tgt := 221) hx hb dX11_digest_247 (by decide) ?_
    refine lv_iload hx hb dX11_digest_221 (lv_at hl 0 rfl) ?_
    refine lv_iload hx hb dX11_digest_223 (lv_at hl 3 rfl) ?_
    refine lv_icmp_ge (tgt := 250) hx hb dX11_digest_225 (by decide) (fun c => absurd c (by decide)) (fun _ => ?_)
    refine lv_aload_n hx hb dX11_digest_228 rfl (lv_at hl 4 rfl) ?_
    refine lv_iload hx hb dX11_digest_229 (lv_at hl 0 rfl) ?_
    refine g_iald (N := 72) (g := (up2 S 18 0 0) 16) hx hb hK hP (lt_hn (by decide) (by decide)) rfl (vp_in_lit (by decide)) dX11_digest_231 ?_
    refine lv_istore (lv' := [(6, .int ((up2 S 18 0 0) 16 (47 : Int32).toNatClampNeg)), (5, .int 47), (1, .long (vX11_digest_53 S)), (4, .int 72), (3, .ref (a 16)), (0, .ref (a 18))]) hx hb dX11_digest_232 hl (by decide) rfl (fun ls hl => ?_)
    refine lv_lload_n hx hb dX11_digest_234 rfl (lv_at hl 2 rfl) ?_
    refine lv_ldc2 (v := 31) hx hb hown (hts (.constantLong RX11 202 31) (by decide +kernel)) dX11_digest_235 ?_
    refine lv_lmul hx hb dX11_digest_238 ?_
    refine lv_iload hx hb dX11_digest_239 (lv_at hl 0 rfl) ?_
    refine lv_i2l hx hb dX11_digest_241 rfl ?_
    refine lv_ladd hx hb dX11_digest_242 ?_
    refine lv_lstore_n (lv' := [(1, .long (((vX11_digest_53 S) * 31) + (((up2 S 18 0 0) 16 (47 : Int32).toNatClampNeg).toInt64))), (6, .int ((up2 S 18 0 0) 16 (47 : Int32).toNatClampNeg)), (5, .int 47), (4, .int 72), (3, .ref (a 16)), (0, .ref (a 18))]) hx hb dX11_digest_243 rfl hl (by decide) rfl (fun ls hl => ?_)
    refine lv_iinc (v := 48) (lv' := [(5, .int 48), (1, .long (((vX11_digest_53 S) * 31) + (((up2 S 18 0 0) 16 (47 : Int32).toNatClampNeg).toInt64))), (6, .int ((up2 S 18 0 0) 16 (47 : Int32).toNatClampNeg)), (4, .int 72), (3, .ref (a 16)), (0, .ref (a 18))]) hx hb dX11_digest_244 hl (k := 2) rfl (by decide) (by decide) rfl (fun ls hl => ?_)
    refine lv_goto (tgt := 221) hx hb dX11_digest_247 (by decide) ?_
    refine lv_iload hx hb dX11_digest_221 (lv_at hl 0 rfl) ?_
    refine lv_iload hx hb dX11_digest_223 (lv_at hl 3 rfl) ?_
    refine lv_icmp_ge (tgt := 250) hx hb dX11_digest_225 (by decide) (fun c => absurd c (by decide)) (fun _ => ?_)
    refine lv_aload_n hx hb dX11_digest_228 rfl (lv_at hl 4 rfl) ?_
    refine lv_iload hx hb dX11_digest_229 (lv_at hl 0 rfl) ?_
    refine g_iald (N := 72) (g := (up2 S 18 0 0) 16) hx hb hK hP (lt_hn (by decide) (by decide)) rfl (vp_in_lit (by decide)) dX11_digest_231 ?_
    refine lv_istore (lv' := [(6, .int ((up2 S 18 0 0) 16 (48 : Int32).toNatClampNeg)), (5, .int 48), (1, .long (((vX11_digest_53 S) * 31) + (((up2 S 18 0 0) 16 (47 : Int32).toNatClampNeg).toInt64))), (4, .int 72), (3, .ref (a 16)), (0, .ref (a 18))]) hx hb dX11_digest_232 hl (by decide) rfl (fun ls hl => ?_)
    refine lv_lload_n hx hb dX11_digest_234 rfl (lv_at hl 2 rfl) ?_
    refine lv_ldc2 (v := 31) hx hb hown (hts (.constantLong RX11 202 31) (by decide +kernel)) dX11_digest_235 ?_
    refine lv_lmul hx hb dX11_digest_238 ?_
    refine lv_iload hx hb dX11_digest_239 (lv_at hl 0 rfl) ?_
    refine lv_i2l hx hb dX11_digest_241 rfl ?_
    refine lv_ladd hx hb dX11_digest_242 ?_
    refine W.eq (g2 := F0 m 243 ls [.long (vX11_digest_54 S)]) rfl ?_
    refine lv_lstore_n (lv' := [(1, .long (vX11_digest_54 S)), (6, .int ((up2 S 18 0 0) 16 (48 : Int32).toNatClampNeg)), (5, .int 48), (4, .int 72), (3, .ref (a 16)), (0, .ref (a 18))]) hx hb dX11_digest_243 rfl hl (by decide) rfl (fun ls hl => ?_)
    refine lv_iinc (v := 49) (lv' := [(5, .int 49), (1, .long (vX11_digest_54 S)), (6, .int ((up2 S 18 0 0) 16 (48 : Int32).toNatClampNeg)), (4, .int 72), (3, .ref (a 16)), (0, .ref (a 18))]) hx hb dX11_digest_244 hl (k := 2) rfl (by decide) (by decide) rfl (fun ls hl => ?_)
    refine lv_goto (tgt := 221) hx hb dX11_digest_247 (by decide) ?_
    refine lv_iload hx hb dX11_digest_221 (lv_at hl 0 rfl) ?_
    refine lv_iload hx hb dX11_digest_223 (lv_at hl 3 rfl) ?_
    refine lv_icmp_ge (tgt := 250) hx hb dX11_digest_225 (by decide) (fun c => absurd c (by decide)) (fun _ => ?_)
    refine lv_aload_n hx hb dX11_digest_228 rfl (lv_at hl 4 rfl) ?_
    refine lv_iload hx hb dX11_digest_229 (lv_at hl 0 rfl) ?_
    refine g_iald (N := 72) (g := (up2 S 18 0 0) 16) hx hb hK hP (lt_hn (by decide) (by decide)) rfl (vp_in_lit (by decide)) dX11_digest_231 ?_
    refine lv_istore (lv' := [(6, .int ((up2 S 18 0 0) 16 (49 : Int32).toNatClampNeg)), (5, .int 49), (1, .long (vX11_digest_54 S)), (4, .int 72), (3, .ref (a 16)), (0, .ref (a 18))]) hx hb dX11_digest_232 hl (by decide) rfl (fun ls hl => ?_)
    refine lv_lload_n hx hb dX11_digest_234 rfl (lv_at hl 2 rfl) ?_
    refine lv_ldc2 (v := 31) hx hb hown (hts (.constantLong RX11 202 31) (by decide +kernel)) dX11_digest_235 ?_
    refine lv_lmul hx hb dX11_digest_238 ?_
    refine lv_iload hx hb dX11_digest_239 (lv_at hl 0 rfl) ?_
    refine lv_i2l hx hb dX11_digest_241 rfl ?_
    refine lv_ladd hx hb dX11_digest_242 ?_
    refine lv_lstore_n (lv' := [(1, .long (((vX11_digest_54 S) * 31) + (((up2 S 18 0 0) 16 (49 : Int32).toNatClampNeg).toInt64))), (6, .int ((up2 S 18 0 0) 16 (49 : Int32).toNatClampNeg)), (5, .int 49), (4, .int 72), (3, .ref (a 16)), (0, .ref (a 18))]) hx hb dX11_digest_243 rfl hl (by decide) rfl (fun ls hl => ?_)
    refine lv_iinc (v := 50) (lv' := [(5, .int 50), (1, .long (((vX11_digest_54 S) * 31) + (((up2 S 18 0 0) 16 (49 : Int32).toNatClampNeg).toInt64))), (6, .int ((up2 S 18 0 0) 16 (49 : Int32).toNatClampNeg)), (4, .int 72), (3, .ref (a 16)), (0, .ref (a 18))]) hx hb dX11_digest_244 hl (k := 2) rfl (by decide) (by decide) rfl (fun ls hl => ?_)
    refine lv_goto (tgt := 221) hx hb dX11_digest_247 (by decide) ?_
    refine lv_iload hx hb dX11_digest_221 (lv_at hl 0 rfl) ?_
    refine lv_iload hx hb dX11_digest_223 (lv_at hl 3 rfl) ?_
    refine lv_icmp_ge (tgt := 250) hx hb dX11_digest_225 (by decide) (fun c => absurd c (by decide)) (fun _ => ?_)
    refine lv_aload_n hx hb dX11_digest_228 rfl (lv_at hl 4 rfl) ?_
    refine lv_iload hx hb dX11_digest_229 (lv_at hl 0 rfl) ?_
    refine g_iald (N := 72) (g := (up2 S 18 0 0) 16) hx hb hK hP (lt_hn (by decide) (by decide)) rfl (vp_in_lit (by decide)) dX11_digest_231 ?_
    refine lv_istore (lv' := [(6, .int ((up2 S 18 0 0) 16 (50 : Int32).toNatClampNeg)), (5, .int 50), (1, .long (((vX11_digest_54 S) * 31) + (((up2 S 18 0 0) 16 (49 : Int32).toNatClampNeg).toInt64))), (4, .int 72), (3, .ref (a 16)), (0, .ref (a 18))]) hx hb dX11_digest_232 hl (by decide) rfl (fun ls hl => ?_)
    refine lv_lload_n hx hb dX11_digest_234 rfl (lv_at hl 2 rfl) ?_
    refine lv_ldc2 (v := 31) hx hb hown (hts (.constantLong RX11 202 31) (by decide +kernel)) dX11_digest_235 ?_
    refine lv_lmul hx hb dX11_digest_238 ?_
    refine lv_iload hx hb dX11_digest_239 (lv_at hl 0 rfl) ?_
    refine lv_i2l hx hb dX11_digest_241 rfl ?_
    refine lv_ladd hx hb dX11_digest_242 ?_
    refine W.eq (g2 := F0 m 243 ls [.long (vX11_digest_55 S)]) rfl ?_
    refine lv_lstore_n (lv' := [(1, .long (vX11_digest_55 S)), (6, .int ((up2 S 18 0 0) 16 (50 : Int32).toNatClampNeg)), (5, .int 50), (4, .int 72), (3, .ref (a 16)), (0, .ref (a 18))]) hx hb dX11_digest_243 rfl hl (by decide) rfl (fun ls hl => ?_)
    refine lv_iinc (v := 51) (lv' := [(5, .int 51), (1, .long (vX11_digest_55 S)), (6, .int ((up2 S 18 0 0) 16 (50 : Int32).toNatClampNeg)), (4, .int 72), (3, .ref (a 16)), (0, .ref (a 18))]) hx hb dX11_digest_244 hl (k := 2) rfl (by decide) (by decide) rfl (fun ls hl => ?_)
    refine lv_goto (tgt := 221) hx hb dX11_digest_247 (by decide) ?_
    refine lv_iload hx hb dX11_digest_221 (lv_at hl 0 rfl) ?_
    refine lv_iload hx hb dX11_digest_223 (lv_at hl 3 rfl) ?_
    refine lv_icmp_ge (tgt := 250) hx hb dX11_digest_225 (by decide) (fun c => absurd c (by decide)) (fun _ => ?_)
    refine lv_aload_n hx hb dX11_digest_228 rfl (lv_at hl 4 rfl) ?_
    refine lv_iload hx hb dX11_digest_229 (lv_at hl 0 rfl) ?_
    refine g_iald (N := 72) (g := (up2 S 18 0 0) 16) hx hb hK hP (lt_hn (by decide) (by decide)) rfl (vp_in_lit (by decide)) dX11_digest_231 ?_
    refine lv_istore (lv' := [(6, .int ((up2 S 18 0 0) 16 (51 : Int32).toNatClampNeg)), (5, .int 51), (1, .long (vX11_digest_55 S)), (4, .int 72), (3, .ref (a 16)), (0, .ref (a 18))]) hx hb dX11_digest_232 hl (by decide) rfl (fun ls hl => ?_)
    refine lv_lload_n hx hb dX11_digest_234 rfl (lv_at hl 2 rfl) ?_
    refine lv_ldc2 (v := 31) hx hb hown (hts (.constantLong RX11 202 31) (by decide +kernel)) dX11_digest_235 ?_
    refine lv_lmul hx hb dX11_digest_238 ?_
    refine lv_iload hx hb dX11_digest_239 (lv_at hl 0 rfl) ?_
    refine lv_i2l hx hb dX11_digest_241 rfl ?_
    refine lv_ladd hx hb dX11_digest_242 ?_
    refine lv_lstore_n (lv' := [(1, .long (((vX11_digest_55 S) * 31) + (((up2 S 18 0 0) 16 (51 : Int32).toNatClampNeg).toInt64))), (6, .int ((up2 S 18 0 0) 16 (51 : Int32).toNatClampNeg)), (5, .int 51), (4, .int 72), (3, .ref (a 16)), (0, .ref (a 18))]) hx hb dX11_digest_243 rfl hl (by decide) rfl (fun ls hl => ?_)
    refine lv_iinc (v := 52) (lv' := [(5, .int 52), (1, .long (((vX11_digest_55 S) * 31) + (((up2 S 18 0 0) 16 (51 : Int32).toNatClampNeg).toInt64))), (6, .int ((up2 S 18 0 0) 16 (51 : Int32).toNatClampNeg)), (4, .int 72), (3, .ref (a 16)), (0, .ref (a 18))]) hx hb dX11_digest_244 hl (k := 2) rfl (by decide) (by decide) rfl (fun ls hl => ?_)
    refine lv_goto (tgt := 221) hx hb dX11_digest_247 (by decide) ?_
    refine lv_iload hx hb dX11_digest_221 (lv_at hl 0 rfl) ?_
    refine lv_iload hx hb dX11_digest_223 (lv_at hl 3 rfl) ?_
    refine lv_icmp_ge (tgt := 250) hx hb dX11_digest_225 (by decide) (fun c => absurd c (by decide)) (fun _ => ?_)
    refine lv_aload_n hx hb dX11_digest_228 rfl (lv_at hl 4 rfl) ?_
    refine lv_iload hx hb dX11_digest_229 (lv_at hl 0 rfl) ?_
    refine g_iald (N := 72) (g := (up2 S 18 0 0) 16) hx hb hK hP (lt_hn (by decide) (by decide)) rfl (vp_in_lit (by decide)) dX11_digest_231 ?_
    refine lv_istore (lv' := [(6, .int ((up2 S 18 0 0) 16 (52 : Int32).toNatClampNeg)), (5, .int 52), (1, .long (((vX11_digest_55 S) * 31) + (((up2 S 18 0 0) 16 (51 : Int32).toNatClampNeg).toInt64))), (4, .int 72), (3, .ref (a 16)), (0, .ref (a 18))]) hx hb dX11_digest_232 hl (by decide) rfl (fun ls hl => ?_)
    refine lv_lload_n hx hb dX11_digest_234 rfl (lv_at hl 2 rfl) ?_
    refine lv_ldc2 (v := 31) hx hb hown (hts (.constantLong RX11 202 31) (by decide +kernel)) dX11_digest_235 ?_
    refine lv_lmul hx hb dX11_digest_238 ?_
    refine lv_iload hx hb dX11_digest_239 (lv_at hl 0 rfl) ?_
    refine lv_i2l hx hb dX11_digest_241 rfl ?_
    refine lv_ladd hx hb dX11_digest_242 ?_
    refine W.eq (g2 := F0 m 243 ls [.long (vX11_digest_56 S)]) rfl ?_
    refine lv_lstore_n (lv' := [(1, .long (vX11_digest_56 S)), (6, .int ((up2 S 18 0 0) 16 (52 : Int32).toNatClampNeg)), (5, .int 52), (4, .int 72), (3, .ref (a 16)), (0, .ref (a 18))]) hx hb dX11_digest_243 rfl hl (by decide) rfl (fun ls hl => ?_)
    refine lv_iinc (v := 53) (lv' := [(5, .int 53), (1, .long (vX11_digest_56 S)), (6, .int ((up2 S 18 0 0) 16 (52 : Int32).toNatClampNeg)), (4, .int 72), (3, .ref (a 16)), (0, .ref (a 18))]) hx hb dX11_digest_244 hl (k := 2) rfl (by decide) (by decide) rfl (fun ls hl => ?_)
    refine lv_goto (tgt := 221) hx hb dX11_digest_247 (by decide) ?_
    refine lv_iload hx hb dX11_digest_221 (lv_at hl 0 rfl) ?_
    refine lv_iload hx hb dX11_digest_223 (lv_at hl 3 rfl) ?_
    refine lv_icmp_ge (tgt := 250) hx hb dX11_digest_225 (by decide) (fun c => absurd c (by decide)) (fun _ => ?_)
    refine lv_aload_n hx hb dX11_digest_228 rfl (lv_at hl 4 rfl) ?_
    refine lv_iload hx hb dX11_digest_229 (lv_at hl 0 rfl) ?_
    refine g_iald (N := 72) (g := (up2 S 18 0 0) 16) hx hb hK hP (lt_hn (by decide) (by decide)) rfl (vp_in_lit (by decide)) dX11_digest_231 ?_
    refine lv_istore (lv' := [(6, .int ((up2 S 18 0 0) 16 (53 : Int32).toNatClampNeg)), (5, .int 53), (1, .long (vX11_digest_56 S)), (4, .int 72), (3, .ref (a 16)), (0, .ref (a 18))]) hx hb dX11_digest_232 hl (by decide) rfl (fun ls hl => ?_)
    refine lv_lload_n hx hb dX11_digest_234 rfl (lv_at hl 2 rfl) ?_
    refine lv_ldc2 (v := 31) hx hb hown (hts (.constantLong RX11 202 31) (by decide +kernel)) dX11_digest_235 ?_
    refine lv_lmul hx hb dX11_digest_238 ?_
    refine lv_iload hx hb dX11_digest_239 (lv_at hl 0 rfl) ?_
    refine lv_i2l hx hb dX11_digest_241 rfl ?_
    refine lv_ladd hx hb dX11_digest_242 ?_
    refine lv_lstore_n (lv' := [(1, .long (((vX11_digest_56 S) * 31) + (((up2 S 18 0 0) 16 (53 : Int32).toNatClampNeg).toInt64))), (6, .int ((up2 S 18 0 0) 16 (53 : Int32).toNatClampNeg)), (5, .int 53), (4, .int 72), (3, .ref (a 16)), (0, .ref (a 18))]) hx hb dX11_digest_243 rfl hl (by decide) rfl (fun ls hl => ?_)
    refine lv_iinc (v := 54) (lv' := [(5, .int 54), (1, .long (((vX11_digest_56 S) * 31) + (((up2 S 18 0 0) 16 (53 : Int32).toNatClampNeg).toInt64))), (6, .int ((up2 S 18 0 0) 16 (53 : Int32).toNatClampNeg)), (4, .int 72), (3, .ref (a 16)), (0, .ref (a 18))]) hx hb dX11_digest_244 hl (k := 2) rfl (by decide) (by decide) rfl (fun ls hl => ?_)
    refine lv_goto (tgt := 221) hx hb dX11_digest_247 (by decide) ?_
    refine lv_iload hx hb dX11_digest_221 (lv_at hl 0 rfl) ?_
    refine lv_iload hx hb dX11_digest_223 (lv_at hl 3 rfl) ?_
    refine lv_icmp_ge (tgt := 250) hx hb dX11_digest_225 (by decide) (fun c => absurd c (by decide)) (fun _ => ?_)
    refine lv_aload_n hx hb dX11_digest_228 rfl (lv_at hl 4 rfl) ?_
    refine lv_iload hx hb dX11_digest_229 (lv_at hl 0 rfl) ?_
    refine g_iald (N := 72) (g := (up2 S 18 0 0) 16) hx hb hK hP (lt_hn (by decide) (by decide)) rfl (vp_in_lit (by decide)) dX11_digest_231 ?_
    refine lv_istore (lv' := [(6, .int ((up2 S 18 0 0) 16 (54 : Int32).toNatClampNeg)), (5, .int 54), (1, .long (((vX11_digest_56 S) * 31) + (((up2 S 18 0 0) 16 (53 : Int32).toNatClampNeg).toInt64))), (4, .int 72), (3, .ref (a 16)), (0, .ref (a 18))]) hx hb dX11_digest_232 hl (by decide) rfl (fun ls hl => ?_)
    refine lv_lload_n hx hb dX11_digest_234 rfl (lv_at hl 2 rfl) ?_
    refine lv_ldc2 (v := 31) hx hb hown (hts (.constantLong RX11 202 31) (by decide +kernel)) dX11_digest_235 ?_
    refine lv_lmul hx hb dX11_digest_238 ?_
    refine lv_iload hx hb dX11_digest_239 (lv_at hl 0 rfl) ?_
    refine lv_i2l hx hb dX11_digest_241 rfl ?_
    refine lv_ladd hx hb dX11_digest_242 ?_
    refine W.eq (g2 := F0 m 243 ls [.long (vX11_digest_57 S)]) rfl ?_
    refine lv_lstore_n (lv' := [(1, .long (vX11_digest_57 S)), (6, .int ((up2 S 18 0 0) 16 (54 : Int32).toNatClampNeg)), (5, .int 54), (4, .int 72), (3, .ref (a 16)), (0, .ref (a 18))]) hx hb dX11_digest_243 rfl hl (by decide) rfl (fun ls hl => ?_)
    refine lv_iinc (v := 55) (lv' := [(5, .int 55), (1, .long (vX11_digest_57 S)), (6, .int ((up2 S 18 0 0) 16 (54 : Int32).toNatClampNeg)), (4, .int 72), (3, .ref (a 16)), (0, .ref (a 18))]) hx hb dX11_digest_244 hl (k := 2) rfl (by decide) (by decide) rfl (fun ls hl => ?_)
    refine lv_goto (tgt := 221) hx hb dX11_digest_247 (by decide) ?_
    refine lv_iload hx hb dX11_digest_221 (lv_at hl 0 rfl) ?_
    refine lv_iload hx hb dX11_digest_223 (lv_at hl 3 rfl) ?_
    refine lv_icmp_ge (tgt := 250) hx hb dX11_digest_225 (by decide) (fun c => absurd c (by decide)) (fun _ => ?_)
    refine lv_aload_n hx hb dX11_digest_228 rfl (lv_at hl 4 rfl) ?_
    refine lv_iload hx hb dX11_digest_229 (lv_at hl 0 rfl) ?_
    refine g_iald (N := 72) (g := (up2 S 18 0 0) 16) hx hb hK hP (lt_hn (by decide) (by decide)) rfl (vp_in_lit (by decide)) dX11_digest_231 ?_
    refine lv_istore (lv' := [(6, .int ((up2 S 18 0 0) 16 (55 : Int32).toNatClampNeg)), (5, .int 55), (1, .long (vX11_digest_57 S)), (4, .int 72), (3, .ref (a 16)), (0, .ref (a 18))]) hx hb dX11_digest_232 hl (by decide) rfl (fun ls hl => ?_)
    refine lv_lload_n hx hb dX11_digest_234 rfl (lv_at hl 2 rfl) ?_
    refine lv_ldc2 (v := 31) hx hb hown (hts (.constantLong RX11 202 31) (by decide +kernel)) dX11_digest_235 ?_
    refine lv_lmul hx hb dX11_digest_238 ?_
    refine lv_iload hx hb dX11_digest_239 (lv_at hl 0 rfl) ?_
    refine lv_i2l hx hb dX11_digest_241 rfl ?_
    refine lv_ladd hx hb dX11_digest_242 ?_
    refine lv_lstore_n (lv' := [(1, .long (((vX11_digest_57 S) * 31) + (((up2 S 18 0 0) 16 (55 : Int32).toNatClampNeg).toInt64))), (6, .int ((up2 S 18 0 0) 16 (55 : Int32).toNatClampNeg)), (5, .int 55), (4, .int 72), (3, .ref (a 16)), (0, .ref (a 18))]) hx hb dX11_digest_243 rfl hl (by decide) rfl (fun ls hl => ?_)
    refine lv_iinc (v := 56) (lv' := [(5, .int 56), (1, .long (((vX11_digest_57 S) * 31) + (((up2 S 18 0 0) 16 (55 : Int32).toNatClampNeg).toInt64))), (6, .int ((up2 S 18 0 0) 16 (55 : Int32).toNatClampNeg)), (4, .int 72), (3, .ref (a 16)), (0, .ref (a 18))]) hx hb dX11_digest_244 hl (k := 2) rfl (by decide) (by decide) rfl (fun ls hl => ?_)
    refine lv_goto (tgt := 221) hx hb dX11_digest_247 (by decide) ?_
    refine lv_iload hx hb dX11_digest_221 (lv_at hl 0 rfl) ?_
    refine lv_iload hx hb dX11_digest_223 (lv_at hl 3 rfl) ?_
    refine lv_icmp_ge (tgt := 250) hx hb dX11_digest_225 (by decide) (fun c => absurd c (by decide)) (fun _ => ?_)
    refine lv_aload_n hx hb dX11_digest_228 rfl (lv_at hl 4 rfl) ?_
    refine lv_iload hx hb dX11_digest_229 (lv_at hl 0 rfl) ?_
    refine g_iald (N := 72) (g := (up2 S 18 0 0) 16) hx hb hK hP (lt_hn (by decide) (by decide)) rfl (vp_in_lit (by decide)) dX11_digest_231 ?_
    refine lv_istore (lv' := [(6, .int ((up2 S 18 0 0) 16 (56 : Int32).toNatClampNeg)), (5, .int 56), (1, .long (((vX11_digest_57 S) * 31) + (((up2 S 18 0 0) 16 (55 : Int32).toNatClampNeg).toInt64))), (4, .int 72), (3, .ref (a 16)), (0, .ref (a 18))]) hx hb dX11_digest_232 hl (by decide) rfl (fun ls hl => ?_)
    refine lv_lload_n hx hb dX11_digest_234 rfl (lv_at hl 2 rfl) ?_
    refine lv_ldc2 (v := 31) hx hb hown (hts (.constantLong RX11 202 31) (by decide +kernel)) dX11_digest_235 ?_
    refine lv_lmul hx hb dX11_digest_238 ?_
    refine lv_iload hx hb dX11_digest_239 (lv_at hl 0 rfl) ?_
    refine lv_i2l hx hb dX11_digest_241 rfl ?_
    refine lv_ladd hx hb dX11_digest_242 ?_
    refine W.eq (g2 := F0 m 243 ls [.long (vX11_digest_58 S)]) rfl ?_
    refine lv_lstore_n (lv' := [(1, .long (vX11_digest_58 S)), (6, .int ((up2 S 18 0 0) 16 (56 : Int32).toNatClampNeg)), (5, .int 56), (4, .int 72), (3, .ref (a 16)), (0, .ref (a 18))]) hx hb dX11_digest_243 rfl hl (by decide) rfl (fun ls hl => ?_)
    refine lv_iinc (v := 57) (lv' := [(5, .int 57), (1, .long (vX11_digest_58 S)), (6, .int ((up2 S 18 0 0) 16 (56 : Int32).toNatClampNeg)), (4, .int 72), (3, .ref (a 16)), (0, .ref (a 18))]) hx hb dX11_digest_244 hl (k := 2) rfl (by decide) (by decide) rfl (fun ls hl => ?_)
    refine lv_goto (tgt := 221) hx hb dX11_digest_247 (by decide) ?_
    refine lv_iload hx hb dX11_digest_221 (lv_at hl 0 rfl) ?_
    refine lv_iload hx hb dX11_digest_223 (lv_at hl 3 rfl) ?_
    refine lv_icmp_ge (tgt := 250) hx hb dX11_digest_225 (by decide) (fun c => absurd c (by decide)) (fun _ => ?_)
    refine lv_aload_n hx hb dX11_digest_228 rfl (lv_at hl 4 rfl) ?_
    refine lv_iload hx hb dX11_digest_229 (lv_at hl 0 rfl) ?_
    refine g_iald (N := 72) (g := (up2 S 18 0 0) 16) hx hb hK hP (lt_hn (by decide) (by decide)) rfl (vp_in_lit (by decide)) dX11_digest_231 ?_
    refine lv_istore (lv' := [(6, .int ((up2 S 18 0 0) 16 (57 : Int32).toNatClampNeg)), (5, .int 57), (1, .long (vX11_digest_58 S)), (4, .int 72), (3, .ref (a 16)), (0, .ref (a 18))]) hx hb dX11_digest_232 hl (by decide) rfl (fun ls hl => ?_)
    refine lv_lload_n hx hb dX11_digest_234 rfl (lv_at hl 2 rfl) ?_
    refine lv_ldc2 (v := 31) hx hb hown (hts (.constantLong RX11 202 31) (by decide +kernel)) dX11_digest_235 ?_
    refine lv_lmul hx hb dX11_digest_238 ?_
    refine lv_iload hx hb dX11_digest_239 (lv_at hl 0 rfl) ?_
    refine lv_i2l hx hb dX11_digest_241 rfl ?_
    refine lv_ladd hx hb dX11_digest_242 ?_
    refine lv_lstore_n (lv' := [(1, .long (((vX11_digest_58 S) * 31) + (((up2 S 18 0 0) 16 (57 : Int32).toNatClampNeg).toInt64))), (6, .int ((up2 S 18 0 0) 16 (57 : Int32).toNatClampNeg)), (5, .int 57), (4, .int 72), (3, .ref (a 16)), (0, .ref (a 18))]) hx hb dX11_digest_243 rfl hl (by decide) rfl (fun ls hl => ?_)
    refine lv_iinc (v := 58) (lv' := [(5, .int 58), (1, .long (((vX11_digest_58 S) * 31) + (((up2 S 18 0 0) 16 (57 : Int32).toNatClampNeg).toInt64))), (6, .int ((up2 S 18 0 0) 16 (57 : Int32).toNatClampNeg)), (4, .int 72), (3, .ref (a 16)), (0, .ref (a 18))]) hx hb dX11_digest_244 hl (k := 2) rfl (by decide) (by decide) rfl (fun ls hl => ?_)
    refine lv_goto (tgt := 221) hx hb dX11_digest_247 (by decide) ?_
    refine lv_iload hx hb dX11_digest_221 (lv_at hl 0 rfl) ?_
    refine lv_iload hx hb dX11_digest_223 (lv_at hl 3 rfl) ?_
    refine lv_icmp_ge (tgt := 250) hx hb dX11_digest_225 (by decide) (fun c => absurd c (by decide)) (fun _ => ?_)
    refine lv_aload_n hx hb dX11_digest_228 rfl (lv_at hl 4 rfl) ?_
    refine lv_iload hx hb dX11_digest_229 (lv_at hl 0 rfl) ?_
    refine g_iald (N := 72) (g := (up2 S 18 0 0) 16) hx hb hK hP (lt_hn (by decide) (by decide)) rfl (vp_in_lit (by decide)) dX11_digest_231 ?_
    refine lv_istore (lv' := [(6, .int ((up2 S 18 0 0) 16 (58 : Int32).toNatClampNeg)), (5, .int 58), (1, .long (((vX11_digest_58 S) * 31) + (((up2 S 18 0 0) 16 (57 : Int32).toNatClampNeg).toInt64))), (4, .int 72), (3, .ref (a 16)), (0, .ref (a 18))]) hx hb dX11_digest_232 hl (by decide) rfl (fun ls hl => ?_)
    refine lv_lload_n hx hb dX11_digest_234 rfl (lv_at hl 2 rfl) ?_
    refine lv_ldc2 (v := 31) hx hb hown (hts (.constantLong RX11 202 31) (by decide +kernel)) dX11_digest_235 ?_
    refine lv_lmul hx hb dX11_digest_238 ?_
    refine lv_iload hx hb dX11_digest_239 (lv_at hl 0 rfl) ?_
    refine lv_i2l hx hb dX11_digest_241 rfl ?_
    refine lv_ladd hx hb dX11_digest_242 ?_
    refine W.eq (g2 := F0 m 243 ls [.long (vX11_digest_59 S)]) rfl ?_
    refine lv_lstore_n (lv' := [(1, .long (vX11_digest_59 S)), (6, .int ((up2 S 18 0 0) 16 (58 : Int32).toNatClampNeg)), (5, .int 58), (4, .int 72), (3, .ref (a 16)), (0, .ref (a 18))]) hx hb dX11_digest_243 rfl hl (by decide) rfl (fun ls hl => ?_)
    refine lv_iinc (v := 59) (lv' := [(5, .int 59), (1, .long (vX11_digest_59 S)), (6, .int ((up2 S 18 0 0) 16 (58 : Int32).toNatClampNeg)), (4, .int 72), (3, .ref (a 16)), (0, .ref (a 18))]) hx hb dX11_digest_244 hl (k := 2) rfl (by decide) (by decide) rfl (fun ls hl => ?_)
    refine lv_goto (tgt := 221) hx hb dX11_digest_247 (by decide) ?_
    refine lv_iload hx hb dX11_digest_221 (lv_at hl 0 rfl) ?_
    refine lv_iload hx hb dX11_digest_223 (lv_at hl 3 rfl) ?_
    refine lv_icmp_ge (tgt := 250) hx hb dX11_digest_225 (by decide) (fun c => absurd c (by decide)) (fun _ => ?_)
    refine lv_aload_n hx hb dX11_digest_228 rfl (lv_at hl 4 rfl) ?_
    refine lv_iload hx hb dX11_digest_229 (lv_at hl 0 rfl) ?_
    refine g_iald (N := 72) (g := (up2 S 18 0 0) 16) hx hb hK hP (lt_hn (by decide) (by decide)) rfl (vp_in_lit (by decide)) dX11_digest_231 ?_
    refine lv_istore (lv' := [(6, .int ((up2 S 18 0 0) 16 (59 : Int32).toNatClampNeg)), (5, .int 59), (1, .long (vX11_digest_59 S)), (4, .int 72), (3, .ref (a 16)), (0, .ref (a 18))]) hx hb dX11_digest_232 hl (by decide) rfl (fun ls hl => ?_)
    refine lv_lload_n hx hb dX11_digest_234 rfl (lv_at hl 2 rfl) ?_
    refine lv_ldc2 (v := 31) hx hb hown (hts (.constantLong RX11 202 31) (by decide +kernel)) dX11_digest_235 ?_
    refine lv_lmul hx hb dX11_digest_238 ?_
    refine lv_iload hx hb dX11_digest_239 (lv_at hl 0 rfl) ?_
    refine lv_i2l hx hb dX11_digest_241 rfl ?_
    refine lv_ladd hx hb dX11_digest_242 ?_
    refine lv_lstore_n (lv' := [(1, .long (((vX11_digest_59 S) * 31) + (((up2 S 18 0 0) 16 (59 : Int32).toNatClampNeg).toInt64))), (6, .int ((up2 S 18 0 0) 16 (59 : Int32).toNatClampNeg)), (5, .int 59), (4, .int 72), (3, .ref (a 16)), (0, .ref (a 18))]) hx hb dX11_digest_243 rfl hl (by decide) rfl (fun ls hl => ?_)
    refine lv_iinc (v := 60) (lv' := [(5, .int 60), (1, .long (((vX11_digest_59 S) * 31) + (((up2 S 18 0 0) 16 (59 : Int32).toNatClampNeg).toInt64))), (6, .int ((up2 S 18 0 0) 16 (59 : Int32).toNatClampNeg)), (4, .int 72), (3, .ref (a 16)), (0, .ref (a 18))]) hx hb dX11_digest_244 hl (k := 2) rfl (by decide) (by decide) rfl (fun ls hl => ?_)
    refine lv_goto (tgt := 221) hx hb dX11_digest_247 (by decide) ?_
    refine lv_iload hx hb dX11_digest_221 (lv_at hl 0 rfl) ?_
    refine lv_iload hx hb dX11_digest_223 (lv_at hl 3 rfl) ?_
    refine lv_icmp_ge (tgt := 250) hx hb dX11_digest_225 (by decide) (fun c => absurd c (by decide)) (fun _ => ?_)
    refine lv_aload_n hx hb dX11_digest_228 rfl (lv_at hl 4 rfl) ?_
    refine lv_iload hx hb dX11_digest_229 (lv_at hl 0 rfl) ?_
    refine g_iald (N := 72) (g := (up2 S 18 0 0) 16) hx hb hK hP (lt_hn (by decide) (by decide)) rfl (vp_in_lit (by decide)) dX11_digest_231 ?_
    refine lv_istore (lv' := [(6, .int ((up2 S 18 0 0) 16 (60 : Int32).toNatClampNeg)), (5, .int 60), (1, .long (((vX11_digest_59 S) * 31) + (((up2 S 18 0 0) 16 (59 : Int32).toNatClampNeg).toInt64))), (4, .int 72), (3, .ref (a 16)), (0, .ref (a 18))]) hx hb dX11_digest_232 hl (by decide) rfl (fun ls hl => ?_)
    refine lv_lload_n hx hb dX11_digest_234 rfl (lv_at hl 2 rfl) ?_
    refine lv_ldc2 (v := 31) hx hb hown (hts (.constantLong RX11 202 31) (by decide +kernel)) dX11_digest_235 ?_
    refine lv_lmul hx hb dX11_digest_238 ?_
    refine lv_iload hx hb dX11_digest_239 (lv_at hl 0 rfl) ?_
    refine lv_i2l hx hb dX11_digest_241 rfl ?_
    refine lv_ladd hx hb dX11_digest_242 ?_
    refine W.eq (g2 := F0 m 243 ls [.long (vX11_digest_60 S)]) rfl ?_
    refine lv_lstore_n (lv' := [(1, .long (vX11_digest_60 S)), (6, .int ((up2 S 18 0 0) 16 (60 : Int32).toNatClampNeg)), (5, .int 60), (4, .int 72), (3, .ref (a 16)), (0, .ref (a 18))]) hx hb dX11_digest_243 rfl hl (by decide) rfl (fun ls hl => ?_)
    refine lv_iinc (v := 61) (lv' := [(5, .int 61), (1, .long (vX11_digest_60 S)), (6, .int ((up2 S 18 0 0) 16 (60 : Int32).toNatClampNeg)), (4, .int 72), (3, .ref (a 16)), (0, .ref (a 18))]) hx hb dX11_digest_244 hl (k := 2) rfl (by decide) (by decide) rfl (fun ls hl => ?_)
    refine lv_goto (tgt := 221) hx hb dX11_digest_247 (by decide) ?_
    refine lv_iload hx hb dX11_digest_221 (lv_at hl 0 rfl) ?_
    refine lv_iload hx hb dX11_digest_223 (lv_at hl 3 rfl) ?_
    refine lv_icmp_ge (tgt := 250) hx hb dX11_digest_225 (by decide) (fun c => absurd c (by decide)) (fun _ => ?_)
    refine lv_aload_n hx hb dX11_digest_228 rfl (lv_at hl 4 rfl) ?_
    refine lv_iload hx hb dX11_digest_229 (lv_at hl 0 rfl) ?_
    refine g_iald (N := 72) (g := (up2 S 18 0 0) 16) hx hb hK hP (lt_hn (by decide) (by decide)) rfl (vp_in_lit (by decide)) dX11_digest_231 ?_
    refine lv_istore (lv' := [(6, .int ((up2 S 18 0 0) 16 (61 : Int32).toNatClampNeg)), (5, .int 61), (1, .long (vX11_digest_60 S)), (4, .int 72), (3, .ref (a 16)), (0, .ref (a 18))]) hx hb dX11_digest_232 hl (by decide) rfl (fun ls hl => ?_)
    refine lv_lload_n hx hb dX11_digest_234 rfl (lv_at hl 2 rfl) ?_
    refine lv_ldc2 (v := 31) hx hb hown (hts (.constantLong RX11 202 31) (by decide +kernel)) dX11_digest_235 ?_
    refine lv_lmul hx hb dX11_digest_238 ?_
    refine lv_iload hx hb dX11_digest_239 (lv_at hl 0 rfl) ?_
    refine lv_i2l hx hb dX11_digest_241 rfl ?_
    refine lv_ladd hx hb dX11_digest_242 ?_
    refine lv_lstore_n (lv' := [(1, .long (((vX11_digest_60 S) * 31) + (((up2 S 18 0 0) 16 (61 : Int32).toNatClampNeg).toInt64))), (6, .int ((up2 S 18 0 0) 16 (61 : Int32).toNatClampNeg)), (5, .int 61), (4, .int 72), (3, .ref (a 16)), (0, .ref (a 18))]) hx hb dX11_digest_243 rfl hl (by decide) rfl (fun ls hl => ?_)
    refine lv_iinc (v := 62) (lv' := [(5, .int 62), (1, .long (((vX11_digest_60 S) * 31) + (((up2 S 18 0 0) 16 (61 : Int32).toNatClampNeg).toInt64))), (6, .int ((up2 S 18 0 0) 16 (61 : Int32).toNatClampNeg)), (4, .int 72), (3, .ref (a 16)), (0, .ref (a 18))]) hx hb dX11_digest_244 hl (k := 2) rfl (by decide) (by decide) rfl (fun ls hl => ?_)
    refine lv_goto (tgt := 221) hx hb dX11_digest_247 (by decide) ?_
    refine lv_iload hx hb dX11_digest_221 (lv_at hl 0 rfl) ?_
    refine lv_iload hx hb dX11_digest_223 (lv_at hl 3 rfl) ?_
    refine lv_icmp_ge (tgt := 250) hx hb dX11_digest_225 (by decide) (fun c => absurd c (by decide)) (fun _ => ?_)
    refine lv_aload_n hx hb dX11_digest_228 rfl (lv_at hl 4 rfl) ?_
    refine lv_iload hx hb dX11_digest_229 (lv_at hl 0 rfl) ?_
    refine g_iald (N := 72) (g := (up2 S 18 0 0) 16) hx hb hK hP (lt_hn (by decide) (by decide)) rfl (vp_in_lit (by decide)) dX11_digest_231 ?_
    refine lv_istore (lv' := [(6, .int ((up2 S 18 0 0) 16 (62 : Int32).toNatClampNeg)), (5, .int 62), (1, .long (((vX11_digest_60 S) * 31) + (((up2 S 18 0 0) 16 (61 : Int32).toNatClampNeg).toInt64))), (4, .int 72), (3, .ref (a 16)), (0, .ref (a 18))]) hx hb dX11_digest_232 hl (by decide) rfl (fun ls hl => ?_)
    refine lv_lload_n hx hb dX11_digest_234 rfl (lv_at hl 2 rfl) ?_
    refine lv_ldc2 (v := 31) hx hb hown (hts (.constantLong RX11 202 31) (by decide +kernel)) dX11_digest_235 ?_
    refine lv_lmul hx hb dX11_digest_238 ?_
    refine lv_iload hx hb dX11_digest_239 (lv_at hl 0 rfl) ?_
    refine lv_i2l hx hb dX11_digest_241 rfl ?_
    refine lv_ladd hx hb dX11_digest_242 ?_
    refine W.eq (g2 := F0 m 243 ls [.long (vX11_digest_61 S)]) rfl ?_
    refine lv_lstore_n (lv' := [(1, .long (vX11_digest_61 S)), (6, .int ((up2 S 18 0 0) 16 (62 : Int32).toNatClampNeg)), (5, .int 62), (4, .int 72), (3, .ref (a 16)), (0, .ref (a 18))]) hx hb dX11_digest_243 rfl hl (by decide) rfl (fun ls hl => ?_)
    refine lv_iinc (v := 63) (lv' := [(5, .int 63), (1, .long (vX11_digest_61 S)), (6, .int ((up2 S 18 0 0) 16 (62 : Int32).toNatClampNeg)), (4, .int 72), (3, .ref (a 16)), (0, .ref (a 18))]) hx hb dX11_digest_244 hl (k := 2) rfl (by decide) (by decide) rfl (fun ls hl => ?_)
    refine lv_goto (tgt := 221) hx hb dX11_digest_247 (by decide) ?_
    refine lv_iload hx hb dX11_digest_221 (lv_at hl 0 rfl) ?_
    refine lv_iload hx hb dX11_digest_223 (lv_at hl 3 rfl) ?_
    refine lv_icmp_ge (tgt := 250) hx hb dX11_digest_225 (by decide) (fun c => absurd c (by decide)) (fun _ => ?_)
    refine lv_aload_n hx hb dX11_digest_228 rfl (lv_at hl 4 rfl) ?_
    refine lv_iload hx hb dX11_digest_229 (lv_at hl 0 rfl) ?_
    refine g_iald (N := 72) (g := (up2 S 18 0 0) 16) hx hb hK hP (lt_hn (by decide) (by decide)) rfl (vp_in_lit (by decide)) dX11_digest_231 ?_
    refine lv_istore (lv' := [(6, .int ((up2 S 18 0 0) 16 (63 : Int32).toNatClampNeg)), (5, .int 63), (1, .long (vX11_digest_61 S)), (4, .int 72), (3, .ref (a 16)), (0, .ref (a 18))]) hx hb dX11_digest_232 hl (by decide) rfl (fun ls hl => ?_)
    refine lv_lload_n hx hb dX11_digest_234 rfl (lv_at hl 2 rfl) ?_
    refine lv_ldc2 (v := 31) hx hb hown (hts (.constantLong RX11 202 31) (by decide +kernel)) dX11_digest_235 ?_
    refine lv_lmul hx hb dX11_digest_238 ?_
    refine lv_iload hx hb dX11_digest_239 (lv_at hl 0 rfl) ?_
    refine lv_i2l hx hb dX11_digest_241 rfl ?_
    refine lv_ladd hx hb dX11_digest_242 ?_
    refine lv_lstore_n (lv' := [(1, .long (((vX11_digest_61 S) * 31) + (((up2 S 18 0 0) 16 (63 : Int32).toNatClampNeg).toInt64))), (6, .int ((up2 S 18 0 0) 16 (63 : Int32).toNatClampNeg)), (5, .int 63), (4, .int 72), (3, .ref (a 16)), (0, .ref (a 18))]) hx hb dX11_digest_243 rfl hl (by decide) rfl (fun ls hl => ?_)
    refine lv_iinc (v := 64) (lv' := [(5, .int 64), (1, .long (((vX11_digest_61 S) * 31) + (((up2 S 18 0 0) 16 (63 : Int32).toNatClampNeg).toInt64))), (6, .int ((up2 S 18 0 0) 16 (63 : Int32).toNatClampNeg)), (4, .int 72), (3, .ref (a 16)), (0, .ref (a 18))]) hx hb dX11_digest_244 hl (k := 2) rfl (by decide) (by decide) rfl (fun ls hl => ?_)
    refine lv_goto (tgt := 221) hx hb dX11_digest_247 (by decide) ?_
    refine lv_iload hx hb dX11_digest_221 (lv_at hl 0 rfl) ?_
    refine lv_iload hx hb dX11_digest_223 (lv_at hl 3 rfl) ?_
    refine lv_icmp_ge (tgt := 250) hx hb dX11_digest_225 (by decide) (fun c => absurd c (by decide)) (fun _ => ?_)
    refine lv_aload_n hx hb dX11_digest_228 rfl (lv_at hl 4 rfl) ?_
    refine lv_iload hx hb dX11_digest_229 (lv_at hl 0 rfl) ?_
    refine g_iald (N := 72) (g := (up2 S 18 0 0) 16) hx hb hK hP (lt_hn (by decide) (by decide)) rfl (vp_in_lit (by decide)) dX11_digest_231 ?_
    refine lv_istore (lv' := [(6, .int ((up2 S 18 0 0) 16 (64 : Int32).toNatClampNeg)), (5, .int 64), (1, .long (((vX11_digest_61 S) * 31) + (((up2 S 18 0 0) 16 (63 : Int32).toNatClampNeg).toInt64))), (4, .int 72), (3, .ref (a 16)), (0, .ref (a 18))]) hx hb dX11_digest_232 hl (by decide) rfl (fun ls hl => ?_)
    refine lv_lload_n hx hb dX11_digest_234 rfl (lv_at hl 2 rfl) ?_
    refine lv_ldc2 (v := 31) hx hb hown (hts (.constantLong RX11 202 31) (by decide +kernel)) dX11_digest_235 ?_
    refine lv_lmul hx hb dX11_digest_238 ?_
    refine lv_iload hx hb dX11_digest_239 (lv_at hl 0 rfl) ?_
    refine lv_i2l hx hb dX11_digest_241 rfl ?_
    refine lv_ladd hx hb dX11_digest_242 ?_
    refine W.eq (g2 := F0 m 243 ls [.long (vX11_digest_62 S)]) rfl ?_
    refine lv_lstore_n (lv' := [(1, .long (vX11_digest_62 S)), (6, .int ((up2 S 18 0 0) 16 (64 : Int32).toNatClampNeg)), (5, .int 64), (4, .int 72), (3, .ref (a 16)), (0, .ref (a 18))]) hx hb dX11_digest_243 rfl hl (by decide) rfl (fun ls hl => ?_)
    refine lv_iinc (v := 65) (lv' := [(5, .int 65), (1, .long (vX11_digest_62 S)), (6, .int ((up2 S 18 0 0) 16 (64 : Int32).toNatClampNeg)), (4, .int 72), (3, .ref (a 16)), (0, .ref (a 18))]) hx hb dX11_digest_244 hl (k := 2) rfl (by decide) (by decide) rfl (fun ls hl => ?_)
    refine lv_goto (tgt := 221) hx hb dX11_digest_247 (by decide) ?_
    refine lv_iload hx hb dX11_digest_221 (lv_at hl 0 rfl) ?_
    refine lv_iload hx hb dX11_digest_223 (lv_at hl 3 rfl) ?_
    refine lv_icmp_ge (tgt := 250) hx hb dX11_digest_225 (by decide) (fun c => absurd c (by decide)) (fun _ => ?_)
    refine lv_aload_n hx hb dX11_digest_228 rfl (lv_at hl 4 rfl) ?_
    refine lv_iload hx hb dX11_digest_229 (lv_at hl 0 rfl) ?_
    refine g_iald (N := 72) (g := (up2 S 18 0 0) 16) hx hb hK hP (lt_hn (by decide) (by decide)) rfl (vp_in_lit (by decide)) dX11_digest_231 ?_
    refine lv_istore (lv' := [(6, .int ((up2 S 18 0 0) 16 (65 : Int32).toNatClampNeg)), (5, .int 65), (1, .long (vX11_digest_62 S)), (4, .int 72), (3, .ref (a 16)), (0, .ref (a 18))]) hx hb dX11_digest_232 hl (by decide) rfl (fun ls hl => ?_)
    refine lv_lload_n hx hb dX11_digest_234 rfl (lv_at hl 2 rfl) ?_
    refine lv_ldc2 (v := 31) hx hb hown (hts (.constantLong RX11 202 31) (by decide +kernel)) dX11_digest_235 ?_
    refine lv_lmul hx hb dX11_digest_238 ?_
    refine lv_iload hx hb dX11_digest_239 (lv_at hl 0 rfl) ?_
    refine lv_i2l hx hb dX11_digest_241 rfl ?_
    refine lv_ladd hx hb dX11_digest_242 ?_
    refine lv_lstore_n (lv' := [(1, .long (((vX11_digest_62 S) * 31) + (((up2 S 18 0 0) 16 (65 : Int32).toNatClampNeg).toInt64))), (6, .int ((up2 S 18 0 0) 16 (65 : Int32).toNatClampNeg)), (5, .int 65), (4, .int 72), (3, .ref (a 16)), (0, .ref (a 18))]) hx hb dX11_digest_243 rfl hl (by decide) rfl (fun ls hl => ?_)
    refine lv_iinc (v := 66) (lv' := [(5, .int 66), (1, .long (((vX11_digest_62 S) * 31) + (((up2 S 18 0 0) 16 (65 : Int32).toNatClampNeg).toInt64))), (6, .int ((up2 S 18 0 0) 16 (65 : Int32).toNatClampNeg)), (4, .int 72), (3, .ref (a 16)), (0, .ref (a 18))]) hx hb dX11_digest_244 hl (k := 2) rfl (by decide) (by decide) rfl (fun ls hl => ?_)
    refine lv_goto (tgt := 221) hx hb dX11_digest_247 (by decide) ?_
    refine lv_iload hx hb dX11_digest_221 (lv_at hl 0 rfl) ?_
    refine lv_iload hx hb dX11_digest_223 (lv_at hl 3 rfl) ?_
    refine lv_icmp_ge (tgt := 250) hx hb dX11_digest_225 (by decide) (fun c => absurd c (by decide)) (fun _ => ?_)
    refine lv_aload_n hx hb dX11_digest_228 rfl (lv_at hl 4 rfl) ?_
    refine lv_iload hx hb dX11_digest_229 (lv_at hl 0 rfl) ?_
    refine g_iald (N := 72) (g := (up2 S 18 0 0) 16) hx hb hK hP (lt_hn (by decide) (by decide)) rfl (vp_in_lit (by decide)) dX11_digest_231 ?_
    refine lv_istore (lv' := [(6, .int ((up2 S 18 0 0) 16 (66 : Int32).toNatClampNeg)), (5, .int 66), (1, .long (((vX11_digest_62 S) * 31) + (((up2 S 18 0 0) 16 (65 : Int32).toNatClampNeg).toInt64))), (4, .int 72), (3, .ref (a 16)), (0, .ref (a 18))]) hx hb dX11_digest_232 hl (by decide) rfl (fun ls hl => ?_)
    refine lv_lload_n hx hb dX11_digest_234 rfl (lv_at hl 2 rfl) ?_
    refine lv_ldc2 (v := 31) hx hb hown (hts (.constantLong RX11 202 31) (by decide +kernel)) dX11_digest_235 ?_
    refine lv_lmul hx hb dX11_digest_238 ?_
    refine lv_iload hx hb dX11_digest_239 (lv_at hl 0 rfl) ?_
    refine lv_i2l hx hb dX11_digest_241 rfl ?_
    refine lv_ladd hx hb dX11_digest_242 ?_
    refine W.eq (g2 := F0 m 243 ls [.long (vX11_digest_63 S)]) rfl ?_
    refine lv_lstore_n (lv' := [(1, .long (vX11_digest_63 S)), (6, .int ((up2 S 18 0 0) 16 (66 : Int32).toNatClampNeg)), (5, .int 66), (4, .int 72), (3, .ref (a 16)), (0, .ref (a 18))]) hx hb dX11_digest_243 rfl hl (by decide) rfl (fun ls hl => ?_)
    refine lv_iinc (v := 67) (lv' := [(5, .int 67), (1, .long (vX11_digest_63 S)), (6, .int ((up2 S 18 0 0) 16 (66 : Int32).toNatClampNeg)), (4, .int 72), (3, .ref (a 16)), (0, .ref (a 18))]) hx hb dX11_digest_244 hl (k := 2) rfl (by decide) (by decide) rfl (fun ls hl => ?_)
    refine lv_goto (tgt := 221) hx hb dX11_digest_247 (by decide) ?_
    refine lv_iload hx hb dX11_digest_221 (lv_at hl 0 rfl) ?_
    refine lv_iload hx hb dX11_digest_223 (lv_at hl 3 rfl) ?_
    refine lv_icmp_ge (tgt := 250) hx hb dX11_digest_225 (by decide) (fun c => absurd c (by decide)) (fun _ => ?_)
    refine lv_aload_n hx hb dX11_digest_228 rfl (lv_at hl 4 rfl) ?_
    refine lv_iload hx hb dX11_digest_229 (lv_at hl 0 rfl) ?_
    refine g_iald (N := 72) (g := (up2 S 18 0 0) 16) hx hb hK hP (lt_hn (by decide) (by decide)) rfl (vp_in_lit (by decide)) dX11_digest_231 ?_
    refine lv_istore (lv' := [(6, .int ((up2 S 18 0 0) 16 (67 : Int32).toNatClampNeg)), (5, .int 67), (1, .long (vX11_digest_63 S)), (4, .int 72), (3, .ref (a 16)), (0, .ref (a 18))]) hx hb dX11_digest_232 hl (by decide) rfl (fun ls hl => ?_)
    refine lv_lload_n hx hb dX11_digest_234 rfl (lv_at hl 2 rfl) ?_
    refine lv_ldc2 (v := 31) hx hb hown (hts (.constantLong RX11 202 31) (by decide +kernel)) dX11_digest_235 ?_
    refine lv_lmul hx hb dX11_digest_238 ?_
    refine lv_iload hx hb dX11_digest_239 (lv_at hl 0 rfl) ?_
    refine lv_i2l hx hb dX11_digest_241 rfl ?_
    refine lv_ladd hx hb dX11_digest_242 ?_
    refine lv_lstore_n (lv' := [(1, .long (((vX11_digest_63 S) * 31) + (((up2 S 18 0 0) 16 (67 : Int32).toNatClampNeg).toInt64))), (6, .int ((up2 S 18 0 0) 16 (67 : Int32).toNatClampNeg)), (5, .int 67), (4, .int 72), (3, .ref (a 16)), (0, .ref (a 18))]) hx hb dX11_digest_243 rfl hl (by decide) rfl (fun ls hl => ?_)
    refine lv_iinc (v := 68) (lv' := [(5, .int 68), (1, .long (((vX11_digest_63 S) * 31) + (((up2 S 18 0 0) 16 (67 : Int32).toNatClampNeg).toInt64))), (6, .int ((up2 S 18 0 0) 16 (67 : Int32).toNatClampNeg)), (4, .int 72), (3, .ref (a 16)), (0, .ref (a 18))]) hx hb dX11_digest_244 hl (k := 2) rfl (by decide) (by decide) rfl (fun ls hl => ?_)
    refine lv_goto (tgt := 221) hx hb dX11_digest_247 (by decide) ?_
    refine lv_iload hx hb dX11_digest_221 (lv_at hl 0 rfl) ?_
    refine lv_iload hx hb dX11_digest_223 (lv_at hl 3 rfl) ?_
    refine lv_icmp_ge (tgt := 250) hx hb dX11_digest_225 (by decide) (fun c => absurd c (by decide)) (fun _ => ?_)
    refine lv_aload_n hx hb dX11_digest_228 rfl (lv_at hl 4 rfl) ?_
    refine lv_iload hx hb dX11_digest_229 (lv_at hl 0 rfl) ?_
    refine g_iald (N := 72) (g := (up2 S 18 0 0) 16) hx hb hK hP (lt_hn (by decide) (by decide)) rfl (vp_in_lit (by decide)) dX11_digest_231 ?_
    refine lv_istore (lv' := [(6, .int ((up2 S 18 0 0) 16 (68 : Int32).toNatClampNeg)), (5, .int 68), (1, .long (((vX11_digest_63 S) * 31) + (((up2 S 18 0 0) 16 (67 : Int32).toNatClampNeg).toInt64))), (4, .int 72), (3, .ref (a 16)), (0, .ref (a 18))]) hx hb dX11_digest_232 hl (by decide) rfl (fun ls hl => ?_)
    refine lv_lload_n hx hb dX11_digest_234 rfl (lv_at hl 2 rfl) ?_
    refine lv_ldc2 (v := 31) hx hb hown (hts (.constantLong RX11 202 31) (by decide +kernel)) dX11_digest_235 ?_
    refine lv_lmul hx hb dX11_digest_238 ?_
    refine lv_iload hx hb dX11_digest_239 (lv_at hl 0 rfl) ?_
    refine lv_i2l hx hb dX11_digest_241 rfl ?_
    refine lv_ladd hx hb dX11_digest_242 ?_
    refine W.eq (g2 := F0 m 243 ls [.long (vX11_digest_64 S)]) rfl ?_
    refine lv_lstore_n (lv' := [(1, .long (vX11_digest_64 S)), (6, .int ((up2 S 18 0 0) 16 (68 : Int32).toNatClampNeg)), (5, .int 68), (4, .int 72), (3, .ref (a 16)), (0, .ref (a 18))]) hx hb dX11_digest_243 rfl hl (by decide) rfl (fun ls hl => ?_)
    refine lv_iinc (v := 69) (lv' := [(5, .int 69), (1, .long (vX11_digest_64 S)), (6, .int ((up2 S 18 0 0) 16 (68 : Int32).toNatClampNeg)), (4, .int 72), (3, .ref (a 16)), (0, .ref (a 18))]) hx hb dX11_digest_244 hl (k := 2) rfl (by decide) (by decide) rfl (fun ls hl => ?_)
    refine lv_goto (tgt := 221) hx hb dX11_digest_247 (by decide) ?_
    refine lv_iload hx hb dX11_digest_221 (lv_at hl 0 rfl) ?_
    refine lv_iload hx hb dX11_digest_223 (lv_at hl 3 rfl) ?_
    refine lv_icmp_ge (tgt := 250) hx hb dX11_digest_225 (by decide) (fun c => absurd c (by decide)) (fun _ => ?_)
    refine lv_aload_n hx hb dX11_digest_228 rfl (lv_at hl 4 rfl) ?_
    refine lv_iload hx hb dX11_digest_229 (lv_at hl 0 rfl) ?_
    refine g_iald (N := 72) (g := (up2 S 18 0 0) 16) hx hb hK hP (lt_hn (by decide) (by decide)) rfl (vp_in_lit (by decide)) dX11_digest_231 ?_
    refine lv_istore (lv' := [(6, .int ((up2 S 18 0 0) 16 (69 : Int32).toNatClampNeg)), (5, .int 69), (1, .long (vX11_digest_64 S)), (4, .int 72), (3, .ref (a 16)), (0, .ref (a 18))]) hx hb dX11_digest_232 hl (by decide) rfl (fun ls hl => ?_)
    refine lv_lload_n hx hb dX11_digest_234 rfl (lv_at hl 2 rfl) ?_
    refine lv_ldc2 (v := 31) hx hb hown (hts (.constantLong RX11 202 31) (by decide +kernel)) dX11_digest_235 ?_
    refine lv_lmul hx hb dX11_digest_238 ?_
    refine lv_iload hx hb dX11_digest_239 (lv_at hl 0 rfl) ?_
    refine lv_i2l hx hb dX11_digest_241 rfl ?_
    refine lv_ladd hx hb dX11_digest_242 ?_
    refine lv_lstore_n (lv' := [(1, .long (((vX11_digest_64 S) * 31) + (((up2 S 18 0 0) 16 (69 : Int32).toNatClampNeg).toInt64))), (6, .int ((up2 S 18 0 0) 16 (69 : Int32).toNatClampNeg)), (5, .int 69), (4, .int 72), (3, .ref (a 16)), (0, .ref (a 18))]) hx hb dX11_digest_243 rfl hl (by decide) rfl (fun ls hl => ?_)
    refine lv_iinc (v := 70) (lv' := [(5, .int 70), (1, .long (((vX11_digest_64 S) * 31) + (((up2 S 18 0 0) 16 (69 : Int32).toNatClampNeg).toInt64))), (6, .int ((up2 S 18 0 0) 16 (69 : Int32).toNatClampNeg)), (4, .int 72), (3, .ref (a 16)), (0, .ref (a 18))]) hx hb dX11_digest_244 hl (k := 2) rfl (by decide) (by decide) rfl (fun ls hl => ?_)
    refine lv_goto (tgt := 221) hx hb dX11_digest_247 (by decide) ?_
    refine lv_iload hx hb dX11_digest_221 (lv_at hl 0 rfl) ?_
    refine lv_iload hx hb dX11_digest_223 (lv_at hl 3 rfl) ?_
    refine lv_icmp_ge (tgt := 250) hx hb dX11_digest_225 (by decide) (fun c => absurd c (by decide)) (fun _ => ?_)
    refine lv_aload_n hx hb dX11_digest_228 rfl (lv_at hl 4 rfl) ?_
    refine lv_iload hx hb dX11_digest_229 (lv_at hl 0 rfl) ?_
    refine g_iald (N := 72) (g := (up2 S 18 0 0) 16) hx hb hK hP (lt_hn (by decide) (by decide)) rfl (vp_in_lit (by decide)) dX11_digest_231 ?_
    refine lv_istore (lv' := [(6, .int ((up2 S 18 0 0) 16 (70 : Int32).toNatClampNeg)), (5, .int 70), (1, .long (((vX11_digest_64 S) * 31) + (((up2 S 18 0 0) 16 (69 : Int32).toNatClampNeg).toInt64))), (4, .int 72), (3, .ref (a 16)), (0, .ref (a 18))]) hx hb dX11_digest_232 hl (by decide) rfl (fun ls hl => ?_)
    refine lv_lload_n hx hb dX11_digest_234 rfl (lv_at hl 2 rfl) ?_
    refine lv_ldc2 (v := 31) hx hb hown (hts (.constantLong RX11 202 31) (by decide +kernel)) dX11_digest_235 ?_
    refine lv_lmul hx hb dX11_digest_238 ?_
    refine lv_iload hx hb dX11_digest_239 (lv_at hl 0 rfl) ?_
    refine lv_i2l hx hb dX11_digest_241 rfl ?_
    refine lv_ladd hx hb dX11_digest_242 ?_
    refine W.eq (g2 := F0 m 243 ls [.long (vX11_digest_65 S)]) rfl ?_
    refine lv_lstore_n (lv' := [(1, .long (vX11_digest_65 S)), (6, .int ((up2 S 18 0 0) 16 (70 : Int32).toNatClampNeg)), (5, .int 70), (4, .int 72), (3, .ref (a 16)), (0, .ref (a 18))]) hx hb dX11_digest_243 rfl hl (by decide) rfl (fun ls hl => ?_)
    refine lv_iinc (v := 71) (lv' := [(5, .int 71), (1, .long (vX11_digest_65 S)), (6, .int ((up2 S 18 0 0) 16 (70 : Int32).toNatClampNeg)), (4, .int 72), (3, .ref (a 16)), (0, .ref (a 18))]) hx hb dX11_digest_244 hl (k := 2) rfl (by decide) (by decide) rfl (fun ls hl => ?_)
    refine lv_goto (tgt := 221) hx hb dX11_digest_247 (by decide) ?_
    refine lv_iload hx hb dX11_digest_221 (lv_at hl 0 rfl) ?_
    refine lv_iload hx hb dX11_digest_223 (lv_at hl 3 rfl) ?_
    refine lv_icmp_ge (tgt := 250) hx hb dX11_digest_225 (by decide) (fun c => absurd c (by decide)) (fun _ => ?_)
    refine lv_aload_n hx hb dX11_digest_228 rfl (lv_at hl 4 rfl) ?_
    refine lv_iload hx hb dX11_digest_229 (lv_at hl 0 rfl) ?_
    refine g_iald (N := 72) (g := (up2 S 18 0 0) 16) hx hb hK hP (lt_hn (by decide) (by decide)) rfl (vp_in_lit (by decide)) dX11_digest_231 ?_
    refine lv_istore (lv' := [(6, .int ((up2 S 18 0 0) 16 (71 : Int32).toNatClampNeg)), (5, .int 71), (1, .long (vX11_digest_65 S)), (4, .int 72), (3, .ref (a 16)), (0, .ref (a 18))]) hx hb dX11_digest_232 hl (by decide) rfl (fun ls hl => ?_)
    refine lv_lload_n hx hb dX11_digest_234 rfl (lv_at hl 2 rfl) ?_
    refine lv_ldc2 (v := 31) hx hb hown (hts (.constantLong RX11 202 31) (by decide +kernel)) dX11_digest_235 ?_
    refine lv_lmul hx hb dX11_digest_238 ?_
    refine lv_iload hx hb dX11_digest_239 (lv_at hl 0 rfl) ?_
    refine lv_i2l hx hb dX11_digest_241 rfl ?_
    refine lv_ladd hx hb dX11_digest_242 ?_
    refine lv_lstore_n (lv' := [(1, .long (((vX11_digest_65 S) * 31) + (((up2 S 18 0 0) 16 (71 : Int32).toNatClampNeg).toInt64))), (6, .int ((up2 S 18 0 0) 16 (71 : Int32).toNatClampNeg)), (5, .int 71), (4, .int 72), (3, .ref (a 16)), (0, .ref (a 18))]) hx hb dX11_digest_243 rfl hl (by decide) rfl (fun ls hl => ?_)
    refine lv_iinc (v := 72) (lv' := [(5, .int 72), (1, .long (((vX11_digest_65 S) * 31) + (((up2 S 18 0 0) 16 (71 : Int32).toNatClampNeg).toInt64))), (6, .int ((up2 S 18 0 0) 16 (71 : Int32).toNatClampNeg)), (4, .int 72), (3, .ref (a 16)), (0, .ref (a 18))]) hx hb dX11_digest_244 hl (k := 2) rfl (by decide) (by decide) rfl (fun ls hl => ?_)
    refine lv_goto (tgt := 221) hx hb dX11_digest_247 (by decide) ?_
    refine lv_iload hx hb dX11_digest_221 (lv_at hl 0 rfl) ?_
    refine lv_iload hx hb dX11_digest_223 (lv_at hl 3 rfl) ?_
    refine lv_icmp_ge (tgt := 250) hx hb dX11_digest_225 (by decide) (fun _ => ?_) (fun c => absurd c (by decide))
    refine lv_iconst (v := 0) hx hb dX11_digest_250 (by decide) ?_
    refine lv_istore_n (lv' := [(3, .int 0), (5, .int 72), (1, .long (((vX11_digest_65 S) * 31) + (((up2 S 18 0 0) 16 (71 : Int32).toNatClampNeg).toInt64))), (6, .int ((up2 S 18 0 0) 16 (71 : Int32).toNatClampNeg)), (4, .int 72), (0, .ref (a 18))]) hx hb dX11_digest_251 rfl hl (by decide) rfl (fun ls hl => ?_)
    have loop : ∀ (k i : Nat), i ≤ ((up2 S 18 0 0) 0 16).toNatClampNeg → ((up2 S 18 0 0) 0 16).toNatClampNeg < i + k → ∀ (z1 : Int64) (H : Heap) (locs : List Loc) (ls : Array Slot), z1 = (lpX11_digest_252 S i) → va_P G vwCl (wG 19 a (cD a cA) (up2 S 18 0 0) L) H → va_S (mA 19 a s.heap.size) s.heap H locs → lv_has ls 7 [(3, .int (nI i)), (5, .int 72), (1, .long z1), (6, .int ((up2 S 18 0 0) 16 (71 : Int32).toNatClampNeg)), (4, .int 72), (0, .ref (a 18))] → W p l e ({ frames := 1, cells := 0, slots := 0, locals := 22 } : Room) s m ([.ref (a 18)] : List Value).toArray below meth c H locs 0 0 (MQ below (gQl (rX11_digest S) G 19 a (cD a cA) (fX11_digest S) L s.heap.size) ([.ref (a 18)] : List Value).toArray s 0 0 (mA 19 a s.heap.size)) (F0 m 252 ls []) := by
      intro k
      induction k with
      | zero => intro i h1 h2; omega
      | succ k ih =>
        intro i hi hk z1 H locs ls ez1 hP hS hl
        refine lv_iload_n hx hb dX11_digest_252 rfl (lv_at hl 0 rfl) ?_
        refine lv_aload_n hx hb dX11_digest_253 rfl (lv_at hl 5 rfl) ?_
        refine g_get (ci := 11) (C := RX11) (T := TX11) (N := 2) (v := .ref (a 0)) hx hb hts iX11_digest_X11 hown hK hP (by decide) cD_Mo rfl 1 (by decide) rfl (by decide +kernel) rfl dX11_digest_254 ?_
        refine g_get (ci := 10) (C := RX10) (T := TX10) (N := 35) (v := .int ((up2 S 18 0 0) 0 16)) hx hb hts iX11_digest_X10 hown hK hP (lt_hn (by decide) (by decide)) cD_D rfl 16 (by decide) rfl (by decide +kernel) rfl dX11_digest_257 ?_
        refine lv_icmp_ge (tgt := 286) hx hb dX11_digest_260 (by decide) (fun cx => ?_) (fun cx => ?_)
        ·
          have hN := lx_exit hi cx
          subst hN
          rw [ez1] at hl
          refine lv_lload_n hx hb dX11_digest_286 rfl (lv_at hl 2 rfl) ?_
          exact g_lret hx hb hr hlocks (by unfold rX11_digest; rfl) (by unfold fX11_digest; rfl) rfl hP hS dX11_digest_287
        ·
          have hlt := lx_body cx hi
          refine lv_lload_n hx hb dX11_digest_263 rfl (lv_at hl 2 rfl) ?_
          refine lv_ldc2 (v := 31) hx hb hown (hts (.constantLong RX11 202 31) (by decide +kernel)) dX11_digest_264 ?_
          refine lv_lmul hx hb dX11_digest_267 ?_
          refine lv_aload_n hx hb dX11_digest_268 rfl (lv_at hl 5 rfl) ?_
          refine g_get (ci := 11) (C := RX11) (T := TX11) (N := 2) (v := .ref (a 0)) hx hb hts iX11_digest_X11 hown hK hP (by decide) cD_Mo rfl 1 (by decide) rfl (by decide +kernel) rfl dX11_digest_269 ?_
          refine g_get (ci := 10) (C := RX10) (T := TX10) (N := 35) (v := .ref (a 14)) hx hb hts iX11_digest_X10 hown hK hP (lt_hn (by decide) (by decide)) cD_D rfl 19 (by decide) rfl (by decide +kernel) rfl dX11_digest_272 ?_
          refine lv_iload_n hx hb dX11_digest_275 rfl (lv_at hl 0 rfl) ?_
          refine g_iald (N := 200) (g := (up2 S 18 0 0) 14) hx hb hK hP (lt_hn (by decide) (by decide)) rfl (in_loopL hlt hL) dX11_digest_276 ?_
          refine lv_i2l hx hb dX11_digest_277 rfl ?_
          refine lv_ladd hx hb dX11_digest_278 ?_
          refine lv_lstore_n (lv' := [(1, .long ((z1 * 31) + (((up2 S 18 0 0) 14 (nI i).toNatClampNeg).toInt64))), (3, .int (nI i)), (5, .int 72), (6, .int ((up2 S 18 0 0) 16 (71 : Int32).toNatClampNeg)), (4, .int 72), (0, .ref (a 18))]) hx hb dX11_digest_279 rfl hl (by decide) rfl (fun ls hl => ?_)
          refine lv_iinc (v := nI (i + 1)) (lv' := [(3, .int (nI (i + 1))), (1, .long ((z1 * 31) + (((up2 S 18 0 0) 14 (nI i).toNatClampNeg).toInt64))), (5, .int 72), (6, .int ((up2 S 18 0 0) 16 (71 : Int32).toNatClampNeg)), (4, .int 72), (0, .ref (a 18))]) hx hb dX11_digest_280 hl (k := 1) rfl (nI_1 i) (by decide) rfl (fun ls hl => ?_)
          refine lv_goto (tgt := 252) hx hb dX11_digest_283 (by decide) ?_
          exact ih (i + 1) (by omega) (by omega) ((z1 * 31) + (((up2 S 18 0 0) 14 (nI i).toNatClampNeg).toInt64)) _ _ _ (by rw [lpX11_digest_252_s]; (try rw [← ez1]); (try dsimp only); unfold bX11_digest_252_z1; rfl) hP hS (lv_sub hl [0, 2, 1, 3, 4, 5] rfl)
    exact loop (((up2 S 18 0 0) 0 16).toNatClampNeg + 1) 0 (Nat.zero_le _) (by omega) (((vX11_digest_65 S) * 31) + (((up2 S 18 0 0) 16 (71 : Int32).toNatClampNeg).toInt64)) _ _ _ (by rw [lpX11_digest_252_0]) hP hS (lv_sub hl [0, 1, 2, 3, 4, 5] rfl)
  refine lv_if_eq (tgt := 135) hx hb dX11_digest_128 (by decide) (fun c1 => ?_) (fun c1 => ?_)
  ·
    refine lv_iconst (v := 0) hx hb dX11_digest_135 (by decide) ?_
    exact hj2 _ _ _ _ (by unfold jX11_digest_8; rw [if_pos c1]) hP hS (lv_sub hl [0, 1, 2] rfl)
  ·
    refine lv_iconst (v := 1) hx hb dX11_digest_131 (by decide) ?_
    refine lv_goto (tgt := 136) hx hb dX11_digest_132 (by decide) ?_
    exact hj2 _ _ _ _ (by unfold jX11_digest_8; rw [if_neg c1]) hP hS (lv_sub hl [0, 1, 2] rfl)
