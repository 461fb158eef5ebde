/-! rules of G for ints that are numbers (nI n), for truths, and with toInt in the conditions -/
def bI (b : Bool) : Int32 := if b then nI 1 else nI 0
theorem bI_t {b : Bool} (h : b = true) : bI b = 1 := by rw [h]; rfl
theorem bI_f {b : Bool} (h : b = false) : bI b = 0 := by rw [h]; rfl
theorem bI_ne {b : Bool} : ¬ bI b = 0 ↔ b = true := by cases b <;> decide
theorem bI_eq {b : Bool} : bI b = 0 ↔ b = false := by cases b <;> decide
theorem z_t {b : Bool} (h : b = true) : nI 1 = bI b := by rw [h]; rfl
theorem z_f {b : Bool} (h : b = false) : nI 0 = bI b := by rw [h]; rfl
theorem bI_nar (b : Bool) : narrow .boolean (.int (bI b)) = .int (bI b) := by cases b <;> rfl
theorem nIt {n : Nat} (h : n < 2147483648) : (nI n).toInt = n := nI_toInt (by omega)
section GNR
variable {sc : SC} {y : MI} {pc : Nat} {L : List (Option AV)} {st : List AV} {M : HM} {S : ST} {Q : Option AV → HM → Prop}
theorem N_iadd {a b : Nat} (hd : decode y.2.1 pc = .ok (.iadd, 1)) (k : G sc y (pc + 1) L (aI (nI (a + b)) :: st) M Q) : G sc y pc L (aI (nI b) :: aI (nI a) :: st) M Q := G_iadd hd (by rw [nI_add]; exact k)
theorem N_imul {a b : Nat} (hd : decode y.2.1 pc = .ok (.imul, 1)) (k : G sc y (pc + 1) L (aI (nI (a * b)) :: st) M Q) : G sc y pc L (aI (nI b) :: aI (nI a) :: st) M Q := G_imul hd (by rw [pk_mul]; exact k)
theorem N_isub {a b : Nat} (hd : decode y.2.1 pc = .ok (.isub, 1)) (h : b ≤ a) (k : G sc y (pc + 1) L (aI (nI (a - b)) :: st) M Q) : G sc y pc L (aI (nI b) :: aI (nI a) :: st) M Q := G_isub hd (by rw [pk_sub h]; exact k)
theorem nI_nz {b : Nat} (h : 0 < b ∧ b < 2147483648) : ¬ nI b = 0 := nI_ne0 h.1 h.2
theorem N_idiv {a b : Nat} (hd : decode y.2.1 pc = .ok (.idiv, 1)) (h : a < 2147483648 ∧ 0 < b ∧ b < 2147483648) (k : G sc y (pc + 1) L (aI (nI (a / b)) :: st) M Q) : G sc y pc L (aI (nI b) :: aI (nI a) :: st) M Q := G_idiv hd (nI_nz h.2) (by rw [pk_div h.1 h.2.1 h.2.2]; exact k)
theorem N_irem {a b : Nat} (hd : decode y.2.1 pc = .ok (.irem, 1)) (h : a < 2147483648 ∧ 0 < b ∧ b < 2147483648) (k : G sc y (pc + 1) L (aI (nI (a % b)) :: st) M Q) : G sc y pc L (aI (nI b) :: aI (nI a) :: st) M Q := G_irem hd (nI_nz h.2) (by rw [pk_rem h.1 h.2.1 h.2.2]; exact k)
theorem N_iinc {i a : Nat} (hd : decode y.2.1 pc = .ok (.iinc i 1, 3)) (hx : L[i]? = some (some (aI (nI a)))) (hn : i < y.2.2.1) (hok : gOk L i = true) (k : G sc y (pc + 3) (L.set i (some (aI (nI (a + 1))))) st M Q) : G sc y pc L st M Q := G_iinc hd hx (nI_1 a) hn hok k
theorem N_idec {i a : Nat} (hd : decode y.2.1 pc = .ok (.iinc i (-1), 3)) (hx : L[i]? = some (some (aI (nI (a + 1))))) (hn : i < y.2.2.1) (hok : gOk L i = true) (k : G sc y (pc + 3) (L.set i (some (aI (nI a)))) st M Q) : G sc y pc L st M Q := G_iinc hd hx (pk_m1 a) hn hok k
theorem N_icmp_eq {a b : Nat} {off : Int} {tgt : Nat} (hd : decode y.2.1 pc = .ok (.if_icmp .eq off, 3)) (ht : (pc : Int) + off = (tgt : Int)) (hb : a < 2147483648 ∧ b < 2147483648) (kt : a = b → G sc y tgt L st M Q) (kf : ¬ a = b → G sc y (pc + 3) L st M Q) : G sc y pc L (aI (nI b) :: aI (nI a) :: st) M Q :=
  G_icmp_eq hd ht (fun h => kt ((nI_eq hb.1 hb.2).mp h)) (fun h => kf (fun q => h ((nI_eq hb.1 hb.2).mpr q)))
theorem N_icmp_ne {a b : Nat} {off : Int} {tgt : Nat} (hd : decode y.2.1 pc = .ok (.if_icmp .ne off, 3)) (ht : (pc : Int) + off = (tgt : Int)) (hb : a < 2147483648 ∧ b < 2147483648) (kt : ¬ a = b → G sc y tgt L st M Q) (kf : a = b → G sc y (pc + 3) L st M Q) : G sc y pc L (aI (nI b) :: aI (nI a) :: st) M Q :=
  G_icmp_ne hd ht (fun h => kt (fun q => h ((nI_eq hb.1 hb.2).mpr q))) (fun h => kf ((nI_eq hb.1 hb.2).mp h))
theorem N_icmp_lt {a b : Nat} {off : Int} {tgt : Nat} (hd : decode y.2.1 pc = .ok (.if_icmp .lt off, 3)) (ht : (pc : Int) + off = (tgt : Int)) (hb : a < 2147483648 ∧ b < 2147483648) (kt : a < b → G sc y tgt L st M Q) (kf : ¬ a < b → G sc y (pc + 3) L st M Q) : G sc y pc L (aI (nI b) :: aI (nI a) :: st) M Q :=
  G_icmp_lt hd ht (fun h => kt ((nI_ltI hb.1 hb.2).mp h)) (fun h => kf (fun q => h ((nI_ltI hb.1 hb.2).mpr q)))
theorem N_icmp_ge {a b : Nat} {off : Int} {tgt : Nat} (hd : decode y.2.1 pc = .ok (.if_icmp .ge off, 3)) (ht : (pc : Int) + off = (tgt : Int)) (hb : a < 2147483648 ∧ b < 2147483648) (kt : b ≤ a → G sc y tgt L st M Q) (kf : ¬ b ≤ a → G sc y (pc + 3) L st M Q) : G sc y pc L (aI (nI b) :: aI (nI a) :: st) M Q :=
  G_icmp_ge hd ht (fun h => kt ((nI_leI hb.2 hb.1).mp h)) (fun h => kf (fun q => h ((nI_leI hb.2 hb.1).mpr q)))
theorem N_icmp_gt {a b : Nat} {off : Int} {tgt : Nat} (hd : decode y.2.1 pc = .ok (.if_icmp .gt off, 3)) (ht : (pc : Int) + off = (tgt : Int)) (hb : a < 2147483648 ∧ b < 2147483648) (kt : b < a → G sc y tgt L st M Q) (kf : ¬ b < a → G sc y (pc + 3) L st M Q) : G sc y pc L (aI (nI b) :: aI (nI a) :: st) M Q :=
  G_icmp_gt hd ht (fun h => kt ((nI_ltI hb.2 hb.1).mp h)) (fun h => kf (fun q => h ((nI_ltI hb.2 hb.1).mpr q)))
theorem N_icmp_le {a b : Nat} {off : Int} {tgt : Nat} (hd : decode y.2.1 pc = .ok (.if_icmp .le off, 3)) (ht : (pc : Int) + off = (tgt : Int)) (hb : a < 2147483648 ∧ b < 2147483648) (kt : a ≤ b → G sc y tgt L st M Q) (kf : ¬ a ≤ b → G sc y (pc + 3) L st M Q) : G sc y pc L (aI (nI b) :: aI (nI a) :: st) M Q :=
  G_icmp_le hd ht (fun h => kt ((nI_leI hb.1 hb.2).mp h)) (fun h => kf (fun q => h ((nI_leI hb.1 hb.2).mpr q)))
theorem T_icmp_eq {x z : Int32} {off : Int} {tgt : Nat} (hd : decode y.2.1 pc = .ok (.if_icmp .eq off, 3)) (ht : (pc : Int) + off = (tgt : Int)) (kt : x.toInt = z.toInt → G sc y tgt L st M Q) (kf : ¬ x.toInt = z.toInt → G sc y (pc + 3) L st M Q) : G sc y pc L (aI z :: aI x :: st) M Q :=
  G_icmp_eq hd ht (fun h => kt (by rw [h])) (fun h => kf (fun q => h (Int32.toInt_inj.mp q)))
theorem T_icmp_ne {x z : Int32} {off : Int} {tgt : Nat} (hd : decode y.2.1 pc = .ok (.if_icmp .ne off, 3)) (ht : (pc : Int) + off = (tgt : Int)) (kt : ¬ x.toInt = z.toInt → G sc y tgt L st M Q) (kf : x.toInt = z.toInt → G sc y (pc + 3) L st M Q) : G sc y pc L (aI z :: aI x :: st) M Q :=
  G_icmp_ne hd ht (fun h => kt (fun q => h (Int32.toInt_inj.mp q))) (fun h => kf (by rw [h]))
theorem T_icmp_lt {x z : Int32} {off : Int} {tgt : Nat} (hd : decode y.2.1 pc = .ok (.if_icmp .lt off, 3)) (ht : (pc : Int) + off = (tgt : Int)) (kt : x.toInt < z.toInt → G sc y tgt L st M Q) (kf : ¬ x.toInt < z.toInt → G sc y (pc + 3) L st M Q) : G sc y pc L (aI z :: aI x :: st) M Q :=
  G_icmp_lt hd ht (fun h => kt (Int32.lt_iff_toInt_lt.mp h)) (fun h => kf (fun q => h (Int32.lt_iff_toInt_lt.mpr q)))
theorem T_icmp_ge {x z : Int32} {off : Int} {tgt : Nat} (hd : decode y.2.1 pc = .ok (.if_icmp .ge off, 3)) (ht : (pc : Int) + off = (tgt : Int)) (kt : z.toInt ≤ x.toInt → G sc y tgt L st M Q) (kf : ¬ z.toInt ≤ x.toInt → G sc y (pc + 3) L st M Q) : G sc y pc L (aI z :: aI x :: st) M Q :=
  G_icmp_ge hd ht (fun h => kt (Int32.le_iff_toInt_le.mp h)) (fun h => kf (fun q => h (Int32.le_iff_toInt_le.mpr q)))
theorem T_icmp_gt {x z : Int32} {off : Int} {tgt : Nat} (hd : decode y.2.1 pc = .ok (.if_icmp .gt off, 3)) (ht : (pc : Int) + off = (tgt : Int)) (kt : z.toInt < x.toInt → G sc y tgt L st M Q) (kf : ¬ z.toInt < x.toInt → G sc y (pc + 3) L st M Q) : G sc y pc L (aI z :: aI x :: st) M Q :=
  G_icmp_gt hd ht (fun h => kt (Int32.lt_iff_toInt_lt.mp h)) (fun h => kf (fun q => h (Int32.lt_iff_toInt_lt.mpr q)))
theorem T_icmp_le {x z : Int32} {off : Int} {tgt : Nat} (hd : decode y.2.1 pc = .ok (.if_icmp .le off, 3)) (ht : (pc : Int) + off = (tgt : Int)) (kt : x.toInt ≤ z.toInt → G sc y tgt L st M Q) (kf : ¬ x.toInt ≤ z.toInt → G sc y (pc + 3) L st M Q) : G sc y pc L (aI z :: aI x :: st) M Q :=
  G_icmp_le hd ht (fun h => kt (Int32.le_iff_toInt_le.mp h)) (fun h => kf (fun q => h (Int32.le_iff_toInt_le.mpr q)))
theorem T_if_eq {x : Int32} {off : Int} {tgt : Nat} (hd : decode y.2.1 pc = .ok (.ifCond .eq off, 3)) (ht : (pc : Int) + off = (tgt : Int)) (kt : x.toInt = 0 → G sc y tgt L st M Q) (kf : ¬ x.toInt = 0 → G sc y (pc + 3) L st M Q) : G sc y pc L (aI x :: st) M Q :=
  G_if_eq hd ht (fun h => kt (by rw [h]; rfl)) (fun h => kf (fun q => h (Int32.toInt_inj.mp q)))
theorem T_if_ne {x : Int32} {off : Int} {tgt : Nat} (hd : decode y.2.1 pc = .ok (.ifCond .ne off, 3)) (ht : (pc : Int) + off = (tgt : Int)) (kt : ¬ x.toInt = 0 → G sc y tgt L st M Q) (kf : x.toInt = 0 → G sc y (pc + 3) L st M Q) : G sc y pc L (aI x :: st) M Q :=
  G_if_ne hd ht (fun h => kt (fun q => h (Int32.toInt_inj.mp q))) (fun h => kf (by rw [h]; rfl))
theorem T_if_lt {x : Int32} {off : Int} {tgt : Nat} (hd : decode y.2.1 pc = .ok (.ifCond .lt off, 3)) (ht : (pc : Int) + off = (tgt : Int)) (kt : x.toInt < 0 → G sc y tgt L st M Q) (kf : ¬ x.toInt < 0 → G sc y (pc + 3) L st M Q) : G sc y pc L (aI x :: st) M Q :=
  G_if_lt hd ht (fun h => kt (Int32.lt_iff_toInt_lt.mp h)) (fun h => kf (fun q => h (Int32.lt_iff_toInt_lt.mpr q)))
theorem T_if_ge {x : Int32} {off : Int} {tgt : Nat} (hd : decode y.2.1 pc = .ok (.ifCond .ge off, 3)) (ht : (pc : Int) + off = (tgt : Int)) (kt : 0 ≤ x.toInt → G sc y tgt L st M Q) (kf : ¬ 0 ≤ x.toInt → G sc y (pc + 3) L st M Q) : G sc y pc L (aI x :: st) M Q :=
  G_if_ge hd ht (fun h => kt (Int32.le_iff_toInt_le.mp h)) (fun h => kf (fun q => h (Int32.le_iff_toInt_le.mpr q)))
theorem T_if_gt {x : Int32} {off : Int} {tgt : Nat} (hd : decode y.2.1 pc = .ok (.ifCond .gt off, 3)) (ht : (pc : Int) + off = (tgt : Int)) (kt : 0 < x.toInt → G sc y tgt L st M Q) (kf : ¬ 0 < x.toInt → G sc y (pc + 3) L st M Q) : G sc y pc L (aI x :: st) M Q :=
  G_if_gt hd ht (fun h => kt (Int32.lt_iff_toInt_lt.mp h)) (fun h => kf (fun q => h (Int32.lt_iff_toInt_lt.mpr q)))
theorem T_if_le {x : Int32} {off : Int} {tgt : Nat} (hd : decode y.2.1 pc = .ok (.ifCond .le off, 3)) (ht : (pc : Int) + off = (tgt : Int)) (kt : x.toInt ≤ 0 → G sc y tgt L st M Q) (kf : ¬ x.toInt ≤ 0 → G sc y (pc + 3) L st M Q) : G sc y pc L (aI x :: st) M Q :=
  G_if_le hd ht (fun h => kt (Int32.le_iff_toInt_le.mp h)) (fun h => kf (fun q => h (Int32.le_iff_toInt_le.mpr q)))
theorem N_if_eq {a : Nat} {off : Int} {tgt : Nat} (hd : decode y.2.1 pc = .ok (.ifCond .eq off, 3)) (ht : (pc : Int) + off = (tgt : Int)) (ha : a < 2147483648) (kt : a = 0 → G sc y tgt L st M Q) (kf : ¬ a = 0 → G sc y (pc + 3) L st M Q) : G sc y pc L (aI (nI a) :: st) M Q :=
  T_if_eq hd ht (fun h => kt (by rw [nIt ha] at h; omega)) (fun h => kf (by rw [nIt ha] at h; omega))
theorem N_if_ne {a : Nat} {off : Int} {tgt : Nat} (hd : decode y.2.1 pc = .ok (.ifCond .ne off, 3)) (ht : (pc : Int) + off = (tgt : Int)) (ha : a < 2147483648) (kt : ¬ a = 0 → G sc y tgt L st M Q) (kf : a = 0 → G sc y (pc + 3) L st M Q) : G sc y pc L (aI (nI a) :: st) M Q :=
  T_if_ne hd ht (fun h => kt (by rw [nIt ha] at h; omega)) (fun h => kf (by rw [nIt ha] at h; omega))
theorem N_if_le {a : Nat} {off : Int} {tgt : Nat} (hd : decode y.2.1 pc = .ok (.ifCond .le off, 3)) (ht : (pc : Int) + off = (tgt : Int)) (ha : a < 2147483648) (kt : a = 0 → G sc y tgt L st M Q) (kf : ¬ a = 0 → G sc y (pc + 3) L st M Q) : G sc y pc L (aI (nI a) :: st) M Q :=
  T_if_le hd ht (fun h => kt (by rw [nIt ha] at h; omega)) (fun h => kf (by rw [nIt ha] at h; omega))
theorem N_if_gt {a : Nat} {off : Int} {tgt : Nat} (hd : decode y.2.1 pc = .ok (.ifCond .gt off, 3)) (ht : (pc : Int) + off = (tgt : Int)) (ha : a < 2147483648) (kt : ¬ a = 0 → G sc y tgt L st M Q) (kf : a = 0 → G sc y (pc + 3) L st M Q) : G sc y pc L (aI (nI a) :: st) M Q :=
  T_if_gt hd ht (fun h => kt (by rw [nIt ha] at h; omega)) (fun h => kf (by rw [nIt ha] at h; omega))
theorem N_if_lt {a : Nat} {off : Int} {tgt : Nat} (hd : decode y.2.1 pc = .ok (.ifCond .lt off, 3)) (ht : (pc : Int) + off = (tgt : Int)) (ha : a < 2147483648) (kf : G sc y (pc + 3) L st M Q) : G sc y pc L (aI (nI a) :: st) M Q :=
  T_if_lt hd ht (fun h => absurd h (by rw [nIt ha]; omega)) (fun _ => kf)
theorem N_if_ge {a : Nat} {off : Int} {tgt : Nat} (hd : decode y.2.1 pc = .ok (.ifCond .ge off, 3)) (ht : (pc : Int) + off = (tgt : Int)) (ha : a < 2147483648) (kt : G sc y tgt L st M Q) : G sc y pc L (aI (nI a) :: st) M Q :=
  T_if_ge hd ht (fun _ => kt) (fun h => absurd (by rw [nIt ha]; omega) h)
theorem B_if_eq {b : Bool} {off : Int} {tgt : Nat} (hd : decode y.2.1 pc = .ok (.ifCond .eq off, 3)) (ht : (pc : Int) + off = (tgt : Int)) (kt : b = false → G sc y tgt L st M Q) (kf : b = true → G sc y (pc + 3) L st M Q) : G sc y pc L (aI (bI b) :: st) M Q :=
  G_if_eq hd ht (fun h => kt (bI_eq.mp h)) (fun h => kf (bI_ne.mp h))
theorem B_if_ne {b : Bool} {off : Int} {tgt : Nat} (hd : decode y.2.1 pc = .ok (.ifCond .ne off, 3)) (ht : (pc : Int) + off = (tgt : Int)) (kt : b = true → G sc y tgt L st M Q) (kf : b = false → G sc y (pc + 3) L st M Q) : G sc y pc L (aI (bI b) :: st) M Q :=
  G_if_ne hd ht (fun h => kt (bI_ne.mp h)) (fun h => kf (bI_eq.mp h))
theorem N_iald {a n i : Nat} (hd : decode y.2.1 pc = .ok (.iaload, 1)) (hk : kd a = (10, n)) (hn : Nat.ble n 65536 = true) (hi : i < n) (kk : G sc y (pc + 1) L (aI (S.2.1 a i) :: st) (mk S) Q) : G sc y pc L (aI (nI i) :: aR a :: st) (mk S) Q := by
  have h1 : n ≤ 65536 := Nat.le_of_ble_eq_true hn
  refine S_iald hd hk (vp_in_nI hi (by omega)) ?_
  rw [nI_clamp (by omega)]
  exact kk
theorem N_bald {a n i : Nat} (hd : decode y.2.1 pc = .ok (.baload, 1)) (hk : kd a = (11, n)) (hn : Nat.ble n 65536 = true) (hi : i < n) (kk : G sc y (pc + 1) L (aI (S.2.1 a i) :: st) (mk S) Q) : G sc y pc L (aI (nI i) :: aR a :: st) (mk S) Q := by
  have h1 : n ≤ 65536 := Nat.le_of_ble_eq_true hn
  refine S_bald hd hk (vp_in_nI hi (by omega)) ?_
  rw [nI_clamp (by omega)]
  exact kk
theorem N_sald {a n i : Nat} (hd : decode y.2.1 pc = .ok (.saload, 1)) (hk : kd a = (12, n)) (hn : Nat.ble n 65536 = true) (hi : i < n) (kk : G sc y (pc + 1) L (aI (S.2.1 a i) :: st) (mk S) Q) : G sc y pc L (aI (nI i) :: aR a :: st) (mk S) Q := by
  have h1 : n ≤ 65536 := Nat.le_of_ble_eq_true hn
  refine S_sald hd hk (vp_in_nI hi (by omega)) ?_
  rw [nI_clamp (by omega)]
  exact kk
theorem N_iast {a n i : Nat} {x : Int32} (hd : decode y.2.1 pc = .ok (.iastore, 1)) (hk : kd a = (10, n)) (hn : Nat.ble n 65536 = true) (hi : i < n) (kk : G sc y (pc + 1) L st (mk (upI S a i x)) Q) : G sc y pc L (aI x :: aI (nI i) :: aR a :: st) (mk S) Q := by
  have h1 : n ≤ 65536 := Nat.le_of_ble_eq_true hn
  refine S_iast hd hk (vp_in_nI hi (by omega)) ?_
  rw [nI_clamp (by omega)]
  exact kk
theorem N_bast {a n i : Nat} {x : Int32} (hd : decode y.2.1 pc = .ok (.bastore, 1)) (hk : kd a = (11, n)) (hn : Nat.ble n 65536 = true) (hi : i < n) (kk : G sc y (pc + 1) L st (mk (upI S a i x.toInt8.toInt32)) Q) : G sc y pc L (aI x :: aI (nI i) :: aR a :: st) (mk S) Q := by
  have h1 : n ≤ 65536 := Nat.le_of_ble_eq_true hn
  refine S_bast hd hk (vp_in_nI hi (by omega)) ?_
  rw [nI_clamp (by omega)]
  exact kk
theorem N_sast {a n i : Nat} {x : Int32} (hd : decode y.2.1 pc = .ok (.sastore, 1)) (hk : kd a = (12, n)) (hn : Nat.ble n 65536 = true) (hi : i < n) (kk : G sc y (pc + 1) L st (mk (upI S a i x.toInt16.toInt32)) Q) : G sc y pc L (aI x :: aI (nI i) :: aR a :: st) (mk S) Q := by
  have h1 : n ≤ 65536 := Nat.le_of_ble_eq_true hn
  refine S_sast hd hk (vp_in_nI hi (by omega)) ?_
  rw [nI_clamp (by omega)]
  exact kk
theorem N_aald {a t n i b : Nat} (hd : decode y.2.1 pc = .ok (.aaload, 1)) (hk : kd a = (20 + t, n)) (hn : Nat.ble n 65536 = true) (ht : 3 ≤ t ∧ t < 7) (hi : i < n) (hb : rfA S a i = some b) (kk : G sc y (pc + 1) L (aR b :: st) (mk S) Q) : G sc y pc L (aI (nI i) :: aR a :: st) (mk S) Q := by
  have h1 : n ≤ 65536 := Nat.le_of_ble_eq_true hn
  exact S_aald hd hk ht (vp_in_nI hi (by omega)) (by rw [nI_clamp (by omega)]; exact hb) kk
end GNR
