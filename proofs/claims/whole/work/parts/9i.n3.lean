/-! the constructors: rows of references; Tally -/
/-- B, but at a there is a row of references -/
def rf (B : Nat → Cel) (a t n : Nat) (g : Nat → Option Nat) : Nat → Cel := fun j => if j = a then .inr (.inl (t, n, g)) else B j
theorem rf_at {B : Nat → Cel} {a t n : Nat} {g : Nat → Option Nat} : rf B a t n g a = .inr (.inl (t, n, g)) := if_pos rfl
theorem rf_n {B : Nat → Cel} {a t n j : Nat} {g : Nat → Option Nat} (h : ¬ j = a) : rf B a t n g j = B j := if_neg h
theorem arrV_cg {cA : ClassId} {n : Nat} {f f' : Nat → Value} (h : ∀ j, j < n → f j = f' j) : arrV cA n f = arrV cA n f' := by
  unfold arrV
  congr 1
  apply Array.ext
  · simp
  · intro i h1 h2
    simp at h1 ⊢
    exact h i h1
theorem gAt_R {f : Cf} {b t n : Nat} {g g' : Nat → Option Nat} {H : Heap} (e : ∀ j, j < n → g j = g' j) (h : gAt f b (.inr (.inl (t, n, g))) H) : gAt f b (.inr (.inl (t, n, g'))) H := by
  have h : H[b]? = some (vp_cell (f.2.2.1 t) (n, .inr (.inr (.inr (.inr (fun i => (g i).map (fun k => f.1 + k))))))) := h
  show H[b]? = some (vp_cell (f.2.2.1 t) (n, .inr (.inr (.inr (.inr (fun i => (g' i).map (fun k => f.1 + k)))))))
  rw [h, vp_cell_q, vp_cell_q]
  congr 1
  exact arrV_cg (fun j hj => by rw [e j hj])
theorem ob_rf {B : Nat → Cel} {a b t n ci : Nat} {F : Nat → AV} {g g' : Nat → Option Nat} {r : Nat × Nat × Nat × Nat} (h : ¬ b = a) : gUp (ob (rf B b t n g) a ci F, r) b (.inr (.inl (t, n, g'))) = (ob (rf B b t n g') a ci F, r) := by
  unfold gUp ob rf
  refine Prod.ext ?_ rfl
  funext j
  dsimp only
  by_cases z : j = b
  · rw [if_pos z, if_neg (by omega), if_pos z]
  · rw [if_neg z, if_neg z, if_neg z]
section N4
variable {sc : SC} {y z : MI} {pc : Nat} {L : List (Option AV)} {st : List AV} {Q : Option AV → HM → Prop} {B : Nat → Cel} {F : Nat → AV} {a ci u s L1 L2 : Nat}
theorem I_refs {i t : Nat} {x : Int32} {N : Nat} {nm : String} (hd : decode y.2.1 pc = .ok (.anewarray i, 3)) (hw : Cond.classLink y.1.cls i nm ∈ gTs) (ht : t ∈ [3, 4, 5, 6]) (hc : ∀ f : Cf, (gTy f)[t]? = some (f.2.2.1 t, .object nm)) (hx : ¬ x < 0) (hN : x.toNatClampNeg = N) (hb : N * 4 ≤ 536870912) (h1n : u + 1 ≤ L1) (h1s : s + N ≤ L2) (hau : a < u)
    (kk : G sc y (pc + 3) L (aR u :: st) (ob (rf B u t N (fun _ => none)) a ci F, u + 1, s + N, L1, L2) Q) : G sc y pc L (aI x :: st) (ob B a ci F, u, s, L1, L2) Q := by
  refine G_anewarray hd hw ht hc hx hN hb h1n h1s ?_
  have e : gAdd (ob B a ci F, u, s, L1, L2) (.inr (.inl (t, N, fun _ => none))) N = (ob (rf B u t N (fun _ => none)) a ci F, u + 1, s + N, L1, L2) := by
    unfold gAdd ob rf
    refine Prod.ext ?_ rfl
    funext j
    dsimp only
    by_cases q : j = u
    · rw [if_pos q, if_neg (by omega), if_pos q]
    · rw [if_neg q, if_neg q]
  rw [e]
  exact kk
theorem I_aast {b t n k : Nat} {g : Nat → Option Nat} {F' : Nat → AV} {i : Nat} {ck : Nat} (hd : decode y.2.1 pc = .ok (.aastore, 1)) (hb : b < u) (hba : ¬ b = a) (hk : k < u) (hka : ¬ k = a) (hkb : ¬ k = b) (hck : B k = .inr (.inr (ck, F'))) {q : vw_C} (hq : vwCl[ck]? = some q) (ht : ∀ f : Cf, (gTy f)[t]? = some (f.2.2.1 t, .object q.1)) (hi : i < n) (hn : n < 2147483648)
    (kk : G sc y (pc + 1) L st (ob (rf B b t n (va_up g i (some k))) a ci F, u, s, L1, L2) Q) : G sc y pc L (aR k :: aI (nI i) :: aR b :: st) (ob (rf B b t n g) a ci F, u, s, L1, L2) Q := by
  refine G_aastore (M := (ob (rf B b t n g) a ci F, u, s, L1, L2)) (b := k) (t := t) (n := n) (g := g) hd hb ((ob_n hba).trans rf_at) hk ((ob_n hka).trans ((rf_n hkb).trans hck)) hq ht (vp_in_nI hi hn) ?_
  rw [ob_rf hba, nI_clamp (by omega)]
  exact kk
theorem I_get {i k : Nat} {v : AV} (hd : decode y.2.1 pc = .ok (.getfield i, 3)) (hf : flB y.1.cls i ci k) (ha : a < u) (hv : F k = v) (kk : G sc y (pc + 3) L (v :: st) (ob B a ci F, u, s, L1, L2) Q) : G sc y pc L (aR a :: st) (ob B a ci F, u, s, L1, L2) Q := G_getfield hd hf ha ob_at (by rw [hv]; exact kk)
/-- a row of references that is filled -/
theorem I_rfix {b t n : Nat} {g g' : Nat → Option Nat} (hba : ¬ b = a) (hB : B b = .inr (.inl (t, n, g'))) (e : ∀ j, j < n → g j = g' j) (k : G sc y pc L st (ob B a ci F, u, s, L1, L2) Q) : G sc y pc L st (ob (rf B b t n g) a ci F, u, s, L1, L2) Q := by
  intro f l p e' s0 m args below meth c H locs cells slots mc ms ls C Wd hM hS hl hB' g1 g2
  refine k f l p e' s0 m args below meth c H locs cells slots mc ms ls C Wd ⟨hM.1, fun j hj => ?_⟩ hS hl hB' g1 g2
  have q := hM.2 j hj
  by_cases z : j = b
  · subst z
    rw [show (ob (rf B j t n g) a ci F, u, s, L1, L2).1 j = .inr (.inl (t, n, g)) from (ob_n hba).trans rf_at] at q
    show gAt f (f.1 + j) (ob B a ci F j) H
    rw [ob_n hba, hB]
    exact gAt_R e q
  · rw [show (ob (rf B b t n g) a ci F, u, s, L1, L2).1 j = ob B a ci F j from by
      show ob (rf B b t n g) a ci F j = _
      unfold ob
      split
      · rfl
      · exact rf_n z] at q
    exact q
end N4
