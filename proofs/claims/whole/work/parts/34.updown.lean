/-! the model's two walks along parents -/
def rn_odd (σ : rm_St) (k : Nat) (d : Int32) : Int32 := if σ 6 (σ 7 k).toNatClampNeg < σ 6 k then d + 0 else d + 1
def rn_upL (σ : rm_St) : Nat → Nat → Int32 → Int32 → rm_St × Int32
  | 0, _, _, _ => (σ, 0)
  | r + 1, k, n, d => if σ 2 k = 0 then (if σ 7 k = -1 then (σ, -1) else if rn_odd σ k d = 2 then (rm_up σ 0 19 (σ 0 19 + 1), -2) else rn_upL σ r (σ 7 k).toNatClampNeg (n + 1) (rn_odd σ k d)) else (σ, n)
def rn_upOK (σ : rm_St) : Nat → Nat → Int32 → Prop
  | 0, _, _ => False
  | r + 1, k, d => σ 2 k = 0 → ¬ σ 7 k = -1 → ¬ rn_odd σ k d = 2 → rn_upOK σ r (σ 7 k).toNatClampNeg (rn_odd σ k d)
def rn_upS (σ : rm_St) (x : Int32) : rm_St × Int32 := if isNd x = true then rn_upL (rm_up σ 0 20 0) 21 x.toNatClampNeg 0 0 else (rm_up σ 0 20 1, 0)
def rn_dnL (σ : rm_St) (f : Int32) : Nat → Nat → Int32
  | 0, _ => 0
  | r + 1, k => if σ 7 k = f then nI k else rn_dnL σ f r (σ 7 k).toNatClampNeg
def rn_dnOK (σ : rm_St) (f : Int32) : Nat → Nat → Prop
  | 0, _ => False
  | r + 1, k => ¬ σ 7 k = f → isNd (σ 7 k) = true ∧ rn_dnOK σ f r (σ 7 k).toNatClampNeg
def rn_downS (σ : rm_St) (x y : Int32) : rm_St × Int32 :=
  if isNd x = true then (if isNd y = true then (if x = y then (rm_up σ 0 20 2, 0) else if (rn_under σ x.toNatClampNeg >>> (y &&& 31)) &&& 1 = 1 then (rm_up σ 0 20 0, rn_dnL (rm_up σ 0 20 0) x 10 y.toNatClampNeg) else (rm_up σ 0 20 2, 0)) else (rm_up σ 0 20 1, 0)) else (rm_up σ 0 20 1, 0)
