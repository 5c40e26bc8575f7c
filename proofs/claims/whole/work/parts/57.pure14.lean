/-! pure rows: a whole run -/
theorem rd_b (L : Nat → Nat) {n i : Nat} (hn : n ≤ 400) (hi : i < n) : i + 1 ≤ rdAt L n i ∧ rdAt L n i ≤ 407 := by
  have b1 := flg_le L (n - (i + 1)) (i + 1) false false false false false
  have b2 := pw_le L (rdF L n i).2.2.2.2.2
  have b3 := pp_le L (rdW L n i).2.1
  have b4 : i + 1 ≤ (rdF L n i).2.2.2.2.2 ∧ (rdF L n i).2.2.2.2.2 ≤ 400 := by unfold rdF; omega
  have b5 : i + 1 ≤ (rdW L n i).2.1 ∧ (rdW L n i).2.1 ≤ 403 := by unfold rdW; omega
  have b6 : i + 1 ≤ (rdP L n i).2.1 ∧ (rdP L n i).2.1 ≤ 407 := by unfold rdP; omega
  unfold rdAt
  split <;> omega
/-- where a format is wrong -/
def wrg (L : Nat → Nat) (n : Nat) : Nat → Nat → Int32
  | 0, _ => -1
  | k + 1, i => if n ≤ i then -1 else if L i = 37 then (if rdOk L n i = true then wrg L n k (rdAt L n i + 1) else nI (rdAt L n i)) else wrg L n k (i + 1)
theorem wrg_s (L : Nat → Nat) (n k i : Nat) : wrg L n (k + 1) i = if n ≤ i then -1 else if L i = 37 then (if rdOk L n i = true then wrg L n k (rdAt L n i + 1) else nI (rdAt L n i)) else wrg L n k (i + 1) := rfl
def wrA (c : Nat → Nat) (n : Nat) : Int32 := if frg c 0 n = -1 then wrg (lt c n) n (n + 1) 0 else frg c 0 n
/-- the precision as it is read -/
def ppO (L : Nat → Nat) (i : Nat) : Option Nat := if L i = 46 then (if L (i + 1) = 42 then none else some (dgt L 3 (i + 1) 0).1) else none
theorem pp_O (L : Nat → Nat) (i : Nat) : (pp L i).2.2.2 = prI (ppO L i) := by
  unfold pp ppO
  split
  · split
    · rfl
    split <;> rfl
  · rfl
theorem pp_200 {L : Nat → Nat} {i : Nat} (h : (pp L i).1 = true) : ∀ k, ppO L i = some k → k ≤ 200 := by
  intro k hk
  unfold pp at h
  unfold ppO at hk
  split at hk
  · rename_i h1
    rw [if_pos h1] at h
    split at hk
    · cases hk
    · rename_i h2
      rw [if_neg h2] at h
      injection hk with hk
      subst hk
      split at h
      · cases h
      · omega
  · cases hk
theorem pw_200 {L : Nat → Nat} {i : Nat} (h : (pw L i).1 = true) : (pw L i).2.2.2 ≤ 200 := by
  unfold pw at *
  split at h
  · rename_i h1; rw [if_pos h1]; exact Nat.zero_le _
  · rename_i h1
    rw [if_neg h1]
    split at h
    · cases h
    · rename_i h2; rw [if_neg h2]; show (dgt L 3 i 0).1 ≤ 200; omega
def rdQ (L : Nat → Nat) (n i : Nat) : Option Nat := ppO L (rdW L n i).2.1
theorem rd_Q (L : Nat → Nat) (n i : Nat) : (rdP L n i).2.2.2 = prI (rdQ L n i) := pp_O L _
theorem rdOk_all {L : Nat → Nat} {n i : Nat} (h : rdOk L n i = true) : (rdW L n i).1 = true ∧ (rdP L n i).1 = true ∧ isK (L (rdAt L n i)) = true ∧ rdAt L n i = (rdP L n i).2.1 := by
  unfold rdOk at h
  rw [Bool.and_eq_true, Bool.and_eq_true] at h
  have e : rdAt L n i = (rdP L n i).2.1 := by unfold rdAt; rw [h.1.1]; rfl
  exact ⟨h.1.1, h.1.2, by rw [e]; exact h.2, e⟩
theorem isK_S : ∀ x, x < 256 → isK x = true → isS (sml x) := by unfold isS; decide +kernel
/-- one directive: the arguments that are taken, its piece, its field -/
def dvW (L : Nat → Nat) (n i : Nat) (ar : Nat → Int64) (na t : Nat) : Bool × Nat := sW (rdW L n i).2.2.1 (rdF L n i).1 (rdW L n i).2.2.2 (tkv ar na t)
def dvT1 (L : Nat → Nat) (n i na t : Nat) : Nat := sT (rdW L n i).2.2.1 na t
def dvT2 (L : Nat → Nat) (n i na t : Nat) : Nat := sT (rdP L n i).2.2.1 na (dvT1 L n i na t)
def dvQ (L : Nat → Nat) (n i : Nat) (ar : Nat → Int64) (na t : Nat) : Option Nat := sP (rdP L n i).2.2.1 (rdQ L n i) (tkv ar na (dvT1 L n i na t))
def dvK (L : Nat → Nat) (n i : Nat) : Nat := sml (L (rdAt L n i))
def dvT3 (L : Nat → Nat) (n i na t : Nat) : Nat := if dvK L n i = 37 then dvT2 L n i na t else tkn na (dvT2 L n i na t)
def dvV (L : Nat → Nat) (n i : Nat) (ar : Nat → Int64) (na t : Nat) : Int64 := if dvK L n i = 37 then 0 else tkv ar na (dvT2 L n i na t)
def dvP (L : Nat → Nat) (n i : Nat) (ar : Nat → Int64) (na t : Nat) : List Nat × Option Nat := pcs (rdF L n i).2.1 (rdF L n i).2.2.1 (rdF L n i).2.2.2.1 (dvQ L n i ar na t) (dvK L n i) (dvV L n i ar na t)
def dvG (L : Nat → Nat) (n i : Nat) (ar : Nat → Int64) (na t : Nat) : List Nat := pcG (grt (L (rdAt L n i))) (dvP L n i ar na t).1
def dvF (L : Nat → Nat) (n i : Nat) (ar : Nat → Int64) (na t : Nat) : List Nat := fld (dvW L n i ar na t).1 (rdF L n i).2.2.2.2.1 (dvW L n i ar na t).2 (dvG L n i ar na t) (dvP L n i ar na t).2
theorem dvT1_le {L : Nat → Nat} {n i na t : Nat} (h : t ≤ na) : dvT1 L n i na t ≤ na := sT_le h
theorem dvT2_le {L : Nat → Nat} {n i na t : Nat} (h : t ≤ na) : dvT2 L n i na t ≤ na := sT_le (dvT1_le h)
theorem dvT3_le {L : Nat → Nat} {n i na t : Nat} (h : t ≤ na) : dvT3 L n i na t ≤ na := by unfold dvT3; split; exact dvT2_le h; exact tkn_le (dvT2_le h)
theorem dvQ_le {L : Nat → Nat} {n i : Nat} {ar : Nat → Int64} {na t : Nat} (h : rdOk L n i = true) : ∀ k, dvQ L n i ar na t = some k → k ≤ 200 := sP_le (pp_200 (rdOk_all h).2.1)
theorem dvW_le {L : Nat → Nat} {n i : Nat} {ar : Nat → Int64} {na t : Nat} (h : rdOk L n i = true) : (dvW L n i ar na t).2 ≤ 200 := sW_le (pw_200 (rdOk_all h).1)
/-- all that a format puts out -/
def pua (L : Nat → Nat) (n : Nat) (ar : Nat → Int64) (na : Nat) : Nat → Nat → List Nat → Nat → Nat → Option (List Nat × Nat × Nat)
  | 0, _, os, t, d => some (os, t, d)
  | k + 1, i, os, t, d => if n ≤ i then some (os, t, d) else if L i = 37 then (if os.length + (dvF L n i ar na t).length ≤ 4000 then pua L n ar na k (rdAt L n i + 1) (os ++ dvF L n i ar na t) (dvT3 L n i na t) (d + 1) else none) else (if os.length < 4000 then pua L n ar na k (i + 1) (os ++ [L i]) t d else none)
theorem pua_s (L : Nat → Nat) (n : Nat) (ar : Nat → Int64) (na k i : Nat) (os : List Nat) (t d : Nat) : pua L n ar na (k + 1) i os t d = if n ≤ i then some (os, t, d) else if L i = 37 then (if os.length + (dvF L n i ar na t).length ≤ 4000 then pua L n ar na k (rdAt L n i + 1) (os ++ dvF L n i ar na t) (dvT3 L n i na t) (d + 1) else none) else (if os.length < 4000 then pua L n ar na k (i + 1) (os ++ [L i]) t d else none) := rfl
theorem flt_z (pl bl ha : Bool) (q : Option Nat) (kk : Nat) (v : Int64) : ∀ k, (flt pl bl ha q kk v).2 = some k → k ≤ (flt pl bl ha q kk v).1.length := by
  intro k
  unfold flt
  split
  · intro h; cases h
  split
  · intro h
    injection h with h
    subst h
    show _ ≤ (_ ++ ([48, 120] ++ _) : List Nat).length
    rw [List.length_append, List.length_append]
    show _ ≤ _ + (2 + _)
    omega
  · intro h
    injection h with h
    subst h
    show _ ≤ (_ ++ _ : List Nat).length
    rw [List.length_append]
    exact Nat.le_add_right _ _
theorem ifn_le {q : Option Nat} {a b k : Nat} (hab : a ≤ b) (h : (if q = none then some a else none) = some k) : k ≤ b := by
  split at h
  · injection h with h; omega
  · cases h
theorem ap_le (a b : List Nat) : a.length ≤ (a ++ b).length := by rw [List.length_append]; exact Nat.le_add_right _ _
theorem pcs_z (pl bl ha : Bool) (q : Option Nat) (kk : Nat) (v : Int64) : ∀ k, (pcs pl bl ha q kk v).2 = some k → k ≤ (pcs pl bl ha q kk v).1.length := by
  intro k
  unfold pcs
  split
  · intro h; cases h
  split
  · intro h; cases h
  split
  · exact fun h => ifn_le (ap_le _ _) h
  split
  · exact fun h => ifn_le (ap_le _ _) h
  split
  · exact fun h => ifn_le (ap_le _ _) h
  split
  · exact fun h => ifn_le (ap_le _ _) h
  · exact flt_z pl bl ha q kk v k
theorem frg_none (c : Nat → Nat) : ∀ (k i : Nat), i + k ≤ 1000 → frg c i k = -1 → ∀ j, i ≤ j → j < i + k → 32 ≤ c j ∧ c j ≤ 126
  | 0, i, _, _, j, h1, h2 => by omega
  | k + 1, i, hb, h, j, h1, h2 => by
    rw [frg_s] at h
    split at h
    · exfalso
      have : (nI i).toInt = (-1 : Int32).toInt := congrArg Int32.toInt h
      rw [nI_toInt (by omega), show (-1 : Int32).toInt = -1 by decide +kernel] at this
      omega
    · rename_i hc
      by_cases hj : j = i
      · subst hj; omega
      · exact frg_none c k (i + 1) (by omega) h j (by omega) (by omega)
theorem nI_m1 {a : Nat} (h : a ≤ 1000) : ¬ nI a = -1 := by
  intro q
  have : (nI a).toInt = (-1 : Int32).toInt := congrArg Int32.toInt q
  rw [nI_toInt (by omega), show (-1 : Int32).toInt = -1 by decide +kernel] at this
  omega
theorem mx_row {a b : Nat} (h : a ≤ b) (hb : b ≤ 1000) : (if nI a < nI b then nI b else nI a) = nI b := by
  by_cases q : a < b
  · rw [if_pos (nI_lt q (by omega))]
  · have : a = b := by omega
    subst this
    split <;> rfl
