/-! SUMS, DIVISORS, WEIGHTS in numbers -/
def MX : Nat := 9223372036854775807
def sm (f : Nat → Nat) : Nat → Nat
  | 0 => 0
  | n + 1 => sm f n + f n
def gcn (f : Nat → Nat) : Nat → Nat
  | 0 => 0
  | n + 1 => Nat.gcd (gcn f n) (f n)
def dv (f : Nat → Nat) : Nat → Nat := fun l => f l / gcn f 9
def cf (G : Nat → Nat) (i r l : Nat) : Nat := if r = 1 then rgt G i l else 16 - rgt G i l
def ml (G : Nat → Nat) (i r : Nat) (w : Nat → Nat) : Nat → Nat := fun l => w l * cf G i r l
def wt (G : Nat → Nat) : Nat → Nat → Nat
  | 0 => fun l => if G 34 = 1 then G (9 + l) else G l
  | k + 1 => dv (ml G (G (85 + 2 * k)) (G (85 + 2 * k + 1)) (wt G k))
def nz (f : Nat → Nat) : Prop := ∃ l, l < 9 ∧ f l ≠ 0
def mdF (w : Nat → Nat) : Nat → Nat
  | 0 => 0
  | n + 1 => if w (mdF w n) < w (n + 1) then n + 1 else mdF w n
theorem mdF_le (w : Nat → Nat) : ∀ n, mdF w n ≤ n
  | 0 => Nat.le_refl _
  | n + 1 => by
    have := mdF_le w n
    unfold mdF
    split <;> omega
theorem cf_in (G : Nat → Nat) (i r l : Nat) : 1 ≤ cf G i r l ∧ cf G i r l ≤ 15 := by
  have := rgt_in G i l
  unfold cf
  split <;> omega
theorem gcn_dvd (f : Nat → Nat) : ∀ n l, l < n → gcn f n ∣ f l
  | 0, l, h => by omega
  | n + 1, l, h => by
    by_cases e : l = n
    · subst e; exact Nat.gcd_dvd_right _ _
    · exact Nat.dvd_trans (Nat.gcd_dvd_left _ _) (gcn_dvd f n l (by omega))
theorem gcn_pos {f : Nat → Nat} (h : nz f) : 0 < gcn f 9 := by
  obtain ⟨l, hl, h0⟩ := h
  rcases Nat.eq_zero_or_pos (gcn f 9) with e | e
  · have := gcn_dvd f 9 l hl
    rw [e] at this
    exact absurd (Nat.eq_zero_of_zero_dvd this) h0
  · exact e
theorem dv_le (f : Nat → Nat) (l : Nat) : dv f l ≤ f l := Nat.div_le_self _ _
theorem dv_nz {f : Nat → Nat} (h : nz f) : nz (dv f) := by
  obtain ⟨l, hl, h0⟩ := id h
  refine ⟨l, hl, ?_⟩
  have h1 := gcn_dvd f 9 l hl
  have h2 := gcn_pos h
  have h3 : gcn f 9 ≤ f l := Nat.le_of_dvd (by omega) h1
  have h4 := Nat.div_pos h3 h2
  unfold dv
  omega
theorem ml_nz {G : Nat → Nat} {i r : Nat} {f : Nat → Nat} (h : nz f) : nz (ml G i r f) := by
  obtain ⟨l, hl, h0⟩ := h
  refine ⟨l, hl, ?_⟩
  have := cf_in G i r l
  unfold ml
  exact Nat.mul_ne_zero h0 (by omega)
theorem wt_nz {G : Nat → Nat} (h : nz (wt G 0)) : ∀ k, nz (wt G k)
  | 0 => h
  | k + 1 => dv_nz (ml_nz (wt_nz h k))
theorem wt_le {G : Nat → Nat} (h : ∀ l, l < 18 → G l ≤ 2000000000) : ∀ k l, l < 9 → wt G k l ≤ 2000000000 * 15 ^ k
  | 0, l, hl => by
    unfold wt
    split
    · simpa using h (9 + l) (by omega)
    · simpa using h l (by omega)
  | k + 1, l, hl => by
    have h1 := wt_le h k l hl
    have h2 := cf_in G (G (85 + 2 * k)) (G (85 + 2 * k + 1)) l
    refine Nat.le_trans (dv_le _ l) ?_
    unfold ml
    rw [Nat.pow_succ, ← Nat.mul_assoc]
    exact Nat.mul_le_mul h1 h2.2
theorem wt_ml_le {G : Nat → Nat} (h : ∀ l, l < 18 → G l ≤ 2000000000) {k l i r : Nat} (hk : k < 8) (hl : l < 9) : ml G i r (wt G k) l ≤ MX := by
  have h1 := wt_le h k l hl
  have h2 := cf_in G i r l
  have h3 : 15 ^ k ≤ 15 ^ 7 := Nat.pow_le_pow_right (by decide) (by omega)
  unfold ml MX
  have h4 : wt G k l * cf G i r l ≤ (2000000000 * 15 ^ 7) * 15 := Nat.mul_le_mul (Nat.le_trans h1 (Nat.mul_le_mul_left _ h3)) h2.2
  refine Nat.le_trans h4 (by decide)
theorem wt_lt {G : Nat → Nat} (h : ∀ l, l < 18 → G l ≤ 2000000000) {k l : Nat} (hk : k ≤ 8) (hl : l < 9) : wt G k l < 9223372036854775808 := by
  have h1 := wt_le h k l hl
  have h3 : 15 ^ k ≤ 15 ^ 8 := Nat.pow_le_pow_right (by decide) (by omega)
  have h4 := Nat.mul_le_mul_left 2000000000 h3
  exact Nat.lt_of_le_of_lt (Nat.le_trans h1 h4) (by decide)
/-- sums as the reference makes them: what is too great is told, and counts as 0 -/
def tv (a b : Nat) : Nat := if a * b ≤ MX then a * b else 0
def tf (a b : Nat) : Bool := decide (MX < a * b)
def pv (a b : Nat) : Nat := if a + b ≤ MX then a + b else 0
def pf (a b : Nat) : Bool := decide (MX < a + b)
theorem tv_le (a b : Nat) : tv a b ≤ MX := by unfold tv; split <;> omega
theorem pv_le (a b : Nat) : pv a b ≤ MX := by unfold pv; split <;> omega
theorem tv_comm (a b : Nat) : tv a b = tv b a := by unfold tv; rw [Nat.mul_comm]
theorem tf_comm (a b : Nat) : tf a b = tf b a := by unfold tf; rw [Nat.mul_comm]
theorem tv_ok {a b : Nat} (h : a * b ≤ MX) : tv a b = a * b := if_pos h
theorem tf_ok {a b : Nat} (h : a * b ≤ MX) : tf a b = false := by unfold tf; simp; omega
theorem pv_ok {a b : Nat} (h : a + b ≤ MX) : pv a b = a + b := if_pos h
theorem pf_ok {a b : Nat} (h : a + b ≤ MX) : pf a b = false := by unfold pf; simp; omega
theorem tf_bad {a b : Nat} (h : MX < a * b) : tf a b = true := by unfold tf; simpa using h
theorem pf_bad {a b : Nat} (h : MX < a + b) : pf a b = true := by unfold pf; simpa using h
def gst (c f : Nat → Nat) : Nat → Nat × Bool
  | 0 => (0, false)
  | n + 1 => (pv (gst c f n).1 (tv (c n) (f n)), ((gst c f n).2 || tf (c n) (f n)) || pf (gst c f n).1 (tv (c n) (f n)))
theorem gst_s (c f : Nat → Nat) (n : Nat) : gst c f (n + 1) = (pv (gst c f n).1 (tv (c n) (f n)), ((gst c f n).2 || tf (c n) (f n)) || pf (gst c f n).1 (tv (c n) (f n))) := rfl
theorem gst_le (c f : Nat → Nat) : ∀ n, (gst c f n).1 ≤ MX
  | 0 => by show 0 ≤ MX; exact Nat.zero_le _
  | n + 1 => pv_le _ _
theorem gst_ok (c f : Nat → Nat) : ∀ n, sm (fun l => c l * f l) n ≤ MX → gst c f n = (sm (fun l => c l * f l) n, false)
  | 0, _ => rfl
  | n + 1, h => by
    unfold sm at h
    have h1 := gst_ok c f n (by omega)
    rw [gst_s, h1, tv_ok (by omega), tf_ok (by omega), pv_ok (by dsimp only; omega), pf_ok (by dsimp only; omega)]
    rfl
theorem gst_bad (c f : Nat → Nat) : ∀ n, MX < sm (fun l => c l * f l) n → (gst c f n).2 = true
  | 0, h => by unfold sm at h; omega
  | n + 1, h => by
    rw [gst_s]
    by_cases h0 : MX < sm (fun l => c l * f l) n
    · rw [gst_bad c f n h0]; rfl
    · have h1 := gst_ok c f n (by omega)
      by_cases h2 : MX < c n * f n
      · rw [tf_bad h2]; simp
      · rw [h1, tv_ok (by omega), pf_bad (by unfold sm at h; dsimp only at h ⊢; omega)]; simp
def fl (iv : mI) (b : Bool) : mI := if b = true then upi iv 118 5 (nI 1) else iv
theorem fl_f (iv : mI) : fl iv false = iv := rfl
theorem fl_t (iv : mI) : fl iv true = upi iv 118 5 (nI 1) := rfl
theorem upi_upi (iv : mI) (q k : Nat) (x y : Int32) : upi (upi iv q k x) q k y = upi iv q k y := by
  funext a j; unfold upi; split <;> rfl
theorem fl_fl (iv : mI) (a b : Bool) : fl (fl iv a) b = fl iv (a || b) := by
  cases a <;> cases b <;> simp [fl, upi_upi]
theorem fl_up (iv : mI) (b : Bool) : upi (fl iv b) 118 5 (nI 1) = fl iv true := by
  cases b <;> simp [fl, upi_upi]
theorem fl_at {iv : mI} {b : Bool} {q k : Nat} (h : ¬ (q = 118 ∧ k = 5)) : fl iv b q k = iv q k := by
  unfold fl; split
  · unfold upi; rw [if_neg h]
  · rfl
theorem fl_5 {iv : mI} {b : Bool} (h : iv 118 5 = nI 0) : fl iv b 118 5 = if b = true then nI 1 else nI 0 := by
  cases b <;> simp [fl, upi, h]
def stW (jv : mJ) (f : Nat → Nat) (n : Nat) : mJ := fun q k => if q = 122 ∧ k < n then lN (f k) else jv q k
theorem stW_0 (jv : mJ) (f : Nat → Nat) : stW jv f 0 = jv := by funext q k; simp [stW]
theorem stW_s (jv : mJ) (f : Nat → Nat) (n : Nat) : upj (stW jv f n) 122 n (lN (f n)) = stW jv f (n + 1) := by
  funext q k
  unfold upj stW
  by_cases h : q = 122
  · by_cases h2 : k = n
    · subst h2; simp [h]
    · by_cases h3 : k < n
      · simp [h, h3, h2]; intro; omega
      · simp [h, h3, h2]; intro; omega
  · simp [h]
theorem stW_lt {jv : mJ} {f : Nat → Nat} {n k : Nat} (h : k < n) : stW jv f n 122 k = lN (f k) := by simp [stW, h]
theorem stW_ge {jv : mJ} {f : Nat → Nat} {n k : Nat} (h : n ≤ k) : stW jv f n 122 k = jv 122 k := by simp [stW]; intro; omega
theorem stW_ne {jv : mJ} {f : Nat → Nat} {n q k : Nat} (h : q ≠ 122) : stW jv f n q k = jv q k := by simp [stW, h]
theorem stW_stW (jv : mJ) (f g : Nat → Nat) (n : Nat) : stW (stW jv f n) g n = stW jv g n := by
  funext q k; unfold stW; split <;> simp_all
theorem stW_congr {jv : mJ} {f g : Nat → Nat} {n : Nat} (h : ∀ k, k < n → f k = g k) : stW jv f n = stW jv g n := by
  funext q k; unfold stW; split
  · rename_i e; rw [h k e.2]
  · rfl
theorem q_lne0 {a : Nat} (h : a < 9223372036854775808) : (lN a = 0) = (a = 0) := by
  rw [show (0 : Int64) = lN 0 from rfl, q_leq h (by decide)]
