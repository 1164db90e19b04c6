def rpB (bn : Nat → Nat) : Nat → Int32 := fun e => nI (bn e) - 1
theorem rpB_at (bn : Nat → Nat) (e : Nat) : rpB bn e = nI (bn e) - 1 := rfl
theorem rpB_s (n : Nat) : nI (n + 1) - 1 = nI n := nI_pred n
theorem rpB_p (n : Nat) : nI n - 1 + 1 = nI n := by rw [Int32.sub_add_cancel]
theorem rpB_n {n : Nat} (h : n ≤ 16) : nI n - 1 = -1 ↔ n = 0 := by
  rcases Nat.eq_zero_or_pos n with z | z
  · subst z
    exact ⟨fun _ => rfl, fun _ => by decide⟩
  · refine ⟨fun q => ?_, fun q => by omega⟩
    obtain ⟨k, rfl⟩ : ∃ k, n = k + 1 := ⟨n - 1, by omega⟩
    rw [nI_pred] at q
    have := nI_pos' (n := k) (by omega)
    rw [q] at this
    exact absurd this (by decide)
theorem rpB_le {n : Nat} (h : n ≤ 16) : nI n - 1 ≤ 0 ↔ n ≤ 1 := by
  rcases Nat.eq_zero_or_pos n with z | z
  · subst z
    exact ⟨fun _ => by omega, fun _ => by decide⟩
  · obtain ⟨k, rfl⟩ : ∃ k, n = k + 1 := ⟨n - 1, by omega⟩
    rw [nI_pred, ← nI_0, nI_leI (by omega) (by decide)]
    omega
theorem rpB_lt {n : Nat} (h : n ≤ 16) : nI n - 1 < 0 ↔ n = 0 := by
  rcases Nat.eq_zero_or_pos n with z | z
  · subst z
    exact ⟨fun _ => by omega, fun _ => by decide⟩
  · obtain ⟨k, rfl⟩ : ∃ k, n = k + 1 := ⟨n - 1, by omega⟩
    rw [nI_pred]
    exact ⟨fun q => absurd q (nI_pos (by omega)), fun q => by omega⟩
theorem rpB_0 {n : Nat} (h : n ≤ 16) : nI n - 1 = 0 ↔ n = 1 := by
  rcases Nat.eq_zero_or_pos n with z | z
  · subst z
    exact ⟨fun q => absurd q (by decide), fun q => by omega⟩
  · obtain ⟨k, rfl⟩ : ∃ k, n = k + 1 := ⟨n - 1, by omega⟩
    rw [nI_pred, ← nI_0, nI_eq (by omega) (by decide)]
    omega
theorem rpB_upd (bn : Nat → Nat) (i v : Nat) : upd (rpB bn) i (nI v - 1) = rpB (fun j => if j = i then v else bn j) := by
  funext j
  by_cases h : j = i
  · subst h
    rw [pk_us, rpB_at, if_pos rfl]
  · rw [pk_un h, rpB_at, rpB_at, if_neg h]
theorem sumN_pt {f g : Nat → Nat} {b : Nat} : ∀ n, b < n → (∀ k, k < n → k ≠ b → f k = g k) → sumN f n + g b = sumN g n + f b := by
  intro n
  induction n with
  | zero => intro h; exact absurd h (Nat.not_lt_zero b)
  | succ n ih =>
    intro h hk
    show sumN f n + f n + g b = sumN g n + g n + f b
    by_cases e : b = n
    · subst e
      have : ∀ m, m ≤ b → sumN f m = sumN g m := by
        intro m
        induction m with
        | zero => intro _; rfl
        | succ m ihm =>
          intro hm
          show sumN f m + f m = sumN g m + g m
          rw [ihm (by omega), hk m (by omega) (by omega)]
      rw [this b (Nat.le_refl b)]
      omega
    · have := ih (by omega) (fun k h1 h2 => hk k (by omega) h2)
      have := hk n (by omega) (fun z => e z.symm)
      omega
theorem sumN_eq {f g : Nat → Nat} : ∀ n, (∀ k, k < n → f k = g k) → sumN f n = sumN g n := by
  intro n
  induction n with
  | zero => intro _; rfl
  | succ n ih => intro h; show sumN f n + f n = sumN g n + g n; rw [ih (fun k hk => h k (by omega)), h n (by omega)]
theorem sumN_ex {f : Nat → Nat} : ∀ n, sumN f n ≠ 0 → ∃ k, k < n ∧ f k ≠ 0 := by
  intro n
  induction n with
  | zero => intro h; exact absurd rfl h
  | succ n ih =>
    intro h
    by_cases z : f n = 0
    · obtain ⟨k, h1, h2⟩ := ih (fun q => h (show sumN f n + f n = 0 by omega))
      exact ⟨k, by omega, h2⟩
    · exact ⟨n, by omega, z⟩
theorem sumN_z {f : Nat → Nat} : ∀ n, sumN f n = 0 → ∀ k, k < n → f k = 0 := by
  intro n
  induction n with
  | zero => intro _ k hk; exact absurd hk (Nat.not_lt_zero k)
  | succ n ih =>
    intro h k hk
    have h : sumN f n + f n = 0 := h
    by_cases e : k = n
    · subst e; omega
    · exact ih (by omega) k (by omega)
def arC (E : Nat) (bn cm fr to pr : Nat → Nat) (b : Nat) : Nat := sumN (fun e => if bn e = 0 ∧ cm (fr e) = 1 ∧ to e = b ∧ pr e = 0 then 1 else 0) E
theorem arC_le {E : Nat} {bn cm fr to pr : Nat → Nat} {b : Nat} : arC E bn cm fr to pr b ≤ E := by
  have := sumN_cst (f := fun e => if bn e = 0 ∧ cm (fr e) = 1 ∧ to e = b ∧ pr e = 0 then 1 else 0) (c := 1) E (fun k _ => by show (if _ then 1 else 0) ≤ 1; split <;> omega)
  unfold arC
  omega
def khI (B E : Nat) (bn cm fr to pr io od ar : Nat → Nat) (m x d : Nat) : Prop :=
  ((∀ b, io b ≤ 1) ∧ (∀ e, pr e ≤ 1) ∧ m = sumN io B) ∧
  (∀ j, j < m → od j < B ∧ cm (od j) = 1 ∧ io (od j) = 1) ∧
  (∀ b, b < B → io b = 1 → ∃ j, j < m ∧ od j = b) ∧
  (∀ i j, i < m → j < m → od i = od j → i = j) ∧
  (∀ b, b < B → ar b = arC E bn cm fr to pr b) ∧
  (∀ b, b < B → cm b = 1 → (ar b = 0 ↔ io b = 1)) ∧
  (∀ e, e < E → pr e = 1 → bn e = 0 ∧ ∃ i, i < m ∧ i < x ∧ od i = fr e) ∧
  (∀ j, j < m → ∀ e, e < E → bn e = 0 → cm (fr e) = 1 → to e = od j → ∃ i, i < j ∧ od i = fr e) ∧
  (∀ i, i < d → i < m → ∀ e, e < E → bn e = 0 → fr e = od i → pr e = 1)
def ordOK (B E : Nat) (bn cm fr to od : Nat → Nat) (m : Nat) : Prop := m ≤ B ∧ (∀ j, j < m → od j < B ∧ cm (od j) = 1) ∧ (∀ i j, i < m → j < m → od i = od j → i = j) ∧ (∀ b, b < B → cm b = 1 → ∃ j, j < m ∧ od j = b) ∧ (∀ j, j < m → ∀ e, e < E → bn e = 0 → cm (fr e) = 1 → to e = od j → ∃ i, i < j ∧ od i = fr e)
theorem kh_dec {B E : Nat} {bn cm fr to pr io od ar : Nat → Nat} {m x d e0 : Nat} (hft : ∀ e, e < E → fr e < B ∧ to e < B) (hcl : ∀ e, e < E → cm (fr e) = 1 → cm (to e) = 1) (h : khI B E bn cm fr to pr io od ar m x d) (he : e0 < E) (hb : bn e0 = 0) (hp : pr e0 = 0) (hd : d < m) (hx : d < x) (hf : fr e0 = od d) :
    1 ≤ ar (to e0) ∧ io (to e0) = 0 ∧ m < B ∧
    (ar (to e0) - 1 ≠ 0 → khI B E bn cm fr to (fun e => if e = e0 then 1 else pr e) io od (fun b => if b = to e0 then ar (to e0) - 1 else ar b) m x d) ∧
    (ar (to e0) - 1 = 0 → x ≤ m → khI B E bn cm fr to (fun e => if e = e0 then 1 else pr e) (fun b => if b = to e0 then 1 else io b) (fun j => if j = m then to e0 else od j) (fun b => if b = to e0 then ar (to e0) - 1 else ar b) (m + 1) x d) := by
  obtain ⟨⟨a1, a2, a3⟩, b1, b2, b3, c1, c2, d1, d2, d3⟩ := h
  obtain ⟨q1, q2, q3⟩ := b1 d hd
  have hcf : cm (fr e0) = 1 := by rw [hf]; exact q2
  have hct := hcl e0 he hcf
  have ht := (hft e0 he).2
  have ac : ∀ b, b < B → arC E bn cm fr to (fun e => if e = e0 then 1 else pr e) b = if b = to e0 then ar (to e0) - 1 else ar b := by
    intro b hbB
    have k := sumN_pt (b := e0) (f := fun e => if bn e = 0 ∧ cm (fr e) = 1 ∧ to e = b ∧ (if e = e0 then 1 else pr e) = 0 then 1 else 0) (g := fun e => if bn e = 0 ∧ cm (fr e) = 1 ∧ to e = b ∧ pr e = 0 then 1 else 0) E he (fun k _ hk => by simp [hk])
    have kf : (if bn e0 = 0 ∧ cm (fr e0) = 1 ∧ to e0 = b ∧ (if e0 = e0 then 1 else pr e0) = 0 then 1 else 0) = 0 := by simp
    have kg : (if bn e0 = 0 ∧ cm (fr e0) = 1 ∧ to e0 = b ∧ pr e0 = 0 then 1 else 0) = if to e0 = b then 1 else 0 := by simp [hb, hcf, hp]
    rw [kf, kg] at k
    have c := c1 b hbB
    have c' : arC E bn cm fr to (fun e => if e = e0 then 1 else pr e) b = sumN (fun e => if bn e = 0 ∧ cm (fr e) = 1 ∧ to e = b ∧ (if e = e0 then 1 else pr e) = 0 then 1 else 0) E := rfl
    rw [c']
    unfold arC at c
    by_cases z : b = to e0
    · subst z
      rw [if_pos (show to e0 = to e0 from rfl)]
      rw [if_pos (show to e0 = to e0 from rfl)] at k
      omega
    · rw [if_neg z]
      rw [if_neg (fun w => z w.symm)] at k
      omega
  have ge : 1 ≤ ar (to e0) := by
    have k := sumN_pt (b := e0) (f := fun _ => 0) (g := fun e => if e = e0 then 1 else 0) E he (fun k _ hk => by simp [hk])
    have k2 := sumN_le (f := fun e => if e = e0 then 1 else 0) (g := fun e => if bn e = 0 ∧ cm (fr e) = 1 ∧ to e = to e0 ∧ pr e = 0 then 1 else 0) E (fun k _ => by
      by_cases z : k = e0
      · subst z; simp [hb, hcf, hp]
      · simp [z])
    have c := c1 _ ht
    unfold arC at c
    simp only [if_true] at k
    omega
  have i0 : io (to e0) = 0 := by
    have := a1 (to e0)
    rcases Nat.eq_zero_or_pos (io (to e0)) with z | z
    · exact z
    · have := (c2 _ ht hct).mpr (by omega)
      omega
  have su : ∀ n, to e0 < n → sumN (fun b => if b = to e0 then 1 else io b) n = sumN io n + 1 := by
    intro n hn
    have k := sumN_pt (b := to e0) (f := fun b => if b = to e0 then 1 else io b) (g := io) n hn (fun k _ hk => by simp [hk])
    simp only [if_true] at k
    omega
  have mB : m < B := by
    have k := su B ht
    have k2 := sumN_cst (f := fun b => if b = to e0 then 1 else io b) (c := 1) B (fun k _ => by have := a1 k; show (if k = to e0 then 1 else io k) ≤ 1; split <;> omega)
    omega
  have pr2 : ∀ e, e < E → (if e = e0 then 1 else pr e) = 1 → bn e = 0 ∧ ∃ i, i < m ∧ i < x ∧ od i = fr e := by
    intro e hE hq
    by_cases z : e = e0
    · subst z
      exact ⟨hb, d, hd, hx, hf.symm⟩
    · rw [if_neg z] at hq
      exact d1 e hE hq
  refine ⟨ge, i0, mB, fun hn => ?_, fun hn hxm => ?_⟩
  · refine ⟨⟨a1, fun e => ?_, a3⟩, b1, b2, b3, fun b hbB => (ac b hbB).symm, fun b hbB hc => ?_, pr2, d2, fun i hi him e hE hbe hfe => ?_⟩
    · have := a2 e
      show (if e = e0 then 1 else pr e) ≤ 1
      split <;> omega
    · show (if b = to e0 then ar (to e0) - 1 else ar b) = 0 ↔ _
      by_cases z : b = to e0
      · subst z
        rw [if_pos rfl]
        exact ⟨fun w => absurd w hn, fun w => by omega⟩
      · rw [if_neg z]
        exact c2 b hbB hc
    · have := d3 i hi him e hE hbe hfe
      show (if e = e0 then 1 else pr e) = 1
      split
      · rfl
      · exact this
  · have odl : ∀ j, j < m → (if j = m then to e0 else od j) = od j := fun j hj => by rw [if_neg (by omega)]
    refine ⟨⟨fun b => ?_, fun e => ?_, ?_⟩, fun j hj => ?_, fun b hbB hio => ?_, fun i j hi hj hij => ?_, fun b hbB => (ac b hbB).symm, fun b hbB hc => ?_, fun e hE hq => ?_, fun j hj e hE hbe hce hte => ?_, fun i hi him e hE hbe hfe => ?_⟩
    · have := a1 b
      show (if b = to e0 then 1 else io b) ≤ 1
      split <;> omega
    · have := a2 e
      show (if e = e0 then 1 else pr e) ≤ 1
      split <;> omega
    · rw [su B ht, a3]
    · show (if j = m then to e0 else od j) < B ∧ cm (if j = m then to e0 else od j) = 1 ∧ (if (if j = m then to e0 else od j) = to e0 then 1 else io (if j = m then to e0 else od j)) = 1
      by_cases z : j = m
      · simp only [z, if_true]
        exact ⟨ht, hct, trivial⟩
      · rw [odl j (by omega)]
        obtain ⟨k1, k2, k3⟩ := b1 j (by omega)
        refine ⟨k1, k2, ?_⟩
        split
        · rfl
        · exact k3
    · have hio : (if b = to e0 then 1 else io b) = 1 := hio
      by_cases z : b = to e0
      · exact ⟨m, by omega, by show (if m = m then to e0 else od m) = b; rw [if_pos rfl, z]⟩
      · rw [if_neg z] at hio
        obtain ⟨j, k1, k2⟩ := b2 b hbB hio
        exact ⟨j, by omega, by show (if j = m then to e0 else od j) = b; rw [odl j k1]; exact k2⟩
    · have hij : (if i = m then to e0 else od i) = (if j = m then to e0 else od j) := hij
      by_cases zi : i = m <;> by_cases zj : j = m
      · omega
      · rw [if_pos zi, if_neg zj] at hij
        have := (b1 j (by omega)).2.2
        rw [← hij] at this
        omega
      · rw [if_neg zi, if_pos zj] at hij
        have := (b1 i (by omega)).2.2
        rw [hij] at this
        omega
      · rw [if_neg zi, if_neg zj] at hij
        exact b3 i j (by omega) (by omega) hij
    · show (if b = to e0 then ar (to e0) - 1 else ar b) = 0 ↔ (if b = to e0 then 1 else io b) = 1
      by_cases z : b = to e0
      · subst z
        rw [if_pos rfl, if_pos rfl]
        exact ⟨fun _ => rfl, fun _ => hn⟩
      · rw [if_neg z, if_neg z]
        exact c2 b hbB hc
    · obtain ⟨k1, i, k2, k3, k4⟩ := pr2 e hE hq
      exact ⟨k1, i, by omega, k3, by show (if i = m then to e0 else od i) = fr e; rw [odl i k2]; exact k4⟩
    · have hte : to e = if j = m then to e0 else od j := hte
      by_cases z : j = m
      · rw [if_pos z] at hte
        have pe : (if e = e0 then 1 else pr e) = 1 := by
          have z0 := ac (to e0) ht
          rw [if_pos rfl, hn] at z0
          have k := sumN_z E z0 e hE
          have a2e := a2 e
          by_cases w : e = e0
          · rw [if_pos w]
          · rw [if_neg w]
            simp only [hbe, hce, hte, w, if_false, true_and] at k
            rcases Nat.eq_zero_or_pos (pr e) with y | y
            · simp [y] at k
            · omega
        obtain ⟨k1, i, k2, k3, k4⟩ := pr2 e hE pe
        exact ⟨i, by omega, by show (if i = m then to e0 else od i) = fr e; rw [odl i k2]; exact k4⟩
      · rw [if_neg z] at hte
        obtain ⟨i, k1, k2⟩ := d2 j (by omega) e hE hbe hce hte
        exact ⟨i, k1, by show (if i = m then to e0 else od i) = fr e; rw [odl i (by omega)]; exact k2⟩
    · have him2 : i < m := by omega
      have hfe : fr e = if i = m then to e0 else od i := hfe
      rw [odl i him2] at hfe
      have := d3 i hi him2 e hE hbe hfe
      show (if e = e0 then 1 else pr e) = 1
      split
      · rfl
      · exact this
theorem kh_ok {B E : Nat} {bn cm fr to pr io od ar : Nat → Nat} {m x d : Nat} (hcm : ∀ b, cm b ≤ 1) (h : khI B E bn cm fr to pr io od ar m x d) (hm : m = sumN cm B) : ordOK B E bn cm fr to od m := by
  obtain ⟨⟨a1, a2, a3⟩, b1, b2, b3, c1, c2, d1, d2, d3⟩ := h
  have le : ∀ b, b < B → io b ≤ cm b := by
    intro b hb
    rcases Nat.eq_zero_or_pos (io b) with z | z
    · omega
    · obtain ⟨j, k1, k2⟩ := b2 b hb (by have := a1 b; omega)
      have := (b1 j k1).2.1
      rw [k2] at this
      have := a1 b
      omega
  refine ⟨?_, fun j hj => ⟨(b1 j hj).1, (b1 j hj).2.1⟩, b3, fun b hb hc => ?_, d2⟩
  · have := sumN_cst (f := io) (c := 1) B (fun k _ => a1 k)
    omega
  · have hle := le b hb
    rcases Nat.lt_or_ge (io b) (cm b) with z | z
    · have := sumN_lt B le ⟨b, hb, z⟩
      omega
    · exact b2 b hb (by omega)
theorem kh_no {B E : Nat} {bn cm fr to pr io od ar : Nat → Nat} {m x d : Nat} (hft : ∀ e, e < E → fr e < B ∧ to e < B) (hcm : ∀ b, cm b ≤ 1) (h : khI B E bn cm fr to pr io od ar m x d) (hd : m ≤ d) (hm : m ≠ sumN cm B) : ¬ ∃ r, acR B E bn cm fr to r := by
  obtain ⟨⟨a1, a2, a3⟩, b1, b2, b3, c1, c2, d1, d2, d3⟩ := h
  rintro ⟨r, r1, r2⟩
  have le : ∀ b, b < B → io b ≤ cm b := by
    intro b hb
    rcases Nat.eq_zero_or_pos (io b) with z | z
    · omega
    · obtain ⟨j, k1, k2⟩ := b2 b hb (by have := a1 b; omega)
      have := (b1 j k1).2.1
      rw [k2] at this
      have := a1 b
      omega
  have key : ∀ v b, v + r b = B → b < B → cm b = 1 → io b = 0 → False := by
    intro v
    induction v using Nat.strongRecOn with
    | ind v ih =>
      intro b hv hb hc hi
      have ar0 : ar b ≠ 0 := fun z => by have := (c2 b hb hc).mp z; omega
      rw [c1 b hb] at ar0
      obtain ⟨e, he, hne⟩ := sumN_ex E ar0
      have hne : ¬ (if bn e = 0 ∧ cm (fr e) = 1 ∧ to e = b ∧ pr e = 0 then 1 else 0) = 0 := hne
      have hh : bn e = 0 ∧ cm (fr e) = 1 ∧ to e = b ∧ pr e = 0 := by
        by_cases w : bn e = 0 ∧ cm (fr e) = 1 ∧ to e = b ∧ pr e = 0
        · exact w
        · exact absurd (if_neg w) hne
      obtain ⟨k1, k2, k3, k4⟩ := hh
      have hf := (hft e he).1
      have i0 : io (fr e) = 0 := by
        rcases Nat.eq_zero_or_pos (io (fr e)) with z | z
        · exact z
        · obtain ⟨j, j1, j2⟩ := b2 (fr e) hf (by have := a1 (fr e); omega)
          have := d3 j (by omega) j1 e he k1 j2.symm
          omega
      have rr := r2 e he k1 k2
      have rb := r1 (fr e) hf
      rw [k3] at rr
      exact ih (B - r (fr e)) (by omega) (fr e) (by omega) hf k2 i0
  have lt : sumN io B < sumN cm B := by
    have := sumN_le B le
    omega
  have ex : ∃ b, b < B ∧ io b < cm b := by
    rcases Classical.em (∃ b, b < B ∧ io b < cm b) with z | z
    · exact z
    · have := sumN_eq (f := io) (g := cm) B (fun k hk => by
        have := le k hk
        rcases Nat.lt_or_ge (io k) (cm k) with y | y
        · exact absurd ⟨k, hk, y⟩ z
        · omega)
      omega
  obtain ⟨b, hb, hlt⟩ := ex
  have := hcm b
  exact key (B - r b) b (by have := r1 b hb; omega) hb (by omega) (by omega)
def posN (od : Nat → Nat) : Nat → Nat → Nat
  | 0, _ => 0
  | m + 1, b => if od m = b then m else posN od m b
theorem posN_at {od : Nat → Nat} : ∀ m j, (∀ i j, i < m → j < m → od i = od j → i = j) → j < m → posN od m (od j) = j := by
  intro m
  induction m with
  | zero => intro j _ h; exact absurd h (Nat.not_lt_zero j)
  | succ m ih =>
    intro j hi hj
    show (if od m = od j then m else posN od m (od j)) = j
    by_cases z : od m = od j
    · rw [if_pos z]
      exact hi m j (by omega) hj z
    · rw [if_neg z]
      exact ih j (fun a b ha hb => hi a b (by omega) (by omega)) (by have : j ≠ m := fun w => z (by rw [w]); omega)
theorem ordOK_ac {B E : Nat} {bn cm fr to od : Nat → Nat} {m : Nat} (hB : 0 < B) (hft : ∀ e, e < E → fr e < B ∧ to e < B) (hcl : ∀ e, e < E → cm (fr e) = 1 → cm (to e) = 1) (h : ordOK B E bn cm fr to od m) : acR B E bn cm fr to (fun b => B - 1 - posN od m b) := by
  obtain ⟨h1, h2, h3, h4, h5⟩ := h
  refine ⟨fun b _ => by show B - 1 - posN od m b < B; omega, fun e he hb hc => ?_⟩
  obtain ⟨j, j1, j2⟩ := h4 (to e) (hft e he).2 (hcl e he hc)
  obtain ⟨i, i1, i2⟩ := h5 j j1 e he hb hc j2.symm
  show B - 1 - posN od m (to e) < B - 1 - posN od m (fr e)
  rw [← j2, ← i2, posN_at m j h3 j1, posN_at m i h3 (by omega)]
  omega
