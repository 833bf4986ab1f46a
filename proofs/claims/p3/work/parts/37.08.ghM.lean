/-! ===== the reference: its ghosts ===== -/
def cntM (a o : Nat) (s : Int) (X : XT) : Nat → Int
  | 0 => 0
  | n + 1 => cntM a o s X n + (if X.1 11 n = s ∧ X.1 a (o + n) ≠ -1 then 1 else 0)
theorem cntM_bd {a o : Nat} {s : Int} {X : XT} : ∀ n : Nat, 0 ≤ cntM a o s X n ∧ cntM a o s X n ≤ n
  | 0 => ⟨Int.le_refl _, Int.le_refl _⟩
  | n + 1 => by
    have h := cntM_bd (a := a) (o := o) (s := s) (X := X) n
    unfold cntM
    split <;> omega
theorem cntM_y {a o : Nat} {s : Int} {X : XT} {i : Int} (h0 : 0 ≤ i) (h1 : X.1 11 i.toNat = s) (h2 : X.1 a (o + i.toNat) ≠ -1) : cntM a o s X (i + 1).toNat = cntM a o s X i.toNat + 1 := by
  have e : (i + 1).toNat = i.toNat + 1 := by omega
  rw [e]
  show _ + (if _ then _ else _) = _
  rw [if_pos ⟨h1, h2⟩]
theorem cntM_n {a o : Nat} {s : Int} {X : XT} {i : Int} (h0 : 0 ≤ i) (h : X.1 11 i.toNat ≠ s ∨ X.1 a (o + i.toNat) = -1) : cntM a o s X (i + 1).toNat = cntM a o s X i.toNat := by
  have e : (i + 1).toNat = i.toNat + 1 := by omega
  rw [e]
  show _ + (if _ then _ else _) = _
  rw [if_neg (fun q => h.elim (fun r => r q.1) (fun r => q.2 r))]
  omega
theorem cntM_cg {a o b q : Nat} {s : Int} {X Y : XT} : ∀ n : Nat, (∀ i, i < n → Y.1 11 i = X.1 11 i) → (∀ i, i < n → Y.1 b (q + i) = X.1 a (o + i)) → cntM b q s Y n = cntM a o s X n
  | 0, _, _ => rfl
  | n + 1, h1, h2 => by
    unfold cntM
    rw [cntM_cg n (fun i hi => h1 i (by omega)) (fun i hi => h2 i (by omega)), h1 n (by omega), h2 n (by omega)]
theorem cntM_mono {a o : Nat} {s : Int} {X : XT} {n : Nat} : ∀ m : Nat, n ≤ m → cntM a o s X n ≤ cntM a o s X m
  | 0, h => by
    obtain rfl : n = 0 := by omega
    exact Int.le_refl _
  | m + 1, h => by
    rcases Nat.lt_or_ge m n with q | q
    · obtain rfl : n = m + 1 := by omega
      exact Int.le_refl _
    · have t := cntM_mono (a := a) (o := o) (s := s) (X := X) m q
      have e : cntM a o s X (m + 1) = cntM a o s X m + (if X.1 11 m = s ∧ X.1 a (o + m) ≠ -1 then 1 else 0) := rfl
      rw [e]
      split <;> omega
def menN (X : XT) : Nat := min (X.1 0 25).toNat 7
def menK (X : XT) : Nat := min (X.1 0 25).toNat 6
def stM (s : Int) (X : XT) : Int := if cntM 12 0 s X (menN X) = 0 then 0 else 1
def kpM (d : Nat) (X : XT) : Int := if cntM 44 (6 * d) 0 X (menK X) = 0 ∨ cntM 44 (6 * d) 1 X (menK X) = 0 then 0 else 1
def knM (X : XT) : Nat → Int
  | 0 => 0
  | n + 1 => knM X n + (if X.1 41 n = 0 then 0 else 1)
theorem knM_bd {X : XT} : ∀ n : Nat, 0 ≤ knM X n ∧ knM X n ≤ n
  | 0 => ⟨Int.le_refl _, Int.le_refl _⟩
  | n + 1 => by
    have h := knM_bd (X := X) n
    unfold knM
    split <;> omega
theorem knM_cg {X Y : XT} : ∀ n : Nat, (∀ i, i < n → Y.1 41 i = X.1 41 i) → knM Y n = knM X n
  | 0, _ => rfl
  | n + 1, h => by
    unfold knM
    rw [knM_cg n (fun i hi => h i (by omega)), h n (by omega)]
def knA (X : XT) : Int := if X.1 41 0 = 0 then knM X 16384 else knM X 16384
theorem knA_eq (X : XT) : knA X = knM X 16384 := by
  unfold knA
  split <;> rfl
theorem knA_bd (X : XT) : 0 ≤ knA X ∧ knA X ≤ 16384 := by
  rw [knA_eq]
  exact knM_bd (X := X) 16384
theorem knA_cg {X Y : XT} (h : ∀ i, Y.1 41 i = X.1 41 i) : knA Y = knA X := by
  rw [knA_eq, knA_eq]
  exact knM_cg 16384 (fun i _ => h i)
def g5M (k : Nat) (X : XT) : Int := match k with
  | 0 => stM 0 X
  | 1 => stM 1 X
  | 2 => kpM 0 X
  | 3 => kpM 1 X
  | 4 => kpM 2 X
  | 5 => knA X
  | _ => 0
/-- boards that were told have their columns and rows: told, and in the images -/
def BOK (X : XT) : Prop := ∀ s : Nat, s < 4 → ∀ k : Nat, k < 2 → (k : Int) < X.1 5 (3 * s) → (2 ≤ X.1 6 (102 * s + 51 * k) ∧ X.1 6 (102 * s + 51 * k) ≤ 6) ∧ 2 ≤ X.1 6 (102 * s + 51 * k + 1) ∧ X.1 6 (102 * s + 51 * k + 1) ≤ 6
theorem bok_fr {md : List (Nat × Option Nat)} {X Y : XT} (h : BOK X) (hF : FR md X Y) (ho : ovl [(5, none), (6, none)] md = false) : BOK Y := by
  intro s hs k hk hj
  rw [(hF 5 _ (ovl_no ho rfl)).1] at hj
  rw [(hF 6 _ (ovl_no ho rfl)).1, (hF 6 _ (ovl_no ho rfl)).1]
  exact h s hs k hk hj
def gM : GT := (g5M, BOK)
theorem stM_01 (s : Int) (X : XT) : 0 ≤ stM s X ∧ stM s X ≤ 1 := by
  unfold stM
  split <;> omega
theorem kpM_01 (s : Nat) (X : XT) : 0 ≤ kpM s X ∧ kpM s X ≤ 1 := by
  unfold kpM
  split <;> omega
theorem wgM : WGi vM gM := by
  intro k X q hk hH hE hq
  clear hk
  generalize k - 900 = j at hq ⊢
  match j with
  | 0 => cases hq; exact stM_01 0 X
  | 1 => cases hq; exact stM_01 1 X
  | 2 => cases hq; exact kpM_01 0 X
  | 3 => cases hq; exact kpM_01 1 X
  | 4 => cases hq; exact kpM_01 2 X
  | 5 => cases hq; exact knA_bd X
  | j + 6 => cases hq
theorem stM_cg {s : Int} {X Y : XT} (h0 : Y.1 0 25 = X.1 0 25) (h1 : ∀ i, i < 7 → Y.1 11 i = X.1 11 i) (h2 : ∀ i, i < 7 → Y.1 12 i = X.1 12 i) : stM s Y = stM s X := by
  have hn : menN Y = menN X := by
    unfold menN
    rw [h0]
  have hb : menN X ≤ 7 := Nat.min_le_right _ _
  unfold stM
  rw [hn, cntM_cg (a := 12) (o := 0) (X := X) (menN X) (fun i hi => h1 i (by omega)) (fun i hi => by rw [Nat.zero_add]; exact h2 i (by omega))]
theorem kpM_cg {d : Nat} {X Y : XT} (h0 : Y.1 0 25 = X.1 0 25) (h1 : ∀ i, i < 6 → Y.1 11 i = X.1 11 i) (h2 : ∀ i, i < 6 → Y.1 44 (6 * d + i) = X.1 44 (6 * d + i)) : kpM d Y = kpM d X := by
  have hn : menK Y = menK X := by
    unfold menK
    rw [h0]
  have hb : menK X ≤ 6 := Nat.min_le_right _ _
  unfold kpM
  rw [hn, cntM_cg (a := 44) (o := 6 * d) (s := 0) (X := X) (menK X) (fun i hi => h1 i (by omega)) (fun i hi => h2 i (by omega)), cntM_cg (a := 44) (o := 6 * d) (s := 1) (X := X) (menK X) (fun i hi => h1 i (by omega)) (fun i hi => h2 i (by omega))]
theorem kf_M (d : Nat) (hd : d < 3) (i : Nat) (hi : i < 6) : inM (ftM.getD (2 + d) []) 44 (6 * d + i) = true := by
  have : ∀ d, d < 3 → ∀ i, i < 6 → inM (ftM.getD (2 + d) []) 44 (6 * d + i) = true := by decide +kernel
  exact this d hd i hi
theorem gM_cg (j : Nat) {X Y : XT} (h : ∀ a b, inM (ftM.getD j []) a b = true → sameAt a b X Y) : gM.1 j Y = gM.1 j X := by
  match j with
  | 0 => exact stM_cg (h 0 25 (by decide)).1 (fun i _ => (h 11 i rfl).1) (fun i _ => (h 12 i rfl).1)
  | 1 => exact stM_cg (h 0 25 (by decide)).1 (fun i _ => (h 11 i rfl).1) (fun i _ => (h 12 i rfl).1)
  | 2 => exact kpM_cg (h 0 25 (by decide)).1 (fun i _ => (h 11 i rfl).1) (fun i hi => (h 44 _ (kf_M 0 (by omega) i hi)).1)
  | 3 => exact kpM_cg (h 0 25 (by decide)).1 (fun i _ => (h 11 i rfl).1) (fun i hi => (h 44 _ (kf_M 1 (by omega) i hi)).1)
  | 4 => exact kpM_cg (h 0 25 (by decide)).1 (fun i _ => (h 11 i rfl).1) (fun i hi => (h 44 _ (kf_M 2 (by omega) i hi)).1)
  | 5 => exact knA_cg (fun i => (h 41 i rfl).1)
  | j + 6 => exact show (0 : Int) = 0 from rfl
theorem wdM : WD vM gM := ⟨fun k X Y _ h => gM_cg (k - 900) h, fun X Y h hE s hs k hk hj => by
  rw [(h 5 _ rfl).1] at hj
  rw [(h 6 _ rfl).1, (h 6 _ rfl).1]
  exact hE s hs k hk hj, by decide⟩
theorem wt1M (k : Nat) : (shM k).1 = 1 → (teM k = 0 → tyM k = .int) ∧ (teM k = 1 → tyM k = .byte) ∧ (teM k = 2 → tyM k = .boolean) := by
  match k with
  | 0 => exact fun h => absurd h (by decide)
  | 1 => exact fun _ => ⟨fun q => absurd q (by decide), fun _ => rfl, fun q => absurd q (by decide)⟩
  | 2 => exact fun _ => ⟨fun _ => rfl, fun q => absurd q (by decide), fun q => absurd q (by decide)⟩
  | 3 => exact fun _ => ⟨fun _ => rfl, fun q => absurd q (by decide), fun q => absurd q (by decide)⟩
  | 4 => exact fun _ => ⟨fun _ => rfl, fun q => absurd q (by decide), fun q => absurd q (by decide)⟩
  | 5 => exact fun _ => ⟨fun _ => rfl, fun q => absurd q (by decide), fun q => absurd q (by decide)⟩
  | 6 => exact fun _ => ⟨fun _ => rfl, fun q => absurd q (by decide), fun q => absurd q (by decide)⟩
  | 7 => exact fun _ => ⟨fun _ => rfl, fun q => absurd q (by decide), fun q => absurd q (by decide)⟩
  | 8 => exact fun _ => ⟨fun _ => rfl, fun q => absurd q (by decide), fun q => absurd q (by decide)⟩
  | 9 => exact fun _ => ⟨fun _ => rfl, fun q => absurd q (by decide), fun q => absurd q (by decide)⟩
  | 10 => exact fun _ => ⟨fun _ => rfl, fun q => absurd q (by decide), fun q => absurd q (by decide)⟩
  | 11 => exact fun _ => ⟨fun _ => rfl, fun q => absurd q (by decide), fun q => absurd q (by decide)⟩
  | 12 => exact fun _ => ⟨fun _ => rfl, fun q => absurd q (by decide), fun q => absurd q (by decide)⟩
  | 13 => exact fun _ => ⟨fun _ => rfl, fun q => absurd q (by decide), fun q => absurd q (by decide)⟩
  | 14 => exact fun h => absurd h (by decide)
  | 15 => exact fun h => absurd h (by decide)
  | 16 => exact fun h => absurd h (by decide)
  | 17 => exact fun _ => ⟨fun _ => rfl, fun q => absurd q (by decide), fun q => absurd q (by decide)⟩
  | 18 => exact fun h => absurd h (by decide)
  | 19 => exact fun h => absurd h (by decide)
  | 20 => exact fun h => absurd h (by decide)
  | 21 => exact fun h => absurd h (by decide)
  | 22 => exact fun _ => ⟨fun _ => rfl, fun q => absurd q (by decide), fun q => absurd q (by decide)⟩
  | 23 => exact fun h => absurd h (by decide)
  | 24 => exact fun h => absurd h (by decide)
  | 25 => exact fun h => absurd h (by decide)
  | 26 => exact fun _ => ⟨fun _ => rfl, fun q => absurd q (by decide), fun q => absurd q (by decide)⟩
  | 27 => exact fun _ => ⟨fun _ => rfl, fun q => absurd q (by decide), fun q => absurd q (by decide)⟩
  | 28 => exact fun _ => ⟨fun _ => rfl, fun q => absurd q (by decide), fun q => absurd q (by decide)⟩
  | 29 => exact fun _ => ⟨fun _ => rfl, fun q => absurd q (by decide), fun q => absurd q (by decide)⟩
  | 30 => exact fun _ => ⟨fun _ => rfl, fun q => absurd q (by decide), fun q => absurd q (by decide)⟩
  | 31 => exact fun _ => ⟨fun _ => rfl, fun q => absurd q (by decide), fun q => absurd q (by decide)⟩
  | 32 => exact fun h => absurd h (by decide)
  | 33 => exact fun h => absurd h (by decide)
  | 34 => exact fun h => absurd h (by decide)
  | 35 => exact fun _ => ⟨fun _ => rfl, fun q => absurd q (by decide), fun q => absurd q (by decide)⟩
  | 36 => exact fun _ => ⟨fun _ => rfl, fun q => absurd q (by decide), fun q => absurd q (by decide)⟩
  | 37 => exact fun h => absurd h (by decide)
  | 38 => exact fun _ => ⟨fun q => absurd q (by decide), fun q => absurd q (by decide), fun _ => rfl⟩
  | 39 => exact fun h => absurd h (by decide)
  | 40 => exact fun h => absurd h (by decide)
  | 41 => exact fun _ => ⟨fun q => absurd q (by decide), fun q => absurd q (by decide), fun _ => rfl⟩
  | 42 => exact fun h => absurd h (by decide)
  | 43 => exact fun _ => ⟨fun _ => rfl, fun q => absurd q (by decide), fun q => absurd q (by decide)⟩
  | 44 => exact fun _ => ⟨fun _ => rfl, fun q => absurd q (by decide), fun q => absurd q (by decide)⟩
  | 45 => exact fun _ => ⟨fun _ => rfl, fun q => absurd q (by decide), fun q => absurd q (by decide)⟩
  | 46 => exact fun _ => ⟨fun _ => rfl, fun q => absurd q (by decide), fun q => absurd q (by decide)⟩
  | 47 => exact fun _ => ⟨fun _ => rfl, fun q => absurd q (by decide), fun q => absurd q (by decide)⟩
  | 48 => exact fun _ => ⟨fun q => absurd q (by decide), fun q => absurd q (by decide), fun _ => rfl⟩
  | k + 49 => exact fun _ => ⟨fun _ => rfl, fun q => absurd (show (0 : Nat) = 1 from q) (by decide), fun q => absurd (show (0 : Nat) = 2 from q) (by decide)⟩
theorem wt2M (k : Nat) : (shM k).1 = 2 → tyM k = .long := by
  match k with
  | 0 => exact fun h => absurd h (by decide)
  | 1 => exact fun h => absurd h (by decide)
  | 2 => exact fun h => absurd h (by decide)
  | 3 => exact fun h => absurd h (by decide)
  | 4 => exact fun h => absurd h (by decide)
  | 5 => exact fun h => absurd h (by decide)
  | 6 => exact fun h => absurd h (by decide)
  | 7 => exact fun h => absurd h (by decide)
  | 8 => exact fun h => absurd h (by decide)
  | 9 => exact fun h => absurd h (by decide)
  | 10 => exact fun h => absurd h (by decide)
  | 11 => exact fun h => absurd h (by decide)
  | 12 => exact fun h => absurd h (by decide)
  | 13 => exact fun h => absurd h (by decide)
  | 14 => exact fun _ => rfl
  | 15 => exact fun _ => rfl
  | 16 => exact fun _ => rfl
  | 17 => exact fun h => absurd h (by decide)
  | 18 => exact fun _ => rfl
  | 19 => exact fun _ => rfl
  | 20 => exact fun _ => rfl
  | 21 => exact fun _ => rfl
  | 22 => exact fun h => absurd h (by decide)
  | 23 => exact fun _ => rfl
  | 24 => exact fun _ => rfl
  | 25 => exact fun _ => rfl
  | 26 => exact fun h => absurd h (by decide)
  | 27 => exact fun h => absurd h (by decide)
  | 28 => exact fun h => absurd h (by decide)
  | 29 => exact fun h => absurd h (by decide)
  | 30 => exact fun h => absurd h (by decide)
  | 31 => exact fun h => absurd h (by decide)
  | 32 => exact fun _ => rfl
  | 33 => exact fun _ => rfl
  | 34 => exact fun _ => rfl
  | 35 => exact fun h => absurd h (by decide)
  | 36 => exact fun h => absurd h (by decide)
  | 37 => exact fun _ => rfl
  | 38 => exact fun h => absurd h (by decide)
  | 39 => exact fun _ => rfl
  | 40 => exact fun _ => rfl
  | 41 => exact fun h => absurd h (by decide)
  | 42 => exact fun _ => rfl
  | 43 => exact fun h => absurd h (by decide)
  | 44 => exact fun h => absurd h (by decide)
  | 45 => exact fun h => absurd h (by decide)
  | 46 => exact fun h => absurd h (by decide)
  | 47 => exact fun h => absurd h (by decide)
  | 48 => exact fun h => absurd h (by decide)
  | k + 49 => exact fun q => absurd (show (1 : Nat) = 2 from q) (by decide)
theorem wt3M (k : Nat) : (shM k).1 = 3 → (∃ S, tyM k = .object S) ∨ ∃ u, tyM k = .array u := by
  match k with
  | 0 => exact fun h => absurd h (by decide)
  | 1 => exact fun h => absurd h (by decide)
  | 2 => exact fun h => absurd h (by decide)
  | 3 => exact fun h => absurd h (by decide)
  | 4 => exact fun h => absurd h (by decide)
  | 5 => exact fun h => absurd h (by decide)
  | 6 => exact fun h => absurd h (by decide)
  | 7 => exact fun h => absurd h (by decide)
  | 8 => exact fun h => absurd h (by decide)
  | 9 => exact fun h => absurd h (by decide)
  | 10 => exact fun h => absurd h (by decide)
  | 11 => exact fun h => absurd h (by decide)
  | 12 => exact fun h => absurd h (by decide)
  | 13 => exact fun h => absurd h (by decide)
  | 14 => exact fun h => absurd h (by decide)
  | 15 => exact fun h => absurd h (by decide)
  | 16 => exact fun h => absurd h (by decide)
  | 17 => exact fun h => absurd h (by decide)
  | 18 => exact fun h => absurd h (by decide)
  | 19 => exact fun h => absurd h (by decide)
  | 20 => exact fun h => absurd h (by decide)
  | 21 => exact fun h => absurd h (by decide)
  | 22 => exact fun h => absurd h (by decide)
  | 23 => exact fun h => absurd h (by decide)
  | 24 => exact fun h => absurd h (by decide)
  | 25 => exact fun h => absurd h (by decide)
  | 26 => exact fun h => absurd h (by decide)
  | 27 => exact fun h => absurd h (by decide)
  | 28 => exact fun h => absurd h (by decide)
  | 29 => exact fun h => absurd h (by decide)
  | 30 => exact fun h => absurd h (by decide)
  | 31 => exact fun h => absurd h (by decide)
  | 32 => exact fun h => absurd h (by decide)
  | 33 => exact fun h => absurd h (by decide)
  | 34 => exact fun h => absurd h (by decide)
  | 35 => exact fun h => absurd h (by decide)
  | 36 => exact fun h => absurd h (by decide)
  | 37 => exact fun h => absurd h (by decide)
  | 38 => exact fun h => absurd h (by decide)
  | 39 => exact fun h => absurd h (by decide)
  | 40 => exact fun h => absurd h (by decide)
  | 41 => exact fun h => absurd h (by decide)
  | 42 => exact fun h => absurd h (by decide)
  | 43 => exact fun h => absurd h (by decide)
  | 44 => exact fun h => absurd h (by decide)
  | 45 => exact fun h => absurd h (by decide)
  | 46 => exact fun h => absurd h (by decide)
  | 47 => exact fun h => absurd h (by decide)
  | 48 => exact fun h => absurd h (by decide)
  | k + 49 => exact fun q => absurd (show (1 : Nat) = 3 from q) (by decide)
theorem wvM {D : va_G} {ad : Nat → Nat} {cA : Nat → ClassId} : WV vM (wM D ad cA) := ⟨rfl, rfl, rfl, wt1M, wt2M, wt3M⟩
