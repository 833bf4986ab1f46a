/-! ===== the class: its world ===== -/
theorem wt1X (k : Nat) : (shX k).1 = 1 → (teX k = 0 → tyX k = .int) ∧ (teX k = 1 → tyX k = .byte) ∧ (teX k = 2 → tyX k = .boolean) := by
  match k with
  | 0 => exact fun h => absurd h (by decide)
  | 1 => exact fun h => absurd h (by decide)
  | 2 => exact fun _ => ⟨fun _ => rfl, fun q => absurd q (by decide), fun q => absurd q (by decide)⟩
  | 3 => exact fun _ => ⟨fun _ => rfl, fun q => absurd q (by decide), fun q => absurd q (by decide)⟩
  | 4 => exact fun h => absurd h (by decide)
  | 5 => exact fun h => absurd h (by decide)
  | 6 => exact fun h => absurd h (by decide)
  | 7 => exact fun h => absurd h (by decide)
  | 8 => exact fun _ => ⟨fun _ => rfl, fun q => absurd q (by decide), fun q => absurd q (by decide)⟩
  | 9 => exact fun _ => ⟨fun _ => rfl, fun q => absurd q (by decide), fun q => absurd q (by decide)⟩
  | 10 => exact fun h => absurd h (by decide)
  | 11 => exact fun _ => ⟨fun _ => rfl, fun q => absurd q (by decide), fun q => absurd q (by decide)⟩
  | 12 => exact fun _ => ⟨fun _ => rfl, fun q => absurd q (by decide), fun q => absurd q (by decide)⟩
  | 13 => exact fun h => absurd h (by decide)
  | 14 => exact fun h => absurd h (by decide)
  | 15 => exact fun _ => ⟨fun _ => rfl, fun q => absurd q (by decide), fun q => absurd q (by decide)⟩
  | 16 => exact fun h => absurd h (by decide)
  | 17 => exact fun h => absurd h (by decide)
  | 18 => exact fun _ => ⟨fun _ => rfl, fun q => absurd q (by decide), fun q => absurd q (by decide)⟩
  | 19 => exact fun h => absurd h (by decide)
  | 20 => exact fun _ => ⟨fun q => absurd q (by decide), fun q => absurd q (by decide), fun _ => rfl⟩
  | 21 => exact fun h => absurd h (by decide)
  | 22 => exact fun h => absurd h (by decide)
  | 23 => exact fun _ => ⟨fun _ => rfl, fun q => absurd q (by decide), fun q => absurd q (by decide)⟩
  | 24 => exact fun _ => ⟨fun _ => rfl, fun q => absurd q (by decide), fun q => absurd q (by decide)⟩
  | 25 => exact fun h => absurd h (by decide)
  | 26 => exact fun h => absurd h (by decide)
  | 27 => exact fun _ => ⟨fun _ => rfl, fun q => absurd q (by decide), fun q => absurd q (by decide)⟩
  | 28 => exact fun _ => ⟨fun _ => rfl, fun q => absurd q (by decide), fun q => absurd q (by decide)⟩
  | 29 => exact fun h => absurd h (by decide)
  | 30 => exact fun _ => ⟨fun _ => rfl, fun q => absurd q (by decide), fun q => absurd q (by decide)⟩
  | 31 => exact fun h => absurd h (by decide)
  | 32 => exact fun h => absurd h (by decide)
  | 33 => exact fun _ => ⟨fun _ => rfl, fun q => absurd q (by decide), fun q => absurd q (by decide)⟩
  | 34 => exact fun _ => ⟨fun _ => rfl, fun q => absurd q (by decide), fun q => absurd q (by decide)⟩
  | 35 => exact fun _ => ⟨fun q => absurd q (by decide), fun q => absurd q (by decide), fun _ => rfl⟩
  | 36 => exact fun _ => ⟨fun _ => rfl, fun q => absurd q (by decide), fun q => absurd q (by decide)⟩
  | 37 => exact fun _ => ⟨fun _ => rfl, fun q => absurd q (by decide), fun q => absurd q (by decide)⟩
  | 38 => exact fun h => absurd h (by decide)
  | 39 => exact fun h => absurd h (by decide)
  | 40 => exact fun h => absurd h (by decide)
  | 41 => exact fun _ => ⟨fun _ => rfl, fun q => absurd q (by decide), fun q => absurd q (by decide)⟩
  | 42 => exact fun _ => ⟨fun _ => rfl, fun q => absurd q (by decide), fun q => absurd q (by decide)⟩
  | 43 => exact fun _ => ⟨fun _ => rfl, fun q => absurd q (by decide), fun q => absurd q (by decide)⟩
  | 44 => exact fun _ => ⟨fun _ => rfl, fun q => absurd q (by decide), fun q => absurd q (by decide)⟩
  | 45 => exact fun h => absurd h (by decide)
  | 46 => exact fun h => absurd h (by decide)
  | 47 => exact fun _ => ⟨fun _ => rfl, fun q => absurd q (by decide), fun q => absurd q (by decide)⟩
  | 48 => exact fun h => absurd h (by decide)
  | 49 => exact fun h => absurd h (by decide)
  | 50 => exact fun h => absurd h (by decide)
  | 51 => exact fun h => absurd h (by decide)
  | 52 => exact fun h => absurd h (by decide)
  | 53 => exact fun h => absurd h (by decide)
  | 54 => exact fun h => absurd h (by decide)
  | 55 => exact fun h => absurd h (by decide)
  | 56 => exact fun h => absurd h (by decide)
  | 57 => exact fun h => absurd h (by decide)
  | 58 => exact fun _ => ⟨fun _ => rfl, fun q => absurd q (by decide), fun q => absurd q (by decide)⟩
  | 59 => exact fun h => absurd h (by decide)
  | 60 => exact fun _ => ⟨fun _ => rfl, fun q => absurd q (by decide), fun q => absurd q (by decide)⟩
  | 61 => exact fun h => absurd h (by decide)
  | 62 => exact fun h => absurd h (by decide)
  | 63 => exact fun h => absurd h (by decide)
  | 64 => exact fun h => absurd h (by decide)
  | 65 => exact fun h => absurd h (by decide)
  | 66 => exact fun h => absurd h (by decide)
  | 67 => exact fun h => absurd h (by decide)
  | 68 => exact fun h => absurd h (by decide)
  | 69 => exact fun h => absurd h (by decide)
  | 70 => exact fun h => absurd h (by decide)
  | 71 => exact fun h => absurd h (by decide)
  | 72 => exact fun h => absurd h (by decide)
  | 73 => exact fun h => absurd h (by decide)
  | 74 => exact fun h => absurd h (by decide)
  | 75 => exact fun h => absurd h (by decide)
  | 76 => exact fun h => absurd h (by decide)
  | 77 => exact fun h => absurd h (by decide)
  | 78 => exact fun h => absurd h (by decide)
  | 79 => exact fun h => absurd h (by decide)
  | 80 => exact fun h => absurd h (by decide)
  | 81 => exact fun h => absurd h (by decide)
  | 82 => exact fun h => absurd h (by decide)
  | 83 => exact fun _ => ⟨fun _ => rfl, fun q => absurd q (by decide), fun q => absurd q (by decide)⟩
  | 84 => exact fun _ => ⟨fun _ => rfl, fun q => absurd q (by decide), fun q => absurd q (by decide)⟩
  | 85 => exact fun _ => ⟨fun _ => rfl, fun q => absurd q (by decide), fun q => absurd q (by decide)⟩
  | 86 => exact fun _ => ⟨fun _ => rfl, fun q => absurd q (by decide), fun q => absurd q (by decide)⟩
  | 87 => exact fun h => absurd h (by decide)
  | 88 => exact fun _ => ⟨fun _ => rfl, fun q => absurd q (by decide), fun q => absurd q (by decide)⟩
  | 89 => exact fun h => absurd h (by decide)
  | 90 => exact fun _ => ⟨fun _ => rfl, fun q => absurd q (by decide), fun q => absurd q (by decide)⟩
  | 91 => exact fun _ => ⟨fun _ => rfl, fun q => absurd q (by decide), fun q => absurd q (by decide)⟩
  | 92 => exact fun h => absurd h (by decide)
  | 93 => exact fun _ => ⟨fun _ => rfl, fun q => absurd q (by decide), fun q => absurd q (by decide)⟩
  | 94 => exact fun _ => ⟨fun _ => rfl, fun q => absurd q (by decide), fun q => absurd q (by decide)⟩
  | 95 => exact fun h => absurd h (by decide)
  | 96 => exact fun _ => ⟨fun _ => rfl, fun q => absurd q (by decide), fun q => absurd q (by decide)⟩
  | 97 => exact fun _ => ⟨fun _ => rfl, fun q => absurd q (by decide), fun q => absurd q (by decide)⟩
  | 98 => exact fun h => absurd h (by decide)
  | 99 => exact fun _ => ⟨fun _ => rfl, fun q => absurd q (by decide), fun q => absurd q (by decide)⟩
  | 100 => exact fun _ => ⟨fun _ => rfl, fun q => absurd q (by decide), fun q => absurd q (by decide)⟩
  | 101 => exact fun h => absurd h (by decide)
  | 102 => exact fun _ => ⟨fun _ => rfl, fun q => absurd q (by decide), fun q => absurd q (by decide)⟩
  | 103 => exact fun _ => ⟨fun _ => rfl, fun q => absurd q (by decide), fun q => absurd q (by decide)⟩
  | 104 => exact fun h => absurd h (by decide)
  | 105 => exact fun _ => ⟨fun _ => rfl, fun q => absurd q (by decide), fun q => absurd q (by decide)⟩
  | 106 => exact fun _ => ⟨fun _ => rfl, fun q => absurd q (by decide), fun q => absurd q (by decide)⟩
  | 107 => exact fun h => absurd h (by decide)
  | 108 => exact fun h => absurd h (by decide)
  | 109 => exact fun h => absurd h (by decide)
  | 110 => exact fun h => absurd h (by decide)
  | 111 => exact fun _ => ⟨fun _ => rfl, fun q => absurd q (by decide), fun q => absurd q (by decide)⟩
  | 112 => exact fun _ => ⟨fun _ => rfl, fun q => absurd q (by decide), fun q => absurd q (by decide)⟩
  | 113 => exact fun h => absurd h (by decide)
  | 114 => exact fun _ => ⟨fun _ => rfl, fun q => absurd q (by decide), fun q => absurd q (by decide)⟩
  | 115 => exact fun _ => ⟨fun _ => rfl, fun q => absurd q (by decide), fun q => absurd q (by decide)⟩
  | 116 => exact fun h => absurd h (by decide)
  | 117 => exact fun h => absurd h (by decide)
  | 118 => exact fun _ => ⟨fun _ => rfl, fun q => absurd q (by decide), fun q => absurd q (by decide)⟩
  | 119 => exact fun h => absurd h (by decide)
  | 120 => exact fun h => absurd h (by decide)
  | 121 => exact fun _ => ⟨fun _ => rfl, fun q => absurd q (by decide), fun q => absurd q (by decide)⟩
  | 122 => exact fun h => absurd h (by decide)
  | 123 => exact fun _ => ⟨fun _ => rfl, fun q => absurd q (by decide), fun q => absurd q (by decide)⟩
  | 124 => exact fun _ => ⟨fun _ => rfl, fun q => absurd q (by decide), fun q => absurd q (by decide)⟩
  | 125 => exact fun h => absurd h (by decide)
  | 126 => exact fun h => absurd h (by decide)
  | 127 => exact fun h => absurd h (by decide)
  | 128 => exact fun h => absurd h (by decide)
  | 129 => exact fun _ => ⟨fun _ => rfl, fun q => absurd q (by decide), fun q => absurd q (by decide)⟩
  | 130 => exact fun _ => ⟨fun _ => rfl, fun q => absurd q (by decide), fun q => absurd q (by decide)⟩
  | 131 => exact fun h => absurd h (by decide)
  | 132 => exact fun _ => ⟨fun _ => rfl, fun q => absurd q (by decide), fun q => absurd q (by decide)⟩
  | 133 => exact fun _ => ⟨fun _ => rfl, fun q => absurd q (by decide), fun q => absurd q (by decide)⟩
  | 134 => exact fun h => absurd h (by decide)
  | 135 => exact fun h => absurd h (by decide)
  | 136 => exact fun _ => ⟨fun _ => rfl, fun q => absurd q (by decide), fun q => absurd q (by decide)⟩
  | 137 => exact fun h => absurd h (by decide)
  | 138 => exact fun h => absurd h (by decide)
  | 139 => exact fun _ => ⟨fun _ => rfl, fun q => absurd q (by decide), fun q => absurd q (by decide)⟩
  | 140 => exact fun h => absurd h (by decide)
  | 141 => exact fun _ => ⟨fun _ => rfl, fun q => absurd q (by decide), fun q => absurd q (by decide)⟩
  | 142 => exact fun _ => ⟨fun _ => rfl, fun q => absurd q (by decide), fun q => absurd q (by decide)⟩
  | 143 => exact fun h => absurd h (by decide)
  | 144 => exact fun h => absurd h (by decide)
  | 145 => exact fun h => absurd h (by decide)
  | 146 => exact fun h => absurd h (by decide)
  | 147 => exact fun _ => ⟨fun _ => rfl, fun q => absurd q (by decide), fun q => absurd q (by decide)⟩
  | 148 => exact fun _ => ⟨fun _ => rfl, fun q => absurd q (by decide), fun q => absurd q (by decide)⟩
  | 149 => exact fun h => absurd h (by decide)
  | 150 => exact fun _ => ⟨fun _ => rfl, fun q => absurd q (by decide), fun q => absurd q (by decide)⟩
  | 151 => exact fun _ => ⟨fun _ => rfl, fun q => absurd q (by decide), fun q => absurd q (by decide)⟩
  | 152 => exact fun h => absurd h (by decide)
  | 153 => exact fun h => absurd h (by decide)
  | 154 => exact fun _ => ⟨fun _ => rfl, fun q => absurd q (by decide), fun q => absurd q (by decide)⟩
  | 155 => exact fun h => absurd h (by decide)
  | 156 => exact fun h => absurd h (by decide)
  | 157 => exact fun _ => ⟨fun _ => rfl, fun q => absurd q (by decide), fun q => absurd q (by decide)⟩
  | k + 158 => exact fun _ => ⟨fun _ => rfl, fun q => absurd (show (0 : Nat) = 1 from q) (by decide), fun q => absurd (show (0 : Nat) = 2 from q) (by decide)⟩
theorem wt2X (k : Nat) : (shX k).1 = 2 → tyX k = .long := by
  match k with
  | 0 => exact fun h => absurd h (by decide)
  | 1 => exact fun h => absurd h (by decide)
  | 2 => exact fun h => absurd h (by decide)
  | 3 => exact fun h => absurd h (by decide)
  | 4 => exact fun h => absurd h (by decide)
  | 5 => exact fun _ => rfl
  | 6 => exact fun h => absurd h (by decide)
  | 7 => exact fun h => absurd h (by decide)
  | 8 => exact fun h => absurd h (by decide)
  | 9 => exact fun h => absurd h (by decide)
  | 10 => exact fun h => absurd h (by decide)
  | 11 => exact fun h => absurd h (by decide)
  | 12 => exact fun h => absurd h (by decide)
  | 13 => exact fun h => absurd h (by decide)
  | 14 => exact fun _ => rfl
  | 15 => exact fun h => absurd h (by decide)
  | 16 => exact fun h => absurd h (by decide)
  | 17 => exact fun _ => rfl
  | 18 => exact fun h => absurd h (by decide)
  | 19 => exact fun h => absurd h (by decide)
  | 20 => exact fun h => absurd h (by decide)
  | 21 => exact fun h => absurd h (by decide)
  | 22 => exact fun h => absurd h (by decide)
  | 23 => exact fun h => absurd h (by decide)
  | 24 => exact fun h => absurd h (by decide)
  | 25 => exact fun h => absurd h (by decide)
  | 26 => exact fun _ => rfl
  | 27 => exact fun h => absurd h (by decide)
  | 28 => exact fun h => absurd h (by decide)
  | 29 => exact fun h => absurd h (by decide)
  | 30 => exact fun h => absurd h (by decide)
  | 31 => exact fun h => absurd h (by decide)
  | 32 => exact fun _ => rfl
  | 33 => exact fun h => absurd h (by decide)
  | 34 => exact fun h => absurd h (by decide)
  | 35 => exact fun h => absurd h (by decide)
  | 36 => exact fun h => absurd h (by decide)
  | 37 => exact fun h => absurd h (by decide)
  | 38 => exact fun h => absurd h (by decide)
  | 39 => exact fun h => absurd h (by decide)
  | 40 => exact fun h => absurd h (by decide)
  | 41 => exact fun h => absurd h (by decide)
  | 42 => exact fun h => absurd h (by decide)
  | 43 => exact fun h => absurd h (by decide)
  | 44 => exact fun h => absurd h (by decide)
  | 45 => exact fun h => absurd h (by decide)
  | 46 => exact fun _ => rfl
  | 47 => exact fun h => absurd h (by decide)
  | 48 => exact fun h => absurd h (by decide)
  | 49 => exact fun h => absurd h (by decide)
  | 50 => exact fun _ => rfl
  | 51 => exact fun _ => rfl
  | 52 => exact fun _ => rfl
  | 53 => exact fun _ => rfl
  | 54 => exact fun h => absurd h (by decide)
  | 55 => exact fun h => absurd h (by decide)
  | 56 => exact fun h => absurd h (by decide)
  | 57 => exact fun _ => rfl
  | 58 => exact fun h => absurd h (by decide)
  | 59 => exact fun h => absurd h (by decide)
  | 60 => exact fun h => absurd h (by decide)
  | 61 => exact fun _ => rfl
  | 62 => exact fun h => absurd h (by decide)
  | 63 => exact fun _ => rfl
  | 64 => exact fun _ => rfl
  | 65 => exact fun h => absurd h (by decide)
  | 66 => exact fun _ => rfl
  | 67 => exact fun _ => rfl
  | 68 => exact fun h => absurd h (by decide)
  | 69 => exact fun _ => rfl
  | 70 => exact fun _ => rfl
  | 71 => exact fun h => absurd h (by decide)
  | 72 => exact fun _ => rfl
  | 73 => exact fun _ => rfl
  | 74 => exact fun h => absurd h (by decide)
  | 75 => exact fun _ => rfl
  | 76 => exact fun _ => rfl
  | 77 => exact fun h => absurd h (by decide)
  | 78 => exact fun _ => rfl
  | 79 => exact fun _ => rfl
  | 80 => exact fun _ => rfl
  | 81 => exact fun _ => rfl
  | 82 => exact fun h => absurd h (by decide)
  | 83 => exact fun h => absurd h (by decide)
  | 84 => exact fun h => absurd h (by decide)
  | 85 => exact fun h => absurd h (by decide)
  | 86 => exact fun h => absurd h (by decide)
  | 87 => exact fun h => absurd h (by decide)
  | 88 => exact fun h => absurd h (by decide)
  | 89 => exact fun h => absurd h (by decide)
  | 90 => exact fun h => absurd h (by decide)
  | 91 => exact fun h => absurd h (by decide)
  | 92 => exact fun h => absurd h (by decide)
  | 93 => exact fun h => absurd h (by decide)
  | 94 => exact fun h => absurd h (by decide)
  | 95 => exact fun h => absurd h (by decide)
  | 96 => exact fun h => absurd h (by decide)
  | 97 => exact fun h => absurd h (by decide)
  | 98 => exact fun h => absurd h (by decide)
  | 99 => exact fun h => absurd h (by decide)
  | 100 => exact fun h => absurd h (by decide)
  | 101 => exact fun h => absurd h (by decide)
  | 102 => exact fun h => absurd h (by decide)
  | 103 => exact fun h => absurd h (by decide)
  | 104 => exact fun h => absurd h (by decide)
  | 105 => exact fun h => absurd h (by decide)
  | 106 => exact fun h => absurd h (by decide)
  | 107 => exact fun h => absurd h (by decide)
  | 108 => exact fun _ => rfl
  | 109 => exact fun h => absurd h (by decide)
  | 110 => exact fun h => absurd h (by decide)
  | 111 => exact fun h => absurd h (by decide)
  | 112 => exact fun h => absurd h (by decide)
  | 113 => exact fun h => absurd h (by decide)
  | 114 => exact fun h => absurd h (by decide)
  | 115 => exact fun h => absurd h (by decide)
  | 116 => exact fun h => absurd h (by decide)
  | 117 => exact fun _ => rfl
  | 118 => exact fun h => absurd h (by decide)
  | 119 => exact fun h => absurd h (by decide)
  | 120 => exact fun _ => rfl
  | 121 => exact fun h => absurd h (by decide)
  | 122 => exact fun h => absurd h (by decide)
  | 123 => exact fun h => absurd h (by decide)
  | 124 => exact fun h => absurd h (by decide)
  | 125 => exact fun h => absurd h (by decide)
  | 126 => exact fun _ => rfl
  | 127 => exact fun h => absurd h (by decide)
  | 128 => exact fun h => absurd h (by decide)
  | 129 => exact fun h => absurd h (by decide)
  | 130 => exact fun h => absurd h (by decide)
  | 131 => exact fun h => absurd h (by decide)
  | 132 => exact fun h => absurd h (by decide)
  | 133 => exact fun h => absurd h (by decide)
  | 134 => exact fun h => absurd h (by decide)
  | 135 => exact fun _ => rfl
  | 136 => exact fun h => absurd h (by decide)
  | 137 => exact fun h => absurd h (by decide)
  | 138 => exact fun _ => rfl
  | 139 => exact fun h => absurd h (by decide)
  | 140 => exact fun h => absurd h (by decide)
  | 141 => exact fun h => absurd h (by decide)
  | 142 => exact fun h => absurd h (by decide)
  | 143 => exact fun h => absurd h (by decide)
  | 144 => exact fun _ => rfl
  | 145 => exact fun h => absurd h (by decide)
  | 146 => exact fun h => absurd h (by decide)
  | 147 => exact fun h => absurd h (by decide)
  | 148 => exact fun h => absurd h (by decide)
  | 149 => exact fun h => absurd h (by decide)
  | 150 => exact fun h => absurd h (by decide)
  | 151 => exact fun h => absurd h (by decide)
  | 152 => exact fun h => absurd h (by decide)
  | 153 => exact fun _ => rfl
  | 154 => exact fun h => absurd h (by decide)
  | 155 => exact fun h => absurd h (by decide)
  | 156 => exact fun _ => rfl
  | 157 => exact fun h => absurd h (by decide)
  | k + 158 => exact fun q => absurd (show (1 : Nat) = 2 from q) (by decide)
theorem wt3X (k : Nat) : (shX k).1 = 3 → (∃ S, tyX k = .object S) ∨ ∃ u, tyX k = .array u := by
  match k with
  | 0 => exact fun h => absurd h (by decide)
  | 1 => exact fun h => absurd h (by decide)
  | 2 => exact fun h => absurd h (by decide)
  | 3 => exact fun h => absurd h (by decide)
  | 4 => exact fun _ => .inl ⟨_, rfl⟩
  | 5 => exact fun h => absurd h (by decide)
  | 6 => exact fun _ => .inl ⟨_, rfl⟩
  | 7 => exact fun h => absurd h (by decide)
  | 8 => exact fun h => absurd h (by decide)
  | 9 => exact fun h => absurd h (by decide)
  | 10 => exact fun h => absurd h (by decide)
  | 11 => exact fun h => absurd h (by decide)
  | 12 => exact fun h => absurd h (by decide)
  | 13 => exact fun h => absurd h (by decide)
  | 14 => exact fun h => absurd h (by decide)
  | 15 => exact fun h => absurd h (by decide)
  | 16 => exact fun h => absurd h (by decide)
  | 17 => exact fun h => absurd h (by decide)
  | 18 => exact fun h => absurd h (by decide)
  | 19 => exact fun _ => .inl ⟨_, rfl⟩
  | 20 => exact fun h => absurd h (by decide)
  | 21 => exact fun h => absurd h (by decide)
  | 22 => exact fun h => absurd h (by decide)
  | 23 => exact fun h => absurd h (by decide)
  | 24 => exact fun h => absurd h (by decide)
  | 25 => exact fun h => absurd h (by decide)
  | 26 => exact fun h => absurd h (by decide)
  | 27 => exact fun h => absurd h (by decide)
  | 28 => exact fun h => absurd h (by decide)
  | 29 => exact fun h => absurd h (by decide)
  | 30 => exact fun h => absurd h (by decide)
  | 31 => exact fun h => absurd h (by decide)
  | 32 => exact fun h => absurd h (by decide)
  | 33 => exact fun h => absurd h (by decide)
  | 34 => exact fun h => absurd h (by decide)
  | 35 => exact fun h => absurd h (by decide)
  | 36 => exact fun h => absurd h (by decide)
  | 37 => exact fun h => absurd h (by decide)
  | 38 => exact fun h => absurd h (by decide)
  | 39 => exact fun h => absurd h (by decide)
  | 40 => exact fun h => absurd h (by decide)
  | 41 => exact fun h => absurd h (by decide)
  | 42 => exact fun h => absurd h (by decide)
  | 43 => exact fun h => absurd h (by decide)
  | 44 => exact fun h => absurd h (by decide)
  | 45 => exact fun h => absurd h (by decide)
  | 46 => exact fun h => absurd h (by decide)
  | 47 => exact fun h => absurd h (by decide)
  | 48 => exact fun h => absurd h (by decide)
  | 49 => exact fun h => absurd h (by decide)
  | 50 => exact fun h => absurd h (by decide)
  | 51 => exact fun h => absurd h (by decide)
  | 52 => exact fun h => absurd h (by decide)
  | 53 => exact fun h => absurd h (by decide)
  | 54 => exact fun h => absurd h (by decide)
  | 55 => exact fun h => absurd h (by decide)
  | 56 => exact fun h => absurd h (by decide)
  | 57 => exact fun h => absurd h (by decide)
  | 58 => exact fun h => absurd h (by decide)
  | 59 => exact fun _ => .inl ⟨_, rfl⟩
  | 60 => exact fun h => absurd h (by decide)
  | 61 => exact fun h => absurd h (by decide)
  | 62 => exact fun h => absurd h (by decide)
  | 63 => exact fun h => absurd h (by decide)
  | 64 => exact fun h => absurd h (by decide)
  | 65 => exact fun h => absurd h (by decide)
  | 66 => exact fun h => absurd h (by decide)
  | 67 => exact fun h => absurd h (by decide)
  | 68 => exact fun h => absurd h (by decide)
  | 69 => exact fun h => absurd h (by decide)
  | 70 => exact fun h => absurd h (by decide)
  | 71 => exact fun h => absurd h (by decide)
  | 72 => exact fun h => absurd h (by decide)
  | 73 => exact fun h => absurd h (by decide)
  | 74 => exact fun h => absurd h (by decide)
  | 75 => exact fun h => absurd h (by decide)
  | 76 => exact fun h => absurd h (by decide)
  | 77 => exact fun _ => .inl ⟨_, rfl⟩
  | 78 => exact fun h => absurd h (by decide)
  | 79 => exact fun h => absurd h (by decide)
  | 80 => exact fun h => absurd h (by decide)
  | 81 => exact fun h => absurd h (by decide)
  | 82 => exact fun _ => .inr ⟨_, rfl⟩
  | 83 => exact fun h => absurd h (by decide)
  | 84 => exact fun h => absurd h (by decide)
  | 85 => exact fun h => absurd h (by decide)
  | 86 => exact fun h => absurd h (by decide)
  | 87 => exact fun _ => .inr ⟨_, rfl⟩
  | 88 => exact fun h => absurd h (by decide)
  | 89 => exact fun h => absurd h (by decide)
  | 90 => exact fun h => absurd h (by decide)
  | 91 => exact fun h => absurd h (by decide)
  | 92 => exact fun h => absurd h (by decide)
  | 93 => exact fun h => absurd h (by decide)
  | 94 => exact fun h => absurd h (by decide)
  | 95 => exact fun h => absurd h (by decide)
  | 96 => exact fun h => absurd h (by decide)
  | 97 => exact fun h => absurd h (by decide)
  | 98 => exact fun h => absurd h (by decide)
  | 99 => exact fun h => absurd h (by decide)
  | 100 => exact fun h => absurd h (by decide)
  | 101 => exact fun h => absurd h (by decide)
  | 102 => exact fun h => absurd h (by decide)
  | 103 => exact fun h => absurd h (by decide)
  | 104 => exact fun h => absurd h (by decide)
  | 105 => exact fun h => absurd h (by decide)
  | 106 => exact fun h => absurd h (by decide)
  | 107 => exact fun _ => .inl ⟨_, rfl⟩
  | 108 => exact fun h => absurd h (by decide)
  | 109 => exact fun _ => .inl ⟨_, rfl⟩
  | 110 => exact fun h => absurd h (by decide)
  | 111 => exact fun h => absurd h (by decide)
  | 112 => exact fun h => absurd h (by decide)
  | 113 => exact fun h => absurd h (by decide)
  | 114 => exact fun h => absurd h (by decide)
  | 115 => exact fun h => absurd h (by decide)
  | 116 => exact fun h => absurd h (by decide)
  | 117 => exact fun h => absurd h (by decide)
  | 118 => exact fun h => absurd h (by decide)
  | 119 => exact fun h => absurd h (by decide)
  | 120 => exact fun h => absurd h (by decide)
  | 121 => exact fun h => absurd h (by decide)
  | 122 => exact fun h => absurd h (by decide)
  | 123 => exact fun h => absurd h (by decide)
  | 124 => exact fun h => absurd h (by decide)
  | 125 => exact fun _ => .inl ⟨_, rfl⟩
  | 126 => exact fun h => absurd h (by decide)
  | 127 => exact fun _ => .inl ⟨_, rfl⟩
  | 128 => exact fun h => absurd h (by decide)
  | 129 => exact fun h => absurd h (by decide)
  | 130 => exact fun h => absurd h (by decide)
  | 131 => exact fun h => absurd h (by decide)
  | 132 => exact fun h => absurd h (by decide)
  | 133 => exact fun h => absurd h (by decide)
  | 134 => exact fun h => absurd h (by decide)
  | 135 => exact fun h => absurd h (by decide)
  | 136 => exact fun h => absurd h (by decide)
  | 137 => exact fun h => absurd h (by decide)
  | 138 => exact fun h => absurd h (by decide)
  | 139 => exact fun h => absurd h (by decide)
  | 140 => exact fun h => absurd h (by decide)
  | 141 => exact fun h => absurd h (by decide)
  | 142 => exact fun h => absurd h (by decide)
  | 143 => exact fun _ => .inl ⟨_, rfl⟩
  | 144 => exact fun h => absurd h (by decide)
  | 145 => exact fun _ => .inl ⟨_, rfl⟩
  | 146 => exact fun h => absurd h (by decide)
  | 147 => exact fun h => absurd h (by decide)
  | 148 => exact fun h => absurd h (by decide)
  | 149 => exact fun h => absurd h (by decide)
  | 150 => exact fun h => absurd h (by decide)
  | 151 => exact fun h => absurd h (by decide)
  | 152 => exact fun h => absurd h (by decide)
  | 153 => exact fun h => absurd h (by decide)
  | 154 => exact fun h => absurd h (by decide)
  | 155 => exact fun h => absurd h (by decide)
  | 156 => exact fun h => absurd h (by decide)
  | 157 => exact fun h => absurd h (by decide)
  | k + 158 => exact fun q => absurd (show (1 : Nat) = 3 from q) (by decide)
theorem wvX {D : va_G} {ad : Nat → Nat} {cA : Nat → ClassId} : WV vX (wX D ad cA) := ⟨rfl, rfl, rfl, wt1X, wt2X, wt3X⟩
