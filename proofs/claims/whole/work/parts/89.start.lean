theorem yq_SHN : ∀ k, k < 85 → SH[k]? = SN[z_pm 1 k]? := by decide +kernel
def yq_R0 : Nat → Nat → Option Nat := yq_RX9_init_60 (yq_RX8_init_0 (fun _ _ => none))
set_option maxHeartbeats 8000000 in
set_option maxRecDepth 100000 in
theorem yq_R0a : ∀ k, k < 85 → ∀ j, yq_R0 (z_pm 1 k) j = (z_R false k j).map (z_pm 1)
  | 0, _, j => (show yq_R0 0 j = (z_R false 0 j).map (z_pm 1) from match j with
    | 0 => rfl
    | 1 => rfl
    | 2 => rfl
    | 3 => rfl
    | 4 => rfl
    | 5 => rfl
    | 6 => rfl
    | 7 => rfl
    | 8 => rfl
    | 9 => rfl
    | j + 10 => rfl)
  | 1, _, j => (show yq_R0 1 j = (z_R false 1 j).map (z_pm 1) from match j with
    | 0 => rfl
    | 1 => rfl
    | 2 => rfl
    | 3 => rfl
    | 4 => rfl
    | 5 => rfl
    | 6 => rfl
    | 7 => rfl
    | j + 8 => rfl)
  | 2, _, j => (show yq_R0 2 j = (z_R false 2 j).map (z_pm 1) from rfl)
  | 3, _, j => (show yq_R0 3 j = (z_R false 3 j).map (z_pm 1) from rfl)
  | 4, _, j => (show yq_R0 4 j = (z_R false 4 j).map (z_pm 1) from rfl)
  | 5, _, j => (show yq_R0 5 j = (z_R false 5 j).map (z_pm 1) from rfl)
  | 6, _, j => (show yq_R0 6 j = (z_R false 6 j).map (z_pm 1) from rfl)
  | 7, _, j => (show yq_R0 7 j = (z_R false 7 j).map (z_pm 1) from match j with
    | 0 => rfl
    | 1 => rfl
    | 2 => rfl
    | 3 => rfl
    | 4 => rfl
    | 5 => rfl
    | 6 => rfl
    | 7 => rfl
    | j + 8 => rfl)
  | 8, _, j => (show yq_R0 8 j = (z_R false 8 j).map (z_pm 1) from rfl)
  | 9, _, j => (show yq_R0 9 j = (z_R false 9 j).map (z_pm 1) from rfl)
  | 10, _, j => (show yq_R0 10 j = (z_R false 10 j).map (z_pm 1) from rfl)
  | 11, _, j => (show yq_R0 11 j = (z_R false 11 j).map (z_pm 1) from rfl)
  | 12, _, j => (show yq_R0 12 j = (z_R false 12 j).map (z_pm 1) from rfl)
  | 13, _, j => (show yq_R0 13 j = (z_R false 13 j).map (z_pm 1) from match j with
    | 0 => rfl
    | 1 => rfl
    | 2 => rfl
    | 3 => rfl
    | 4 => rfl
    | 5 => rfl
    | 6 => rfl
    | 7 => rfl
    | j + 8 => rfl)
  | 14, _, j => (show yq_R0 14 j = (z_R false 14 j).map (z_pm 1) from rfl)
  | 15, _, j => (show yq_R0 15 j = (z_R false 15 j).map (z_pm 1) from rfl)
  | 16, _, j => (show yq_R0 16 j = (z_R false 16 j).map (z_pm 1) from rfl)
  | 17, _, j => (show yq_R0 17 j = (z_R false 17 j).map (z_pm 1) from rfl)
  | 18, _, j => (show yq_R0 18 j = (z_R false 18 j).map (z_pm 1) from match j with
    | 0 => rfl
    | 1 => rfl
    | j + 2 => rfl)
  | 19, _, j => (show yq_R0 19 j = (z_R false 19 j).map (z_pm 1) from match j with
    | 0 => rfl
    | 1 => rfl
    | 2 => rfl
    | 3 => rfl
    | 4 => rfl
    | 5 => rfl
    | 6 => rfl
    | 7 => rfl
    | j + 8 => rfl)
  | 20, _, j => (show yq_R0 20 j = (z_R false 20 j).map (z_pm 1) from rfl)
  | 21, _, j => (show yq_R0 21 j = (z_R false 21 j).map (z_pm 1) from rfl)
  | 22, _, j => (show yq_R0 22 j = (z_R false 22 j).map (z_pm 1) from rfl)
  | 23, _, j => (show yq_R0 23 j = (z_R false 23 j).map (z_pm 1) from rfl)
  | 24, _, j => (show yq_R0 24 j = (z_R false 24 j).map (z_pm 1) from rfl)
  | 25, _, j => (show yq_R0 25 j = (z_R false 25 j).map (z_pm 1) from rfl)
  | 26, _, j => (show yq_R0 26 j = (z_R false 26 j).map (z_pm 1) from match j with
    | 0 => rfl
    | 1 => rfl
    | 2 => rfl
    | 3 => rfl
    | 4 => rfl
    | j + 5 => rfl)
  | 27, _, j => (show yq_R0 27 j = (z_R false 27 j).map (z_pm 1) from rfl)
  | 28, _, j => (show yq_R0 28 j = (z_R false 28 j).map (z_pm 1) from rfl)
  | 29, _, j => (show yq_R0 29 j = (z_R false 29 j).map (z_pm 1) from rfl)
  | 30, _, j => (show yq_R0 30 j = (z_R false 30 j).map (z_pm 1) from rfl)
  | 31, _, j => (show yq_R0 31 j = (z_R false 31 j).map (z_pm 1) from match j with
    | 0 => rfl
    | 1 => rfl
    | 2 => rfl
    | 3 => rfl
    | j + 4 => rfl)
  | 32, _, j => (show yq_R0 38 j = (z_R false 32 j).map (z_pm 1) from rfl)
  | 33, _, j => (show yq_R0 39 j = (z_R false 33 j).map (z_pm 1) from match j with
    | 0 => rfl
    | 1 => rfl
    | 2 => rfl
    | 3 => rfl
    | j + 4 => rfl)
  | 34, _, j => (show yq_R0 40 j = (z_R false 34 j).map (z_pm 1) from rfl)
  | 35, _, j => (show yq_R0 41 j = (z_R false 35 j).map (z_pm 1) from rfl)
  | 36, _, j => (show yq_R0 42 j = (z_R false 36 j).map (z_pm 1) from rfl)
  | 37, _, j => (show yq_R0 43 j = (z_R false 37 j).map (z_pm 1) from rfl)
  | 38, _, j => (show yq_R0 44 j = (z_R false 38 j).map (z_pm 1) from match j with
    | 0 => rfl
    | 1 => rfl
    | 2 => rfl
    | j + 3 => rfl)
  | 39, _, j => (show yq_R0 45 j = (z_R false 39 j).map (z_pm 1) from rfl)
  | 40, _, j => (show yq_R0 46 j = (z_R false 40 j).map (z_pm 1) from rfl)
  | 41, _, j => (show yq_R0 47 j = (z_R false 41 j).map (z_pm 1) from match j with
    | 0 => rfl
    | 1 => rfl
    | 2 => rfl
    | 3 => rfl
    | 4 => rfl
    | 5 => rfl
    | j + 6 => rfl)
  | 42, _, j => (show yq_R0 48 j = (z_R false 42 j).map (z_pm 1) from match j with
    | 0 => rfl
    | 1 => rfl
    | 2 => rfl
    | 3 => rfl
    | j + 4 => rfl)
  | 43, _, j => (show yq_R0 49 j = (z_R false 43 j).map (z_pm 1) from rfl)
  | 44, _, j => (show yq_R0 50 j = (z_R false 44 j).map (z_pm 1) from match j with
    | 0 => rfl
    | 1 => rfl
    | 2 => rfl
    | 3 => rfl
    | j + 4 => rfl)
  | 45, _, j => (show yq_R0 51 j = (z_R false 45 j).map (z_pm 1) from rfl)
  | 46, _, j => (show yq_R0 52 j = (z_R false 46 j).map (z_pm 1) from match j with
    | 0 => rfl
    | 1 => rfl
    | 2 => rfl
    | 3 => rfl
    | j + 4 => rfl)
  | 47, _, j => (show yq_R0 53 j = (z_R false 47 j).map (z_pm 1) from rfl)
  | 48, _, j => (show yq_R0 54 j = (z_R false 48 j).map (z_pm 1) from match j with
    | 0 => rfl
    | 1 => rfl
    | 2 => rfl
    | 3 => rfl
    | j + 4 => rfl)
  | 49, _, j => (show yq_R0 55 j = (z_R false 49 j).map (z_pm 1) from rfl)
  | 50, _, j => (show yq_R0 56 j = (z_R false 50 j).map (z_pm 1) from match j with
    | 0 => rfl
    | 1 => rfl
    | 2 => rfl
    | 3 => rfl
    | j + 4 => rfl)
  | 51, _, j => (show yq_R0 57 j = (z_R false 51 j).map (z_pm 1) from rfl)
  | 52, _, j => (show yq_R0 58 j = (z_R false 52 j).map (z_pm 1) from match j with
    | 0 => rfl
    | 1 => rfl
    | 2 => rfl
    | 3 => rfl
    | j + 4 => rfl)
  | 53, _, j => (show yq_R0 59 j = (z_R false 53 j).map (z_pm 1) from rfl)
  | 54, _, j => (show yq_R0 60 j = (z_R false 54 j).map (z_pm 1) from match j with
    | 0 => rfl
    | 1 => rfl
    | 2 => rfl
    | 3 => rfl
    | 4 => rfl
    | 5 => rfl
    | 6 => rfl
    | 7 => rfl
    | 8 => rfl
    | 9 => rfl
    | 10 => rfl
    | 11 => rfl
    | 12 => rfl
    | 13 => rfl
    | 14 => rfl
    | 15 => rfl
    | 16 => rfl
    | 17 => rfl
    | 18 => rfl
    | 19 => rfl
    | 20 => rfl
    | 21 => rfl
    | 22 => rfl
    | 23 => rfl
    | 24 => rfl
    | 25 => rfl
    | 26 => rfl
    | 27 => rfl
    | 28 => rfl
    | 29 => rfl
    | 30 => rfl
    | 31 => rfl
    | 32 => rfl
    | 33 => rfl
    | 34 => rfl
    | 35 => rfl
    | 36 => rfl
    | 37 => rfl
    | 38 => rfl
    | 39 => rfl
    | 40 => rfl
    | 41 => rfl
    | j + 42 => rfl)
  | 55, _, j => (show yq_R0 61 j = (z_R false 55 j).map (z_pm 1) from rfl)
  | 56, _, j => (show yq_R0 62 j = (z_R false 56 j).map (z_pm 1) from rfl)
  | 57, _, j => (show yq_R0 63 j = (z_R false 57 j).map (z_pm 1) from rfl)
  | 58, _, j => (show yq_R0 64 j = (z_R false 58 j).map (z_pm 1) from rfl)
  | 59, _, j => (show yq_R0 65 j = (z_R false 59 j).map (z_pm 1) from rfl)
  | 60, _, j => (show yq_R0 66 j = (z_R false 60 j).map (z_pm 1) from rfl)
  | 61, _, j => (show yq_R0 67 j = (z_R false 61 j).map (z_pm 1) from rfl)
  | 62, _, j => (show yq_R0 68 j = (z_R false 62 j).map (z_pm 1) from rfl)
  | 63, _, j => (show yq_R0 69 j = (z_R false 63 j).map (z_pm 1) from rfl)
  | 64, _, j => (show yq_R0 70 j = (z_R false 64 j).map (z_pm 1) from rfl)
  | 65, _, j => (show yq_R0 71 j = (z_R false 65 j).map (z_pm 1) from rfl)
  | 66, _, j => (show yq_R0 72 j = (z_R false 66 j).map (z_pm 1) from rfl)
  | 67, _, j => (show yq_R0 73 j = (z_R false 67 j).map (z_pm 1) from rfl)
  | 68, _, j => (show yq_R0 74 j = (z_R false 68 j).map (z_pm 1) from rfl)
  | 69, _, j => (show yq_R0 75 j = (z_R false 69 j).map (z_pm 1) from rfl)
  | 70, _, j => (show yq_R0 76 j = (z_R false 70 j).map (z_pm 1) from rfl)
  | 71, _, j => (show yq_R0 77 j = (z_R false 71 j).map (z_pm 1) from rfl)
  | 72, _, j => (show yq_R0 78 j = (z_R false 72 j).map (z_pm 1) from rfl)
  | 73, _, j => (show yq_R0 79 j = (z_R false 73 j).map (z_pm 1) from rfl)
  | 74, _, j => (show yq_R0 80 j = (z_R false 74 j).map (z_pm 1) from rfl)
  | 75, _, j => (show yq_R0 81 j = (z_R false 75 j).map (z_pm 1) from rfl)
  | 76, _, j => (show yq_R0 82 j = (z_R false 76 j).map (z_pm 1) from rfl)
  | 77, _, j => (show yq_R0 83 j = (z_R false 77 j).map (z_pm 1) from rfl)
  | 78, _, j => (show yq_R0 84 j = (z_R false 78 j).map (z_pm 1) from rfl)
  | 79, _, j => (show yq_R0 32 j = (z_R false 79 j).map (z_pm 1) from match j with
    | 0 => rfl
    | 1 => rfl
    | 2 => rfl
    | 3 => rfl
    | 4 => rfl
    | 5 => rfl
    | 6 => rfl
    | 7 => rfl
    | j + 8 => rfl)
  | 80, _, j => (show yq_R0 33 j = (z_R false 80 j).map (z_pm 1) from rfl)
  | 81, _, j => (show yq_R0 34 j = (z_R false 81 j).map (z_pm 1) from rfl)
  | 82, _, j => (show yq_R0 35 j = (z_R false 82 j).map (z_pm 1) from rfl)
  | 83, _, j => (show yq_R0 36 j = (z_R false 83 j).map (z_pm 1) from rfl)
  | 84, _, j => (show yq_R0 37 j = (z_R false 84 j).map (z_pm 1) from rfl)
  | k + 85, h, j => absurd h (by omega)
set_option maxHeartbeats 8000000 in
set_option maxRecDepth 100000 in
theorem yq_Rlt : ∀ k, k < 85 → ∀ j r, z_R false k j = some r → r < 85
  | 0, _, j, r, h => match j, h with
    | 0, h => by rw [← Option.some.inj (show some 1 = some r from h)]; decide
    | 1, h => by rw [← Option.some.inj (show some 7 = some r from h)]; decide
    | 2, h => absurd (show (none : Option Nat) = some r from h) (fun q => by cases q)
    | 3, h => by rw [← Option.some.inj (show some 13 = some r from h)]; decide
    | 4, h => by rw [← Option.some.inj (show some 18 = some r from h)]; decide
    | 5, h => by rw [← Option.some.inj (show some 26 = some r from h)]; decide
    | 6, h => by rw [← Option.some.inj (show some 31 = some r from h)]; decide
    | 7, h => by rw [← Option.some.inj (show some 33 = some r from h)]; decide
    | 8, h => by rw [← Option.some.inj (show some 38 = some r from h)]; decide
    | 9, h => by rw [← Option.some.inj (show some 41 = some r from h)]; decide
    | j + 10, h => absurd (show (none : Option Nat) = some r from h) (fun q => by cases q)
  | 1, _, j, r, h => match j, h with
    | 0, h => absurd (show (none : Option Nat) = some r from h) (fun q => by cases q)
    | 1, h => by rw [← Option.some.inj (show some 2 = some r from h)]; decide
    | 2, h => by rw [← Option.some.inj (show some 3 = some r from h)]; decide
    | 3, h => by rw [← Option.some.inj (show some 4 = some r from h)]; decide
    | 4, h => by rw [← Option.some.inj (show some 5 = some r from h)]; decide
    | 5, h => absurd (show (none : Option Nat) = some r from h) (fun q => by cases q)
    | 6, h => absurd (show (none : Option Nat) = some r from h) (fun q => by cases q)
    | 7, h => by rw [← Option.some.inj (show some 6 = some r from h)]; decide
    | j + 8, h => absurd (show (none : Option Nat) = some r from h) (fun q => by cases q)
  | 2, _, j, r, h => absurd (show (none : Option Nat) = some r from h) (fun q => by cases q)
  | 3, _, j, r, h => absurd (show (none : Option Nat) = some r from h) (fun q => by cases q)
  | 4, _, j, r, h => absurd (show (none : Option Nat) = some r from h) (fun q => by cases q)
  | 5, _, j, r, h => absurd (show (none : Option Nat) = some r from h) (fun q => by cases q)
  | 6, _, j, r, h => absurd (show (none : Option Nat) = some r from h) (fun q => by cases q)
  | 7, _, j, r, h => match j, h with
    | 0, h => absurd (show (none : Option Nat) = some r from h) (fun q => by cases q)
    | 1, h => by rw [← Option.some.inj (show some 8 = some r from h)]; decide
    | 2, h => by rw [← Option.some.inj (show some 9 = some r from h)]; decide
    | 3, h => by rw [← Option.some.inj (show some 10 = some r from h)]; decide
    | 4, h => by rw [← Option.some.inj (show some 11 = some r from h)]; decide
    | 5, h => absurd (show (none : Option Nat) = some r from h) (fun q => by cases q)
    | 6, h => absurd (show (none : Option Nat) = some r from h) (fun q => by cases q)
    | 7, h => by rw [← Option.some.inj (show some 12 = some r from h)]; decide
    | j + 8, h => absurd (show (none : Option Nat) = some r from h) (fun q => by cases q)
  | 8, _, j, r, h => absurd (show (none : Option Nat) = some r from h) (fun q => by cases q)
  | 9, _, j, r, h => absurd (show (none : Option Nat) = some r from h) (fun q => by cases q)
  | 10, _, j, r, h => absurd (show (none : Option Nat) = some r from h) (fun q => by cases q)
  | 11, _, j, r, h => absurd (show (none : Option Nat) = some r from h) (fun q => by cases q)
  | 12, _, j, r, h => absurd (show (none : Option Nat) = some r from h) (fun q => by cases q)
  | 13, _, j, r, h => match j, h with
    | 0, h => by rw [← Option.some.inj (show some 14 = some r from h)]; decide
    | 1, h => absurd (show (none : Option Nat) = some r from h) (fun q => by cases q)
    | 2, h => absurd (show (none : Option Nat) = some r from h) (fun q => by cases q)
    | 3, h => by rw [← Option.some.inj (show some 15 = some r from h)]; decide
    | 4, h => absurd (show (none : Option Nat) = some r from h) (fun q => by cases q)
    | 5, h => by rw [← Option.some.inj (show some 16 = some r from h)]; decide
    | 6, h => absurd (show (none : Option Nat) = some r from h) (fun q => by cases q)
    | 7, h => by rw [← Option.some.inj (show some 17 = some r from h)]; decide
    | j + 8, h => absurd (show (none : Option Nat) = some r from h) (fun q => by cases q)
  | 14, _, j, r, h => absurd (show (none : Option Nat) = some r from h) (fun q => by cases q)
  | 15, _, j, r, h => absurd (show (none : Option Nat) = some r from h) (fun q => by cases q)
  | 16, _, j, r, h => absurd (show (none : Option Nat) = some r from h) (fun q => by cases q)
  | 17, _, j, r, h => absurd (show (none : Option Nat) = some r from h) (fun q => by cases q)
  | 18, _, j, r, h => match j, h with
    | 0, h => by rw [← Option.some.inj (show some 19 = some r from h)]; decide
    | 1, h => by rw [← Option.some.inj (show some 25 = some r from h)]; decide
    | j + 2, h => absurd (show (none : Option Nat) = some r from h) (fun q => by cases q)
  | 19, _, j, r, h => match j, h with
    | 0, h => absurd (show (none : Option Nat) = some r from h) (fun q => by cases q)
    | 1, h => by rw [← Option.some.inj (show some 20 = some r from h)]; decide
    | 2, h => by rw [← Option.some.inj (show some 21 = some r from h)]; decide
    | 3, h => by rw [← Option.some.inj (show some 22 = some r from h)]; decide
    | 4, h => by rw [← Option.some.inj (show some 23 = some r from h)]; decide
    | 5, h => absurd (show (none : Option Nat) = some r from h) (fun q => by cases q)
    | 6, h => absurd (show (none : Option Nat) = some r from h) (fun q => by cases q)
    | 7, h => by rw [← Option.some.inj (show some 24 = some r from h)]; decide
    | j + 8, h => absurd (show (none : Option Nat) = some r from h) (fun q => by cases q)
  | 20, _, j, r, h => absurd (show (none : Option Nat) = some r from h) (fun q => by cases q)
  | 21, _, j, r, h => absurd (show (none : Option Nat) = some r from h) (fun q => by cases q)
  | 22, _, j, r, h => absurd (show (none : Option Nat) = some r from h) (fun q => by cases q)
  | 23, _, j, r, h => absurd (show (none : Option Nat) = some r from h) (fun q => by cases q)
  | 24, _, j, r, h => absurd (show (none : Option Nat) = some r from h) (fun q => by cases q)
  | 25, _, j, r, h => absurd (show (none : Option Nat) = some r from h) (fun q => by cases q)
  | 26, _, j, r, h => match j, h with
    | 0, h => absurd (show (none : Option Nat) = some r from h) (fun q => by cases q)
    | 1, h => by rw [← Option.some.inj (show some 27 = some r from h)]; decide
    | 2, h => by rw [← Option.some.inj (show some 28 = some r from h)]; decide
    | 3, h => by rw [← Option.some.inj (show some 29 = some r from h)]; decide
    | 4, h => by rw [← Option.some.inj (show some 30 = some r from h)]; decide
    | j + 5, h => absurd (show (none : Option Nat) = some r from h) (fun q => by cases q)
  | 27, _, j, r, h => absurd (show (none : Option Nat) = some r from h) (fun q => by cases q)
  | 28, _, j, r, h => absurd (show (none : Option Nat) = some r from h) (fun q => by cases q)
  | 29, _, j, r, h => absurd (show (none : Option Nat) = some r from h) (fun q => by cases q)
  | 30, _, j, r, h => absurd (show (none : Option Nat) = some r from h) (fun q => by cases q)
  | 31, _, j, r, h => match j, h with
    | 0, h => by rw [← Option.some.inj (show some 79 = some r from h)]; decide
    | 1, h => absurd (show (none : Option Nat) = some r from h) (fun q => by cases q)
    | 2, h => absurd (show (none : Option Nat) = some r from h) (fun q => by cases q)
    | 3, h => by rw [← Option.some.inj (show some 32 = some r from h)]; decide
    | j + 4, h => absurd (show (none : Option Nat) = some r from h) (fun q => by cases q)
  | 32, _, j, r, h => absurd (show (none : Option Nat) = some r from h) (fun q => by cases q)
  | 33, _, j, r, h => match j, h with
    | 0, h => by rw [← Option.some.inj (show some 34 = some r from h)]; decide
    | 1, h => by rw [← Option.some.inj (show some 35 = some r from h)]; decide
    | 2, h => by rw [← Option.some.inj (show some 36 = some r from h)]; decide
    | 3, h => by rw [← Option.some.inj (show some 37 = some r from h)]; decide
    | j + 4, h => absurd (show (none : Option Nat) = some r from h) (fun q => by cases q)
  | 34, _, j, r, h => absurd (show (none : Option Nat) = some r from h) (fun q => by cases q)
  | 35, _, j, r, h => absurd (show (none : Option Nat) = some r from h) (fun q => by cases q)
  | 36, _, j, r, h => absurd (show (none : Option Nat) = some r from h) (fun q => by cases q)
  | 37, _, j, r, h => absurd (show (none : Option Nat) = some r from h) (fun q => by cases q)
  | 38, _, j, r, h => match j, h with
    | 0, h => by rw [← Option.some.inj (show some 39 = some r from h)]; decide
    | 1, h => absurd (show (none : Option Nat) = some r from h) (fun q => by cases q)
    | 2, h => by rw [← Option.some.inj (show some 40 = some r from h)]; decide
    | j + 3, h => absurd (show (none : Option Nat) = some r from h) (fun q => by cases q)
  | 39, _, j, r, h => absurd (show (none : Option Nat) = some r from h) (fun q => by cases q)
  | 40, _, j, r, h => absurd (show (none : Option Nat) = some r from h) (fun q => by cases q)
  | 41, _, j, r, h => match j, h with
    | 0, h => by rw [← Option.some.inj (show some 42 = some r from h)]; decide
    | 1, h => by rw [← Option.some.inj (show some 44 = some r from h)]; decide
    | 2, h => by rw [← Option.some.inj (show some 46 = some r from h)]; decide
    | 3, h => by rw [← Option.some.inj (show some 48 = some r from h)]; decide
    | 4, h => by rw [← Option.some.inj (show some 50 = some r from h)]; decide
    | 5, h => by rw [← Option.some.inj (show some 52 = some r from h)]; decide
    | j + 6, h => absurd (show (none : Option Nat) = some r from h) (fun q => by cases q)
  | 42, _, j, r, h => match j, h with
    | 0, h => absurd (show (none : Option Nat) = some r from h) (fun q => by cases q)
    | 1, h => absurd (show (none : Option Nat) = some r from h) (fun q => by cases q)
    | 2, h => absurd (show (none : Option Nat) = some r from h) (fun q => by cases q)
    | 3, h => by rw [← Option.some.inj (show some 43 = some r from h)]; decide
    | j + 4, h => absurd (show (none : Option Nat) = some r from h) (fun q => by cases q)
  | 43, _, j, r, h => absurd (show (none : Option Nat) = some r from h) (fun q => by cases q)
  | 44, _, j, r, h => match j, h with
    | 0, h => absurd (show (none : Option Nat) = some r from h) (fun q => by cases q)
    | 1, h => absurd (show (none : Option Nat) = some r from h) (fun q => by cases q)
    | 2, h => absurd (show (none : Option Nat) = some r from h) (fun q => by cases q)
    | 3, h => by rw [← Option.some.inj (show some 45 = some r from h)]; decide
    | j + 4, h => absurd (show (none : Option Nat) = some r from h) (fun q => by cases q)
  | 45, _, j, r, h => absurd (show (none : Option Nat) = some r from h) (fun q => by cases q)
  | 46, _, j, r, h => match j, h with
    | 0, h => absurd (show (none : Option Nat) = some r from h) (fun q => by cases q)
    | 1, h => absurd (show (none : Option Nat) = some r from h) (fun q => by cases q)
    | 2, h => absurd (show (none : Option Nat) = some r from h) (fun q => by cases q)
    | 3, h => by rw [← Option.some.inj (show some 47 = some r from h)]; decide
    | j + 4, h => absurd (show (none : Option Nat) = some r from h) (fun q => by cases q)
  | 47, _, j, r, h => absurd (show (none : Option Nat) = some r from h) (fun q => by cases q)
  | 48, _, j, r, h => match j, h with
    | 0, h => absurd (show (none : Option Nat) = some r from h) (fun q => by cases q)
    | 1, h => absurd (show (none : Option Nat) = some r from h) (fun q => by cases q)
    | 2, h => absurd (show (none : Option Nat) = some r from h) (fun q => by cases q)
    | 3, h => by rw [← Option.some.inj (show some 49 = some r from h)]; decide
    | j + 4, h => absurd (show (none : Option Nat) = some r from h) (fun q => by cases q)
  | 49, _, j, r, h => absurd (show (none : Option Nat) = some r from h) (fun q => by cases q)
  | 50, _, j, r, h => match j, h with
    | 0, h => absurd (show (none : Option Nat) = some r from h) (fun q => by cases q)
    | 1, h => absurd (show (none : Option Nat) = some r from h) (fun q => by cases q)
    | 2, h => absurd (show (none : Option Nat) = some r from h) (fun q => by cases q)
    | 3, h => by rw [← Option.some.inj (show some 51 = some r from h)]; decide
    | j + 4, h => absurd (show (none : Option Nat) = some r from h) (fun q => by cases q)
  | 51, _, j, r, h => absurd (show (none : Option Nat) = some r from h) (fun q => by cases q)
  | 52, _, j, r, h => match j, h with
    | 0, h => absurd (show (none : Option Nat) = some r from h) (fun q => by cases q)
    | 1, h => absurd (show (none : Option Nat) = some r from h) (fun q => by cases q)
    | 2, h => absurd (show (none : Option Nat) = some r from h) (fun q => by cases q)
    | 3, h => by rw [← Option.some.inj (show some 53 = some r from h)]; decide
    | j + 4, h => absurd (show (none : Option Nat) = some r from h) (fun q => by cases q)
  | 53, _, j, r, h => absurd (show (none : Option Nat) = some r from h) (fun q => by cases q)
  | 54, _, j, r, h => match j, h with
    | 0, h => by rw [← Option.some.inj (show some 55 = some r from h)]; decide
    | 1, h => by rw [← Option.some.inj (show some 56 = some r from h)]; decide
    | 2, h => by rw [← Option.some.inj (show some 57 = some r from h)]; decide
    | 3, h => by rw [← Option.some.inj (show some 58 = some r from h)]; decide
    | 4, h => absurd (show (none : Option Nat) = some r from h) (fun q => by cases q)
    | 5, h => absurd (show (none : Option Nat) = some r from h) (fun q => by cases q)
    | 6, h => absurd (show (none : Option Nat) = some r from h) (fun q => by cases q)
    | 7, h => by rw [← Option.some.inj (show some 59 = some r from h)]; decide
    | 8, h => absurd (show (none : Option Nat) = some r from h) (fun q => by cases q)
    | 9, h => by rw [← Option.some.inj (show some 60 = some r from h)]; decide
    | 10, h => absurd (show (none : Option Nat) = some r from h) (fun q => by cases q)
    | 11, h => absurd (show (none : Option Nat) = some r from h) (fun q => by cases q)
    | 12, h => absurd (show (none : Option Nat) = some r from h) (fun q => by cases q)
    | 13, h => absurd (show (none : Option Nat) = some r from h) (fun q => by cases q)
    | 14, h => absurd (show (none : Option Nat) = some r from h) (fun q => by cases q)
    | 15, h => absurd (show (none : Option Nat) = some r from h) (fun q => by cases q)
    | 16, h => by rw [← Option.some.inj (show some 61 = some r from h)]; decide
    | 17, h => by rw [← Option.some.inj (show some 62 = some r from h)]; decide
    | 18, h => by rw [← Option.some.inj (show some 63 = some r from h)]; decide
    | 19, h => by rw [← Option.some.inj (show some 64 = some r from h)]; decide
    | 20, h => absurd (show (none : Option Nat) = some r from h) (fun q => by cases q)
    | 21, h => by rw [← Option.some.inj (show some 65 = some r from h)]; decide
    | 22, h => by rw [← Option.some.inj (show some 66 = some r from h)]; decide
    | 23, h => absurd (show (none : Option Nat) = some r from h) (fun q => by cases q)
    | 24, h => by rw [← Option.some.inj (show some 67 = some r from h)]; decide
    | 25, h => by rw [← Option.some.inj (show some 68 = some r from h)]; decide
    | 26, h => by rw [← Option.some.inj (show some 69 = some r from h)]; decide
    | 27, h => by rw [← Option.some.inj (show some 70 = some r from h)]; decide
    | 28, h => absurd (show (none : Option Nat) = some r from h) (fun q => by cases q)
    | 29, h => absurd (show (none : Option Nat) = some r from h) (fun q => by cases q)
    | 30, h => by rw [← Option.some.inj (show some 71 = some r from h)]; decide
    | 31, h => by rw [← Option.some.inj (show some 72 = some r from h)]; decide
    | 32, h => absurd (show (none : Option Nat) = some r from h) (fun q => by cases q)
    | 33, h => by rw [← Option.some.inj (show some 73 = some r from h)]; decide
    | 34, h => by rw [← Option.some.inj (show some 74 = some r from h)]; decide
    | 35, h => absurd (show (none : Option Nat) = some r from h) (fun q => by cases q)
    | 36, h => absurd (show (none : Option Nat) = some r from h) (fun q => by cases q)
    | 37, h => absurd (show (none : Option Nat) = some r from h) (fun q => by cases q)
    | 38, h => by rw [← Option.some.inj (show some 75 = some r from h)]; decide
    | 39, h => by rw [← Option.some.inj (show some 76 = some r from h)]; decide
    | 40, h => by rw [← Option.some.inj (show some 77 = some r from h)]; decide
    | 41, h => by rw [← Option.some.inj (show some 78 = some r from h)]; decide
    | j + 42, h => absurd (show (none : Option Nat) = some r from h) (fun q => by cases q)
  | 55, _, j, r, h => absurd (show (none : Option Nat) = some r from h) (fun q => by cases q)
  | 56, _, j, r, h => absurd (show (none : Option Nat) = some r from h) (fun q => by cases q)
  | 57, _, j, r, h => absurd (show (none : Option Nat) = some r from h) (fun q => by cases q)
  | 58, _, j, r, h => absurd (show (none : Option Nat) = some r from h) (fun q => by cases q)
  | 59, _, j, r, h => absurd (show (none : Option Nat) = some r from h) (fun q => by cases q)
  | 60, _, j, r, h => absurd (show (none : Option Nat) = some r from h) (fun q => by cases q)
  | 61, _, j, r, h => absurd (show (none : Option Nat) = some r from h) (fun q => by cases q)
  | 62, _, j, r, h => absurd (show (none : Option Nat) = some r from h) (fun q => by cases q)
  | 63, _, j, r, h => absurd (show (none : Option Nat) = some r from h) (fun q => by cases q)
  | 64, _, j, r, h => absurd (show (none : Option Nat) = some r from h) (fun q => by cases q)
  | 65, _, j, r, h => absurd (show (none : Option Nat) = some r from h) (fun q => by cases q)
  | 66, _, j, r, h => absurd (show (none : Option Nat) = some r from h) (fun q => by cases q)
  | 67, _, j, r, h => absurd (show (none : Option Nat) = some r from h) (fun q => by cases q)
  | 68, _, j, r, h => absurd (show (none : Option Nat) = some r from h) (fun q => by cases q)
  | 69, _, j, r, h => absurd (show (none : Option Nat) = some r from h) (fun q => by cases q)
  | 70, _, j, r, h => absurd (show (none : Option Nat) = some r from h) (fun q => by cases q)
  | 71, _, j, r, h => absurd (show (none : Option Nat) = some r from h) (fun q => by cases q)
  | 72, _, j, r, h => absurd (show (none : Option Nat) = some r from h) (fun q => by cases q)
  | 73, _, j, r, h => absurd (show (none : Option Nat) = some r from h) (fun q => by cases q)
  | 74, _, j, r, h => absurd (show (none : Option Nat) = some r from h) (fun q => by cases q)
  | 75, _, j, r, h => absurd (show (none : Option Nat) = some r from h) (fun q => by cases q)
  | 76, _, j, r, h => absurd (show (none : Option Nat) = some r from h) (fun q => by cases q)
  | 77, _, j, r, h => absurd (show (none : Option Nat) = some r from h) (fun q => by cases q)
  | 78, _, j, r, h => absurd (show (none : Option Nat) = some r from h) (fun q => by cases q)
  | 79, _, j, r, h => match j, h with
    | 0, h => absurd (show (none : Option Nat) = some r from h) (fun q => by cases q)
    | 1, h => by rw [← Option.some.inj (show some 80 = some r from h)]; decide
    | 2, h => by rw [← Option.some.inj (show some 81 = some r from h)]; decide
    | 3, h => by rw [← Option.some.inj (show some 82 = some r from h)]; decide
    | 4, h => by rw [← Option.some.inj (show some 83 = some r from h)]; decide
    | 5, h => absurd (show (none : Option Nat) = some r from h) (fun q => by cases q)
    | 6, h => absurd (show (none : Option Nat) = some r from h) (fun q => by cases q)
    | 7, h => by rw [← Option.some.inj (show some 84 = some r from h)]; decide
    | j + 8, h => absurd (show (none : Option Nat) = some r from h) (fun q => by cases q)
  | 80, _, j, r, h => absurd (show (none : Option Nat) = some r from h) (fun q => by cases q)
  | 81, _, j, r, h => absurd (show (none : Option Nat) = some r from h) (fun q => by cases q)
  | 82, _, j, r, h => absurd (show (none : Option Nat) = some r from h) (fun q => by cases q)
  | 83, _, j, r, h => absurd (show (none : Option Nat) = some r from h) (fun q => by cases q)
  | 84, _, j, r, h => absurd (show (none : Option Nat) = some r from h) (fun q => by cases q)
  | k + 85, h, _, _, _ => absurd h (by omega)
