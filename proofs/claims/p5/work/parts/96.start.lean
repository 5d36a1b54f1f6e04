/-! THE START: the fresh heap is the picture beside the reference; the static tables (by program: wip/p2u/m_start.py) -/
def gCLS : List gA := [.inr (.inr (7, [.ref 1, .ref 3, .ref 20, .ref 43, .ref 116, .ref 119, .int 0])), .inr (.inr (4, [.ref 2, .int 0, .int 96])), .inl (96, fun _ => 0), .inr (.inr (1, [.ref 4, .ref 6, .ref 8, .ref 10, .ref 12, .ref 14, .ref 16, .ref 18, .int ((-1))])), .inr (.inr (4, [.ref 5, .int 0, .int 1048576])), .inl (256, fun _ => 0), .inr (.inr (4, [.ref 7, .int 0, .int 65536])), .inl (32, fun _ => 0), .inr (.inr (4, [.ref 9, .int 0, .int 65536])), .inl (32, fun _ => 0), .inr (.inr (4, [.ref 11, .int 0, .int 65536])), .inl (32, fun _ => 0), .inr (.inr (4, [.ref 13, .int 0, .int 256])), .inl (256, fun _ => 0), .inr (.inr (4, [.ref 15, .int 0, .int 30])), .inl (30, fun _ => 0), .inr (.inr (4, [.ref 17, .int 0, .int 30])), .inl (30, fun _ => 0), .inr (.inr (4, [.ref 19, .int 0, .int 30])), .inl (30, fun _ => 0), .inr (.inr (2, [.ref 21, .ref 28, .ref 35, .int 0, .int 0, .int 0, .int 0, .int 0, .ref 39, .ref 41, .ref 3, .int 3, .int 0, .int ((-1)), .int 0, .int 0, .int 0, .int 0])), .inr (.inr (5, [.int 0, .int 0, .int 0, .int 32, .int 0, .int ((-1)), .int 0, .int 0, .ref 22, .ref 24, .ref 26, .int ((-1)), .int 0, .int ((-1)), .int 0])), .inr (.inr (4, [.ref 23, .int 0, .int 60])), .inl (60, fun _ => 0), .inr (.inr (4, [.ref 25, .int 0, .int 60])), .inl (60, fun _ => 0), .inr (.inr (4, [.ref 27, .int 0, .int 60])), .inl (60, fun _ => 0), .inr (.inr (5, [.int 1, .int 0, .int 0, .int 32, .int 0, .int ((-1)), .int 0, .int 0, .ref 29, .ref 31, .ref 33, .int ((-1)), .int 0, .int ((-1)), .int 0])), .inr (.inr (4, [.ref 30, .int 0, .int 60])), .inl (60, fun _ => 0), .inr (.inr (4, [.ref 32, .int 0, .int 60])), .inl (60, fun _ => 0), .inr (.inr (4, [.ref 34, .int 0, .int 60])), .inl (60, fun _ => 0), .inr (.inr (6, [.int 1, .int 0, .int 0, .ref 36, .ref 37, .ref 38, .int 0, .int ((-1)), .int 0, .int 0])), .inl (24, fun _ => 0), .inl (24, fun _ => 0), .inl (24, fun _ => 0), .inr (.inr (4, [.ref 40, .int 0, .int 64])), .inl (64, fun _ => 0), .inr (.inr (4, [.ref 42, .int 0, .int 64])), .inl (64, fun _ => 0), .inr (.inr (0, [.ref 44, .ref 67, .ref 90, .int 0, .ref 113, .ref 114, .ref 115])), .inr (.inr (2, [.ref 45, .ref 52, .ref 59, .int 0, .int 0, .int 0, .int 0, .int 0, .ref 63, .ref 65, .null, .int 3, .int 0, .int ((-1)), .int 0, .int 0, .int 0, .int 0])), .inr (.inr (5, [.int 0, .int 0, .int 0, .int 32, .int 0, .int ((-1)), .int 0, .int 0, .ref 46, .ref 48, .ref 50, .int ((-1)), .int 0, .int ((-1)), .int 0])), .inr (.inr (4, [.ref 47, .int 0, .int 60])), .inl (60, fun _ => 0), .inr (.inr (4, [.ref 49, .int 0, .int 60])), .inl (60, fun _ => 0), .inr (.inr (4, [.ref 51, .int 0, .int 60])), .inl (60, fun _ => 0), .inr (.inr (5, [.int 1, .int 0, .int 0, .int 32, .int 0, .int ((-1)), .int 0, .int 0, .ref 53, .ref 55, .ref 57, .int ((-1)), .int 0, .int ((-1)), .int 0])), .inr (.inr (4, [.ref 54, .int 0, .int 60])), .inl (60, fun _ => 0), .inr (.inr (4, [.ref 56, .int 0, .int 60])), .inl (60, fun _ => 0), .inr (.inr (4, [.ref 58, .int 0, .int 60])), .inl (60, fun _ => 0), .inr (.inr (6, [.int 1, .int 0, .int 0, .ref 60, .ref 61, .ref 62, .int 0, .int ((-1)), .int 0, .int 0])), .inl (24, fun _ => 0), .inl (24, fun _ => 0), .inl (24, fun _ => 0), .inr (.inr (4, [.ref 64, .int 0, .int 64])), .inl (64, fun _ => 0), .inr (.inr (4, [.ref 66, .int 0, .int 64])), .inl (64, fun _ => 0), .inr (.inr (2, [.ref 68, .ref 75, .ref 82, .int 0, .int 0, .int 0, .int 0, .int 0, .ref 86, .ref 88, .null, .int 3, .int 0, .int ((-1)), .int 0, .int 0, .int 0, .int 0])), .inr (.inr (5, [.int 0, .int 0, .int 0, .int 32, .int 0, .int ((-1)), .int 0, .int 0, .ref 69, .ref 71, .ref 73, .int ((-1)), .int 0, .int ((-1)), .int 0])), .inr (.inr (4, [.ref 70, .int 0, .int 60])), .inl (60, fun _ => 0), .inr (.inr (4, [.ref 72, .int 0, .int 60])), .inl (60, fun _ => 0), .inr (.inr (4, [.ref 74, .int 0, .int 60])), .inl (60, fun _ => 0), .inr (.inr (5, [.int 1, .int 0, .int 0, .int 32, .int 0, .int ((-1)), .int 0, .int 0, .ref 76, .ref 78, .ref 80, .int ((-1)), .int 0, .int ((-1)), .int 0])), .inr (.inr (4, [.ref 77, .int 0, .int 60])), .inl (60, fun _ => 0), .inr (.inr (4, [.ref 79, .int 0, .int 60])), .inl (60, fun _ => 0), .inr (.inr (4, [.ref 81, .int 0, .int 60])), .inl (60, fun _ => 0), .inr (.inr (6, [.int 1, .int 0, .int 0, .ref 83, .ref 84, .ref 85, .int 0, .int ((-1)), .int 0, .int 0])), .inl (24, fun _ => 0), .inl (24, fun _ => 0), .inl (24, fun _ => 0), .inr (.inr (4, [.ref 87, .int 0, .int 64])), .inl (64, fun _ => 0), .inr (.inr (4, [.ref 89, .int 0, .int 64])), .inl (64, fun _ => 0), .inr (.inr (2, [.ref 91, .ref 98, .ref 105, .int 0, .int 0, .int 0, .int 0, .int 0, .ref 109, .ref 111, .null, .int 3, .int 0, .int ((-1)), .int 0, .int 0, .int 0, .int 0])), .inr (.inr (5, [.int 0, .int 0, .int 0, .int 32, .int 0, .int ((-1)), .int 0, .int 0, .ref 92, .ref 94, .ref 96, .int ((-1)), .int 0, .int ((-1)), .int 0])), .inr (.inr (4, [.ref 93, .int 0, .int 60])), .inl (60, fun _ => 0), .inr (.inr (4, [.ref 95, .int 0, .int 60])), .inl (60, fun _ => 0), .inr (.inr (4, [.ref 97, .int 0, .int 60])), .inl (60, fun _ => 0), .inr (.inr (5, [.int 1, .int 0, .int 0, .int 32, .int 0, .int ((-1)), .int 0, .int 0, .ref 99, .ref 101, .ref 103, .int ((-1)), .int 0, .int ((-1)), .int 0])), .inr (.inr (4, [.ref 100, .int 0, .int 60])), .inl (60, fun _ => 0), .inr (.inr (4, [.ref 102, .int 0, .int 60])), .inl (60, fun _ => 0), .inr (.inr (4, [.ref 104, .int 0, .int 60])), .inl (60, fun _ => 0), .inr (.inr (6, [.int 1, .int 0, .int 0, .ref 106, .ref 107, .ref 108, .int 0, .int ((-1)), .int 0, .int 0])), .inl (24, fun _ => 0), .inl (24, fun _ => 0), .inl (24, fun _ => 0), .inr (.inr (4, [.ref 110, .int 0, .int 64])), .inl (64, fun _ => 0), .inr (.inr (4, [.ref 112, .int 0, .int 64])), .inl (64, fun _ => 0), .inl (4, fun _ => 0), .inl (4, fun _ => 0), .inl (4, fun _ => 0), .inr (.inr (3, [.int 0, .int 0, .int 0, .int 0, .int 0, .int 0, .int 0, .ref 117, .int 0, .int 0, .int 0])), .inr (.inr (4, [.ref 118, .int 0, .int 15])), .inl (15, fun _ => 0), .inr (.inr (3, [.int 0, .int 0, .int 0, .int 0, .int 0, .int 0, .int 0, .ref 120, .int 0, .int 0, .int 0])), .inr (.inr (4, [.ref 121, .int 0, .int 15])), .inl (15, fun _ => 0)]
def gM0 (f : Nat → Int32) : gMd := (fun k => if k = 9 then 1 else 0, fun i => if i = 4 then f else fun _ => 0)
def gMDL (f : Nat → Int32) : List gA := [gMC (gM0 f), .inl (96, (gM0 f).2 0), .inl (9, (gM0 f).2 1), .inl (9, (gM0 f).2 2), .inl (15, (gM0 f).2 3), .inl (772, (gM0 f).2 4), .inl (772, (gM0 f).2 5), .inl (180, (gM0 f).2 6), .inl (7740, (gM0 f).2 7), .inl (8193, (gM0 f).2 8), .inl (8192, (gM0 f).2 9), .inl (8192, (gM0 f).2 10), .inl (131072, (gM0 f).2 11), .inl (260, (gM0 f).2 12), .inl (260, (gM0 f).2 13), .inl (256, (gM0 f).2 14), .inl (64, (gM0 f).2 15)]
def gW0 (f : Nat → Int32) : List gA := (gCLS ++ gMDL f) ++ [.inr (.inl (1, fun _ => 0))]
def tyZ0 (k : Nat) : Nat := if k = 4 then 256 else 32
section TST
variable {f : Nat → Int32}
theorem gW0a {k : Nat} {e : gA} (h : gCLS[k]? = some e) : (gW0 f)[k]? = some e := gapp_old (gapp_old h)
theorem gW0b {k : Nat} {e : gA} (h : (gMDL f)[k]? = some e) : (gW0 f)[122 + k]? = some e := gapp_old (gapp_new (n := 122) rfl h)
def tyT0 : tyT := ([], ((116, (119, 0)), ((fun _ => 0), [])))
def tyFr0 (f : Nat → Int32) (k : Nat) : Prop := ∃ e, (gW0 f)[k]? = some e ∧ e ≠ gJunk ∧ tyOk tyT0 1 tyZ0 (gW0 f) k e
theorem tyStep {P : Nat → Prop} {n : Nat} (h : ∀ k, k < n → P k) (hn : P n) : ∀ k, k < n + 1 → P k := fun k hk => by
  by_cases c : k = n
  · subst c; exact hn
  · exact h k (by omega)
theorem ty0row {k m : Nat} (hk : tyK k = (1, m)) (hm : m ≤ 1000000) (h1 : gCLS[k]? = some (.inr (.inr (4, [.ref (k + 1), .int 0, .int (nI m)])))) (h2 : gCLS[k + 1]? = some (.inl (m, fun _ => 0))) : tyFr0 f k := by
  refine ⟨_, gW0a h1, gJ4 (by decide), ?_⟩
  have e1 : (tyK k).1 = 1 := by rw [hk]
  have e2 : (tyK k).2 = m := by rw [hk]
  unfold tyOk
  rw [if_neg (by rw [e1]; decide), if_pos e1, e2]
  exact ⟨[], ⟨fun _ => 0, gW0a h1, gW0a h2, Nat.zero_le _, hm, fun j hj => by cases hj⟩, fun _ => rfl, fun _ => rfl⟩
theorem ty0arr {k m : Nat} (hk : tyK k = (2, m)) (h1 : gCLS[k]? = some (.inl (m, fun _ => 0))) : tyFr0 f k := by
  refine ⟨_, gW0a h1, gJ2, ?_⟩
  have e1 : (tyK k).1 = 2 := by rw [hk]
  have e2 : (tyK k).2 = m := by rw [hk]
  unfold tyOk
  rw [if_neg (by rw [e1]; decide), if_neg (by rw [e1]; decide), if_pos e1, e2]
  exact ⟨_, rfl⟩
theorem ty0rowg {k m n j : Nat} (hk : tyK k = (4, m)) (hz : tyZ0 k = n) (hj : n * 2 ^ j = m) (hn : 32 ≤ n) (hn2 : n ≤ 1048576) (h1 : gCLS[k]? = some (.inr (.inr (4, [.ref (k + 1), .int 0, .int (nI m)])))) (h2 : gCLS[k + 1]? = some (.inl (n, fun _ => 0))) : tyFr0 f k := by
  refine ⟨_, gW0a h1, gJ4 (by decide), ?_⟩
  have e1 : (tyK k).1 = 4 := by rw [hk]
  have e2 : (tyK k).2 = m := by rw [hk]
  unfold tyOk
  rw [if_neg (by rw [e1]; decide), if_neg (by rw [e1]; decide), if_neg (by rw [e1]; decide), if_neg (by rw [e1]; decide), if_pos e1, e2, hz]
  exact ⟨k + 1, [], ⟨fun _ => 0, gW0a h1, gW0a h2, Nat.zero_le _, hn2, fun j hj => by cases hj⟩, Or.inl rfl, hn, j, hj⟩
theorem ty0_0 : tyFr0 f 0 := ⟨_, gW0a rfl, gJ4 (by decide), by have e1 : (tyK 0).1 = 0 := rfl; unfold tyOk; rw [if_pos e1]; exact ⟨0, 116, 119, rfl, Or.inl rfl, Or.inl rfl, Or.inr rfl, rfl, rfl, rfl⟩⟩
theorem ty0_3 : tyFr0 f 3 := ⟨_, gW0a rfl, gJ4 (by decide), by have e1 : (tyK 3).1 = 3 := rfl; unfold tyOk; rw [if_neg (by rw [e1]; decide), if_neg (by rw [e1]; decide), if_neg (by rw [e1]; decide), if_pos e1]; exact ⟨_, rfl⟩⟩
theorem ty0_20 : tyFr0 f 20 := ⟨_, gW0a rfl, gJ4 (by decide), by have e1 : (tyK 20).1 = 7 := rfl; unfold tyOk; rw [if_neg (by rw [e1]; decide), if_neg (by rw [e1]; decide), if_neg (by rw [e1]; decide), if_neg (by rw [e1]; decide), if_neg (by rw [e1]; decide), if_neg (by rw [e1]; decide), if_neg (by rw [e1]; decide), if_pos e1]; exact ⟨_, _, _, _, _, _, _, _, _, _, _, _, _, rfl, Or.inl rfl, Or.inl rfl, Or.inl rfl, Or.inl ⟨rfl, rfl⟩⟩⟩
theorem ty0_21 : tyFr0 f 21 := ⟨_, gW0a rfl, gJ4 (by decide), by have e1 : (tyK 21).1 = 5 := rfl; unfold tyOk; rw [if_neg (by rw [e1]; decide), if_neg (by rw [e1]; decide), if_neg (by rw [e1]; decide), if_neg (by rw [e1]; decide), if_neg (by rw [e1]; decide), if_pos e1]; exact ⟨_, _, _, _, _, _, _, _, _, _, _, _, rfl, Or.inl rfl⟩⟩
theorem ty0_28 : tyFr0 f 28 := ⟨_, gW0a rfl, gJ4 (by decide), by have e1 : (tyK 28).1 = 5 := rfl; unfold tyOk; rw [if_neg (by rw [e1]; decide), if_neg (by rw [e1]; decide), if_neg (by rw [e1]; decide), if_neg (by rw [e1]; decide), if_neg (by rw [e1]; decide), if_pos e1]; exact ⟨_, _, _, _, _, _, _, _, _, _, _, _, rfl, Or.inl rfl⟩⟩
theorem ty0_35 : tyFr0 f 35 := ⟨_, gW0a rfl, gJ4 (by decide), by have e1 : (tyK 35).1 = 6 := rfl; unfold tyOk; rw [if_neg (by rw [e1]; decide), if_neg (by rw [e1]; decide), if_neg (by rw [e1]; decide), if_neg (by rw [e1]; decide), if_neg (by rw [e1]; decide), if_neg (by rw [e1]; decide), if_pos e1]; exact ⟨_, _, _, _, _, _, _, rfl, fun _ => rfl⟩⟩
theorem ty0_43 : tyFr0 f 43 := ⟨_, gW0a rfl, gJ4 (by decide), by have e1 : (tyK 43).1 = 8 := rfl; unfold tyOk; rw [if_neg (by rw [e1]; decide), if_neg (by rw [e1]; decide), if_neg (by rw [e1]; decide), if_neg (by rw [e1]; decide), if_neg (by rw [e1]; decide), if_neg (by rw [e1]; decide), if_neg (by rw [e1]; decide), if_neg (by rw [e1]; decide), if_pos e1]; exact ⟨_, rfl, Or.inl rfl⟩⟩
theorem ty0_44 : tyFr0 f 44 := ⟨_, gW0a rfl, gJ4 (by decide), by have e1 : (tyK 44).1 = 7 := rfl; unfold tyOk; rw [if_neg (by rw [e1]; decide), if_neg (by rw [e1]; decide), if_neg (by rw [e1]; decide), if_neg (by rw [e1]; decide), if_neg (by rw [e1]; decide), if_neg (by rw [e1]; decide), if_neg (by rw [e1]; decide), if_pos e1]; exact ⟨_, _, _, _, _, _, _, _, _, _, _, _, _, rfl, Or.inl rfl, Or.inl rfl, Or.inl rfl, Or.inr ⟨by decide, rfl⟩⟩⟩
theorem ty0_45 : tyFr0 f 45 := ⟨_, gW0a rfl, gJ4 (by decide), by have e1 : (tyK 45).1 = 5 := rfl; unfold tyOk; rw [if_neg (by rw [e1]; decide), if_neg (by rw [e1]; decide), if_neg (by rw [e1]; decide), if_neg (by rw [e1]; decide), if_neg (by rw [e1]; decide), if_pos e1]; exact ⟨_, _, _, _, _, _, _, _, _, _, _, _, rfl, Or.inl rfl⟩⟩
theorem ty0_52 : tyFr0 f 52 := ⟨_, gW0a rfl, gJ4 (by decide), by have e1 : (tyK 52).1 = 5 := rfl; unfold tyOk; rw [if_neg (by rw [e1]; decide), if_neg (by rw [e1]; decide), if_neg (by rw [e1]; decide), if_neg (by rw [e1]; decide), if_neg (by rw [e1]; decide), if_pos e1]; exact ⟨_, _, _, _, _, _, _, _, _, _, _, _, rfl, Or.inl rfl⟩⟩
theorem ty0_59 : tyFr0 f 59 := ⟨_, gW0a rfl, gJ4 (by decide), by have e1 : (tyK 59).1 = 6 := rfl; unfold tyOk; rw [if_neg (by rw [e1]; decide), if_neg (by rw [e1]; decide), if_neg (by rw [e1]; decide), if_neg (by rw [e1]; decide), if_neg (by rw [e1]; decide), if_neg (by rw [e1]; decide), if_pos e1]; exact ⟨_, _, _, _, _, _, _, rfl, fun _ => rfl⟩⟩
theorem ty0_67 : tyFr0 f 67 := ⟨_, gW0a rfl, gJ4 (by decide), by have e1 : (tyK 67).1 = 7 := rfl; unfold tyOk; rw [if_neg (by rw [e1]; decide), if_neg (by rw [e1]; decide), if_neg (by rw [e1]; decide), if_neg (by rw [e1]; decide), if_neg (by rw [e1]; decide), if_neg (by rw [e1]; decide), if_neg (by rw [e1]; decide), if_pos e1]; exact ⟨_, _, _, _, _, _, _, _, _, _, _, _, _, rfl, Or.inl rfl, Or.inl rfl, Or.inl rfl, Or.inr ⟨by decide, rfl⟩⟩⟩
theorem ty0_68 : tyFr0 f 68 := ⟨_, gW0a rfl, gJ4 (by decide), by have e1 : (tyK 68).1 = 5 := rfl; unfold tyOk; rw [if_neg (by rw [e1]; decide), if_neg (by rw [e1]; decide), if_neg (by rw [e1]; decide), if_neg (by rw [e1]; decide), if_neg (by rw [e1]; decide), if_pos e1]; exact ⟨_, _, _, _, _, _, _, _, _, _, _, _, rfl, Or.inl rfl⟩⟩
theorem ty0_75 : tyFr0 f 75 := ⟨_, gW0a rfl, gJ4 (by decide), by have e1 : (tyK 75).1 = 5 := rfl; unfold tyOk; rw [if_neg (by rw [e1]; decide), if_neg (by rw [e1]; decide), if_neg (by rw [e1]; decide), if_neg (by rw [e1]; decide), if_neg (by rw [e1]; decide), if_pos e1]; exact ⟨_, _, _, _, _, _, _, _, _, _, _, _, rfl, Or.inl rfl⟩⟩
theorem ty0_82 : tyFr0 f 82 := ⟨_, gW0a rfl, gJ4 (by decide), by have e1 : (tyK 82).1 = 6 := rfl; unfold tyOk; rw [if_neg (by rw [e1]; decide), if_neg (by rw [e1]; decide), if_neg (by rw [e1]; decide), if_neg (by rw [e1]; decide), if_neg (by rw [e1]; decide), if_neg (by rw [e1]; decide), if_pos e1]; exact ⟨_, _, _, _, _, _, _, rfl, fun _ => rfl⟩⟩
theorem ty0_90 : tyFr0 f 90 := ⟨_, gW0a rfl, gJ4 (by decide), by have e1 : (tyK 90).1 = 7 := rfl; unfold tyOk; rw [if_neg (by rw [e1]; decide), if_neg (by rw [e1]; decide), if_neg (by rw [e1]; decide), if_neg (by rw [e1]; decide), if_neg (by rw [e1]; decide), if_neg (by rw [e1]; decide), if_neg (by rw [e1]; decide), if_pos e1]; exact ⟨_, _, _, _, _, _, _, _, _, _, _, _, _, rfl, Or.inl rfl, Or.inl rfl, Or.inl rfl, Or.inr ⟨by decide, rfl⟩⟩⟩
theorem ty0_91 : tyFr0 f 91 := ⟨_, gW0a rfl, gJ4 (by decide), by have e1 : (tyK 91).1 = 5 := rfl; unfold tyOk; rw [if_neg (by rw [e1]; decide), if_neg (by rw [e1]; decide), if_neg (by rw [e1]; decide), if_neg (by rw [e1]; decide), if_neg (by rw [e1]; decide), if_pos e1]; exact ⟨_, _, _, _, _, _, _, _, _, _, _, _, rfl, Or.inl rfl⟩⟩
theorem ty0_98 : tyFr0 f 98 := ⟨_, gW0a rfl, gJ4 (by decide), by have e1 : (tyK 98).1 = 5 := rfl; unfold tyOk; rw [if_neg (by rw [e1]; decide), if_neg (by rw [e1]; decide), if_neg (by rw [e1]; decide), if_neg (by rw [e1]; decide), if_neg (by rw [e1]; decide), if_pos e1]; exact ⟨_, _, _, _, _, _, _, _, _, _, _, _, rfl, Or.inl rfl⟩⟩
theorem ty0_105 : tyFr0 f 105 := ⟨_, gW0a rfl, gJ4 (by decide), by have e1 : (tyK 105).1 = 6 := rfl; unfold tyOk; rw [if_neg (by rw [e1]; decide), if_neg (by rw [e1]; decide), if_neg (by rw [e1]; decide), if_neg (by rw [e1]; decide), if_neg (by rw [e1]; decide), if_neg (by rw [e1]; decide), if_pos e1]; exact ⟨_, _, _, _, _, _, _, rfl, fun _ => rfl⟩⟩
theorem ty0_116 : tyFr0 f 116 := ⟨_, gW0a rfl, gJ4 (by decide), by have e1 : (tyK 116).1 = 9 := rfl; unfold tyOk; rw [if_neg (by rw [e1]; decide), if_neg (by rw [e1]; decide), if_neg (by rw [e1]; decide), if_neg (by rw [e1]; decide), if_neg (by rw [e1]; decide), if_neg (by rw [e1]; decide), if_neg (by rw [e1]; decide), if_neg (by rw [e1]; decide), if_neg (by rw [e1]; decide), if_pos e1]; exact ⟨_, _, _, _, _, _, _, _, _, _, rfl, Or.inl rfl, fun _ => ⟨rfl, rfl, rfl, rfl, rfl, rfl, rfl⟩⟩⟩
theorem ty0_119 : tyFr0 f 119 := ⟨_, gW0a rfl, gJ4 (by decide), by have e1 : (tyK 119).1 = 9 := rfl; unfold tyOk; rw [if_neg (by rw [e1]; decide), if_neg (by rw [e1]; decide), if_neg (by rw [e1]; decide), if_neg (by rw [e1]; decide), if_neg (by rw [e1]; decide), if_neg (by rw [e1]; decide), if_neg (by rw [e1]; decide), if_neg (by rw [e1]; decide), if_neg (by rw [e1]; decide), if_pos e1]; exact ⟨_, _, _, _, _, _, _, _, _, _, rfl, Or.inl rfl, fun _ => ⟨rfl, rfl, rfl, rfl, rfl, rfl, rfl⟩⟩⟩
theorem ty0_lt20 : ∀ k, k < 20 → tyFr0 f k := (tyStep (tyStep (tyStep (tyStep (tyStep (tyStep (tyStep (tyStep (tyStep (tyStep (tyStep (tyStep (tyStep (tyStep (tyStep (tyStep (tyStep (tyStep (tyStep (tyStep (fun k hk => absurd hk (Nat.not_lt_zero k)) (ty0_0)) (ty0row (f := f) (k := 1) (m := 96) rfl (by decide) rfl rfl)) (ty0arr (f := f) (k := 2) (m := 96) rfl rfl)) (ty0_3)) (ty0rowg (f := f) (k := 4) (m := 1048576) (n := 256) (j := 12) rfl rfl (by decide) (by decide) (by decide) rfl rfl)) (ty0arr (f := f) (k := 5) (m := 256) rfl rfl)) (ty0rowg (f := f) (k := 6) (m := 65536) (n := 32) (j := 11) rfl rfl (by decide) (by decide) (by decide) rfl rfl)) (ty0arr (f := f) (k := 7) (m := 32) rfl rfl)) (ty0rowg (f := f) (k := 8) (m := 65536) (n := 32) (j := 11) rfl rfl (by decide) (by decide) (by decide) rfl rfl)) (ty0arr (f := f) (k := 9) (m := 32) rfl rfl)) (ty0rowg (f := f) (k := 10) (m := 65536) (n := 32) (j := 11) rfl rfl (by decide) (by decide) (by decide) rfl rfl)) (ty0arr (f := f) (k := 11) (m := 32) rfl rfl)) (ty0row (f := f) (k := 12) (m := 256) rfl (by decide) rfl rfl)) (ty0arr (f := f) (k := 13) (m := 256) rfl rfl)) (ty0row (f := f) (k := 14) (m := 30) rfl (by decide) rfl rfl)) (ty0arr (f := f) (k := 15) (m := 30) rfl rfl)) (ty0row (f := f) (k := 16) (m := 30) rfl (by decide) rfl rfl)) (ty0arr (f := f) (k := 17) (m := 30) rfl rfl)) (ty0row (f := f) (k := 18) (m := 30) rfl (by decide) rfl rfl)) (ty0arr (f := f) (k := 19) (m := 30) rfl rfl))
theorem ty0_lt40 : ∀ k, k < 40 → tyFr0 f k := (tyStep (tyStep (tyStep (tyStep (tyStep (tyStep (tyStep (tyStep (tyStep (tyStep (tyStep (tyStep (tyStep (tyStep (tyStep (tyStep (tyStep (tyStep (tyStep (tyStep ty0_lt20 (ty0_20)) (ty0_21)) (ty0row (f := f) (k := 22) (m := 60) rfl (by decide) rfl rfl)) (ty0arr (f := f) (k := 23) (m := 60) rfl rfl)) (ty0row (f := f) (k := 24) (m := 60) rfl (by decide) rfl rfl)) (ty0arr (f := f) (k := 25) (m := 60) rfl rfl)) (ty0row (f := f) (k := 26) (m := 60) rfl (by decide) rfl rfl)) (ty0arr (f := f) (k := 27) (m := 60) rfl rfl)) (ty0_28)) (ty0row (f := f) (k := 29) (m := 60) rfl (by decide) rfl rfl)) (ty0arr (f := f) (k := 30) (m := 60) rfl rfl)) (ty0row (f := f) (k := 31) (m := 60) rfl (by decide) rfl rfl)) (ty0arr (f := f) (k := 32) (m := 60) rfl rfl)) (ty0row (f := f) (k := 33) (m := 60) rfl (by decide) rfl rfl)) (ty0arr (f := f) (k := 34) (m := 60) rfl rfl)) (ty0_35)) (ty0arr (f := f) (k := 36) (m := 24) rfl rfl)) (ty0arr (f := f) (k := 37) (m := 24) rfl rfl)) (ty0arr (f := f) (k := 38) (m := 24) rfl rfl)) (ty0row (f := f) (k := 39) (m := 64) rfl (by decide) rfl rfl))
theorem ty0_lt60 : ∀ k, k < 60 → tyFr0 f k := (tyStep (tyStep (tyStep (tyStep (tyStep (tyStep (tyStep (tyStep (tyStep (tyStep (tyStep (tyStep (tyStep (tyStep (tyStep (tyStep (tyStep (tyStep (tyStep (tyStep ty0_lt40 (ty0arr (f := f) (k := 40) (m := 64) rfl rfl)) (ty0row (f := f) (k := 41) (m := 64) rfl (by decide) rfl rfl)) (ty0arr (f := f) (k := 42) (m := 64) rfl rfl)) (ty0_43)) (ty0_44)) (ty0_45)) (ty0row (f := f) (k := 46) (m := 60) rfl (by decide) rfl rfl)) (ty0arr (f := f) (k := 47) (m := 60) rfl rfl)) (ty0row (f := f) (k := 48) (m := 60) rfl (by decide) rfl rfl)) (ty0arr (f := f) (k := 49) (m := 60) rfl rfl)) (ty0row (f := f) (k := 50) (m := 60) rfl (by decide) rfl rfl)) (ty0arr (f := f) (k := 51) (m := 60) rfl rfl)) (ty0_52)) (ty0row (f := f) (k := 53) (m := 60) rfl (by decide) rfl rfl)) (ty0arr (f := f) (k := 54) (m := 60) rfl rfl)) (ty0row (f := f) (k := 55) (m := 60) rfl (by decide) rfl rfl)) (ty0arr (f := f) (k := 56) (m := 60) rfl rfl)) (ty0row (f := f) (k := 57) (m := 60) rfl (by decide) rfl rfl)) (ty0arr (f := f) (k := 58) (m := 60) rfl rfl)) (ty0_59))
theorem ty0_lt80 : ∀ k, k < 80 → tyFr0 f k := (tyStep (tyStep (tyStep (tyStep (tyStep (tyStep (tyStep (tyStep (tyStep (tyStep (tyStep (tyStep (tyStep (tyStep (tyStep (tyStep (tyStep (tyStep (tyStep (tyStep ty0_lt60 (ty0arr (f := f) (k := 60) (m := 24) rfl rfl)) (ty0arr (f := f) (k := 61) (m := 24) rfl rfl)) (ty0arr (f := f) (k := 62) (m := 24) rfl rfl)) (ty0row (f := f) (k := 63) (m := 64) rfl (by decide) rfl rfl)) (ty0arr (f := f) (k := 64) (m := 64) rfl rfl)) (ty0row (f := f) (k := 65) (m := 64) rfl (by decide) rfl rfl)) (ty0arr (f := f) (k := 66) (m := 64) rfl rfl)) (ty0_67)) (ty0_68)) (ty0row (f := f) (k := 69) (m := 60) rfl (by decide) rfl rfl)) (ty0arr (f := f) (k := 70) (m := 60) rfl rfl)) (ty0row (f := f) (k := 71) (m := 60) rfl (by decide) rfl rfl)) (ty0arr (f := f) (k := 72) (m := 60) rfl rfl)) (ty0row (f := f) (k := 73) (m := 60) rfl (by decide) rfl rfl)) (ty0arr (f := f) (k := 74) (m := 60) rfl rfl)) (ty0_75)) (ty0row (f := f) (k := 76) (m := 60) rfl (by decide) rfl rfl)) (ty0arr (f := f) (k := 77) (m := 60) rfl rfl)) (ty0row (f := f) (k := 78) (m := 60) rfl (by decide) rfl rfl)) (ty0arr (f := f) (k := 79) (m := 60) rfl rfl))
theorem ty0_lt100 : ∀ k, k < 100 → tyFr0 f k := (tyStep (tyStep (tyStep (tyStep (tyStep (tyStep (tyStep (tyStep (tyStep (tyStep (tyStep (tyStep (tyStep (tyStep (tyStep (tyStep (tyStep (tyStep (tyStep (tyStep ty0_lt80 (ty0row (f := f) (k := 80) (m := 60) rfl (by decide) rfl rfl)) (ty0arr (f := f) (k := 81) (m := 60) rfl rfl)) (ty0_82)) (ty0arr (f := f) (k := 83) (m := 24) rfl rfl)) (ty0arr (f := f) (k := 84) (m := 24) rfl rfl)) (ty0arr (f := f) (k := 85) (m := 24) rfl rfl)) (ty0row (f := f) (k := 86) (m := 64) rfl (by decide) rfl rfl)) (ty0arr (f := f) (k := 87) (m := 64) rfl rfl)) (ty0row (f := f) (k := 88) (m := 64) rfl (by decide) rfl rfl)) (ty0arr (f := f) (k := 89) (m := 64) rfl rfl)) (ty0_90)) (ty0_91)) (ty0row (f := f) (k := 92) (m := 60) rfl (by decide) rfl rfl)) (ty0arr (f := f) (k := 93) (m := 60) rfl rfl)) (ty0row (f := f) (k := 94) (m := 60) rfl (by decide) rfl rfl)) (ty0arr (f := f) (k := 95) (m := 60) rfl rfl)) (ty0row (f := f) (k := 96) (m := 60) rfl (by decide) rfl rfl)) (ty0arr (f := f) (k := 97) (m := 60) rfl rfl)) (ty0_98)) (ty0row (f := f) (k := 99) (m := 60) rfl (by decide) rfl rfl))
theorem ty0_lt120 : ∀ k, k < 120 → tyFr0 f k := (tyStep (tyStep (tyStep (tyStep (tyStep (tyStep (tyStep (tyStep (tyStep (tyStep (tyStep (tyStep (tyStep (tyStep (tyStep (tyStep (tyStep (tyStep (tyStep (tyStep ty0_lt100 (ty0arr (f := f) (k := 100) (m := 60) rfl rfl)) (ty0row (f := f) (k := 101) (m := 60) rfl (by decide) rfl rfl)) (ty0arr (f := f) (k := 102) (m := 60) rfl rfl)) (ty0row (f := f) (k := 103) (m := 60) rfl (by decide) rfl rfl)) (ty0arr (f := f) (k := 104) (m := 60) rfl rfl)) (ty0_105)) (ty0arr (f := f) (k := 106) (m := 24) rfl rfl)) (ty0arr (f := f) (k := 107) (m := 24) rfl rfl)) (ty0arr (f := f) (k := 108) (m := 24) rfl rfl)) (ty0row (f := f) (k := 109) (m := 64) rfl (by decide) rfl rfl)) (ty0arr (f := f) (k := 110) (m := 64) rfl rfl)) (ty0row (f := f) (k := 111) (m := 64) rfl (by decide) rfl rfl)) (ty0arr (f := f) (k := 112) (m := 64) rfl rfl)) (ty0arr (f := f) (k := 113) (m := 4) rfl rfl)) (ty0arr (f := f) (k := 114) (m := 4) rfl rfl)) (ty0arr (f := f) (k := 115) (m := 4) rfl rfl)) (ty0_116)) (ty0row (f := f) (k := 117) (m := 15) rfl (by decide) rfl rfl)) (ty0arr (f := f) (k := 118) (m := 15) rfl rfl)) (ty0_119))
theorem ty0_lt122 : ∀ k, k < 122 → tyFr0 f k := (tyStep (tyStep ty0_lt120 (ty0row (f := f) (k := 120) (m := 15) rfl (by decide) rfl rfl)) (ty0arr (f := f) (k := 121) (m := 15) rfl rfl))
theorem ty0_mod : gMod (gW0 f) (gM0 f) := ⟨gW0b (k := 0) rfl, (tyStep (tyStep (tyStep (tyStep (tyStep (tyStep (tyStep (tyStep (tyStep (tyStep (tyStep (tyStep (tyStep (tyStep (tyStep (tyStep (fun k hk => absurd hk (Nat.not_lt_zero k)) (gW0b (k := 1) rfl)) (gW0b (k := 2) rfl)) (gW0b (k := 3) rfl)) (gW0b (k := 4) rfl)) (gW0b (k := 5) rfl)) (gW0b (k := 6) rfl)) (gW0b (k := 7) rfl)) (gW0b (k := 8) rfl)) (gW0b (k := 9) rfl)) (gW0b (k := 10) rfl)) (gW0b (k := 11) rfl)) (gW0b (k := 12) rfl)) (gW0b (k := 13) rfl)) (gW0b (k := 14) rfl)) (gW0b (k := 15) rfl)) (gW0b (k := 16) rfl))⟩
set_option maxRecDepth 100000 in
theorem ty0_len : (gW0 f).length = 140 := rfl
theorem ty0_out : (gW0 f)[139]? = some (.inr (.inl (1, fun _ => 0))) := gapp_new (n := 139) (j := 0) rfl rfl
theorem gsz_two {a b : List gA} : gsz (a ++ b) = gsz a + gsz b := by unfold gsz; rw [List.map_append, List.sum_append]
theorem ty0_sz : gsz (gW0 f) ≤ 170000 := by
  unfold gW0
  rw [gsz_two, gsz_two]
  have a : gsz gCLS ≤ 3600 := by decide +kernel
  have b : gsz (gMDL f) = gsz (gMDL fun _ => 0) := rfl
  have c : gsz (gMDL fun _ => 0) ≤ 166200 := by decide +kernel
  have d : gsz [.inr (.inl (1, fun _ => 0))] = 1 := rfl
  omega
theorem ty0 : tyS tyT0 1 (fun _ => False) 140 170000 (gM0 f) tyZ0 (gW0 f) := by
  refine ⟨ty0_lt122, ty0_mod, ⟨_, ty0_out⟩, fun k => ⟨fun q => ?_, fun q => q.elim⟩, ?_⟩
  · by_cases c : k < 122
    · obtain ⟨e, he, hne, -⟩ := ty0_lt122 (f := f) k c
      rw [he] at q
      exact hne (Option.some.inj q)
    · by_cases c2 : k = 122
      · subst c2
        rw [ty0_mod.1] at q
        exact gJ4 (by decide) (Option.some.inj q)
      · by_cases c3 : k < 139
        · obtain ⟨j, rfl⟩ : ∃ j, k = 123 + j := ⟨k - 123, by omega⟩
          rw [ty0_mod.2 j (by omega)] at q
          exact gJ2 (Option.some.inj q)
        · by_cases c4 : k = 139
          · subst c4
            rw [ty0_out] at q
            exact gJ3 (Option.some.inj q)
          · rw [List.getElem?_eq_none (by rw [ty0_len]; omega)] at q
            cases q
  · have a := ty0_sz (f := f)
    have z4 : tyZ0 4 = 256 := rfl
    have z6 : tyZ0 6 = 32 := rfl
    have z8 : tyZ0 8 = 32 := rfl
    have z10 : tyZ0 10 = 32 := rfl
    rw [ty0_len, z4, z6, z8, z10]
    exact ⟨by decide, by decide, by omega, by decide, by decide⟩
theorem gS0k : ∀ q, q < 772 → gS0 q = kS0 32 q := by decide +kernel
theorem kW0 (hf : ∀ j, j < 772 → f j = gS0 j) : kW (gM0 f) 0 := by
  have h4 : ∀ q, (gM0 f).a 4 q = f q := fun q => rfl
  have z : ∀ i q, ¬ i = 4 → (gM0 f).a i q = 0 := fun i q h => by
    show (if i = 4 then f else fun _ => 0) q = 0
    rw [if_neg h]
  have r0 : ∀ b, gIr 0 b := fun b => by
    unfold gIr
    first | exact ⟨0, Nat.zero_le _, rfl⟩ | (constructor <;> simp)
  have J := kFresh (M := gM0 f) (w := 32) (by decide) (fun q hq => by rw [h4, hf q hq]; exact gS0k q hq) (by show gIr 1 3; exact ⟨1, by decide, rfl⟩) rfl (z 8 0 (by decide)) rfl ⟨0, by decide, rfl⟩ (fun p hp => ⟨by rw [z 6 _ (by decide)]; exact r0 _, by rw [z 6 _ (by decide)]; exact r0 _⟩)
  have e : (gM0 f).a 4 420 = 0 := by rw [h4, hf 420 (by decide)]; decide +kernel
  refine ⟨⟨0, by decide, rfl, 0, [], 0, J, by decide, fun h => ?_, fun _ => by decide⟩, fun q => by rw [z 0 _ (by decide)]; exact r0 _, rfl, by rw [z 1 _ (by decide)]; exact r0 _, by show (0 : Int32).toNatClampNeg ≤ 60; decide⟩
  rw [e] at h
  exact absurd h (by decide)
end TST
/-- a static int array, by the Statement's words -/
theorem va_Xst {args : Array Value} {s : State} {T : Term} {l : List Int32} (hl : l.length < 2 ^ 31) (ha : (Cond.arrayOf T .int).before args s = true) (hlen : (Cond.eq (.length T) (.int (nI l.length))).before args s = true)
    (hel : ∀ k, k < l.length → (Cond.eq (.elem T (.int (nI k))) (.int (l.getD k 0))).before args s = true) : ∃ t : Nat, T.eval args s none [] s = some (.ref t) ∧ va_X t l.length (fun k => l.getD k 0) s s.heap := by
  have hv := va_eqt hlen
  obtain ⟨a, cell, ht, harr, -⟩ := Term.length_spec hv
  obtain ⟨hc, -, -, -⟩ := State.arrayAt?_spec harr
  have hof := Cond.arrayOf_spec ha ht hc
  have hsz : cell.slots.size = l.length := by
    simp only [Term.eval, ht, harr, Option.bind_eq_bind, Option.bind_some] at hv
    by_cases hlt : cell.slots.size < 2147483648
    · simp only [hlt] at hv
      have h2 : nI cell.slots.size = nI l.length := by
        have := Option.some.inj hv
        exact Value.int.inj this
      exact nI_inj hlt hl h2
    · simp [hlt] at hv
  refine ⟨a, ht, cell, hc, hof.1, hof.2, hsz, fun k hk => ?_⟩
  obtain ⟨a', j, cell', ht', hj, harr', -, hs⟩ := Term.elem_spec (va_eqt (hel k hk))
  have ea : a' = a := by
    have := ht'.symm.trans ht
    exact Value.ref.inj (Option.some.inj this)
  subst ea
  have ec : cell' = cell := Option.some.inj (harr'.symm.trans harr)
  subst ec
  have ej : j = nI k := by
    have : some (Value.int (nI k)) = some (Value.int j) := hj
    exact (Value.int.inj (Option.some.inj this)).symm
  subst ej
  rw [nI_clamp (by omega)] at hs
  exact hs
