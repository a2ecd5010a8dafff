/-! what holds of the model behind its constructor -/
def f83 : Nat → Nat := fun j => if j = 8 then 1 else if j = 7 then 1 else if j = 6 then 1 else if j = 5 then 1 else if j = 17 then 4294967295 else if j = 12 then 4294967295 else 0
theorem xat83 : ∀ j, xat 0 [(8, (0, 1)), (7, (0, 1)), (6, (0, 1)), (5, (0, 1)), (17, (0, 4294967295)), (12, (0, 4294967295))] j = (0, f83 j) := by
  intro j
  by_cases h8 : j = 8
  · subst h8; rfl
  by_cases h7 : j = 7
  · subst h7; rfl
  by_cases h6 : j = 6
  · subst h6; rfl
  by_cases h5 : j = 5
  · subst h5; rfl
  by_cases h17 : j = 17
  · subst h17; rfl
  by_cases h12 : j = 12
  · subst h12; rfl
  have b8 : Nat.beq 8 j = false := by
    cases h : Nat.beq 8 j with
    | false => rfl
    | true => exact absurd (xbeq h).symm h8
  have b7 : Nat.beq 7 j = false := by
    cases h : Nat.beq 7 j with
    | false => rfl
    | true => exact absurd (xbeq h).symm h7
  have b6 : Nat.beq 6 j = false := by
    cases h : Nat.beq 6 j with
    | false => rfl
    | true => exact absurd (xbeq h).symm h6
  have b5 : Nat.beq 5 j = false := by
    cases h : Nat.beq 5 j with
    | false => rfl
    | true => exact absurd (xbeq h).symm h5
  have b17 : Nat.beq 17 j = false := by
    cases h : Nat.beq 17 j with
    | false => rfl
    | true => exact absurd (xbeq h).symm h17
  have b12 : Nat.beq 12 j = false := by
    cases h : Nat.beq 12 j with
    | false => rfl
    | true => exact absurd (xbeq h).symm h12
  rw [xat_cons, xat_cons, xat_cons, xat_cons, xat_cons, xat_cons, b8, b7, b6, b5, b17, b12]
  show ((0, 0) : xV) = (0, if j = 8 then 1 else if j = 7 then 1 else if j = 6 then 1 else if j = 5 then 1 else if j = 17 then 4294967295 else if j = 12 then 4294967295 else 0)
  rw [if_neg h8, if_neg h7, if_neg h6, if_neg h5, if_neg h17, if_neg h12]
theorem okB83 : okB f83 0 ∧ okB f83 1340 ∧ okB f83 2680 ∧ okB f83 4020 := by
  refine ⟨?_, ?_, ?_, ?_⟩ <;> refine ⟨by decide, by decide, by decide, by decide, by decide, by decide, by decide, by decide, by decide, by decide, by decide, by decide, by decide, by decide, by decide, by decide, by decide, fun k i hk _ => absurd hk (Nat.not_lt_zero k), fun k hk => absurd hk (Nat.not_lt_zero k), fun p i hk _ => absurd hk (Nat.not_lt_zero p), fun l hk => absurd hk (Nat.not_lt_zero l)⟩
theorem f83_le : ∀ j, f83 j ≤ 4294967295 := by
  intro j
  unfold f83
  repeat' split
  all_goals omega
set_option maxRecDepth 100000 in
theorem xMnv0 : xMnv xW0 := by
  intro k hk h8
  rcases Nat.lt_or_ge k 98 with h98 | h98
  · rcases Nat.lt_or_ge k 90 with h90 | h90
    · rcases Nat.lt_or_ge k 86 with h86 | h86
      · rcases Nat.lt_or_ge k 84 with h84 | h84
        · rcases Nat.lt_or_ge k 83 with h83 | h83
          · have e : k = 82 := by omega
            subst e
            exact (⟨0, 0, 0, 0, 0, 0, 0, 0, 0, 0, 0, 0, 0, 0, 0, 0, rfl, by decide, by decide, by decide, by decide, by decide, by decide, by decide, by decide, by decide, by decide, by decide, by decide, by decide, by decide, by decide⟩ : cp82 (wget xW0 82))
          · have e : k = 83 := by omega
            subst e
            exact (⟨f83, ⟨_, rfl, fun j _ => xat83 j⟩, f83_le, okB83⟩ : cpx83 (wget xW0 83))
        · rcases Nat.lt_or_ge k 85 with h85 | h85
          · have e : k = 84 := by omega
            subst e
            exact (⟨fun _ => 0, ⟨[], rfl, fun _ _ => rfl⟩, fun _ => Nat.zero_le _⟩ : cpK 2 0 3 51 1 (wget xW0 84))
          · have e : k = 85 := by omega
            subst e
            exact (⟨fun _ => 0, ⟨[], rfl, fun _ _ => rfl⟩, fun _ => Nat.zero_le _⟩ : cpI 7 52 4294967295 (wget xW0 85))
      · rcases Nat.lt_or_ge k 88 with h88 | h88
        · rcases Nat.lt_or_ge k 87 with h87 | h87
          · have e : k = 86 := by omega
            subst e
            exact (⟨fun _ => 0, ⟨[], rfl, fun _ _ => rfl⟩, fun _ => Nat.zero_le _⟩ : cpI 140 53 4294967295 (wget xW0 86))
          · have e : k = 87 := by omega
            subst e
            exact (⟨fun _ => 0, ⟨[], rfl, fun _ _ => rfl⟩, fun _ => Nat.zero_le _⟩ : cpI 20 54 4294967295 (wget xW0 87))
        · rcases Nat.lt_or_ge k 89 with h89 | h89
          · have e : k = 88 := by omega
            subst e
            exact (⟨fun _ => 0, ⟨[], rfl, fun _ _ => rfl⟩, fun _ => Nat.zero_le _⟩ : cpI 6 55 5 (wget xW0 88))
          · have e : k = 89 := by omega
            subst e
            exact (⟨fun _ => 0, ⟨[], rfl, fun _ _ => rfl⟩, fun _ => Nat.zero_le _⟩ : cpI 6 56 4294967295 (wget xW0 89))
    · rcases Nat.lt_or_ge k 94 with h94 | h94
      · rcases Nat.lt_or_ge k 92 with h92 | h92
        · rcases Nat.lt_or_ge k 91 with h91 | h91
          · have e : k = 90 := by omega
            subst e
            exact (⟨fun _ => 0, ⟨[], rfl, fun _ _ => rfl⟩, fun _ => Nat.zero_le _⟩ : cpI 6 57 4294967295 (wget xW0 90))
          · have e : k = 91 := by omega
            subst e
            exact (⟨fun _ => 0, ⟨[], rfl, fun _ _ => rfl⟩, fun _ => Nat.zero_le _⟩ : cpI 6 58 5 (wget xW0 91))
        · rcases Nat.lt_or_ge k 93 with h93 | h93
          · have e : k = 92 := by omega
            subst e
            exact (⟨fun _ => 0, [], rfl, fun _ _ => rfl⟩ : cpJ 6 59 (wget xW0 92))
          · have e : k = 93 := by omega
            subst e
            exact (⟨fun _ => 0, [], rfl, fun _ _ => rfl⟩ : cpJ 6 60 (wget xW0 93))
      · rcases Nat.lt_or_ge k 96 with h96 | h96
        · rcases Nat.lt_or_ge k 95 with h95 | h95
          · have e : k = 94 := by omega
            subst e
            exact (⟨fun _ => 0, [], rfl, fun _ _ => rfl⟩ : cpJ 6 61 (wget xW0 94))
          · have e : k = 95 := by omega
            subst e
            exact (⟨fun _ => 0, ⟨[], rfl, fun _ _ => rfl⟩, fun _ => Nat.zero_le _⟩ : cpI 36 62 4294967295 (wget xW0 95))
        · rcases Nat.lt_or_ge k 97 with h97 | h97
          · have e : k = 96 := by omega
            subst e
            exact (⟨fun _ => 0, ⟨[], rfl, fun _ _ => rfl⟩, fun _ => Nat.zero_le _⟩ : cpI 36 63 4294967295 (wget xW0 96))
          · have e : k = 97 := by omega
            subst e
            exact (⟨fun _ => 0, ⟨[], rfl, fun _ _ => rfl⟩, fun _ => Nat.zero_le _⟩ : cpI 6 64 4294967295 (wget xW0 97))
  · rcases Nat.lt_or_ge k 106 with h106 | h106
    · rcases Nat.lt_or_ge k 102 with h102 | h102
      · rcases Nat.lt_or_ge k 100 with h100 | h100
        · rcases Nat.lt_or_ge k 99 with h99 | h99
          · have e : k = 98 := by omega
            subst e
            exact (⟨fun _ => 0, ⟨[], rfl, fun _ _ => rfl⟩, fun _ => Nat.zero_le _⟩ : cpI 6 65 4294967295 (wget xW0 98))
          · have e : k = 99 := by omega
            subst e
            exact (⟨fun _ => 0, ⟨[], rfl, fun _ _ => rfl⟩, fun _ => Nat.zero_le _, fun _ (h : 0 = 1) => absurd h (by decide)⟩ : cpx99 (wget xW0 99))
        · rcases Nat.lt_or_ge k 101 with h101 | h101
          · have e : k = 100 := by omega
            subst e
            exact (⟨fun _ => 0, ⟨[], rfl, fun _ _ => rfl⟩, fun _ => Nat.zero_le _, fun _ (h : 0 = 1) => absurd h (by decide)⟩ : cpx100 (wget xW0 100))
          · have e : k = 101 := by omega
            subst e
            exact (⟨fun _ => 0, ⟨[], rfl, fun _ _ => rfl⟩, fun _ => Nat.zero_le _⟩ : cpI 36 68 35 (wget xW0 101))
      · rcases Nat.lt_or_ge k 104 with h104 | h104
        · rcases Nat.lt_or_ge k 103 with h103 | h103
          · have e : k = 102 := by omega
            subst e
            exact (⟨fun _ => 0, ⟨[], rfl, fun _ _ => rfl⟩, fun _ => Nat.zero_le _, fun _ => Or.inr (show 0 < 36 by decide)⟩ : cpx102 (wget xW0 102))
          · have e : k = 103 := by omega
            subst e
            exact (⟨fun _ => 0, ⟨[], rfl, fun _ _ => rfl⟩, fun _ => Nat.zero_le _⟩ : cpI 36 70 4294967295 (wget xW0 103))
        · rcases Nat.lt_or_ge k 105 with h105 | h105
          · have e : k = 104 := by omega
            subst e
            exact (⟨fun _ => 0, ⟨[], rfl, fun _ _ => rfl⟩, fun _ => Nat.zero_le _⟩ : cpI 36 71 4294967295 (wget xW0 104))
          · have e : k = 105 := by omega
            subst e
            exact (⟨fun _ => 0, ⟨[], rfl, fun _ _ => rfl⟩, fun _ => Nat.zero_le _⟩ : cpI 36 72 4294967295 (wget xW0 105))
    · rcases Nat.lt_or_ge k 110 with h110 | h110
      · rcases Nat.lt_or_ge k 108 with h108 | h108
        · rcases Nat.lt_or_ge k 107 with h107 | h107
          · have e : k = 106 := by omega
            subst e
            exact (⟨fun _ => 0, ⟨[], rfl, fun _ _ => rfl⟩, fun _ => Nat.zero_le _⟩ : cpI 14641 73 4294967295 (wget xW0 106))
          · have e : k = 107 := by omega
            subst e
            exact (⟨fun _ => 0, ⟨[], rfl, fun _ _ => rfl⟩, fun _ => Nat.zero_le _⟩ : cpK 2 0 14641 74 1 (wget xW0 107))
        · rcases Nat.lt_or_ge k 109 with h109 | h109
          · have e : k = 108 := by omega
            subst e
            exact (⟨fun _ => 0, ⟨[], rfl, fun _ _ => rfl⟩, fun _ => Nat.zero_le _, fun _ => (show okP 0 from ⟨by decide, by decide, by decide⟩)⟩ : cpx108 (wget xW0 108))
          · have e : k = 109 := by omega
            subst e
            exact (⟨fun _ => 0, ⟨[], rfl, fun _ _ => rfl⟩, fun _ => Nat.zero_le _⟩ : cpI 300 76 4294967295 (wget xW0 109))
      · rcases Nat.lt_or_ge k 112 with h112 | h112
        · rcases Nat.lt_or_ge k 111 with h111 | h111
          · have e : k = 110 := by omega
            subst e
            exact (⟨fun _ => 0, ⟨[], rfl, fun _ _ => rfl⟩, fun _ => Nat.zero_le _⟩ : cpI 36 77 4294967295 (wget xW0 110))
          · have e : k = 111 := by omega
            subst e
            exact (⟨fun _ => 0, ⟨[], rfl, fun _ _ => rfl⟩, fun _ => Nat.zero_le _⟩ : cpI 240 78 4294967295 (wget xW0 111))
        · rcases Nat.lt_or_ge k 113 with h113 | h113
          · have e : k = 112 := by omega
            subst e
            exact (⟨fun _ => 0, ⟨[], rfl, fun _ _ => rfl⟩, fun _ => Nat.zero_le _⟩ : cpI 320 79 4294967295 (wget xW0 112))
          · have e : k = 113 := by omega
            subst e
            exact (⟨fun _ => 0, ⟨[], rfl, fun _ _ => rfl⟩, fun _ => Nat.zero_le _⟩ : cpI 4 80 4294967295 (wget xW0 113))
