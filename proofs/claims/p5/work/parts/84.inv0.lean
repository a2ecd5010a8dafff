/-! what holds behind the constructors -/
set_option maxRecDepth 100000 in
theorem xInv0 : xInv xW0 := by
  intro k hk
  rcases Nat.lt_or_ge k 41 with h41 | h41
  · rcases Nat.lt_or_ge k 20 with h20 | h20
    · rcases Nat.lt_or_ge k 10 with h10 | h10
      · rcases Nat.lt_or_ge k 5 with h5 | h5
        · rcases Nat.lt_or_ge k 2 with h2 | h2
          · rcases Nat.lt_or_ge k 1 with h1 | h1
            · have e : k = 0 := by omega
              subst e
              exact (rfl : cp0 (wget xW0 0))
            · have e : k = 1 := by omega
              subst e
              exact (⟨0, 0, 4294967295, 0, 4294967295, 0, rfl, by decide, by decide, by decide, by decide, by decide, by decide⟩ : cp1 (wget xW0 1))
          · rcases Nat.lt_or_ge k 3 with h3 | h3
            · have e : k = 2 := by omega
              subst e
              exact (⟨fun _ => 0, ⟨[], rfl, fun _ _ => rfl⟩, fun _ => Or.inl (Nat.zero_le _)⟩ : cpY 500 0 (wget xW0 2))
            · rcases Nat.lt_or_ge k 4 with h4 | h4
              · have e : k = 3 := by omega
                subst e
                exact (⟨1, 1, 1, 1, 0, rfl, by decide, by decide, by decide, by decide, by decide⟩ : cp3 (wget xW0 3))
              · have e : k = 4 := by omega
                subst e
                exact (⟨0, rfl, by decide⟩ : cp4 (wget xW0 4))
        · rcases Nat.lt_or_ge k 7 with h7 | h7
          · rcases Nat.lt_or_ge k 6 with h6 | h6
            · have e : k = 5 := by omega
              subst e
              exact (⟨fun _ => 0, ⟨[], rfl, fun _ _ => rfl⟩, fun _ => Nat.zero_le _⟩ : cpI 24 1 4294967295 (wget xW0 5))
            · have e : k = 6 := by omega
              subst e
              exact (⟨0, rfl, by decide⟩ : cp6 (wget xW0 6))
          · rcases Nat.lt_or_ge k 8 with h8 | h8
            · have e : k = 7 := by omega
              subst e
              exact (⟨fun _ => 0, ⟨[], rfl, fun _ _ => rfl⟩, fun _ => Nat.zero_le _⟩ : cpI 8 2 4294967295 (wget xW0 7))
            · rcases Nat.lt_or_ge k 9 with h9 | h9
              · have e : k = 8 := by omega
                subst e
                exact (⟨0, rfl, by decide⟩ : cp8 (wget xW0 8))
              · have e : k = 9 := by omega
                subst e
                exact (⟨fun _ => 0, ⟨[], rfl, fun _ _ => rfl⟩, fun _ => Nat.zero_le _⟩ : cpI 12 3 4294967295 (wget xW0 9))
      · rcases Nat.lt_or_ge k 15 with h15 | h15
        · rcases Nat.lt_or_ge k 12 with h12 | h12
          · rcases Nat.lt_or_ge k 11 with h11 | h11
            · have e : k = 10 := by omega
              subst e
              exact (⟨0, rfl, by decide⟩ : cp10 (wget xW0 10))
            · have e : k = 11 := by omega
              subst e
              exact (⟨fun _ => 0, ⟨[], rfl, fun _ _ => rfl⟩, fun _ => Nat.zero_le _⟩ : cpI 12 4 4294967295 (wget xW0 11))
          · rcases Nat.lt_or_ge k 13 with h13 | h13
            · have e : k = 12 := by omega
              subst e
              exact (⟨0, rfl, by decide⟩ : cp12 (wget xW0 12))
            · rcases Nat.lt_or_ge k 14 with h14 | h14
              · have e : k = 13 := by omega
                subst e
                exact (⟨fun _ => 0, ⟨[], rfl, fun _ _ => rfl⟩, fun _ => Nat.zero_le _⟩ : cpI 40 5 4294967295 (wget xW0 13))
              · have e : k = 14 := by omega
                subst e
                exact (⟨0, rfl, by decide⟩ : cp14 (wget xW0 14))
        · rcases Nat.lt_or_ge k 17 with h17 | h17
          · rcases Nat.lt_or_ge k 16 with h16 | h16
            · have e : k = 15 := by omega
              subst e
              exact (⟨fun _ => 0, ⟨[], rfl, fun _ _ => rfl⟩, fun _ => Nat.zero_le _⟩ : cpI 200 6 4294967295 (wget xW0 15))
            · have e : k = 16 := by omega
              subst e
              exact (⟨0, rfl, by decide⟩ : cp16 (wget xW0 16))
          · rcases Nat.lt_or_ge k 18 with h18 | h18
            · have e : k = 17 := by omega
              subst e
              exact (⟨fun _ => 0, ⟨[], rfl, fun _ _ => rfl⟩, fun _ => Nat.zero_le _⟩ : cpI 60 7 4294967295 (wget xW0 17))
            · rcases Nat.lt_or_ge k 19 with h19 | h19
              · have e : k = 18 := by omega
                subst e
                exact (⟨0, rfl, by decide⟩ : cp18 (wget xW0 18))
              · have e : k = 19 := by omega
                subst e
                exact (⟨fun _ => 0, ⟨[], rfl, fun _ _ => rfl⟩, fun _ => Nat.zero_le _⟩ : cpI 12 8 4294967295 (wget xW0 19))
    · rcases Nat.lt_or_ge k 30 with h30 | h30
      · rcases Nat.lt_or_ge k 25 with h25 | h25
        · rcases Nat.lt_or_ge k 22 with h22 | h22
          · rcases Nat.lt_or_ge k 21 with h21 | h21
            · have e : k = 20 := by omega
              subst e
              exact (⟨0, rfl, by decide⟩ : cp20 (wget xW0 20))
            · have e : k = 21 := by omega
              subst e
              exact (⟨fun _ => 0, ⟨[], rfl, fun _ _ => rfl⟩, fun _ => Nat.zero_le _⟩ : cpI 48 9 4294967295 (wget xW0 21))
          · rcases Nat.lt_or_ge k 23 with h23 | h23
            · have e : k = 22 := by omega
              subst e
              exact (⟨0, rfl, by decide⟩ : cp22 (wget xW0 22))
            · rcases Nat.lt_or_ge k 24 with h24 | h24
              · have e : k = 23 := by omega
                subst e
                exact (⟨fun _ => 0, ⟨[], rfl, fun _ _ => rfl⟩, fun _ => Nat.zero_le _⟩ : cpI 32 10 4294967295 (wget xW0 23))
              · have e : k = 24 := by omega
                subst e
                exact (⟨0, rfl, by decide⟩ : cp24 (wget xW0 24))
        · rcases Nat.lt_or_ge k 27 with h27 | h27
          · rcases Nat.lt_or_ge k 26 with h26 | h26
            · have e : k = 25 := by omega
              subst e
              exact (⟨fun _ => 0, ⟨[], rfl, fun _ _ => rfl⟩, fun _ => Nat.zero_le _⟩ : cpI 320 11 4294967295 (wget xW0 25))
            · have e : k = 26 := by omega
              subst e
              exact trivial
          · rcases Nat.lt_or_ge k 28 with h28 | h28
            · have e : k = 27 := by omega
              subst e
              exact (⟨0, 0, 0, 0, 0, rfl, by decide, by decide, by decide, by decide, by decide⟩ : cp27 (wget xW0 27))
            · rcases Nat.lt_or_ge k 29 with h29 | h29
              · have e : k = 28 := by omega
                subst e
                exact (⟨1, 1, 1, 1, 0, rfl, by decide, by decide, by decide, by decide, by decide⟩ : cp28 (wget xW0 28))
              · have e : k = 29 := by omega
                subst e
                exact (⟨0, rfl, by decide⟩ : cp29 (wget xW0 29))
      · rcases Nat.lt_or_ge k 35 with h35 | h35
        · rcases Nat.lt_or_ge k 32 with h32 | h32
          · rcases Nat.lt_or_ge k 31 with h31 | h31
            · have e : k = 30 := by omega
              subst e
              exact (⟨fun _ => 0, ⟨[], rfl, fun _ _ => rfl⟩, fun _ => Nat.zero_le _⟩ : cpI 24 13 4294967295 (wget xW0 30))
            · have e : k = 31 := by omega
              subst e
              exact (⟨0, rfl, by decide⟩ : cp31 (wget xW0 31))
          · rcases Nat.lt_or_ge k 33 with h33 | h33
            · have e : k = 32 := by omega
              subst e
              exact (⟨fun _ => 0, ⟨[], rfl, fun _ _ => rfl⟩, fun _ => Nat.zero_le _⟩ : cpI 8 14 4294967295 (wget xW0 32))
            · rcases Nat.lt_or_ge k 34 with h34 | h34
              · have e : k = 33 := by omega
                subst e
                exact (⟨0, rfl, by decide⟩ : cp33 (wget xW0 33))
              · have e : k = 34 := by omega
                subst e
                exact (⟨fun _ => 0, ⟨[], rfl, fun _ _ => rfl⟩, fun _ => Nat.zero_le _⟩ : cpI 12 15 4294967295 (wget xW0 34))
        · rcases Nat.lt_or_ge k 38 with h38 | h38
          · rcases Nat.lt_or_ge k 36 with h36 | h36
            · have e : k = 35 := by omega
              subst e
              exact (⟨0, rfl, by decide⟩ : cp35 (wget xW0 35))
            · rcases Nat.lt_or_ge k 37 with h37 | h37
              · have e : k = 36 := by omega
                subst e
                exact (⟨fun _ => 0, ⟨[], rfl, fun _ _ => rfl⟩, fun _ => Nat.zero_le _⟩ : cpI 12 16 4294967295 (wget xW0 36))
              · have e : k = 37 := by omega
                subst e
                exact (⟨0, rfl, by decide⟩ : cp37 (wget xW0 37))
          · rcases Nat.lt_or_ge k 39 with h39 | h39
            · have e : k = 38 := by omega
              subst e
              exact (⟨fun _ => 0, ⟨[], rfl, fun _ _ => rfl⟩, fun _ => Nat.zero_le _⟩ : cpI 40 17 4294967295 (wget xW0 38))
            · rcases Nat.lt_or_ge k 40 with h40 | h40
              · have e : k = 39 := by omega
                subst e
                exact (⟨fun _ => 0, ⟨[], rfl, fun _ _ => rfl⟩, fun _ => Nat.zero_le _⟩ : cpI 3 18 4294967295 (wget xW0 39))
              · have e : k = 40 := by omega
                subst e
                exact (⟨fun _ => 0, ⟨[], rfl, fun _ _ => rfl⟩, fun _ => Nat.zero_le _⟩ : cpI 3 19 4294967295 (wget xW0 40))
  · rcases Nat.lt_or_ge k 61 with h61 | h61
    · rcases Nat.lt_or_ge k 51 with h51 | h51
      · rcases Nat.lt_or_ge k 46 with h46 | h46
        · rcases Nat.lt_or_ge k 43 with h43 | h43
          · rcases Nat.lt_or_ge k 42 with h42 | h42
            · have e : k = 41 := by omega
              subst e
              exact (⟨fun _ => 0, ⟨[], rfl, fun _ _ => rfl⟩, fun _ => Nat.zero_le _⟩ : cpI 20 20 4294967295 (wget xW0 41))
            · have e : k = 42 := by omega
              subst e
              exact (⟨0, 0, 0, 0, 0, rfl, by decide, by decide, by decide, by decide, by decide, by decide⟩ : cp42 (wget xW0 42))
          · rcases Nat.lt_or_ge k 44 with h44 | h44
            · have e : k = 43 := by omega
              subst e
              exact (⟨0, 0, rfl, by decide, by decide⟩ : cp43 (wget xW0 43))
            · rcases Nat.lt_or_ge k 45 with h45 | h45
              · have e : k = 44 := by omega
                subst e
                exact (⟨0, rfl, by decide⟩ : cp44 (wget xW0 44))
              · have e : k = 45 := by omega
                subst e
                exact (⟨fun _ => 0, ⟨[], rfl, fun _ _ => rfl⟩, fun _ => Nat.zero_le _⟩ : cpI 32 21 4294967295 (wget xW0 45))
        · rcases Nat.lt_or_ge k 48 with h48 | h48
          · rcases Nat.lt_or_ge k 47 with h47 | h47
            · have e : k = 46 := by omega
              subst e
              exact (⟨0, rfl, by decide⟩ : cp46 (wget xW0 46))
            · have e : k = 47 := by omega
              subst e
              exact (⟨fun _ => 0, ⟨[], rfl, fun _ _ => rfl⟩, fun _ => Nat.zero_le _⟩ : cpI 320 22 4294967295 (wget xW0 47))
          · rcases Nat.lt_or_ge k 49 with h49 | h49
            · have e : k = 48 := by omega
              subst e
              exact (⟨0, 0, 0, 0, 0, rfl, by decide, by decide, by decide, by decide, by decide, by decide⟩ : cp48 (wget xW0 48))
            · rcases Nat.lt_or_ge k 50 with h50 | h50
              · have e : k = 49 := by omega
                subst e
                exact (⟨0, 0, rfl, by decide, by decide⟩ : cp49 (wget xW0 49))
              · have e : k = 50 := by omega
                subst e
                exact (⟨fun _ => 0, ⟨[], rfl, fun _ _ => rfl⟩, fun _ => Nat.zero_le _⟩ : cpI 6 23 4294967295 (wget xW0 50))
      · rcases Nat.lt_or_ge k 56 with h56 | h56
        · rcases Nat.lt_or_ge k 53 with h53 | h53
          · rcases Nat.lt_or_ge k 52 with h52 | h52
            · have e : k = 51 := by omega
              subst e
              exact (⟨fun _ => 0, ⟨[], rfl, fun _ _ => rfl⟩, fun _ => Nat.zero_le _⟩ : cpI 6 24 4294967295 (wget xW0 51))
            · have e : k = 52 := by omega
              subst e
              exact (⟨fun _ => 0, ⟨[], rfl, fun _ _ => rfl⟩, fun _ => Nat.zero_le _⟩ : cpI 6 25 5 (wget xW0 52))
          · rcases Nat.lt_or_ge k 54 with h54 | h54
            · have e : k = 53 := by omega
              subst e
              exact (⟨fun _ => 0, [], rfl, fun _ _ => rfl⟩ : cpJ 6 26 (wget xW0 53))
            · rcases Nat.lt_or_ge k 55 with h55 | h55
              · have e : k = 54 := by omega
                subst e
                exact (⟨fun _ => 0, [], rfl, fun _ _ => rfl⟩ : cpJ 6 27 (wget xW0 54))
              · have e : k = 55 := by omega
                subst e
                exact (⟨fun _ => 0, [], rfl, fun _ _ => rfl⟩ : cpJ 6 28 (wget xW0 55))
        · rcases Nat.lt_or_ge k 58 with h58 | h58
          · rcases Nat.lt_or_ge k 57 with h57 | h57
            · have e : k = 56 := by omega
              subst e
              exact (⟨fun _ => 0, [], rfl, fun _ _ => rfl⟩ : cpJ 4 29 (wget xW0 56))
            · have e : k = 57 := by omega
              subst e
              exact (⟨fun _ => 0, ⟨[], rfl, fun _ _ => rfl⟩, fun _ => Nat.zero_le _⟩ : cpI 6 30 4294967295 (wget xW0 57))
          · rcases Nat.lt_or_ge k 59 with h59 | h59
            · have e : k = 58 := by omega
              subst e
              exact (⟨0, 0, 0, rfl, by decide, by decide, by decide⟩ : cp58 (wget xW0 58))
            · rcases Nat.lt_or_ge k 60 with h60 | h60
              · have e : k = 59 := by omega
                subst e
                exact (⟨fun _ => 0, ⟨[], rfl, fun _ _ => rfl⟩, fun _ => Nat.zero_le _⟩ : cpK 2 0 36 31 1 (wget xW0 59))
              · have e : k = 60 := by omega
                subst e
                exact (⟨fun _ => 0, ⟨[], rfl, fun _ _ => rfl⟩, fun _ => Nat.zero_le _⟩ : cpK 2 0 36 32 1 (wget xW0 60))
    · rcases Nat.lt_or_ge k 71 with h71 | h71
      · rcases Nat.lt_or_ge k 66 with h66 | h66
        · rcases Nat.lt_or_ge k 63 with h63 | h63
          · rcases Nat.lt_or_ge k 62 with h62 | h62
            · have e : k = 61 := by omega
              subst e
              exact (⟨fun _ => 0, ⟨[], rfl, fun _ _ => rfl⟩, fun _ => Nat.zero_le _⟩ : cpI 36 33 4294967295 (wget xW0 61))
            · have e : k = 62 := by omega
              subst e
              exact (⟨fun _ => 0, ⟨[], rfl, fun _ _ => rfl⟩, fun _ => Nat.zero_le _⟩ : cpI 36 34 4294967295 (wget xW0 62))
          · rcases Nat.lt_or_ge k 64 with h64 | h64
            · have e : k = 63 := by omega
              subst e
              exact (⟨fun _ => 0, ⟨[], rfl, fun _ _ => rfl⟩, fun _ => Nat.zero_le _⟩ : cpK 2 0 6 35 1 (wget xW0 63))
            · rcases Nat.lt_or_ge k 65 with h65 | h65
              · have e : k = 64 := by omega
                subst e
                exact (⟨fun _ => 0, ⟨[], rfl, fun _ _ => rfl⟩, fun _ => Nat.zero_le _⟩ : cpK 2 0 6 36 1 (wget xW0 64))
              · have e : k = 65 := by omega
                subst e
                exact (⟨fun _ => 0, ⟨[], rfl, fun _ _ => rfl⟩, fun _ => Nat.zero_le _⟩ : cpK 2 0 6 37 1 (wget xW0 65))
        · rcases Nat.lt_or_ge k 68 with h68 | h68
          · rcases Nat.lt_or_ge k 67 with h67 | h67
            · have e : k = 66 := by omega
              subst e
              exact (⟨fun _ => 0, ⟨[], rfl, fun _ _ => rfl⟩, fun _ => Nat.zero_le _⟩ : cpI 36 38 4294967295 (wget xW0 66))
            · have e : k = 67 := by omega
              subst e
              exact (⟨fun _ => 0, ⟨[], rfl, fun _ _ => rfl⟩, fun _ => Nat.zero_le _⟩ : cpI 36 39 35 (wget xW0 67))
          · rcases Nat.lt_or_ge k 69 with h69 | h69
            · have e : k = 68 := by omega
              subst e
              exact (⟨0, 0, rfl, by decide, by decide⟩ : cp68 (wget xW0 68))
            · rcases Nat.lt_or_ge k 70 with h70 | h70
              · have e : k = 69 := by omega
                subst e
                exact (⟨fun _ => 0, ⟨[], rfl, fun _ _ => rfl⟩, fun _ => Nat.zero_le _⟩ : cpI 36 40 4294967295 (wget xW0 69))
              · have e : k = 70 := by omega
                subst e
                exact (⟨fun _ => 0, ⟨[], rfl, fun _ _ => rfl⟩, fun _ => Nat.zero_le _⟩ : cpI 36 41 4294967295 (wget xW0 70))
      · rcases Nat.lt_or_ge k 76 with h76 | h76
        · rcases Nat.lt_or_ge k 73 with h73 | h73
          · rcases Nat.lt_or_ge k 72 with h72 | h72
            · have e : k = 71 := by omega
              subst e
              exact (⟨fun _ => 0, ⟨[], rfl, fun _ _ => rfl⟩, fun _ => Nat.zero_le _⟩ : cpI 36 42 4294967295 (wget xW0 71))
            · have e : k = 72 := by omega
              subst e
              exact (⟨0, 0, rfl, by decide, by decide⟩ : cp72 (wget xW0 72))
          · rcases Nat.lt_or_ge k 74 with h74 | h74
            · have e : k = 73 := by omega
              subst e
              exact (⟨fun _ => 0, ⟨[], rfl, fun _ _ => rfl⟩, fun _ => Nat.zero_le _⟩ : cpI 3025 43 4294967295 (wget xW0 73))
            · rcases Nat.lt_or_ge k 75 with h75 | h75
              · have e : k = 74 := by omega
                subst e
                exact (⟨0, rfl, by decide⟩ : cp74 (wget xW0 74))
              · have e : k = 75 := by omega
                subst e
                exact (⟨fun _ => 0, ⟨[], rfl, fun _ _ => rfl⟩, fun _ => Nat.zero_le _⟩ : cpI 300 44 4294967295 (wget xW0 75))
        · rcases Nat.lt_or_ge k 79 with h79 | h79
          · rcases Nat.lt_or_ge k 77 with h77 | h77
            · have e : k = 76 := by omega
              subst e
              exact (⟨0, 0, 0, 0, 0, 0, 0, 0, rfl, by decide, by decide, by decide, by decide, by decide, by decide, by decide, by decide⟩ : cp76 (wget xW0 76))
            · rcases Nat.lt_or_ge k 78 with h78 | h78
              · have e : k = 77 := by omega
                subst e
                exact (⟨fun _ => 0, ⟨[], rfl, fun _ _ => rfl⟩, fun _ => Nat.zero_le _⟩ : cpI 240 45 4294967295 (wget xW0 77))
              · have e : k = 78 := by omega
                subst e
                exact (⟨fun _ => 0, ⟨[], rfl, fun _ _ => rfl⟩, fun _ => Nat.zero_le _⟩ : cpI 15 46 4294967295 (wget xW0 78))
          · rcases Nat.lt_or_ge k 80 with h80 | h80
            · have e : k = 79 := by omega
              subst e
              exact (⟨fun _ => 0, ⟨[], rfl, fun _ _ => rfl⟩, fun _ => Nat.zero_le _⟩ : cpI 15 47 4294967295 (wget xW0 79))
            · rcases Nat.lt_or_ge k 81 with h81 | h81
              · have e : k = 80 := by omega
                subst e
                exact (⟨fun _ => 0, ⟨[], rfl, fun _ _ => rfl⟩, fun _ => Nat.zero_le _⟩ : cpI 11 48 4294967295 (wget xW0 80))
              · have e : k = 81 := by omega
                subst e
                exact (⟨fun _ => 0, ⟨[], rfl, fun _ _ => rfl⟩, fun _ => Nat.zero_le _⟩ : cpK 2 0 16 49 1 (wget xW0 81))
