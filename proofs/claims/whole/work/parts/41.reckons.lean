def twoL (k : Int32) (a b : Int64) : Int64 := if k = 31 then (clampM (a + b)).toInt64 else if k = 32 then (clampM (a - b)).toInt64 else if k = 33 then (clampM (a * b)).toInt64 else if k = 34 then (clampM (if b = 0 then 0 else fdivL a b)).toInt64 else if k = 35 then (if b = 0 then 0 else (clampM (a - b * (if b = 0 then 0 else fdivL a b))).toInt64) else if k = 36 then (if b ≤ a then b else a) else if k = 37 then (if a ≤ b then b else a) else if k = 38 then (if b ≤ a then 0 else 1) else if k = 39 then (if a ≤ b then 0 else 1) else if k = 40 then (if a = b then 1 else 0) else if k = 41 then a &&& b else a ||| b
set_option maxRecDepth 20000 in
theorem tm_two {S : aS} {k : Int32} {a b : Int64} : Run 1 0 0 mX10_two [.int k, .long a, .long b] S (RL64 (twoL k a b) S) := by
  refine Run.of (ls := [some (.int _), some (.long _), none, some (.long _), none]) (by decide) (Nat.le_of_ble_eq_true rfl) rfl ?_
  refine Ex.iload_n (pc := 0) dX10_two_0 rfl rfl ?_
  by_cases c1_31 : k = 31
  · refine Ex.tableIn (pc := 1) (tgt := 60) (off := 59) dX10_two_1 (by rw [c1_31]; decide) (by rw [c1_31]; decide) (by rw [c1_31]; decide) (by decide) ?_
    refine Ex.lload_n (pc := 60) dX10_two_60 rfl rfl ?_
    refine Ex.lload_n (pc := 61) dX10_two_61 rfl rfl ?_
    refine Ex.ladd (pc := 62) dX10_two_62 ?_
    refine Ex.callS (pc := 63) (As := [.long _]) (rest := []) dX10_two_63 cX10_412 tm_within rfl rfl (by decide) (Nat.le_refl _) (Nat.le_refl _) (Nat.le_of_ble_eq_true rfl) (Or.inl (fun r S' h => by obtain ⟨_, h⟩ := h; subst h; rfl)) (fun r S' hq _ _ => ?_)
    obtain ⟨rfl, rfl⟩ := hq
    refine Ex.lret (pc := 66) rfl dX10_two_66 (Nat.le_refl _) (Nat.le_refl _) ?_
    exact ⟨by simp only [twoL]; (try rw [lg_cmp_eq] at c93); (try rw [lg_cmp_ge] at c116); (try rw [lg_cmp_le] at c128); (try rw [lg_cmp_ge] at c140); (try rw [lg_cmp_le] at c152); (try rw [lg_cmp_eq] at c164); simp [*], rfl⟩
  by_cases c1_32 : k = 32
  · refine Ex.tableIn (pc := 1) (tgt := 67) (off := 66) dX10_two_1 (by rw [c1_32]; decide) (by rw [c1_32]; decide) (by rw [c1_32]; decide) (by decide) ?_
    refine Ex.lload_n (pc := 67) dX10_two_67 rfl rfl ?_
    refine Ex.lload_n (pc := 68) dX10_two_68 rfl rfl ?_
    refine Ex.lsub (pc := 69) dX10_two_69 ?_
    refine Ex.callS (pc := 70) (As := [.long _]) (rest := []) dX10_two_70 cX10_412 tm_within rfl rfl (by decide) (Nat.le_refl _) (Nat.le_refl _) (Nat.le_of_ble_eq_true rfl) (Or.inl (fun r S' h => by obtain ⟨_, h⟩ := h; subst h; rfl)) (fun r S' hq _ _ => ?_)
    obtain ⟨rfl, rfl⟩ := hq
    refine Ex.lret (pc := 73) rfl dX10_two_73 (Nat.le_refl _) (Nat.le_refl _) ?_
    exact ⟨by simp only [twoL]; (try rw [lg_cmp_eq] at c93); (try rw [lg_cmp_ge] at c116); (try rw [lg_cmp_le] at c128); (try rw [lg_cmp_ge] at c140); (try rw [lg_cmp_le] at c152); (try rw [lg_cmp_eq] at c164); simp [*], rfl⟩
  by_cases c1_33 : k = 33
  · refine Ex.tableIn (pc := 1) (tgt := 74) (off := 73) dX10_two_1 (by rw [c1_33]; decide) (by rw [c1_33]; decide) (by rw [c1_33]; decide) (by decide) ?_
    refine Ex.lload_n (pc := 74) dX10_two_74 rfl rfl ?_
    refine Ex.lload_n (pc := 75) dX10_two_75 rfl rfl ?_
    refine Ex.lmul (pc := 76) dX10_two_76 ?_
    refine Ex.callS (pc := 77) (As := [.long _]) (rest := []) dX10_two_77 cX10_412 tm_within rfl rfl (by decide) (Nat.le_refl _) (Nat.le_refl _) (Nat.le_of_ble_eq_true rfl) (Or.inl (fun r S' h => by obtain ⟨_, h⟩ := h; subst h; rfl)) (fun r S' hq _ _ => ?_)
    obtain ⟨rfl, rfl⟩ := hq
    refine Ex.lret (pc := 80) rfl dX10_two_80 (Nat.le_refl _) (Nat.le_refl _) ?_
    exact ⟨by simp only [twoL]; (try rw [lg_cmp_eq] at c93); (try rw [lg_cmp_ge] at c116); (try rw [lg_cmp_le] at c128); (try rw [lg_cmp_ge] at c140); (try rw [lg_cmp_le] at c152); (try rw [lg_cmp_eq] at c164); simp [*], rfl⟩
  by_cases c1_34 : k = 34
  · refine Ex.tableIn (pc := 1) (tgt := 81) (off := 80) dX10_two_1 (by rw [c1_34]; decide) (by rw [c1_34]; decide) (by rw [c1_34]; decide) (by decide) ?_
    refine Ex.lload_n (pc := 81) dX10_two_81 rfl rfl ?_
    refine Ex.lload_n (pc := 82) dX10_two_82 rfl rfl ?_
    refine Ex.callS (pc := 83) (As := [.long _, .long _]) (rest := []) dX10_two_83 cX10_416 tm_floor rfl rfl (by decide) (Nat.le_refl _) (Nat.le_refl _) (Nat.le_of_ble_eq_true rfl) (Or.inl (fun r S' h => by obtain ⟨_, h⟩ := h; subst h; rfl)) (fun r S' hq _ _ => ?_)
    obtain ⟨rfl, rfl⟩ := hq
    refine Ex.callS (pc := 86) (As := [.long _]) (rest := []) dX10_two_86 cX10_412 tm_within rfl rfl (by decide) (Nat.le_refl _) (Nat.le_refl _) (Nat.le_of_ble_eq_true rfl) (Or.inl (fun r S' h => by obtain ⟨_, h⟩ := h; subst h; rfl)) (fun r S' hq _ _ => ?_)
    obtain ⟨rfl, rfl⟩ := hq
    refine Ex.lret (pc := 89) rfl dX10_two_89 (Nat.le_refl _) (Nat.le_refl _) ?_
    exact ⟨by simp only [twoL]; (try rw [lg_cmp_eq] at c93); (try rw [lg_cmp_ge] at c116); (try rw [lg_cmp_le] at c128); (try rw [lg_cmp_ge] at c140); (try rw [lg_cmp_le] at c152); (try rw [lg_cmp_eq] at c164); simp [*], rfl⟩
  by_cases c1_35 : k = 35
  · refine Ex.tableIn (pc := 1) (tgt := 90) (off := 89) dX10_two_1 (by rw [c1_35]; decide) (by rw [c1_35]; decide) (by rw [c1_35]; decide) (by decide) ?_
    refine Ex.lload_n (pc := 90) dX10_two_90 rfl rfl ?_
    refine Ex.lconst (pc := 91) (v := 0) dX10_two_91 rfl ?_
    refine Ex.lcmp (pc := 92) dX10_two_92 ?_
    refine Ex.if_ne (pc := 93) (tgt := 100) dX10_two_93 (by decide) (fun c93 => ?_) (fun c93 => ?_)
    · skip
      refine Ex.lload_n (pc := 100) dX10_two_100 rfl rfl ?_
      refine Ex.lload_n (pc := 101) dX10_two_101 rfl rfl ?_
      refine Ex.lload_n (pc := 102) dX10_two_102 rfl rfl ?_
      refine Ex.lload_n (pc := 103) dX10_two_103 rfl rfl ?_
      refine Ex.callS (pc := 104) (As := [.long _, .long _]) (rest := [.long _, .long _]) dX10_two_104 cX10_416 tm_floor rfl rfl (by decide) (Nat.le_refl _) (Nat.le_refl _) (Nat.le_of_ble_eq_true rfl) (Or.inl (fun r S' h => by obtain ⟨_, h⟩ := h; subst h; rfl)) (fun r S' hq _ _ => ?_)
      obtain ⟨rfl, rfl⟩ := hq
      refine Ex.lmul (pc := 107) dX10_two_107 ?_
      refine Ex.lsub (pc := 108) dX10_two_108 ?_
      refine Ex.callS (pc := 109) (As := [.long _]) (rest := []) dX10_two_109 cX10_412 tm_within rfl rfl (by decide) (Nat.le_refl _) (Nat.le_refl _) (Nat.le_of_ble_eq_true rfl) (Or.inl (fun r S' h => by obtain ⟨_, h⟩ := h; subst h; rfl)) (fun r S' hq _ _ => ?_)
      obtain ⟨rfl, rfl⟩ := hq
      refine Ex.lret (pc := 112) rfl dX10_two_112 (Nat.le_refl _) (Nat.le_refl _) ?_
      exact ⟨by simp only [twoL]; (try rw [lg_cmp_eq] at c93); (try rw [lg_cmp_ge] at c116); (try rw [lg_cmp_le] at c128); (try rw [lg_cmp_ge] at c140); (try rw [lg_cmp_le] at c152); (try rw [lg_cmp_eq] at c164); simp [*], rfl⟩
    · skip
      refine Ex.lconst (pc := 96) (v := 0) dX10_two_96 rfl ?_
      refine Ex.goto (pc := 97) (tgt := 112) dX10_two_97 (by decide) ?_
      refine Ex.lret (pc := 112) rfl dX10_two_112 (Nat.le_refl _) (Nat.le_refl _) ?_
      exact ⟨by simp only [twoL]; (try rw [lg_cmp_eq] at c93); (try rw [lg_cmp_ge] at c116); (try rw [lg_cmp_le] at c128); (try rw [lg_cmp_ge] at c140); (try rw [lg_cmp_le] at c152); (try rw [lg_cmp_eq] at c164); simp [*], rfl⟩
  by_cases c1_36 : k = 36
  · refine Ex.tableIn (pc := 1) (tgt := 113) (off := 112) dX10_two_1 (by rw [c1_36]; decide) (by rw [c1_36]; decide) (by rw [c1_36]; decide) (by decide) ?_
    refine Ex.lload_n (pc := 113) dX10_two_113 rfl rfl ?_
    refine Ex.lload_n (pc := 114) dX10_two_114 rfl rfl ?_
    refine Ex.lcmp (pc := 115) dX10_two_115 ?_
    refine Ex.if_ge (pc := 116) (tgt := 123) dX10_two_116 (by decide) (fun c116 => ?_) (fun c116 => ?_)
    · skip
      refine Ex.lload_n (pc := 123) dX10_two_123 rfl rfl ?_
      refine Ex.lret (pc := 124) rfl dX10_two_124 (Nat.le_refl _) (Nat.le_refl _) ?_
      exact ⟨by simp only [twoL]; (try rw [lg_cmp_eq] at c93); (try rw [lg_cmp_ge] at c116); (try rw [lg_cmp_le] at c128); (try rw [lg_cmp_ge] at c140); (try rw [lg_cmp_le] at c152); (try rw [lg_cmp_eq] at c164); simp [*], rfl⟩
    · skip
      refine Ex.lload_n (pc := 119) dX10_two_119 rfl rfl ?_
      refine Ex.goto (pc := 120) (tgt := 124) dX10_two_120 (by decide) ?_
      refine Ex.lret (pc := 124) rfl dX10_two_124 (Nat.le_refl _) (Nat.le_refl _) ?_
      exact ⟨by simp only [twoL]; (try rw [lg_cmp_eq] at c93); (try rw [lg_cmp_ge] at c116); (try rw [lg_cmp_le] at c128); (try rw [lg_cmp_ge] at c140); (try rw [lg_cmp_le] at c152); (try rw [lg_cmp_eq] at c164); simp [*], rfl⟩
  by_cases c1_37 : k = 37
  · refine Ex.tableIn (pc := 1) (tgt := 125) (off := 124) dX10_two_1 (by rw [c1_37]; decide) (by rw [c1_37]; decide) (by rw [c1_37]; decide) (by decide) ?_
    refine Ex.lload_n (pc := 125) dX10_two_125 rfl rfl ?_
    refine Ex.lload_n (pc := 126) dX10_two_126 rfl rfl ?_
    refine Ex.lcmp (pc := 127) dX10_two_127 ?_
    refine Ex.if_le (pc := 128) (tgt := 135) dX10_two_128 (by decide) (fun c128 => ?_) (fun c128 => ?_)
    · skip
      refine Ex.lload_n (pc := 135) dX10_two_135 rfl rfl ?_
      refine Ex.lret (pc := 136) rfl dX10_two_136 (Nat.le_refl _) (Nat.le_refl _) ?_
      exact ⟨by simp only [twoL]; (try rw [lg_cmp_eq] at c93); (try rw [lg_cmp_ge] at c116); (try rw [lg_cmp_le] at c128); (try rw [lg_cmp_ge] at c140); (try rw [lg_cmp_le] at c152); (try rw [lg_cmp_eq] at c164); simp [*], rfl⟩
    · skip
      refine Ex.lload_n (pc := 131) dX10_two_131 rfl rfl ?_
      refine Ex.goto (pc := 132) (tgt := 136) dX10_two_132 (by decide) ?_
      refine Ex.lret (pc := 136) rfl dX10_two_136 (Nat.le_refl _) (Nat.le_refl _) ?_
      exact ⟨by simp only [twoL]; (try rw [lg_cmp_eq] at c93); (try rw [lg_cmp_ge] at c116); (try rw [lg_cmp_le] at c128); (try rw [lg_cmp_ge] at c140); (try rw [lg_cmp_le] at c152); (try rw [lg_cmp_eq] at c164); simp [*], rfl⟩
  by_cases c1_38 : k = 38
  · refine Ex.tableIn (pc := 1) (tgt := 137) (off := 136) dX10_two_1 (by rw [c1_38]; decide) (by rw [c1_38]; decide) (by rw [c1_38]; decide) (by decide) ?_
    refine Ex.lload_n (pc := 137) dX10_two_137 rfl rfl ?_
    refine Ex.lload_n (pc := 138) dX10_two_138 rfl rfl ?_
    refine Ex.lcmp (pc := 139) dX10_two_139 ?_
    refine Ex.if_ge (pc := 140) (tgt := 147) dX10_two_140 (by decide) (fun c140 => ?_) (fun c140 => ?_)
    · skip
      refine Ex.lconst (pc := 147) (v := 0) dX10_two_147 rfl ?_
      refine Ex.lret (pc := 148) rfl dX10_two_148 (Nat.le_refl _) (Nat.le_refl _) ?_
      exact ⟨by simp only [twoL]; (try rw [lg_cmp_eq] at c93); (try rw [lg_cmp_ge] at c116); (try rw [lg_cmp_le] at c128); (try rw [lg_cmp_ge] at c140); (try rw [lg_cmp_le] at c152); (try rw [lg_cmp_eq] at c164); simp [*], rfl⟩
    · skip
      refine Ex.lconst (pc := 143) (v := 1) dX10_two_143 rfl ?_
      refine Ex.goto (pc := 144) (tgt := 148) dX10_two_144 (by decide) ?_
      refine Ex.lret (pc := 148) rfl dX10_two_148 (Nat.le_refl _) (Nat.le_refl _) ?_
      exact ⟨by simp only [twoL]; (try rw [lg_cmp_eq] at c93); (try rw [lg_cmp_ge] at c116); (try rw [lg_cmp_le] at c128); (try rw [lg_cmp_ge] at c140); (try rw [lg_cmp_le] at c152); (try rw [lg_cmp_eq] at c164); simp [*], rfl⟩
  by_cases c1_39 : k = 39
  · refine Ex.tableIn (pc := 1) (tgt := 149) (off := 148) dX10_two_1 (by rw [c1_39]; decide) (by rw [c1_39]; decide) (by rw [c1_39]; decide) (by decide) ?_
    refine Ex.lload_n (pc := 149) dX10_two_149 rfl rfl ?_
    refine Ex.lload_n (pc := 150) dX10_two_150 rfl rfl ?_
    refine Ex.lcmp (pc := 151) dX10_two_151 ?_
    refine Ex.if_le (pc := 152) (tgt := 159) dX10_two_152 (by decide) (fun c152 => ?_) (fun c152 => ?_)
    · skip
      refine Ex.lconst (pc := 159) (v := 0) dX10_two_159 rfl ?_
      refine Ex.lret (pc := 160) rfl dX10_two_160 (Nat.le_refl _) (Nat.le_refl _) ?_
      exact ⟨by simp only [twoL]; (try rw [lg_cmp_eq] at c93); (try rw [lg_cmp_ge] at c116); (try rw [lg_cmp_le] at c128); (try rw [lg_cmp_ge] at c140); (try rw [lg_cmp_le] at c152); (try rw [lg_cmp_eq] at c164); simp [*], rfl⟩
    · skip
      refine Ex.lconst (pc := 155) (v := 1) dX10_two_155 rfl ?_
      refine Ex.goto (pc := 156) (tgt := 160) dX10_two_156 (by decide) ?_
      refine Ex.lret (pc := 160) rfl dX10_two_160 (Nat.le_refl _) (Nat.le_refl _) ?_
      exact ⟨by simp only [twoL]; (try rw [lg_cmp_eq] at c93); (try rw [lg_cmp_ge] at c116); (try rw [lg_cmp_le] at c128); (try rw [lg_cmp_ge] at c140); (try rw [lg_cmp_le] at c152); (try rw [lg_cmp_eq] at c164); simp [*], rfl⟩
  by_cases c1_40 : k = 40
  · refine Ex.tableIn (pc := 1) (tgt := 161) (off := 160) dX10_two_1 (by rw [c1_40]; decide) (by rw [c1_40]; decide) (by rw [c1_40]; decide) (by decide) ?_
    refine Ex.lload_n (pc := 161) dX10_two_161 rfl rfl ?_
    refine Ex.lload_n (pc := 162) dX10_two_162 rfl rfl ?_
    refine Ex.lcmp (pc := 163) dX10_two_163 ?_
    refine Ex.if_ne (pc := 164) (tgt := 171) dX10_two_164 (by decide) (fun c164 => ?_) (fun c164 => ?_)
    · skip
      refine Ex.lconst (pc := 171) (v := 0) dX10_two_171 rfl ?_
      refine Ex.lret (pc := 172) rfl dX10_two_172 (Nat.le_refl _) (Nat.le_refl _) ?_
      exact ⟨by simp only [twoL]; (try rw [lg_cmp_eq] at c93); (try rw [lg_cmp_ge] at c116); (try rw [lg_cmp_le] at c128); (try rw [lg_cmp_ge] at c140); (try rw [lg_cmp_le] at c152); (try rw [lg_cmp_eq] at c164); simp [*], rfl⟩
    · skip
      refine Ex.lconst (pc := 167) (v := 1) dX10_two_167 rfl ?_
      refine Ex.goto (pc := 168) (tgt := 172) dX10_two_168 (by decide) ?_
      refine Ex.lret (pc := 172) rfl dX10_two_172 (Nat.le_refl _) (Nat.le_refl _) ?_
      exact ⟨by simp only [twoL]; (try rw [lg_cmp_eq] at c93); (try rw [lg_cmp_ge] at c116); (try rw [lg_cmp_le] at c128); (try rw [lg_cmp_ge] at c140); (try rw [lg_cmp_le] at c152); (try rw [lg_cmp_eq] at c164); simp [*], rfl⟩
  by_cases c1_41 : k = 41
  · refine Ex.tableIn (pc := 1) (tgt := 173) (off := 172) dX10_two_1 (by rw [c1_41]; decide) (by rw [c1_41]; decide) (by rw [c1_41]; decide) (by decide) ?_
    refine Ex.lload_n (pc := 173) dX10_two_173 rfl rfl ?_
    refine Ex.lload_n (pc := 174) dX10_two_174 rfl rfl ?_
    refine Ex.land (pc := 175) dX10_two_175 ?_
    refine Ex.lret (pc := 176) rfl dX10_two_176 (Nat.le_refl _) (Nat.le_refl _) ?_
    exact ⟨by simp only [twoL]; (try rw [lg_cmp_eq] at c93); (try rw [lg_cmp_ge] at c116); (try rw [lg_cmp_le] at c128); (try rw [lg_cmp_ge] at c140); (try rw [lg_cmp_le] at c152); (try rw [lg_cmp_eq] at c164); simp [*], rfl⟩
  refine Ex.tableOut (pc := 1) (tgt := 177) dX10_two_1 (by have h0 := toInt_ne (z := 31) c1_31 (by decide); have h1 := toInt_ne (z := 32) c1_32 (by decide); have h2 := toInt_ne (z := 33) c1_33 (by decide); have h3 := toInt_ne (z := 34) c1_34 (by decide); have h4 := toInt_ne (z := 35) c1_35 (by decide); have h5 := toInt_ne (z := 36) c1_36 (by decide); have h6 := toInt_ne (z := 37) c1_37 (by decide); have h7 := toInt_ne (z := 38) c1_38 (by decide); have h8 := toInt_ne (z := 39) c1_39 (by decide); have h9 := toInt_ne (z := 40) c1_40 (by decide); have h10 := toInt_ne (z := 41) c1_41 (by decide); omega) (by decide) ?_
  refine Ex.lload_n (pc := 177) dX10_two_177 rfl rfl ?_
  refine Ex.lload_n (pc := 178) dX10_two_178 rfl rfl ?_
  refine Ex.lor (pc := 179) dX10_two_179 ?_
  refine Ex.lret (pc := 180) rfl dX10_two_180 (Nat.le_refl _) (Nat.le_refl _) ?_
  exact ⟨by simp only [twoL]; (try rw [lg_cmp_eq] at c93); (try rw [lg_cmp_ge] at c116); (try rw [lg_cmp_le] at c128); (try rw [lg_cmp_ge] at c140); (try rw [lg_cmp_le] at c152); (try rw [lg_cmp_eq] at c164); simp [*], rfl⟩
/-- the reference's numbers of steps and of names -/
def sN : Nat → Nat := fun k => [0, 0, 31, 32, 33, 34, 35, 36, 37, 38, 39, 40, 42, 41, 43, 44].getD k 0
def nmOf : Nat → Nat := fun s => [0, 1, 2, 4, 5, 14, 16, 17, 18, 7, 8, 19].getD s 0
theorem fm_fd {a b : Int64} : a - b * fdivL a b = fmodL a b := by
  unfold fdivL fmodL
  by_cases h : 0 ≤ a ^^^ b
  · rw [if_pos h, if_pos h, Int64.mul_comm]
  · rw [if_neg h, if_neg h]
    by_cases h2 : a / b * b = a
    · rw [if_pos h2, if_pos (sub0.mpr h2), Int64.mul_comm]
    · rw [if_neg h2, if_neg (fun q => h2 (sub0.mp q))]
      rw [Int64.mul_sub, Int64.mul_one, Int64.mul_comm]
      grind
theorem l64_lt {a b : Int32} : a.toInt64 < b.toInt64 ↔ a < b := by rw [Int64.lt_iff_toInt_lt, Int32.lt_iff_toInt_lt, Int32.toInt_toInt64, Int32.toInt_toInt64]
theorem l64_le {a b : Int32} : a.toInt64 ≤ b.toInt64 ↔ a ≤ b := by rw [Int64.le_iff_toInt_le, Int32.le_iff_toInt_le, Int32.toInt_toInt64, Int32.toInt_toInt64]
theorem l64_eq {a b : Int32} : a.toInt64 = b.toInt64 ↔ a = b := by rw [← Int64.toInt_inj, ← Int32.toInt_inj, Int32.toInt_toInt64, Int32.toInt_toInt64]
theorem l64_and (a b : Int32) : (a &&& b).toInt64 = a.toInt64 &&& b.toInt64 := by
  apply Int64.toBitVec_inj.mp
  rw [Int64.toBitVec_and]
  show BitVec.signExtend 64 (a &&& b).toBitVec = BitVec.signExtend 64 a.toBitVec &&& BitVec.signExtend 64 b.toBitVec
  rw [Int32.toBitVec_and, BitVec.signExtend_and]
theorem l64_or (a b : Int32) : (a ||| b).toInt64 = a.toInt64 ||| b.toInt64 := by
  apply Int64.toBitVec_inj.mp
  rw [Int64.toBitVec_or]
  show BitVec.signExtend 64 (a ||| b).toBitVec = BitVec.signExtend 64 a.toBitVec ||| BitVec.signExtend 64 b.toBitVec
  rw [Int32.toBitVec_or, BitVec.signExtend_or]
theorem two_rel {k : Nat} (h1 : 2 ≤ k) (h2 : k ≤ 13) (a b c : Int32) : twoL (nI (sN k)) a.toInt64 b.toInt64 = (if k ≤ 6 then clampM (rkL (nI k) a.toInt64 b.toInt64) else weighV (nI k) a b c).toInt64 := by
  rcases (show k = 2 ∨ k = 3 ∨ k = 4 ∨ k = 5 ∨ k = 6 ∨ k = 7 ∨ k = 8 ∨ k = 9 ∨ k = 10 ∨ k = 11 ∨ k = 12 ∨ k = 13 by omega) with rfl | rfl | rfl | rfl | rfl | rfl | rfl | rfl | rfl | rfl | rfl | rfl
  · rfl
  · rfl
  · rfl
  · show (clampM (if b.toInt64 = 0 then 0 else fdivL a.toInt64 b.toInt64)).toInt64 = (clampM (if b.toInt64 = 0 then 0 else fdivL a.toInt64 b.toInt64)).toInt64
    rfl
  · show (if b.toInt64 = 0 then 0 else (clampM (a.toInt64 - b.toInt64 * (if b.toInt64 = 0 then 0 else fdivL a.toInt64 b.toInt64))).toInt64) = (clampM (if b.toInt64 = 0 then 0 else fmodL a.toInt64 b.toInt64)).toInt64
    by_cases h : b.toInt64 = 0
    · rw [if_pos h, if_pos h]; rfl
    · rw [if_neg h, if_neg h, if_neg h, fm_fd]
  · show (if b.toInt64 ≤ a.toInt64 then b.toInt64 else a.toInt64) = (if b < a then b else a).toInt64
    simp only [l64_le]
    by_cases h : b < a
    · rw [if_pos h, if_pos (Int32.le_of_lt h)]
    · rw [if_neg h]
      by_cases e : b ≤ a
      · rw [if_pos e, Int32.le_antisymm e (Int32.not_lt.mp h)]
      · rw [if_neg e]
  · show (if a.toInt64 ≤ b.toInt64 then b.toInt64 else a.toInt64) = (if a < b then b else a).toInt64
    simp only [l64_le]
    by_cases h : a < b
    · rw [if_pos h, if_pos (Int32.le_of_lt h)]
    · rw [if_neg h]
      by_cases e : a ≤ b
      · rw [if_pos e, Int32.le_antisymm e (Int32.not_lt.mp h)]
      · rw [if_neg e]
  · show (if b.toInt64 ≤ a.toInt64 then (0 : Int64) else 1) = (if b ≤ a then (0 : Int32) else 1).toInt64
    simp only [l64_le]
    split <;> rfl
  · show (if a.toInt64 ≤ b.toInt64 then (0 : Int64) else 1) = (if a ≤ b then (0 : Int32) else 1).toInt64
    simp only [l64_le]
    split <;> rfl
  · show (if a.toInt64 = b.toInt64 then (1 : Int64) else 0) = (if a = b then (1 : Int32) else 0).toInt64
    simp only [l64_eq]
    split <;> rfl
  · exact (l64_or a b).symm
  · exact (l64_and a b).symm
/-- which values of the stack are 0 or 1 -/
def stF (k v z : Nat) (g : Nat → Bool) : Nat → Bool :=
  fun j => if j = z - nd k then (if k = 0 then decide (v ≤ 1) else if 9 ≤ k ∧ k ≤ 11 then true else if k = 12 ∨ k = 13 then g (z - 2) && g (z - 1) else if k = 14 then g (z - 1) else false) else g j
def flAt (kd nu : Nat → Nat) (f : Nat) : Nat → Nat → Bool
  | 0 => fun _ => false
  | n + 1 => stF (kd (f + n)) (nu (f + n)) (zAt kd f n) (flAt kd nu f n)
def tyOk (kd nu : Nat → Nat) (f n : Nat) : Prop := ∀ i, i < n → (kd (f + i) = 14 → flAt kd nu f i (zAt kd f i - 1) = true) ∧ (kd (f + i) = 15 → flAt kd nu f i (zAt kd f i - 3) = true)
theorem or01 {a b : Int32} (ha : a = 0 ∨ a = 1) (hb : b = 0 ∨ b = 1) : a ||| b = 0 ∨ a ||| b = 1 := by
  rcases ha with rfl | rfl <;> rcases hb with rfl | rfl <;> decide
theorem and01 {a b : Int32} (ha : a = 0 ∨ a = 1) (hb : b = 0 ∨ b = 1) : a &&& b = 0 ∨ a &&& b = 1 := by
  rcases ha with rfl | rfl <;> rcases hb with rfl | rfl <;> decide
theorem flAt_ok (nm : Nat → Int32) (kd nu : Nat → Nat) (f : Nat) : ∀ n, okAt kd f n → (∀ i, i < n → kd (f + i) < 16) → ∀ j, j < zAt kd f n → flAt kd nu f n j = true → gAt nm kd nu f (fun _ => 0) n j = 0 ∨ gAt nm kd nu f (fun _ => 0) n j = 1
  | 0, _, _, j, hj, _ => by simp only [zAt] at hj; omega
  | n + 1, hok, h16, j, hj, hf => by
    have ih := flAt_ok nm kd nu f n (fun i hi => hok i (by omega)) (fun i hi => h16 i (by omega))
    obtain ⟨hn, hz⟩ := hok n (by omega)
    have hk := h16 n (by omega)
    simp only [zAt] at hj
    simp only [flAt, stF] at hf
    simp only [gAt, stG]
    generalize hK : kd (f + n) = k at *
    generalize hZ : zAt kd f n = z at *
    by_cases hjz : j = z - nd k
    · subst hjz
      rw [upd_s]
      rw [if_pos rfl] at hf
      by_cases k0 : k = 0
      · subst k0
        rw [if_pos rfl] at hf
        have hv := of_decide_eq_true hf
        rw [if_pos (by omega), if_pos rfl]
        rcases (show nu (f + n) = 0 ∨ nu (f + n) = 1 by omega) with e | e
        · rw [e]; exact Or.inl rfl
        · rw [e]; exact Or.inr rfl
      · rw [if_neg k0] at hf
        by_cases k9 : 9 ≤ k ∧ k ≤ 11
        · rw [if_neg (by omega), if_neg (by omega)]
          rcases (show k = 9 ∨ k = 10 ∨ k = 11 by omega) with e | e | e
          · subst e; show (if _ then (0 : Int32) else 1) = 0 ∨ (if _ then (0 : Int32) else 1) = 1
            split <;> simp
          · subst e; show (if _ then (0 : Int32) else 1) = 0 ∨ (if _ then (0 : Int32) else 1) = 1
            split <;> simp
          · subst e; show (if _ then (1 : Int32) else 0) = 0 ∨ (if _ then (1 : Int32) else 0) = 1
            split <;> simp
        · rw [if_neg k9] at hf
          by_cases k12 : k = 12 ∨ k = 13
          · rw [if_pos k12] at hf
            have hf := (Bool.and_eq_true _ _).mp hf
            rw [if_neg (by omega), if_neg (by omega)]
            have e2 : nd k = 2 := by rcases k12 with e | e <;> subst e <;> rfl
            rw [e2] at hn ⊢
            have a1 := ih (z - 2) (by omega) hf.1
            have a2 := ih (z - 1) (by omega) hf.2
            rw [show z - 2 + 1 = z - 1 by omega]
            rcases k12 with e | e
            · subst e; exact or01 a1 a2
            · subst e; exact and01 a1 a2
          · rw [if_neg k12] at hf
            by_cases k14 : k = 14
            · subst k14
              rw [if_pos rfl] at hf
              have a1 := ih (z - 1) (by have : nd 14 = 1 := rfl; omega) hf
              rw [if_neg (by omega), if_neg (by omega)]
              show 1 - _ = (0 : Int32) ∨ 1 - _ = (1 : Int32)
              rcases a1 with e | e
              · right; rw [show nd 14 = 1 from rfl, e]; rfl
              · left; rw [show nd 14 = 1 from rfl, e]; rfl
            · rw [if_neg k14] at hf; exact absurd hf (by decide)
    · rw [upd_n hjz]
      rw [if_neg hjz] at hf
      exact ih j (by omega) hf
/-- a code of the reference's is the class's step -/
def CdR (k v : Nat) (s w : Int32) : Prop := (k = 0 ∧ s = 0 ∧ w = nI v) ∨ (k = 0 ∧ v = 1 ∧ s = 30) ∨ (k = 1 ∧ ∃ q, 1 ≤ q ∧ q ≤ 11 ∧ s = nI q ∧ v = nmOf q) ∨ (2 ≤ k ∧ k ≤ 15 ∧ s = nI (sN k))
def RefC (I : aI) (bk : Nat) (p : aP) : Prop := ∀ r, r < 5 → (p.2.2.1 r = p.2.2.2 r ∧ I 49 (5 * bk + r) = -1) ∨ (p.2.2.1 r < p.2.2.2 r ∧ p.2.2.2 r ≤ 1600 ∧ I 49 (5 * bk + r) = nI (p.2.2.1 r) ∧ I 50 (5 * bk + r) = nI (p.2.2.2 r) ∧ ∀ t, p.2.2.1 r ≤ t → t < p.2.2.2 r → CdR (p.1 t) (p.2.1 t) (I 51 (1600 * bk + t)) (I 52 (1600 * bk + t)))
def PlanT (p : aP) : Prop := PlanIx p ∧ ∀ r, r < 5 → okAt p.1 (p.2.2.1 r) (p.2.2.2 r - p.2.2.1 r) ∧ tyOk p.1 p.2.1 (p.2.2.1 r) (p.2.2.2 r - p.2.2.1 r) ∧ ((r = 2 ∨ r = 3) → p.2.2.1 r < p.2.2.2 r → flAt p.1 p.2.1 (p.2.2.1 r) (p.2.2.2 r - p.2.2.1 r) 0 = true)
def AskR (f nm : Nat → Int32) (r : Nat) : Prop := ∀ q, 1 ≤ q → q ≤ 11 → alw r (nmOf q) → f q = nm (nmOf q)
theorem RefC.sm {I I2 : aI} {bk : Nat} {p : aP} {l : List Nat} (h : RefC I bk p) (hS : Sm l I I2) (h49 : 49 ∉ l) (h50 : 50 ∉ l) (h51 : 51 ∉ l) (h52 : 52 ∉ l) : RefC I2 bk p := by
  intro r hr
  rw [hS 49 h49, hS 50 h50, hS 51 h51, hS 52 h52]
  exact h r hr
theorem stk {L2 : aL} {g : Nat → Int32} {z m : Nat} {x : Int64} {y : Int32} (h : ∀ j, j < z + m → L2 70 j = (g j).toInt64) (e : x = y.toInt64) (zz : Nat) (hz : zz = z) : ∀ j, j < z + 1 → (va_up L2 70 (vp_updL (L2 70) zz x)) 70 j = (upd g z y j).toInt64 := by
  subst hz
  intro j hj
  rw [va_up_s]
  by_cases q : j = zz
  · subst q; rw [pk_uLs, upd_s]; exact e
  · rw [pk_uLn q, upd_n q]; exact h j (by omega)
theorem CdR_lt {k v : Nat} {s w : Int32} (h : CdR k v s w) : k < 16 := by
  rcases h with ⟨h, _⟩ | ⟨h, _⟩ | ⟨h, _⟩ | ⟨_, h, _⟩ <;> omega

set_option maxRecDepth 20000 in
theorem tm_reckons {N : Nat} {I : aI} {L : aL} {p : aP} {bk r : Nat} {nm : Nat → Int32} {w0 : Int32} (h1 : bk < 2) (h2 : I 36 13 = nI bk) (hC : RefC I bk p) (hT : PlanT p) (hr : r < 5) (ha : AskR (I 71) nm r) (hlt : p.2.2.1 r < p.2.2.2 r) : Run 2 0 0 mX10_reckons [.ref 36, .int (nI r)] (St N I L) (RX N (fun v I2 L2 => v = some (.long (evV p nm r w0).toInt64) ∧ I2 = I ∧ SmL [70] L L2)) := by
  refine Run.of (ls := [some (.ref 36), some (.int _), none, none, none]) (by decide) (Nat.le_of_ble_eq_true rfl) rfl ?_
  obtain ⟨hix, hT⟩ := hT
  have hix := hix r hr
  obtain ⟨hok, hty, -⟩ := hT r hr
  have hev : evV p nm r w0 = gAt nm p.1 p.2.1 (p.2.2.1 r) (fun _ => 0) (p.2.2.2 r - p.2.2.1 r) 0 := by unfold evV; rw [if_neg (by omega)]
  rcases hC r hr with ⟨e, _⟩ | ⟨-, hu16, hf, hu, hcd⟩
  · omega
  rw [hev]
  generalize p.2.2.1 r = f at *
  generalize p.2.2.2 r = u at *
  generalize p.1 = kd at *
  generalize p.2.1 = nu at *
  have h16 : ∀ i, i < u - f → kd (f + i) < 16 := fun i hi => CdR_lt (hcd (f + i) (by omega) (by omega))
  have efl := fun n (hn : n ≤ u - f) => flAt_ok nm kd nu f n (fun i hi => hok i (by omega)) (fun i hi => h16 i (by omega))
  refine Ex.iconst (pc := 0) (v := 0) dX10_reckons_0 rfl ?_
  refine Ex.istore_n (pc := 1) (ls' := [some (.ref 36), some (.int _), some (.int 0), none, none]) dX10_reckons_1 rfl (by decide) rfl rfl ?_
  refine Ex.sipush (pc := 2) (v := 1600) dX10_reckons_2 rfl ?_
  refine Ex.aload_n (pc := 5) dX10_reckons_5 rfl rfl ?_
  refine Ex.getI (pc := 6) dX10_reckons_6 fX10_51 (sh36 _) ?_
  refine Ex.imul (pc := 9) dX10_reckons_9 ?_
  refine Ex.aload_n (pc := 10) dX10_reckons_10 rfl rfl ?_
  refine Ex.getR (pc := 11) dX10_reckons_11 fX10_87 (sh36 _) r36_25 ?_
  refine Ex.iconst (pc := 14) (v := 5) dX10_reckons_14 rfl ?_
  refine Ex.aload_n (pc := 15) dX10_reckons_15 rfl rfl ?_
  refine Ex.getI (pc := 16) dX10_reckons_16 fX10_51 (sh36 _) ?_
  refine Ex.imul (pc := 19) dX10_reckons_19 ?_
  refine Ex.iload_n (pc := 20) dX10_reckons_20 rfl rfl ?_
  refine Ex.iadd (pc := 21) dX10_reckons_21 ?_
  refine Ex.iald (pc := 22) (j := 5 * bk + r) dX10_reckons_22 (sh49 _) (ixE (c := 5) (a := bk) (b := r) h2 rfl (by omega) (by decide)) (ixE2 (c := 5) h2 rfl (by omega)) ?_
  refine Ex.iadd (pc := 23) dX10_reckons_23 ?_
  rw [h2, hf, show (1600 : Int32) * nI bk + nI f = nI (1600 * bk + (f + 0)) from by rw [show (1600 : Int32) = nI 1600 from rfl, pk_mul, nI_add]; rfl]
  refine Ex.istore_n (pc := 24) (ls' := [some (.ref 36), some (.int _), some (.int 0), some (.int _), none]) dX10_reckons_24 rfl (by decide) rfl rfl ?_
  refine forUp (σ := aL) (P := fun i L2 => Ex 2 0 0 mX10_reckons 0 0 25 [some (.ref 36), some (.int (nI r)), some (.int (nI (zAt kd f i))), some (.int (nI (1600 * bk + (f + i)))), none] [] (St N I L2) _) (Inv := fun i L2 => SmL [70] L L2 ∧ ∀ j, j < zAt kd f i → L2 70 j = (gAt nm kd nu f (fun _ => 0) i j).toInt64) (u - f) ?_ ?_ 0 L (Nat.zero_le _) ⟨SmL.rf, fun j hj => absurd hj (Nat.not_lt_zero j)⟩
  · rintro L2 ⟨hSL, hst⟩
    refine Ex.iload_n (pc := 25) dX10_reckons_25 rfl rfl ?_
    refine Ex.sipush (pc := 26) (v := 1600) dX10_reckons_26 rfl ?_
    refine Ex.aload_n (pc := 29) dX10_reckons_29 rfl rfl ?_
    refine Ex.getI (pc := 30) dX10_reckons_30 fX10_51 (sh36 _) ?_
    refine Ex.imul (pc := 33) dX10_reckons_33 ?_
    refine Ex.aload_n (pc := 34) dX10_reckons_34 rfl rfl ?_
    refine Ex.getR (pc := 35) dX10_reckons_35 fX10_90 (sh36 _) r36_26 ?_
    refine Ex.iconst (pc := 38) (v := 5) dX10_reckons_38 rfl ?_
    refine Ex.aload_n (pc := 39) dX10_reckons_39 rfl rfl ?_
    refine Ex.getI (pc := 40) dX10_reckons_40 fX10_51 (sh36 _) ?_
    refine Ex.imul (pc := 43) dX10_reckons_43 ?_
    refine Ex.iload_n (pc := 44) dX10_reckons_44 rfl rfl ?_
    refine Ex.iadd (pc := 45) dX10_reckons_45 ?_
    refine Ex.iald (pc := 46) (j := 5 * bk + r) dX10_reckons_46 (sh50 _) (ixE (c := 5) (a := bk) (b := r) h2 rfl (by omega) (by decide)) (ixE2 (c := 5) h2 rfl (by omega)) ?_
    refine Ex.iadd (pc := 47) dX10_reckons_47 ?_
    rw [h2, hu, show (1600 : Int32) * nI bk + nI u = nI (1600 * bk + u) from by rw [show (1600 : Int32) = nI 1600 from rfl, pk_mul, nI_add]]
    refine Ex.icmp_ge (pc := 48) (tgt := 227) dX10_reckons_48 (by decide) (fun _ => ?_) (fun c48 => absurd (nI_le (by omega) (by omega)) c48)
    refine Ex.aload_n (pc := 227) dX10_reckons_227 rfl rfl ?_
    refine Ex.getR (pc := 228) dX10_reckons_228 fX10_183 (sh36 _) r36_56 ?_
    refine Ex.iconst (pc := 231) (v := 0) dX10_reckons_231 rfl ?_
    refine Ex.lald (pc := 232) (j := 0) dX10_reckons_232 (sh70 _) (by unfold vp_in; decide) (by decide) ?_
    refine Ex.lret (pc := 233) rfl dX10_reckons_233 (Nat.le_refl _) (Nat.le_refl _) ?_
    exact ⟨I, L2, rfl, by rw [hst 0 (zAt_pos _ _ _ (by omega))], rfl, hSL⟩
  · rintro i L2 hi ⟨hSL, hst⟩ ih
    have hcode := hcd (f + i) (by omega) (by omega)
    obtain ⟨hnd, hz61⟩ := hok i hi
    obtain ⟨z, hz⟩ : ∃ z, zAt kd f i = z + nd (kd (f + i)) := ⟨zAt kd f i - nd (kd (f + i)), by omega⟩
    have hzn : zAt kd f (i + 1) = z + 1 := by simp only [zAt]; omega
    have hgn : gAt nm kd nu f (fun _ => 0) (i + 1) = stG nm (kd (f + i)) (nu (f + i)) (z + nd (kd (f + i))) (gAt nm kd nu f (fun _ => 0) i) := by simp only [gAt]; rw [hz]
    have htyi := hty i hi
    have hef := efl i (by omega)
    have hixi := hix (f + i) (by omega) (by omega)
    rw [hzn] at ih
    rw [hgn] at ih
    rw [hz] at hst hz61 htyi hef
    rw [hz]
    generalize gAt nm kd nu f (fun _ => 0) i = g at *
    generalize nu (f + i) = v at *
    generalize hK : kd (f + i) = k at *
    simp only [stG, Nat.add_sub_cancel] at ih
    refine Ex.iload_n (pc := 25) dX10_reckons_25 rfl rfl ?_
    refine Ex.sipush (pc := 26) (v := 1600) dX10_reckons_26 rfl ?_
    refine Ex.aload_n (pc := 29) dX10_reckons_29 rfl rfl ?_
    refine Ex.getI (pc := 30) dX10_reckons_30 fX10_51 (sh36 _) ?_
    refine Ex.imul (pc := 33) dX10_reckons_33 ?_
    refine Ex.aload_n (pc := 34) dX10_reckons_34 rfl rfl ?_
    refine Ex.getR (pc := 35) dX10_reckons_35 fX10_90 (sh36 _) r36_26 ?_
    refine Ex.iconst (pc := 38) (v := 5) dX10_reckons_38 rfl ?_
    refine Ex.aload_n (pc := 39) dX10_reckons_39 rfl rfl ?_
    refine Ex.getI (pc := 40) dX10_reckons_40 fX10_51 (sh36 _) ?_
    refine Ex.imul (pc := 43) dX10_reckons_43 ?_
    refine Ex.iload_n (pc := 44) dX10_reckons_44 rfl rfl ?_
    refine Ex.iadd (pc := 45) dX10_reckons_45 ?_
    refine Ex.iald (pc := 46) (j := 5 * bk + r) dX10_reckons_46 (sh50 _) (ixE (c := 5) (a := bk) (b := r) h2 rfl (by omega) (by decide)) (ixE2 (c := 5) h2 rfl (by omega)) ?_
    refine Ex.iadd (pc := 47) dX10_reckons_47 ?_
    rw [h2, hu, show (1600 : Int32) * nI bk + nI u = nI (1600 * bk + u) from by rw [show (1600 : Int32) = nI 1600 from rfl, pk_mul, nI_add]]
    refine Ex.icmp_ge (pc := 48) (tgt := 227) dX10_reckons_48 (by decide) (fun c48 => absurd c48 (nI_ge (by omega) (by omega))) (fun _ => ?_)
    refine Ex.aload_n (pc := 51) dX10_reckons_51 rfl rfl ?_
    refine Ex.getR (pc := 52) dX10_reckons_52 fX10_93 (sh36 _) r36_27 ?_
    refine Ex.iload_n (pc := 55) dX10_reckons_55 rfl rfl ?_
    refine Ex.iald (pc := 56) (j := 1600 * bk + (f + i)) dX10_reckons_56 (sh51 _) (vp_in_nI (show 1600 * bk + (f + i) < 3200 by omega) (by decide)) (ixN2 (by omega)) ?_
    refine Ex.istore (pc := 57) (ls' := [some (.ref 36), some (.int _), some (.int _), some (.int _), some (.int _)]) dX10_reckons_57 (by decide) rfl rfl ?_
    rcases hcode with ⟨hk, hs, hw⟩ | ⟨hk, hv, hs⟩ | ⟨hk, q, hq1, hq2, hs, hv⟩ | ⟨hk2, hk15, hs⟩
    · subst hk
      rw [hs]
      simp only [show nd 0 = 0 from rfl] at *
      refine Ex.iload (pc := 59) dX10_reckons_59 rfl ?_
      refine Ex.bipush (pc := 61) (v := 30) dX10_reckons_61 rfl ?_
      refine Ex.icmp_gt (pc := 63) (tgt := 112) dX10_reckons_63 (by decide) (fun c63 => absurd c63 (by decide)) (fun _ => ?_)
      refine Ex.aload_n (pc := 66) dX10_reckons_66 rfl rfl ?_
      refine Ex.getR (pc := 67) dX10_reckons_67 fX10_183 (sh36 _) r36_56 ?_
      refine Ex.iload_n (pc := 70) dX10_reckons_70 rfl rfl ?_
      refine Ex.iload (pc := 71) dX10_reckons_71 rfl ?_
      refine Ex.if_ne (pc := 73) (tgt := 86) dX10_reckons_73 (by decide) (fun c73 => absurd rfl c73) (fun _ => ?_)
      refine Ex.aload_n (pc := 76) dX10_reckons_76 rfl rfl ?_
      refine Ex.getR (pc := 77) dX10_reckons_77 fX10_96 (sh36 _) r36_28 ?_
      refine Ex.iload_n (pc := 80) dX10_reckons_80 rfl rfl ?_
      refine Ex.iald (pc := 81) (j := 1600 * bk + (f + i)) dX10_reckons_81 (sh52 _) (vp_in_nI (show 1600 * bk + (f + i) < 3200 by omega) (by decide)) (ixN2 (by omega)) ?_
      refine Ex.i2l (pc := 82) dX10_reckons_82 ?_
      refine Ex.goto (pc := 83) (tgt := 105) dX10_reckons_83 (by decide) ?_
      refine Ex.last (pc := 105) (j := z + 0) dX10_reckons_105 (sh70 _) (vp_in_nI (show z + 0 < 500 by omega) (by decide)) (ixN2 (by omega)) ?_
      refine Ex.iinc (pc := 106) (ls' := [some (.ref 36), some (.int _), some (.int _), some (.int _), some (.int _)]) dX10_reckons_106 rfl rfl (by decide) rfl rfl ?_
      refine Ex.goto (pc := 109) (tgt := 221) dX10_reckons_109 (by decide) ?_
      refine Ex.iinc (pc := 221) (ls' := [some (.ref 36), some (.int _), some (.int _), some (.int _), some (.int _)]) dX10_reckons_221 rfl rfl (by decide) rfl rfl ?_
      refine Ex.goto (pc := 224) (tgt := 25) dX10_reckons_224 (by decide) ?_
      rw [show nI (z + 0) + Int32.ofInt 1 = nI (z + 1) from nI_1 z]
      rw [show nI (1600 * bk + (f + i)) + Int32.ofInt 1 = nI (1600 * bk + (f + (i + 1))) from nI_1 _]
      refine Ex.le (ls' := [some (.ref 36), some (.int (nI r)), some (.int (nI (z + 1))), some (.int (nI (1600 * bk + (f + (i + 1))))), none]) ⟨rfl, rfl, rfl, rfl, trivial⟩ (ih _ ⟨hSL.up (by decide), ?_⟩)
      exact stk hst (by rw [hw]; rfl) _ rfl
    · subst hk
      subst hv
      rw [hs]
      simp only [show nd 0 = 0 from rfl] at *
      refine Ex.iload (pc := 59) dX10_reckons_59 rfl ?_
      refine Ex.bipush (pc := 61) (v := 30) dX10_reckons_61 rfl ?_
      refine Ex.icmp_gt (pc := 63) (tgt := 112) dX10_reckons_63 (by decide) (fun c63 => absurd c63 (by decide)) (fun _ => ?_)
      refine Ex.aload_n (pc := 66) dX10_reckons_66 rfl rfl ?_
      refine Ex.getR (pc := 67) dX10_reckons_67 fX10_183 (sh36 _) r36_56 ?_
      refine Ex.iload_n (pc := 70) dX10_reckons_70 rfl rfl ?_
      refine Ex.iload (pc := 71) dX10_reckons_71 rfl ?_
      refine Ex.if_ne (pc := 73) (tgt := 86) dX10_reckons_73 (by decide) (fun _ => ?_) (fun c73 => absurd c73 (by decide))
      refine Ex.iload (pc := 86) dX10_reckons_86 rfl ?_
      refine Ex.bipush (pc := 88) (v := 30) dX10_reckons_88 rfl ?_
      refine Ex.icmp_ne (pc := 90) (tgt := 97) dX10_reckons_90 (by decide) (fun c90 => absurd rfl c90) (fun _ => ?_)
      refine Ex.lconst (pc := 93) (v := 1) dX10_reckons_93 rfl ?_
      refine Ex.goto (pc := 94) (tgt := 105) dX10_reckons_94 (by decide) ?_
      refine Ex.last (pc := 105) (j := z + 0) dX10_reckons_105 (sh70 _) (vp_in_nI (show z + 0 < 500 by omega) (by decide)) (ixN2 (by omega)) ?_
      refine Ex.iinc (pc := 106) (ls' := [some (.ref 36), some (.int _), some (.int _), some (.int _), some (.int _)]) dX10_reckons_106 rfl rfl (by decide) rfl rfl ?_
      refine Ex.goto (pc := 109) (tgt := 221) dX10_reckons_109 (by decide) ?_
      refine Ex.iinc (pc := 221) (ls' := [some (.ref 36), some (.int _), some (.int _), some (.int _), some (.int _)]) dX10_reckons_221 rfl rfl (by decide) rfl rfl ?_
      refine Ex.goto (pc := 224) (tgt := 25) dX10_reckons_224 (by decide) ?_
      rw [show nI (z + 0) + Int32.ofInt 1 = nI (z + 1) from nI_1 z]
      rw [show nI (1600 * bk + (f + i)) + Int32.ofInt 1 = nI (1600 * bk + (f + (i + 1))) from nI_1 _]
      refine Ex.le (ls' := [some (.ref 36), some (.int (nI r)), some (.int (nI (z + 1))), some (.int (nI (1600 * bk + (f + (i + 1))))), none]) ⟨rfl, rfl, rfl, rfl, trivial⟩ (ih _ ⟨hSL.up (by decide), ?_⟩)
      refine stk hst ?_ _ rfl
      rw [if_pos (Nat.zero_le 1), if_pos (by trivial)]
      rfl
    · subst hk
      subst hv
      rw [hs]
      simp only [show nd 1 = 0 from rfl] at *
      refine Ex.iload (pc := 59) dX10_reckons_59 rfl ?_
      refine Ex.bipush (pc := 61) (v := 30) dX10_reckons_61 rfl ?_
      refine Ex.icmp_gt (pc := 63) (tgt := 112) dX10_reckons_63 (by decide) (fun c63 => absurd c63 (nI_nlt (a := 30) (b := q) (by omega) (by decide))) (fun _ => ?_)
      refine Ex.aload_n (pc := 66) dX10_reckons_66 rfl rfl ?_
      refine Ex.getR (pc := 67) dX10_reckons_67 fX10_183 (sh36 _) r36_56 ?_
      refine Ex.iload_n (pc := 70) dX10_reckons_70 rfl rfl ?_
      refine Ex.iload (pc := 71) dX10_reckons_71 rfl ?_
      refine Ex.if_ne (pc := 73) (tgt := 86) dX10_reckons_73 (by decide) (fun _ => ?_) (fun c73 => absurd c73 (nI_ne0 (by omega) (by omega)))
      refine Ex.iload (pc := 86) dX10_reckons_86 rfl ?_
      refine Ex.bipush (pc := 88) (v := 30) dX10_reckons_88 rfl ?_
      refine Ex.icmp_ne (pc := 90) (tgt := 97) dX10_reckons_90 (by decide) (fun _ => ?_) (fun c90 => absurd c90 (fun e => absurd ((nI_eq (by omega) (by decide)).mp (show nI q = nI 30 from e)) (by omega)))
      refine Ex.aload_n (pc := 97) dX10_reckons_97 rfl rfl ?_
      refine Ex.getR (pc := 98) dX10_reckons_98 fX10_186 (sh36 _) r36_57 ?_
      refine Ex.iload (pc := 101) dX10_reckons_101 rfl ?_
      refine Ex.iald (pc := 103) (j := q) dX10_reckons_103 (sh71 _) (vp_in_nI (show q < 14 by omega) (by decide)) (ixN2 (by omega)) ?_
      refine Ex.i2l (pc := 104) dX10_reckons_104 ?_
      refine Ex.last (pc := 105) (j := z + 0) dX10_reckons_105 (sh70 _) (vp_in_nI (show z + 0 < 500 by omega) (by decide)) (ixN2 (by omega)) ?_
      refine Ex.iinc (pc := 106) (ls' := [some (.ref 36), some (.int _), some (.int _), some (.int _), some (.int _)]) dX10_reckons_106 rfl rfl (by decide) rfl rfl ?_
      refine Ex.goto (pc := 109) (tgt := 221) dX10_reckons_109 (by decide) ?_
      refine Ex.iinc (pc := 221) (ls' := [some (.ref 36), some (.int _), some (.int _), some (.int _), some (.int _)]) dX10_reckons_221 rfl rfl (by decide) rfl rfl ?_
      refine Ex.goto (pc := 224) (tgt := 25) dX10_reckons_224 (by decide) ?_
      rw [show nI (z + 0) + Int32.ofInt 1 = nI (z + 1) from nI_1 z]
      rw [show nI (1600 * bk + (f + i)) + Int32.ofInt 1 = nI (1600 * bk + (f + (i + 1))) from nI_1 _]
      refine Ex.le (ls' := [some (.ref 36), some (.int (nI r)), some (.int (nI (z + 1))), some (.int (nI (1600 * bk + (f + (i + 1))))), none]) ⟨rfl, rfl, rfl, rfl, trivial⟩ (ih _ ⟨hSL.up (by decide), ?_⟩)
      exact stk hst (by rw [ha q hq1 hq2 (hixi (by trivial))]; rfl) _ rfl
    · rw [hs]
      by_cases k14 : k = 14
      · subst k14
        simp only [show nd 14 = 1 from rfl] at *
        refine Ex.iload (pc := 59) dX10_reckons_59 rfl ?_
        refine Ex.bipush (pc := 61) (v := 30) dX10_reckons_61 rfl ?_
        refine Ex.icmp_gt (pc := 63) (tgt := 112) dX10_reckons_63 (by decide) (fun _ => ?_) (fun c63 => absurd (by decide) c63)
        refine Ex.iload (pc := 112) dX10_reckons_112 rfl ?_
        refine Ex.bipush (pc := 114) (v := 43) dX10_reckons_114 rfl ?_
        refine Ex.icmp_ne (pc := 116) (tgt := 140) dX10_reckons_116 (by decide) (fun c116 => absurd rfl c116) (fun _ => ?_)
        refine Ex.aload_n (pc := 119) dX10_reckons_119 rfl rfl ?_
        refine Ex.getR (pc := 120) dX10_reckons_120 fX10_183 (sh36 _) r36_56 ?_
        refine Ex.iload_n (pc := 123) dX10_reckons_123 rfl rfl ?_
        refine Ex.iconst (pc := 124) (v := 1) dX10_reckons_124 rfl ?_
        refine Ex.isub (pc := 125) dX10_reckons_125 ?_
        refine Ex.lconst (pc := 126) (v := 1) dX10_reckons_126 rfl ?_
        refine Ex.aload_n (pc := 127) dX10_reckons_127 rfl rfl ?_
        refine Ex.getR (pc := 128) dX10_reckons_128 fX10_183 (sh36 _) r36_56 ?_
        refine Ex.iload_n (pc := 131) dX10_reckons_131 rfl rfl ?_
        refine Ex.iconst (pc := 132) (v := 1) dX10_reckons_132 rfl ?_
        refine Ex.isub (pc := 133) dX10_reckons_133 ?_
        refine Ex.lald (pc := 134) (j := z) dX10_reckons_134 (sh70 _) (by rw [show nI (z + 1) - 1 = nI (z) from nI_pred z]; exact vp_in_nI (show z < 500 by omega) (by decide)) (by rw [show nI (z + 1) - 1 = nI (z) from nI_pred z]; exact nI_clamp (by omega)) ?_
        refine Ex.lsub (pc := 135) dX10_reckons_135 ?_
        refine Ex.last (pc := 136) (j := z) dX10_reckons_136 (sh70 _) (by rw [show nI (z + 1) - 1 = nI (z) from nI_pred z]; exact vp_in_nI (show z < 500 by omega) (by decide)) (by rw [show nI (z + 1) - 1 = nI (z) from nI_pred z]; exact nI_clamp (by omega)) ?_
        refine Ex.goto (pc := 137) (tgt := 221) dX10_reckons_137 (by decide) ?_
        refine Ex.iinc (pc := 221) (ls' := [some (.ref 36), some (.int _), some (.int _), some (.int _), some (.int _)]) dX10_reckons_221 rfl rfl (by decide) rfl rfl ?_
        refine Ex.goto (pc := 224) (tgt := 25) dX10_reckons_224 (by decide) ?_
        rw [show nI (1600 * bk + (f + i)) + Int32.ofInt 1 = nI (1600 * bk + (f + (i + 1))) from nI_1 _]
        refine Ex.le (ls' := [some (.ref 36), some (.int (nI r)), some (.int (nI (z + 1))), some (.int (nI (1600 * bk + (f + (i + 1))))), none]) ⟨rfl, rfl, rfl, rfl, trivial⟩ (ih _ ⟨hSL.up (by decide), ?_⟩)
        refine stk hst ?_ _ rfl
        have h01 := hef z (by omega) (htyi.1 (by trivial))
        rw [hst z (by omega)]
        show (1 : Int64) - (g z).toInt64 = (1 - g z).toInt64
        rcases h01 with e | e <;> rw [e] <;> rfl
      · by_cases k15 : k = 15
        · subst k15
          simp only [show nd 15 = 3 from rfl] at *
          refine Ex.iload (pc := 59) dX10_reckons_59 rfl ?_
          refine Ex.bipush (pc := 61) (v := 30) dX10_reckons_61 rfl ?_
          refine Ex.icmp_gt (pc := 63) (tgt := 112) dX10_reckons_63 (by decide) (fun _ => ?_) (fun c63 => absurd (by decide) c63)
          refine Ex.iload (pc := 112) dX10_reckons_112 rfl ?_
          refine Ex.bipush (pc := 114) (v := 43) dX10_reckons_114 rfl ?_
          refine Ex.icmp_ne (pc := 116) (tgt := 140) dX10_reckons_116 (by decide) (fun _ => ?_) (fun c116 => absurd c116 (by decide))
          refine Ex.iload (pc := 140) dX10_reckons_140 rfl ?_
          refine Ex.bipush (pc := 142) (v := 44) dX10_reckons_142 rfl ?_
          refine Ex.icmp_ne (pc := 144) (tgt := 191) dX10_reckons_144 (by decide) (fun c144 => absurd rfl c144) (fun _ => ?_)
          refine Ex.iinc (pc := 147) (ls' := [some (.ref 36), some (.int _), some (.int _), some (.int _), some (.int _)]) dX10_reckons_147 rfl rfl (by decide) rfl rfl ?_
          rw [show nI (z + 3) + Int32.ofInt (-2) = nI (z + 1) from by rw [← nI_add z 3, ← nI_add z 1, Int32.add_assoc]; rfl]
          refine Ex.aload_n (pc := 150) dX10_reckons_150 rfl rfl ?_
          refine Ex.getR (pc := 151) dX10_reckons_151 fX10_183 (sh36 _) r36_56 ?_
          refine Ex.iload_n (pc := 154) dX10_reckons_154 rfl rfl ?_
          refine Ex.iconst (pc := 155) (v := 1) dX10_reckons_155 rfl ?_
          refine Ex.isub (pc := 156) dX10_reckons_156 ?_
          refine Ex.aload_n (pc := 157) dX10_reckons_157 rfl rfl ?_
          refine Ex.getR (pc := 158) dX10_reckons_158 fX10_183 (sh36 _) r36_56 ?_
          refine Ex.iload_n (pc := 161) dX10_reckons_161 rfl rfl ?_
          refine Ex.iconst (pc := 162) (v := 1) dX10_reckons_162 rfl ?_
          refine Ex.isub (pc := 163) dX10_reckons_163 ?_
          refine Ex.lald (pc := 164) (j := z) dX10_reckons_164 (sh70 _) (by rw [show nI (z + 1) - 1 = nI (z) from nI_pred z]; exact vp_in_nI (show z < 500 by omega) (by decide)) (by rw [show nI (z + 1) - 1 = nI (z) from nI_pred z]; exact nI_clamp (by omega)) ?_
          refine Ex.lconst (pc := 165) (v := 1) dX10_reckons_165 rfl ?_
          refine Ex.lcmp (pc := 166) dX10_reckons_166 ?_
          refine Ex.if_ne (pc := 167) (tgt := 179) dX10_reckons_167 (by decide) (fun c167 => ?_) (fun c167 => ?_)
          · skip
            refine Ex.aload_n (pc := 179) dX10_reckons_179 rfl rfl ?_
            refine Ex.getR (pc := 180) dX10_reckons_180 fX10_183 (sh36 _) r36_56 ?_
            refine Ex.iload_n (pc := 183) dX10_reckons_183 rfl rfl ?_
            refine Ex.iconst (pc := 184) (v := 1) dX10_reckons_184 rfl ?_
            refine Ex.iadd (pc := 185) dX10_reckons_185 ?_
            refine Ex.lald (pc := 186) (j := z + 2) dX10_reckons_186 (sh70 _) (by rw [show nI (z + 1) + 1 = nI (z + 2) from nI_1 _]; exact vp_in_nI (show z + 2 < 500 by omega) (by decide)) (by rw [show nI (z + 1) + 1 = nI (z + 2) from nI_1 _]; exact nI_clamp (by omega)) ?_
            refine Ex.last (pc := 187) (j := z) dX10_reckons_187 (sh70 _) (by rw [show nI (z + 1) - 1 = nI (z) from nI_pred z]; exact vp_in_nI (show z < 500 by omega) (by decide)) (by rw [show nI (z + 1) - 1 = nI (z) from nI_pred z]; exact nI_clamp (by omega)) ?_
            refine Ex.goto (pc := 188) (tgt := 221) dX10_reckons_188 (by decide) ?_
            refine Ex.iinc (pc := 221) (ls' := [some (.ref 36), some (.int _), some (.int _), some (.int _), some (.int _)]) dX10_reckons_221 rfl rfl (by decide) rfl rfl ?_
            refine Ex.goto (pc := 224) (tgt := 25) dX10_reckons_224 (by decide) ?_
            rw [show nI (1600 * bk + (f + i)) + Int32.ofInt 1 = nI (1600 * bk + (f + (i + 1))) from nI_1 _]
            refine Ex.le (ls' := [some (.ref 36), some (.int (nI r)), some (.int (nI (z + 1))), some (.int (nI (1600 * bk + (f + (i + 1))))), none]) ⟨rfl, rfl, rfl, rfl, trivial⟩ (ih _ ⟨hSL.up (by decide), ?_⟩)
            refine stk hst ?_ _ rfl
            have h01 := hef z (by omega) (htyi.2 (by trivial))
            rw [lg_cmp_eq, hst z (by omega)] at c167
            rw [hst (z + 2) (by omega)]
            show _ = (if g z = 0 then g (z + 2) else g (z + 1)).toInt64
            rcases h01 with e | e
            · rw [e] at c167; rw [if_pos e]
            · rw [e] at c167; exact absurd rfl c167
          · skip
            refine Ex.aload_n (pc := 170) dX10_reckons_170 rfl rfl ?_
            refine Ex.getR (pc := 171) dX10_reckons_171 fX10_183 (sh36 _) r36_56 ?_
            refine Ex.iload_n (pc := 174) dX10_reckons_174 rfl rfl ?_
            refine Ex.lald (pc := 175) (j := z + 1) dX10_reckons_175 (sh70 _) (vp_in_nI (show z + 1 < 500 by omega) (by decide)) (ixN2 (by omega)) ?_
            refine Ex.goto (pc := 176) (tgt := 187) dX10_reckons_176 (by decide) ?_
            refine Ex.last (pc := 187) (j := z) dX10_reckons_187 (sh70 _) (by rw [show nI (z + 1) - 1 = nI (z) from nI_pred z]; exact vp_in_nI (show z < 500 by omega) (by decide)) (by rw [show nI (z + 1) - 1 = nI (z) from nI_pred z]; exact nI_clamp (by omega)) ?_
            refine Ex.goto (pc := 188) (tgt := 221) dX10_reckons_188 (by decide) ?_
            refine Ex.iinc (pc := 221) (ls' := [some (.ref 36), some (.int _), some (.int _), some (.int _), some (.int _)]) dX10_reckons_221 rfl rfl (by decide) rfl rfl ?_
            refine Ex.goto (pc := 224) (tgt := 25) dX10_reckons_224 (by decide) ?_
            rw [show nI (1600 * bk + (f + i)) + Int32.ofInt 1 = nI (1600 * bk + (f + (i + 1))) from nI_1 _]
            refine Ex.le (ls' := [some (.ref 36), some (.int (nI r)), some (.int (nI (z + 1))), some (.int (nI (1600 * bk + (f + (i + 1))))), none]) ⟨rfl, rfl, rfl, rfl, trivial⟩ (ih _ ⟨hSL.up (by decide), ?_⟩)
            refine stk hst ?_ _ rfl
            have h01 := hef z (by omega) (htyi.2 (by trivial))
            rw [lg_cmp_eq, hst z (by omega)] at c167
            rw [hst (z + 1) (by omega)]
            show _ = (if g z = 0 then g (z + 2) else g (z + 1)).toInt64
            rcases h01 with e | e
            · rw [e] at c167; exact absurd c167 (by decide)
            · rw [e] at c167; rw [if_neg (by rw [e]; decide)]
        · have e2 : nd k = 2 := by unfold nd; rw [if_neg (by omega), if_neg k14, if_neg k15]
          simp only [e2] at *
          have hsn : 31 ≤ sN k ∧ sN k ≤ 42 := by
            rcases (show k = 2 ∨ k = 3 ∨ k = 4 ∨ k = 5 ∨ k = 6 ∨ k = 7 ∨ k = 8 ∨ k = 9 ∨ k = 10 ∨ k = 11 ∨ k = 12 ∨ k = 13 by omega) with rfl | rfl | rfl | rfl | rfl | rfl | rfl | rfl | rfl | rfl | rfl | rfl <;> decide
          refine Ex.iload (pc := 59) dX10_reckons_59 rfl ?_
          refine Ex.bipush (pc := 61) (v := 30) dX10_reckons_61 rfl ?_
          refine Ex.icmp_gt (pc := 63) (tgt := 112) dX10_reckons_63 (by decide) (fun _ => ?_) (fun c63 => absurd (nI_lt (a := 30) (by omega) (by omega)) c63)
          refine Ex.iload (pc := 112) dX10_reckons_112 rfl ?_
          refine Ex.bipush (pc := 114) (v := 43) dX10_reckons_114 rfl ?_
          refine Ex.icmp_ne (pc := 116) (tgt := 140) dX10_reckons_116 (by decide) (fun _ => ?_) (fun c116 => absurd c116 (fun e => absurd ((nI_eq (by omega) (by decide)).mp (show nI (sN k) = nI 43 from e)) (by omega)))
          refine Ex.iload (pc := 140) dX10_reckons_140 rfl ?_
          refine Ex.bipush (pc := 142) (v := 44) dX10_reckons_142 rfl ?_
          refine Ex.icmp_ne (pc := 144) (tgt := 191) dX10_reckons_144 (by decide) (fun _ => ?_) (fun c144 => absurd c144 (fun e => absurd ((nI_eq (by omega) (by decide)).mp (show nI (sN k) = nI 44 from e)) (by omega)))
          refine Ex.iinc (pc := 191) (ls' := [some (.ref 36), some (.int _), some (.int _), some (.int _), some (.int _)]) dX10_reckons_191 rfl rfl (by decide) rfl rfl ?_
          rw [show nI (z + 2) + Int32.ofInt (-1) = nI (z + 1) from by rw [← nI_add z 2, ← nI_add z 1, Int32.add_assoc]; rfl]
          refine Ex.aload_n (pc := 194) dX10_reckons_194 rfl rfl ?_
          refine Ex.getR (pc := 195) dX10_reckons_195 fX10_183 (sh36 _) r36_56 ?_
          refine Ex.iload_n (pc := 198) dX10_reckons_198 rfl rfl ?_
          refine Ex.iconst (pc := 199) (v := 1) dX10_reckons_199 rfl ?_
          refine Ex.isub (pc := 200) dX10_reckons_200 ?_
          refine Ex.iload (pc := 201) dX10_reckons_201 rfl ?_
          refine Ex.aload_n (pc := 203) dX10_reckons_203 rfl rfl ?_
          refine Ex.getR (pc := 204) dX10_reckons_204 fX10_183 (sh36 _) r36_56 ?_
          refine Ex.iload_n (pc := 207) dX10_reckons_207 rfl rfl ?_
          refine Ex.iconst (pc := 208) (v := 1) dX10_reckons_208 rfl ?_
          refine Ex.isub (pc := 209) dX10_reckons_209 ?_
          refine Ex.lald (pc := 210) (j := z) dX10_reckons_210 (sh70 _) (by rw [show nI (z + 1) - 1 = nI (z) from nI_pred z]; exact vp_in_nI (show z < 500 by omega) (by decide)) (by rw [show nI (z + 1) - 1 = nI (z) from nI_pred z]; exact nI_clamp (by omega)) ?_
          refine Ex.aload_n (pc := 211) dX10_reckons_211 rfl rfl ?_
          refine Ex.getR (pc := 212) dX10_reckons_212 fX10_183 (sh36 _) r36_56 ?_
          refine Ex.iload_n (pc := 215) dX10_reckons_215 rfl rfl ?_
          refine Ex.lald (pc := 216) (j := z + 1) dX10_reckons_216 (sh70 _) (vp_in_nI (show z + 1 < 500 by omega) (by decide)) (ixN2 (by omega)) ?_
          refine Ex.callS (pc := 217) (As := [.int _, .long _, .long _]) (rest := [.int _, .ref 70]) dX10_reckons_217 cX10_420 tm_two rfl rfl (by decide) (Nat.le_refl _) (Nat.le_refl _) (Nat.le_of_ble_eq_true rfl) (Or.inl (fun r S' h => by obtain ⟨_, h⟩ := h; subst h; rfl)) (fun r S' hq _ _ => ?_)
          obtain ⟨rfl, rfl⟩ := hq
          refine Ex.last (pc := 220) (j := z) dX10_reckons_220 (sh70 _) (by rw [show nI (z + 1) - 1 = nI (z) from nI_pred z]; exact vp_in_nI (show z < 500 by omega) (by decide)) (by rw [show nI (z + 1) - 1 = nI (z) from nI_pred z]; exact nI_clamp (by omega)) ?_
          refine Ex.iinc (pc := 221) (ls' := [some (.ref 36), some (.int _), some (.int _), some (.int _), some (.int _)]) dX10_reckons_221 rfl rfl (by decide) rfl rfl ?_
          refine Ex.goto (pc := 224) (tgt := 25) dX10_reckons_224 (by decide) ?_
          rw [show nI (1600 * bk + (f + i)) + Int32.ofInt 1 = nI (1600 * bk + (f + (i + 1))) from nI_1 _]
          refine Ex.le (ls' := [some (.ref 36), some (.int (nI r)), some (.int (nI (z + 1))), some (.int (nI (1600 * bk + (f + (i + 1))))), none]) ⟨rfl, rfl, rfl, rfl, trivial⟩ (ih _ ⟨hSL.up (by decide), ?_⟩)
          refine stk hst ?_ _ rfl
          rw [hst z (by omega), hst (z + 1) (by omega), two_rel hk2 (by omega) (g z) (g (z + 1)) (g (z + 2))]
          rw [if_neg (show ¬ k ≤ 1 by omega)]
