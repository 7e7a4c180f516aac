def fdivL (x y : Int64) : Int64 := if 0 ≤ x ^^^ y then x / y else if x / y * y = x then x / y else x / y - 1
def fmodL (x y : Int64) : Int64 := if 0 ≤ x ^^^ y then x - x / y * y else if x - x / y * y = 0 then x - x / y * y else x - x / y * y + y
def rkL (k : Int32) (a b : Int64) : Int64 := if k = 2 then a + b else if k = 3 then a - b else if k = 4 then a * b else if b = 0 then 0 else if k = 5 then fdivL a b else fmodL a b
def clampM (r : Int64) : Int32 := if r ≤ 1000000 then (if -1000000 ≤ r then r.toInt32 else -1000000) else 1000000
set_option maxRecDepth 20000 in
theorem t_floorDiv {S : aS} {x y : Int64} (hy : ¬ y = 0) : Run 0 0 0 mJ9_floorDiv_f86c9 [.long x, .long y] S (RL64 (fdivL x y) S) := by
  refine Run.of (ls := [some (.long _), none, some (.long _), none, none, none]) (by decide +kernel) (Nat.le_of_ble_eq_true rfl) rfl ?_
  refine Ex.lload_n (pc := 0) dJ9_floorDiv_f86c9_0 rfl rfl ?_
  refine Ex.lload_n (pc := 1) dJ9_floorDiv_f86c9_1 rfl rfl ?_
  refine Ex.ldiv (pc := 2) dJ9_floorDiv_f86c9_2 hy ?_
  refine Ex.lstore (pc := 3) (ls' := [some (.long _), none, some (.long _), none, some (.long _), none]) dJ9_floorDiv_f86c9_3 (by decide) rfl rfl ?_
  refine Ex.lload_n (pc := 5) dJ9_floorDiv_f86c9_5 rfl rfl ?_
  refine Ex.lload_n (pc := 6) dJ9_floorDiv_f86c9_6 rfl rfl ?_
  refine Ex.lxor (pc := 7) dJ9_floorDiv_f86c9_7 ?_
  refine Ex.lconst (pc := 8) (v := 0) dJ9_floorDiv_f86c9_8 rfl ?_
  refine Ex.lcmp (pc := 9) dJ9_floorDiv_f86c9_9 ?_
  refine Ex.if_ge (pc := 10) (tgt := 27) dJ9_floorDiv_f86c9_10 (by decide) (fun c10 => ?_) (fun c10 => ?_)
  · skip
    refine Ex.lload (pc := 27) dJ9_floorDiv_f86c9_27 rfl ?_
    refine Ex.lret (pc := 29) rfl dJ9_floorDiv_f86c9_29 (Nat.le_refl _) (Nat.le_refl _) ?_
    exact ⟨by simp only [fdivL, fmodL]; (try rw [lg_cmp_ge] at c10); (try rw [lg_cmp_eq] at c19); (try rw [lg_cmp_eq] at c17); simp [*], rfl⟩
  · skip
    refine Ex.lload (pc := 13) dJ9_floorDiv_f86c9_13 rfl ?_
    refine Ex.lload_n (pc := 15) dJ9_floorDiv_f86c9_15 rfl rfl ?_
    refine Ex.lmul (pc := 16) dJ9_floorDiv_f86c9_16 ?_
    refine Ex.lload_n (pc := 17) dJ9_floorDiv_f86c9_17 rfl rfl ?_
    refine Ex.lcmp (pc := 18) dJ9_floorDiv_f86c9_18 ?_
    refine Ex.if_eq (pc := 19) (tgt := 27) dJ9_floorDiv_f86c9_19 (by decide) (fun c19 => ?_) (fun c19 => ?_)
    · skip
      refine Ex.lload (pc := 27) dJ9_floorDiv_f86c9_27 rfl ?_
      refine Ex.lret (pc := 29) rfl dJ9_floorDiv_f86c9_29 (Nat.le_refl _) (Nat.le_refl _) ?_
      exact ⟨by simp only [fdivL, fmodL]; (try rw [lg_cmp_ge] at c10); (try rw [lg_cmp_eq] at c19); (try rw [lg_cmp_eq] at c17); simp [*], rfl⟩
    · skip
      refine Ex.lload (pc := 22) dJ9_floorDiv_f86c9_22 rfl ?_
      refine Ex.lconst (pc := 24) (v := 1) dJ9_floorDiv_f86c9_24 rfl ?_
      refine Ex.lsub (pc := 25) dJ9_floorDiv_f86c9_25 ?_
      refine Ex.lret (pc := 26) rfl dJ9_floorDiv_f86c9_26 (Nat.le_refl _) (Nat.le_refl _) ?_
      exact ⟨by simp only [fdivL, fmodL]; (try rw [lg_cmp_ge] at c10); (try rw [lg_cmp_eq] at c19); (try rw [lg_cmp_eq] at c17); simp [*], rfl⟩
set_option maxRecDepth 20000 in
theorem t_floorMod {S : aS} {x y : Int64} (hy : ¬ y = 0) : Run 0 0 0 mJ9_floorMod_f86c9 [.long x, .long y] S (RL64 (fmodL x y) S) := by
  refine Run.of (ls := [some (.long _), none, some (.long _), none, none, none]) (by decide +kernel) (Nat.le_of_ble_eq_true rfl) rfl ?_
  refine Ex.lload_n (pc := 0) dJ9_floorMod_f86c9_0 rfl rfl ?_
  refine Ex.lload_n (pc := 1) dJ9_floorMod_f86c9_1 rfl rfl ?_
  refine Ex.lrem (pc := 2) dJ9_floorMod_f86c9_2 hy ?_
  refine Ex.lstore (pc := 3) (ls' := [some (.long _), none, some (.long _), none, some (.long _), none]) dJ9_floorMod_f86c9_3 (by decide) rfl rfl ?_
  refine Ex.lload_n (pc := 5) dJ9_floorMod_f86c9_5 rfl rfl ?_
  refine Ex.lload_n (pc := 6) dJ9_floorMod_f86c9_6 rfl rfl ?_
  refine Ex.lxor (pc := 7) dJ9_floorMod_f86c9_7 ?_
  refine Ex.lconst (pc := 8) (v := 0) dJ9_floorMod_f86c9_8 rfl ?_
  refine Ex.lcmp (pc := 9) dJ9_floorMod_f86c9_9 ?_
  refine Ex.if_ge (pc := 10) (tgt := 25) dJ9_floorMod_f86c9_10 (by decide) (fun c10 => ?_) (fun c10 => ?_)
  · skip
    refine Ex.lload (pc := 25) dJ9_floorMod_f86c9_25 rfl ?_
    refine Ex.lret (pc := 27) rfl dJ9_floorMod_f86c9_27 (Nat.le_refl _) (Nat.le_refl _) ?_
    exact ⟨by simp only [fdivL, fmodL]; (try rw [lg_cmp_ge] at c10); (try rw [lg_cmp_eq] at c19); (try rw [lg_cmp_eq] at c17); simp [*], rfl⟩
  · skip
    refine Ex.lload (pc := 13) dJ9_floorMod_f86c9_13 rfl ?_
    refine Ex.lconst (pc := 15) (v := 0) dJ9_floorMod_f86c9_15 rfl ?_
    refine Ex.lcmp (pc := 16) dJ9_floorMod_f86c9_16 ?_
    refine Ex.if_eq (pc := 17) (tgt := 25) dJ9_floorMod_f86c9_17 (by decide) (fun c17 => ?_) (fun c17 => ?_)
    · skip
      refine Ex.lload (pc := 25) dJ9_floorMod_f86c9_25 rfl ?_
      refine Ex.lret (pc := 27) rfl dJ9_floorMod_f86c9_27 (Nat.le_refl _) (Nat.le_refl _) ?_
      exact ⟨by simp only [fdivL, fmodL]; (try rw [lg_cmp_ge] at c10); (try rw [lg_cmp_eq] at c19); (try rw [lg_cmp_eq] at c17); simp [*], rfl⟩
    · skip
      refine Ex.lload (pc := 20) dJ9_floorMod_f86c9_20 rfl ?_
      refine Ex.lload_n (pc := 22) dJ9_floorMod_f86c9_22 rfl rfl ?_
      refine Ex.ladd (pc := 23) dJ9_floorMod_f86c9_23 ?_
      refine Ex.lret (pc := 24) rfl dJ9_floorMod_f86c9_24 (Nat.le_refl _) (Nat.le_refl _) ?_
      exact ⟨by simp only [fdivL, fmodL]; (try rw [lg_cmp_ge] at c10); (try rw [lg_cmp_eq] at c19); (try rw [lg_cmp_eq] at c17); simp [*], rfl⟩
set_option maxRecDepth 20000 in
theorem t_reckon {S : aS} {k : Int32} {x y : Int64} : Run 1 0 0 mX6_reckon [.int k, .long x, .long y] S (RI (clampM (rkL k x y)) S) := by
  refine Run.of (ls := [some (.int _), some (.long _), none, some (.long _), none, none, none]) (by decide) (Nat.le_of_ble_eq_true rfl) rfl ?_
  refine Ex.lconst (pc := 0) (v := 0) dX6_reckon_0 rfl ?_
  refine Ex.lstore (pc := 1) (ls' := [some (.int _), some (.long _), none, some (.long _), none, some (.long _), none]) dX6_reckon_1 (by decide) rfl rfl ?_
  refine Ex.iload_n (pc := 3) dX6_reckon_3 rfl rfl ?_
  refine Ex.iconst (pc := 4) (v := 2) dX6_reckon_4 rfl ?_
  refine Ex.icmp_ne (pc := 5) (tgt := 16) dX6_reckon_5 (by decide) (fun c5 => ?_) (fun c5 => ?_)
  · skip
    refine Ex.iload_n (pc := 16) dX6_reckon_16 rfl rfl ?_
    refine Ex.iconst (pc := 17) (v := 3) dX6_reckon_17 rfl ?_
    refine Ex.icmp_ne (pc := 18) (tgt := 29) dX6_reckon_18 (by decide) (fun c18 => ?_) (fun c18 => ?_)
    · skip
      refine Ex.iload_n (pc := 29) dX6_reckon_29 rfl rfl ?_
      refine Ex.iconst (pc := 30) (v := 4) dX6_reckon_30 rfl ?_
      refine Ex.icmp_ne (pc := 31) (tgt := 42) dX6_reckon_31 (by decide) (fun c31 => ?_) (fun c31 => ?_)
      · skip
        refine Ex.lload_n (pc := 42) dX6_reckon_42 rfl rfl ?_
        refine Ex.lconst (pc := 43) (v := 0) dX6_reckon_43 rfl ?_
        refine Ex.lcmp (pc := 44) dX6_reckon_44 ?_
        refine Ex.if_eq (pc := 45) (tgt := 68) dX6_reckon_45 (by decide) (fun c45 => ?_) (fun c45 => ?_)
        · skip
          refine Ex.lload (pc := 68) dX6_reckon_68 rfl ?_
          refine Ex.ldc2 (pc := 70) dX6_reckon_70 kv_X6_142 ?_
          refine Ex.lcmp (pc := 73) dX6_reckon_73 ?_
          refine Ex.if_le (pc := 74) (tgt := 80) dX6_reckon_74 (by decide) (fun c74 => ?_) (fun c74 => ?_)
          · skip
            refine Ex.lload (pc := 80) dX6_reckon_80 rfl ?_
            refine Ex.ldc2 (pc := 82) dX6_reckon_82 kv_X6_145 ?_
            refine Ex.lcmp (pc := 85) dX6_reckon_85 ?_
            refine Ex.if_ge (pc := 86) (tgt := 94) dX6_reckon_86 (by decide) (fun c86 => ?_) (fun c86 => ?_)
            · skip
              refine Ex.lload (pc := 94) dX6_reckon_94 rfl ?_
              refine Ex.l2i (pc := 96) dX6_reckon_96 ?_
              refine Ex.iret (pc := 97) rfl rfl rfl dX6_reckon_97 (Nat.le_refl _) (Nat.le_refl _) ?_
              exact ⟨by simp only [rkL, clampM]; (try rw [lg_cmp_eq] at c45); (try rw [lg_cmp_le] at c74); (try rw [lg_cmp_ge] at c86); simp [*], rfl⟩
            · skip
              refine Ex.ldc (pc := 89) dX6_reckon_89 kv_X6_147 ?_
              refine Ex.goto (pc := 91) (tgt := 97) dX6_reckon_91 (by decide) ?_
              refine Ex.iret (pc := 97) rfl rfl rfl dX6_reckon_97 (Nat.le_refl _) (Nat.le_refl _) ?_
              exact ⟨by simp only [rkL, clampM]; (try rw [lg_cmp_eq] at c45); (try rw [lg_cmp_le] at c74); (try rw [lg_cmp_ge] at c86); simp [*], rfl⟩
          · skip
            refine Ex.ldc (pc := 77) dX6_reckon_77 kv_X6_144 ?_
            refine Ex.iret (pc := 79) rfl rfl rfl dX6_reckon_79 (Nat.le_refl _) (Nat.le_refl _) ?_
            exact ⟨by simp only [rkL, clampM]; (try rw [lg_cmp_eq] at c45); (try rw [lg_cmp_le] at c74); (try rw [lg_cmp_ge] at c86); simp [*], rfl⟩
        · skip
          refine Ex.iload_n (pc := 48) dX6_reckon_48 rfl rfl ?_
          refine Ex.iconst (pc := 49) (v := 5) dX6_reckon_49 rfl ?_
          refine Ex.icmp_ne (pc := 50) (tgt := 61) dX6_reckon_50 (by decide) (fun c50 => ?_) (fun c50 => ?_)
          · skip
            refine Ex.lload_n (pc := 61) dX6_reckon_61 rfl rfl ?_
            refine Ex.lload_n (pc := 62) dX6_reckon_62 rfl rfl ?_
            refine Ex.callS (pc := 63) (As := [.long _, .long _]) (rest := []) dX6_reckon_63 cX6_139 (t_floorMod (by rw [lg_cmp_eq] at c45; exact c45)) rfl rfl (by decide) (Nat.le_refl _) (Nat.le_refl _) (Nat.le_of_ble_eq_true rfl) (Or.inl (fun r S' h => by obtain ⟨_, h⟩ := h; subst h; rfl)) (fun r S' hq _ _ => ?_)
            obtain ⟨rfl, rfl⟩ := hq
            refine Ex.lstore (pc := 66) (ls' := [some (.int _), some (.long _), none, some (.long _), none, some (.long _), none]) dX6_reckon_66 (by decide) rfl rfl ?_
            refine Ex.lload (pc := 68) dX6_reckon_68 rfl ?_
            refine Ex.ldc2 (pc := 70) dX6_reckon_70 kv_X6_142 ?_
            refine Ex.lcmp (pc := 73) dX6_reckon_73 ?_
            refine Ex.if_le (pc := 74) (tgt := 80) dX6_reckon_74 (by decide) (fun c74 => ?_) (fun c74 => ?_)
            · skip
              refine Ex.lload (pc := 80) dX6_reckon_80 rfl ?_
              refine Ex.ldc2 (pc := 82) dX6_reckon_82 kv_X6_145 ?_
              refine Ex.lcmp (pc := 85) dX6_reckon_85 ?_
              refine Ex.if_ge (pc := 86) (tgt := 94) dX6_reckon_86 (by decide) (fun c86 => ?_) (fun c86 => ?_)
              · skip
                refine Ex.lload (pc := 94) dX6_reckon_94 rfl ?_
                refine Ex.l2i (pc := 96) dX6_reckon_96 ?_
                refine Ex.iret (pc := 97) rfl rfl rfl dX6_reckon_97 (Nat.le_refl _) (Nat.le_refl _) ?_
                exact ⟨by simp only [rkL, clampM]; (try rw [lg_cmp_eq] at c45); (try rw [lg_cmp_le] at c74); (try rw [lg_cmp_ge] at c86); simp [*], rfl⟩
              · skip
                refine Ex.ldc (pc := 89) dX6_reckon_89 kv_X6_147 ?_
                refine Ex.goto (pc := 91) (tgt := 97) dX6_reckon_91 (by decide) ?_
                refine Ex.iret (pc := 97) rfl rfl rfl dX6_reckon_97 (Nat.le_refl _) (Nat.le_refl _) ?_
                exact ⟨by simp only [rkL, clampM]; (try rw [lg_cmp_eq] at c45); (try rw [lg_cmp_le] at c74); (try rw [lg_cmp_ge] at c86); simp [*], rfl⟩
            · skip
              refine Ex.ldc (pc := 77) dX6_reckon_77 kv_X6_144 ?_
              refine Ex.iret (pc := 79) rfl rfl rfl dX6_reckon_79 (Nat.le_refl _) (Nat.le_refl _) ?_
              exact ⟨by simp only [rkL, clampM]; (try rw [lg_cmp_eq] at c45); (try rw [lg_cmp_le] at c74); (try rw [lg_cmp_ge] at c86); simp [*], rfl⟩
          · skip
            refine Ex.lload_n (pc := 53) dX6_reckon_53 rfl rfl ?_
            refine Ex.lload_n (pc := 54) dX6_reckon_54 rfl rfl ?_
            refine Ex.callS (pc := 55) (As := [.long _, .long _]) (rest := []) dX6_reckon_55 cX6_135 (t_floorDiv (by rw [lg_cmp_eq] at c45; exact c45)) rfl rfl (by decide) (Nat.le_refl _) (Nat.le_refl _) (Nat.le_of_ble_eq_true rfl) (Or.inl (fun r S' h => by obtain ⟨_, h⟩ := h; subst h; rfl)) (fun r S' hq _ _ => ?_)
            obtain ⟨rfl, rfl⟩ := hq
            refine Ex.goto (pc := 58) (tgt := 66) dX6_reckon_58 (by decide) ?_
            refine Ex.lstore (pc := 66) (ls' := [some (.int _), some (.long _), none, some (.long _), none, some (.long _), none]) dX6_reckon_66 (by decide) rfl rfl ?_
            refine Ex.lload (pc := 68) dX6_reckon_68 rfl ?_
            refine Ex.ldc2 (pc := 70) dX6_reckon_70 kv_X6_142 ?_
            refine Ex.lcmp (pc := 73) dX6_reckon_73 ?_
            refine Ex.if_le (pc := 74) (tgt := 80) dX6_reckon_74 (by decide) (fun c74 => ?_) (fun c74 => ?_)
            · skip
              refine Ex.lload (pc := 80) dX6_reckon_80 rfl ?_
              refine Ex.ldc2 (pc := 82) dX6_reckon_82 kv_X6_145 ?_
              refine Ex.lcmp (pc := 85) dX6_reckon_85 ?_
              refine Ex.if_ge (pc := 86) (tgt := 94) dX6_reckon_86 (by decide) (fun c86 => ?_) (fun c86 => ?_)
              · skip
                refine Ex.lload (pc := 94) dX6_reckon_94 rfl ?_
                refine Ex.l2i (pc := 96) dX6_reckon_96 ?_
                refine Ex.iret (pc := 97) rfl rfl rfl dX6_reckon_97 (Nat.le_refl _) (Nat.le_refl _) ?_
                exact ⟨by simp only [rkL, clampM]; (try rw [lg_cmp_eq] at c45); (try rw [lg_cmp_le] at c74); (try rw [lg_cmp_ge] at c86); simp [*], rfl⟩
              · skip
                refine Ex.ldc (pc := 89) dX6_reckon_89 kv_X6_147 ?_
                refine Ex.goto (pc := 91) (tgt := 97) dX6_reckon_91 (by decide) ?_
                refine Ex.iret (pc := 97) rfl rfl rfl dX6_reckon_97 (Nat.le_refl _) (Nat.le_refl _) ?_
                exact ⟨by simp only [rkL, clampM]; (try rw [lg_cmp_eq] at c45); (try rw [lg_cmp_le] at c74); (try rw [lg_cmp_ge] at c86); simp [*], rfl⟩
            · skip
              refine Ex.ldc (pc := 77) dX6_reckon_77 kv_X6_144 ?_
              refine Ex.iret (pc := 79) rfl rfl rfl dX6_reckon_79 (Nat.le_refl _) (Nat.le_refl _) ?_
              exact ⟨by simp only [rkL, clampM]; (try rw [lg_cmp_eq] at c45); (try rw [lg_cmp_le] at c74); (try rw [lg_cmp_ge] at c86); simp [*], rfl⟩
      · skip
        refine Ex.lload_n (pc := 34) dX6_reckon_34 rfl rfl ?_
        refine Ex.lload_n (pc := 35) dX6_reckon_35 rfl rfl ?_
        refine Ex.lmul (pc := 36) dX6_reckon_36 ?_
        refine Ex.lstore (pc := 37) (ls' := [some (.int _), some (.long _), none, some (.long _), none, some (.long _), none]) dX6_reckon_37 (by decide) rfl rfl ?_
        refine Ex.goto (pc := 39) (tgt := 68) dX6_reckon_39 (by decide) ?_
        refine Ex.lload (pc := 68) dX6_reckon_68 rfl ?_
        refine Ex.ldc2 (pc := 70) dX6_reckon_70 kv_X6_142 ?_
        refine Ex.lcmp (pc := 73) dX6_reckon_73 ?_
        refine Ex.if_le (pc := 74) (tgt := 80) dX6_reckon_74 (by decide) (fun c74 => ?_) (fun c74 => ?_)
        · skip
          refine Ex.lload (pc := 80) dX6_reckon_80 rfl ?_
          refine Ex.ldc2 (pc := 82) dX6_reckon_82 kv_X6_145 ?_
          refine Ex.lcmp (pc := 85) dX6_reckon_85 ?_
          refine Ex.if_ge (pc := 86) (tgt := 94) dX6_reckon_86 (by decide) (fun c86 => ?_) (fun c86 => ?_)
          · skip
            refine Ex.lload (pc := 94) dX6_reckon_94 rfl ?_
            refine Ex.l2i (pc := 96) dX6_reckon_96 ?_
            refine Ex.iret (pc := 97) rfl rfl rfl dX6_reckon_97 (Nat.le_refl _) (Nat.le_refl _) ?_
            exact ⟨by simp only [rkL, clampM]; (try rw [lg_cmp_eq] at c45); (try rw [lg_cmp_le] at c74); (try rw [lg_cmp_ge] at c86); simp [*], rfl⟩
          · skip
            refine Ex.ldc (pc := 89) dX6_reckon_89 kv_X6_147 ?_
            refine Ex.goto (pc := 91) (tgt := 97) dX6_reckon_91 (by decide) ?_
            refine Ex.iret (pc := 97) rfl rfl rfl dX6_reckon_97 (Nat.le_refl _) (Nat.le_refl _) ?_
            exact ⟨by simp only [rkL, clampM]; (try rw [lg_cmp_eq] at c45); (try rw [lg_cmp_le] at c74); (try rw [lg_cmp_ge] at c86); simp [*], rfl⟩
        · skip
          refine Ex.ldc (pc := 77) dX6_reckon_77 kv_X6_144 ?_
          refine Ex.iret (pc := 79) rfl rfl rfl dX6_reckon_79 (Nat.le_refl _) (Nat.le_refl _) ?_
          exact ⟨by simp only [rkL, clampM]; (try rw [lg_cmp_eq] at c45); (try rw [lg_cmp_le] at c74); (try rw [lg_cmp_ge] at c86); simp [*], rfl⟩
    · skip
      refine Ex.lload_n (pc := 21) dX6_reckon_21 rfl rfl ?_
      refine Ex.lload_n (pc := 22) dX6_reckon_22 rfl rfl ?_
      refine Ex.lsub (pc := 23) dX6_reckon_23 ?_
      refine Ex.lstore (pc := 24) (ls' := [some (.int _), some (.long _), none, some (.long _), none, some (.long _), none]) dX6_reckon_24 (by decide) rfl rfl ?_
      refine Ex.goto (pc := 26) (tgt := 68) dX6_reckon_26 (by decide) ?_
      refine Ex.lload (pc := 68) dX6_reckon_68 rfl ?_
      refine Ex.ldc2 (pc := 70) dX6_reckon_70 kv_X6_142 ?_
      refine Ex.lcmp (pc := 73) dX6_reckon_73 ?_
      refine Ex.if_le (pc := 74) (tgt := 80) dX6_reckon_74 (by decide) (fun c74 => ?_) (fun c74 => ?_)
      · skip
        refine Ex.lload (pc := 80) dX6_reckon_80 rfl ?_
        refine Ex.ldc2 (pc := 82) dX6_reckon_82 kv_X6_145 ?_
        refine Ex.lcmp (pc := 85) dX6_reckon_85 ?_
        refine Ex.if_ge (pc := 86) (tgt := 94) dX6_reckon_86 (by decide) (fun c86 => ?_) (fun c86 => ?_)
        · skip
          refine Ex.lload (pc := 94) dX6_reckon_94 rfl ?_
          refine Ex.l2i (pc := 96) dX6_reckon_96 ?_
          refine Ex.iret (pc := 97) rfl rfl rfl dX6_reckon_97 (Nat.le_refl _) (Nat.le_refl _) ?_
          exact ⟨by simp only [rkL, clampM]; (try rw [lg_cmp_eq] at c45); (try rw [lg_cmp_le] at c74); (try rw [lg_cmp_ge] at c86); simp [*], rfl⟩
        · skip
          refine Ex.ldc (pc := 89) dX6_reckon_89 kv_X6_147 ?_
          refine Ex.goto (pc := 91) (tgt := 97) dX6_reckon_91 (by decide) ?_
          refine Ex.iret (pc := 97) rfl rfl rfl dX6_reckon_97 (Nat.le_refl _) (Nat.le_refl _) ?_
          exact ⟨by simp only [rkL, clampM]; (try rw [lg_cmp_eq] at c45); (try rw [lg_cmp_le] at c74); (try rw [lg_cmp_ge] at c86); simp [*], rfl⟩
      · skip
        refine Ex.ldc (pc := 77) dX6_reckon_77 kv_X6_144 ?_
        refine Ex.iret (pc := 79) rfl rfl rfl dX6_reckon_79 (Nat.le_refl _) (Nat.le_refl _) ?_
        exact ⟨by simp only [rkL, clampM]; (try rw [lg_cmp_eq] at c45); (try rw [lg_cmp_le] at c74); (try rw [lg_cmp_ge] at c86); simp [*], rfl⟩
  · skip
    refine Ex.lload_n (pc := 8) dX6_reckon_8 rfl rfl ?_
    refine Ex.lload_n (pc := 9) dX6_reckon_9 rfl rfl ?_
    refine Ex.ladd (pc := 10) dX6_reckon_10 ?_
    refine Ex.lstore (pc := 11) (ls' := [some (.int _), some (.long _), none, some (.long _), none, some (.long _), none]) dX6_reckon_11 (by decide) rfl rfl ?_
    refine Ex.goto (pc := 13) (tgt := 68) dX6_reckon_13 (by decide) ?_
    refine Ex.lload (pc := 68) dX6_reckon_68 rfl ?_
    refine Ex.ldc2 (pc := 70) dX6_reckon_70 kv_X6_142 ?_
    refine Ex.lcmp (pc := 73) dX6_reckon_73 ?_
    refine Ex.if_le (pc := 74) (tgt := 80) dX6_reckon_74 (by decide) (fun c74 => ?_) (fun c74 => ?_)
    · skip
      refine Ex.lload (pc := 80) dX6_reckon_80 rfl ?_
      refine Ex.ldc2 (pc := 82) dX6_reckon_82 kv_X6_145 ?_
      refine Ex.lcmp (pc := 85) dX6_reckon_85 ?_
      refine Ex.if_ge (pc := 86) (tgt := 94) dX6_reckon_86 (by decide) (fun c86 => ?_) (fun c86 => ?_)
      · skip
        refine Ex.lload (pc := 94) dX6_reckon_94 rfl ?_
        refine Ex.l2i (pc := 96) dX6_reckon_96 ?_
        refine Ex.iret (pc := 97) rfl rfl rfl dX6_reckon_97 (Nat.le_refl _) (Nat.le_refl _) ?_
        exact ⟨by simp only [rkL, clampM]; (try rw [lg_cmp_eq] at c45); (try rw [lg_cmp_le] at c74); (try rw [lg_cmp_ge] at c86); simp [*], rfl⟩
      · skip
        refine Ex.ldc (pc := 89) dX6_reckon_89 kv_X6_147 ?_
        refine Ex.goto (pc := 91) (tgt := 97) dX6_reckon_91 (by decide) ?_
        refine Ex.iret (pc := 97) rfl rfl rfl dX6_reckon_97 (Nat.le_refl _) (Nat.le_refl _) ?_
        exact ⟨by simp only [rkL, clampM]; (try rw [lg_cmp_eq] at c45); (try rw [lg_cmp_le] at c74); (try rw [lg_cmp_ge] at c86); simp [*], rfl⟩
    · skip
      refine Ex.ldc (pc := 77) dX6_reckon_77 kv_X6_144 ?_
      refine Ex.iret (pc := 79) rfl rfl rfl dX6_reckon_79 (Nat.le_refl _) (Nat.le_refl _) ?_
      exact ⟨by simp only [rkL, clampM]; (try rw [lg_cmp_eq] at c45); (try rw [lg_cmp_le] at c74); (try rw [lg_cmp_ge] at c86); simp [*], rfl⟩
set_option maxRecDepth 20000 in
theorem t_put {N : Nat} {I : aI} {L : aL} {k v : Nat} (hk : k < 2) (hv : k = 1 → v < 20) (hv2 : v < 16384) : Run 0 0 0 mX6_put [.ref 16, .int (nI k), .int (nI v)] (St N I L) (RI (if k = 0 then nI v else I 17 v) (St N I L)) := by
  refine Run.of (ls := [some (.ref 16), some (.int _), some (.int _)]) (by decide) (Nat.le_of_ble_eq_true rfl) rfl ?_
  rcases (show k = 0 ∨ k = 1 by omega) with rfl | rfl
  · skip
    refine Ex.iload_n (pc := 0) dX6_put_0 rfl rfl ?_
    refine Ex.if_eq (pc := 1) (tgt := 13) dX6_put_1 (by decide) (fun _ => ?_) (fun c1 => absurd rfl c1)
    refine Ex.iload_n (pc := 13) dX6_put_13 rfl rfl ?_
    refine Ex.goto (pc := 14) (tgt := 23) dX6_put_14 (by decide) ?_
    refine Ex.iret (pc := 23) rfl rfl rfl dX6_put_23 (Nat.le_refl _) (Nat.le_refl _) ?_
    exact ⟨rfl, rfl⟩
  · have hv := hv rfl
    refine Ex.iload_n (pc := 0) dX6_put_0 rfl rfl ?_
    refine Ex.if_eq (pc := 1) (tgt := 13) dX6_put_1 (by decide) (fun c1 => absurd c1 (by decide)) (fun _ => ?_)
    refine Ex.iload_n (pc := 4) dX6_put_4 rfl rfl ?_
    refine Ex.aload_n (pc := 5) dX6_put_5 rfl rfl ?_
    refine Ex.getR (pc := 6) dX6_put_6 fX6_9 (sh16 _) r16_1 ?_
    refine Ex.alen (pc := 9) (t := 0) dX6_put_9 (sh17 _) (by decide) ?_
    refine Ex.icmp_lt (pc := 10) (tgt := 17) dX6_put_10 (by decide) (fun _ => ?_) (fun c10 => absurd (nI_lt (b := 20) hv (by decide)) c10)
    refine Ex.aload_n (pc := 17) dX6_put_17 rfl rfl ?_
    refine Ex.getR (pc := 18) dX6_put_18 fX6_9 (sh16 _) r16_1 ?_
    refine Ex.iload_n (pc := 21) dX6_put_21 rfl rfl ?_
    refine Ex.iald (pc := 22) (j := v) dX6_put_22 (sh17 _) (vp_in_nI hv (by decide)) (ixN2 (by omega)) ?_
    refine Ex.iret (pc := 23) rfl rfl rfl dX6_put_23 (Nat.le_refl _) (Nat.le_refl _) ?_
    exact ⟨rfl, rfl⟩
theorem mn63 {p q : Nat} (h : p < 2 ^ 20) (hq : q < 2 ^ 20) : (if (63 : Int32) < nI p + nI q then (63 : Int32) else nI p + nI q) = nI (if 63 < p + q then 63 else p + q) := by
  rw [nI_add]
  by_cases e : 63 < p + q
  · rw [if_pos e, if_pos (show (63 : Int32) < nI (p + q) from nI_lt (a := 63) e (by omega))]; rfl
  · rw [if_neg e, if_neg (show ¬ (63 : Int32) < nI (p + q) from nI_nlt (a := 63) (b := p + q) (by omega) (by decide))]
def weighV (k a b c : Int32) : Int32 := if k = 7 then (if b < a then b else a) else if k = 8 then (if a < b then b else a) else if k = 9 then (if b ≤ a then 0 else 1) else if k = 10 then (if a ≤ b then 0 else 1) else if k = 11 then (if a = b then 1 else 0) else if k = 12 then a ||| b else if k = 13 then a &&& b else if k = 14 then 1 - a else if a = 0 then c else b
set_option maxRecDepth 20000 in
theorem t_weigh {N : Nat} {I : aI} {L : aL} {k : Int32} {p : Nat} (hp : p < 64) : Run 1 0 0 mX6_weigh [.ref 16, .int k, .int (nI p)] (St N I L) (RI (weighV k (I 18 p) (I 18 (if 63 < p + 1 then 63 else p + 1)) (I 18 (if 63 < p + 2 then 63 else p + 2))) (St N I L)) := by
  refine Run.of (ls := [some (.ref 16), some (.int _), some (.int _), none, none]) (by decide) (Nat.le_of_ble_eq_true rfl) rfl ?_
  refine Ex.aload_n (pc := 0) dX6_weigh_0 rfl rfl ?_
  refine Ex.getR (pc := 1) dX6_weigh_1 fX6_15 (sh16 _) r16_2 ?_
  refine Ex.iload_n (pc := 4) dX6_weigh_4 rfl rfl ?_
  refine Ex.iald (pc := 5) (j := p) dX6_weigh_5 (sh18 _) (vp_in_nI hp (by decide)) (ixN2 (by omega)) ?_
  refine Ex.istore_n (pc := 6) (ls' := [some (.ref 16), some (.int _), some (.int _), some (.int _), none]) dX6_weigh_6 rfl (by decide) rfl rfl ?_
  refine Ex.aload_n (pc := 7) dX6_weigh_7 rfl rfl ?_
  refine Ex.getR (pc := 8) dX6_weigh_8 fX6_15 (sh16 _) r16_2 ?_
  refine Ex.iload_n (pc := 11) dX6_weigh_11 rfl rfl ?_
  refine Ex.iconst (pc := 12) (v := 1) dX6_weigh_12 rfl ?_
  refine Ex.iadd (pc := 13) dX6_weigh_13 ?_
  refine Ex.bipush (pc := 14) (v := 63) dX6_weigh_14 rfl ?_
  refine Ex.min (pc := 16) dX6_weigh_16 kl_X6_71 (by decide) (Nat.le_of_ble_eq_true rfl) (Nat.le_refl _) (Nat.le_refl _) ?_
  refine Ex.iald (pc := 19) (j := if 63 < p + 1 then 63 else p + 1) dX6_weigh_19 (sh18 _) (by rw [show (if (63 : Int32) < nI p + 1 then (63 : Int32) else nI p + 1) = nI (if 63 < p + 1 then 63 else p + 1) from mn63 (q := 1) (by omega) (by decide)]; exact vp_in_nI (by split <;> omega) (by decide)) (by rw [show (if (63 : Int32) < nI p + 1 then (63 : Int32) else nI p + 1) = nI (if 63 < p + 1 then 63 else p + 1) from mn63 (q := 1) (by omega) (by decide)]; exact nI_clamp (by split <;> omega)) ?_
  refine Ex.istore (pc := 20) (ls' := [some (.ref 16), some (.int _), some (.int _), some (.int _), some (.int _)]) dX6_weigh_20 (by decide) rfl rfl ?_
  refine Ex.iload_n (pc := 22) dX6_weigh_22 rfl rfl ?_
  by_cases c23_7 : k = 7
  · refine Ex.tableIn (pc := 23) (tgt := 68) (off := 45) dX6_weigh_23 (by rw [c23_7]; decide) (by rw [c23_7]; decide) (by rw [c23_7]; decide) (by decide) ?_
    refine Ex.iload_n (pc := 68) dX6_weigh_68 rfl rfl ?_
    refine Ex.iload (pc := 69) dX6_weigh_69 rfl ?_
    refine Ex.min (pc := 71) dX6_weigh_71 kl_X6_71 (by decide) (Nat.le_of_ble_eq_true rfl) (Nat.le_refl _) (Nat.le_refl _) ?_
    refine Ex.iret (pc := 74) rfl rfl rfl dX6_weigh_74 (Nat.le_refl _) (Nat.le_refl _) ?_
    exact ⟨by simp only [weighV]; simp [*], rfl⟩
  by_cases c23_8 : k = 8
  · refine Ex.tableIn (pc := 23) (tgt := 75) (off := 52) dX6_weigh_23 (by rw [c23_8]; decide) (by rw [c23_8]; decide) (by rw [c23_8]; decide) (by decide) ?_
    refine Ex.iload_n (pc := 75) dX6_weigh_75 rfl rfl ?_
    refine Ex.iload (pc := 76) dX6_weigh_76 rfl ?_
    refine Ex.max (pc := 78) dX6_weigh_78 kl_X6_66 (by decide) (Nat.le_of_ble_eq_true rfl) (Nat.le_refl _) (Nat.le_refl _) ?_
    refine Ex.iret (pc := 81) rfl rfl rfl dX6_weigh_81 (Nat.le_refl _) (Nat.le_refl _) ?_
    exact ⟨by simp only [weighV]; simp [*], rfl⟩
  by_cases c23_9 : k = 9
  · refine Ex.tableIn (pc := 23) (tgt := 82) (off := 59) dX6_weigh_23 (by rw [c23_9]; decide) (by rw [c23_9]; decide) (by rw [c23_9]; decide) (by decide) ?_
    refine Ex.iload_n (pc := 82) dX6_weigh_82 rfl rfl ?_
    refine Ex.iload (pc := 83) dX6_weigh_83 rfl ?_
    refine Ex.icmp_ge (pc := 85) (tgt := 92) dX6_weigh_85 (by decide) (fun c85 => ?_) (fun c85 => ?_)
    · skip
      refine Ex.iconst (pc := 92) (v := 0) dX6_weigh_92 rfl ?_
      refine Ex.iret (pc := 93) rfl rfl rfl dX6_weigh_93 (Nat.le_refl _) (Nat.le_refl _) ?_
      exact ⟨by simp only [weighV]; simp [*], rfl⟩
    · skip
      refine Ex.iconst (pc := 88) (v := 1) dX6_weigh_88 rfl ?_
      refine Ex.goto (pc := 89) (tgt := 93) dX6_weigh_89 (by decide) ?_
      refine Ex.iret (pc := 93) rfl rfl rfl dX6_weigh_93 (Nat.le_refl _) (Nat.le_refl _) ?_
      exact ⟨by simp only [weighV]; simp [*], rfl⟩
  by_cases c23_10 : k = 10
  · refine Ex.tableIn (pc := 23) (tgt := 94) (off := 71) dX6_weigh_23 (by rw [c23_10]; decide) (by rw [c23_10]; decide) (by rw [c23_10]; decide) (by decide) ?_
    refine Ex.iload_n (pc := 94) dX6_weigh_94 rfl rfl ?_
    refine Ex.iload (pc := 95) dX6_weigh_95 rfl ?_
    refine Ex.icmp_le (pc := 97) (tgt := 104) dX6_weigh_97 (by decide) (fun c97 => ?_) (fun c97 => ?_)
    · skip
      refine Ex.iconst (pc := 104) (v := 0) dX6_weigh_104 rfl ?_
      refine Ex.iret (pc := 105) rfl rfl rfl dX6_weigh_105 (Nat.le_refl _) (Nat.le_refl _) ?_
      exact ⟨by simp only [weighV]; simp [*], rfl⟩
    · skip
      refine Ex.iconst (pc := 100) (v := 1) dX6_weigh_100 rfl ?_
      refine Ex.goto (pc := 101) (tgt := 105) dX6_weigh_101 (by decide) ?_
      refine Ex.iret (pc := 105) rfl rfl rfl dX6_weigh_105 (Nat.le_refl _) (Nat.le_refl _) ?_
      exact ⟨by simp only [weighV]; simp [*], rfl⟩
  by_cases c23_11 : k = 11
  · refine Ex.tableIn (pc := 23) (tgt := 106) (off := 83) dX6_weigh_23 (by rw [c23_11]; decide) (by rw [c23_11]; decide) (by rw [c23_11]; decide) (by decide) ?_
    refine Ex.iload_n (pc := 106) dX6_weigh_106 rfl rfl ?_
    refine Ex.iload (pc := 107) dX6_weigh_107 rfl ?_
    refine Ex.icmp_ne (pc := 109) (tgt := 116) dX6_weigh_109 (by decide) (fun c109 => ?_) (fun c109 => ?_)
    · skip
      refine Ex.iconst (pc := 116) (v := 0) dX6_weigh_116 rfl ?_
      refine Ex.iret (pc := 117) rfl rfl rfl dX6_weigh_117 (Nat.le_refl _) (Nat.le_refl _) ?_
      exact ⟨by simp only [weighV]; simp [*], rfl⟩
    · skip
      refine Ex.iconst (pc := 112) (v := 1) dX6_weigh_112 rfl ?_
      refine Ex.goto (pc := 113) (tgt := 117) dX6_weigh_113 (by decide) ?_
      refine Ex.iret (pc := 117) rfl rfl rfl dX6_weigh_117 (Nat.le_refl _) (Nat.le_refl _) ?_
      exact ⟨by simp only [weighV]; simp [*], rfl⟩
  by_cases c23_12 : k = 12
  · refine Ex.tableIn (pc := 23) (tgt := 118) (off := 95) dX6_weigh_23 (by rw [c23_12]; decide) (by rw [c23_12]; decide) (by rw [c23_12]; decide) (by decide) ?_
    refine Ex.iload_n (pc := 118) dX6_weigh_118 rfl rfl ?_
    refine Ex.iload (pc := 119) dX6_weigh_119 rfl ?_
    refine Ex.ior (pc := 121) dX6_weigh_121 ?_
    refine Ex.iret (pc := 122) rfl rfl rfl dX6_weigh_122 (Nat.le_refl _) (Nat.le_refl _) ?_
    exact ⟨by simp only [weighV]; simp [*], rfl⟩
  by_cases c23_13 : k = 13
  · refine Ex.tableIn (pc := 23) (tgt := 123) (off := 100) dX6_weigh_23 (by rw [c23_13]; decide) (by rw [c23_13]; decide) (by rw [c23_13]; decide) (by decide) ?_
    refine Ex.iload_n (pc := 123) dX6_weigh_123 rfl rfl ?_
    refine Ex.iload (pc := 124) dX6_weigh_124 rfl ?_
    refine Ex.iand (pc := 126) dX6_weigh_126 ?_
    refine Ex.iret (pc := 127) rfl rfl rfl dX6_weigh_127 (Nat.le_refl _) (Nat.le_refl _) ?_
    exact ⟨by simp only [weighV]; simp [*], rfl⟩
  by_cases c23_14 : k = 14
  · refine Ex.tableIn (pc := 23) (tgt := 128) (off := 105) dX6_weigh_23 (by rw [c23_14]; decide) (by rw [c23_14]; decide) (by rw [c23_14]; decide) (by decide) ?_
    refine Ex.iconst (pc := 128) (v := 1) dX6_weigh_128 rfl ?_
    refine Ex.iload_n (pc := 129) dX6_weigh_129 rfl rfl ?_
    refine Ex.isub (pc := 130) dX6_weigh_130 ?_
    refine Ex.iret (pc := 131) rfl rfl rfl dX6_weigh_131 (Nat.le_refl _) (Nat.le_refl _) ?_
    exact ⟨by simp only [weighV]; simp [*], rfl⟩
  refine Ex.tableOut (pc := 23) (tgt := 132) dX6_weigh_23 (by have h0 := toInt_ne (z := 7) c23_7 (by decide); have h1 := toInt_ne (z := 8) c23_8 (by decide); have h2 := toInt_ne (z := 9) c23_9 (by decide); have h3 := toInt_ne (z := 10) c23_10 (by decide); have h4 := toInt_ne (z := 11) c23_11 (by decide); have h5 := toInt_ne (z := 12) c23_12 (by decide); have h6 := toInt_ne (z := 13) c23_13 (by decide); have h7 := toInt_ne (z := 14) c23_14 (by decide); omega) (by decide) ?_
  refine Ex.iload_n (pc := 132) dX6_weigh_132 rfl rfl ?_
  refine Ex.if_eq (pc := 133) (tgt := 141) dX6_weigh_133 (by decide) (fun c133 => ?_) (fun c133 => ?_)
  · skip
    refine Ex.aload_n (pc := 141) dX6_weigh_141 rfl rfl ?_
    refine Ex.getR (pc := 142) dX6_weigh_142 fX6_15 (sh16 _) r16_2 ?_
    refine Ex.iload_n (pc := 145) dX6_weigh_145 rfl rfl ?_
    refine Ex.iconst (pc := 146) (v := 2) dX6_weigh_146 rfl ?_
    refine Ex.iadd (pc := 147) dX6_weigh_147 ?_
    refine Ex.bipush (pc := 148) (v := 63) dX6_weigh_148 rfl ?_
    refine Ex.min (pc := 150) dX6_weigh_150 kl_X6_71 (by decide) (Nat.le_of_ble_eq_true rfl) (Nat.le_refl _) (Nat.le_refl _) ?_
    refine Ex.iald (pc := 153) (j := if 63 < p + 2 then 63 else p + 2) dX6_weigh_153 (sh18 _) (by rw [show (if (63 : Int32) < nI p + 2 then (63 : Int32) else nI p + 2) = nI (if 63 < p + 2 then 63 else p + 2) from mn63 (q := 2) (by omega) (by decide)]; exact vp_in_nI (by split <;> omega) (by decide)) (by rw [show (if (63 : Int32) < nI p + 2 then (63 : Int32) else nI p + 2) = nI (if 63 < p + 2 then 63 else p + 2) from mn63 (q := 2) (by omega) (by decide)]; exact nI_clamp (by split <;> omega)) ?_
    refine Ex.iret (pc := 154) rfl rfl rfl dX6_weigh_154 (Nat.le_refl _) (Nat.le_refl _) ?_
    exact ⟨by simp only [weighV]; simp [*], rfl⟩
  · skip
    refine Ex.iload (pc := 136) dX6_weigh_136 rfl ?_
    refine Ex.goto (pc := 138) (tgt := 154) dX6_weigh_138 (by decide) ?_
    refine Ex.iret (pc := 154) rfl rfl rfl dX6_weigh_154 (Nat.le_refl _) (Nat.le_refl _) ?_
    exact ⟨by simp only [weighV]; simp [*], rfl⟩
