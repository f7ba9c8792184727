def f_X5_add (o_known : Int32) (o_sets : Nat → Int32) (o_minutes : Nat → Int32) (p1 : Int32) (p2 : Int32) : Option (Int32 × (Nat → Int32) × (Nat → Int32)) :=
  if o_known < 0 then (
    some (o_known, o_sets, o_minutes)
  ) else (
    if (6 : Int32) ≤ o_known then (
      some (o_known, o_sets, o_minutes)
    ) else (
      if (6 : Int32) ≤ o_known then (
        some (o_known, o_sets, o_minutes)
      ) else (
        ing o_known 6 <|
        bnd (upd o_minutes o_known.toNatClampNeg p1) fun w5 =>
        ing o_known 6 <|
        bnd (upd o_sets o_known.toNatClampNeg p2) fun w7 =>
        bnd (o_known + 1) fun y8 =>
        some (y8, w7, w5)
      )
    )
  )
set_option maxHeartbeats 4000000 in
set_option maxRecDepth 100000 in
theorem c_X5_add (l : Launch) (D : va_G) (cB cI cZ cM cN : ClassId) (q_o : Nat) (q_o_minutes : Nat) (q_o_sets : Nat) (o_known : Int32) (o_sets : Nat → Int32) (o_minutes : Nat → Int32) (p1 : Int32) (p2 : Int32) (o_known' : Int32) (o_sets' : Nat → Int32) (o_minutes' : Nat → Int32) (sz : Nat) (hf : f_X5_add o_known o_sets o_minutes p1 p2 = some (o_known', o_sets', o_minutes')) : Met l yX5_add wsX5_add ({ frames := 0, cells := 0, slots := 0, locals := 0 } : Room) (PM D cB cI cZ cM cN [.ref q_o, .int p1, .int p2] [(q_o, .inr (4, [.ref q_o_minutes, .ref q_o_sets, .int o_known])), (q_o_sets, .inl (cI, 6, .inl o_sets)), (q_o_minutes, .inl (cI, 6, .inl o_minutes))] sz) (QV D [(q_o, .inr (4, [.ref q_o_minutes, .ref q_o_sets, .int o_known'])), (q_o_sets, .inl (cI, 6, .inl o_sets')), (q_o_minutes, .inl (cI, 6, .inl o_minutes'))] (va_A [(q_o, .inr (4, [.ref q_o_minutes, .ref q_o_sets, .int o_known])), (q_o_sets, .inl (cI, 6, .inl o_sets)), (q_o_minutes, .inl (cI, 6, .inl o_minutes))] sz)) 0 0 (va_A [(q_o, .inr (4, [.ref q_o_minutes, .ref q_o_sets, .int o_known])), (q_o_sets, .inl (cI, 6, .inl o_sets)), (q_o_minutes, .inl (cI, 6, .inl o_minutes))] sz) := by
  refine entM (l := l) (y := yX5_add) (ws := wsX5_add) (cc := cX5_add) (av := [.ref q_o, .int p1, .int p2]) (wc := [(q_o, .inr (4, [.ref q_o_minutes, .ref q_o_sets, .int o_known])), (q_o_sets, .inl (cI, 6, .inl o_sets)), (q_o_minutes, .inl (cI, 6, .inl o_minutes))]) (sz := sz) (Qc := fun A => QV D [(q_o, .inr (4, [.ref q_o_minutes, .ref q_o_sets, .int o_known'])), (q_o_sets, .inl (cI, 6, .inl o_sets')), (q_o_minutes, .inl (cI, 6, .inl o_minutes'))] A) (by decide +kernel) rfl (Nat.le_of_ble_eq_true rfl) ?_
  intro A p e s m below meth c hx hb hr hml hown hlocks hts hK hA H locs hP hD hS ls hl
  have hown : s.vm.findClass RX5 = some m.cls := hown
  have hl : lv_has ls 3 [(0, .ref q_o), (1, .int p1), (2, .int p2)] := hl
  have hfix : CallFix p m c cX5_add 3 s ([.ref q_o, .int p1, .int p2] : List Value).toArray wsX5_add RX5 := ⟨hx, hb, hml, hown, hts⟩
  have hinX5 : ∀ w ∈ u_ws RX5 TX5 3, w ∈ wsX5_add := by decide +kernel
  have g18 := hts (.fieldLink RX5 18 "LastCoat$Seen" "known" "I") (by decide +kernel)
  have g9 := hts (.fieldLink RX5 9 "LastCoat$Seen" "minutes" "[I") (by decide +kernel)
  have g15 := hts (.fieldLink RX5 15 "LastCoat$Seen" "sets" "[I") (by decide +kernel)
  unfold f_X5_add at hf
  refine lv_aload_n hx hb dX5_add_0 rfl (lv_at hl 0 rfl) ?_
  refine va_get (D := D) (ci := 4) (v := .int o_known) (C := RX5) (T := TX5) (N := 3) hx hb hts hinX5 hown hK.1 hP 0 rfl rfl 2 (by decide) g18 (fun _ h9 => h9) rfl dX5_add_1 ?_
  refine lv_if_lt (tgt := 61) hx hb dX5_add_4 (by decide) (fun c1 => ?_) (fun c1 => ?_)
  · have hf := ite_p hf c1
    obtain ⟨e0_, e1_, e2_⟩ := tup3 hf
    have hP : va_P D vwCl [(q_o, .inr (4, [.ref q_o_minutes, .ref q_o_sets, .int o_known'])), (q_o_sets, .inl (cI, 6, .inl o_sets')), (q_o_minutes, .inl (cI, 6, .inl o_minutes'))] H := by rw [← e0_, ← e1_, ← e2_]; exact hP
    have hD : va_D A [(q_o, .inr (4, [.ref q_o_minutes, .ref q_o_sets, .int o_known'])), (q_o_sets, .inl (cI, 6, .inl o_sets')), (q_o_minutes, .inl (cI, 6, .inl o_minutes'))] := by rw [← e0_, ← e1_, ← e2_]; exact hD
    exact endMV hx hb hr hlocks hP hD hS dX5_add_61
  · have hf := ite_n hf c1
    refine lv_aload_n hx hb dX5_add_7 rfl (lv_at hl 0 rfl) ?_
    refine va_get (D := D) (ci := 4) (v := .int o_known) (C := RX5) (T := TX5) (N := 3) hx hb hts hinX5 hown hK.1 hP 0 rfl rfl 2 (by decide) g18 (fun _ h9 => h9) rfl dX5_add_8 ?_
    refine lv_aload_n hx hb dX5_add_11 rfl (lv_at hl 0 rfl) ?_
    refine va_get (D := D) (ci := 4) (v := .ref q_o_minutes) (C := RX5) (T := TX5) (N := 3) hx hb hts hinX5 hown hK.1 hP 0 rfl rfl 0 (by decide) g9 (fun _ h9 => h9) rfl dX5_add_12 ?_
    refine va_alen (v := 6) hx hb hK.1 hP 2 1 rfl rfl rfl dX5_add_15 ?_
    refine lv_icmp_ge (tgt := 61) hx hb dX5_add_16 (by decide) (fun c2 => ?_) (fun c2 => ?_)
    · have hf := ite_p hf c2
      obtain ⟨e0_, e1_, e2_⟩ := tup3 hf
      have hP : va_P D vwCl [(q_o, .inr (4, [.ref q_o_minutes, .ref q_o_sets, .int o_known'])), (q_o_sets, .inl (cI, 6, .inl o_sets')), (q_o_minutes, .inl (cI, 6, .inl o_minutes'))] H := by rw [← e0_, ← e1_, ← e2_]; exact hP
      have hD : va_D A [(q_o, .inr (4, [.ref q_o_minutes, .ref q_o_sets, .int o_known'])), (q_o_sets, .inl (cI, 6, .inl o_sets')), (q_o_minutes, .inl (cI, 6, .inl o_minutes'))] := by rw [← e0_, ← e1_, ← e2_]; exact hD
      exact endMV hx hb hr hlocks hP hD hS dX5_add_61
    · have hf := ite_n hf c2
      refine lv_aload_n hx hb dX5_add_19 rfl (lv_at hl 0 rfl) ?_
      refine va_get (D := D) (ci := 4) (v := .int o_known) (C := RX5) (T := TX5) (N := 3) hx hb hts hinX5 hown hK.1 hP 0 rfl rfl 2 (by decide) g18 (fun _ h9 => h9) rfl dX5_add_20 ?_
      refine lv_aload_n hx hb dX5_add_23 rfl (lv_at hl 0 rfl) ?_
      refine va_get (D := D) (ci := 4) (v := .ref q_o_sets) (C := RX5) (T := TX5) (N := 3) hx hb hts hinX5 hown hK.1 hP 0 rfl rfl 1 (by decide) g15 (fun _ h9 => h9) rfl dX5_add_24 ?_
      refine va_alen (v := 6) hx hb hK.1 hP 1 1 rfl rfl rfl dX5_add_27 ?_
      refine lv_icmp_ge (tgt := 61) hx hb dX5_add_28 (by decide) (fun c3 => ?_) (fun c3 => ?_)
      · have hf := ite_p hf c3
        obtain ⟨e0_, e1_, e2_⟩ := tup3 hf
        have hP : va_P D vwCl [(q_o, .inr (4, [.ref q_o_minutes, .ref q_o_sets, .int o_known'])), (q_o_sets, .inl (cI, 6, .inl o_sets')), (q_o_minutes, .inl (cI, 6, .inl o_minutes'))] H := by rw [← e0_, ← e1_, ← e2_]; exact hP
        have hD : va_D A [(q_o, .inr (4, [.ref q_o_minutes, .ref q_o_sets, .int o_known'])), (q_o_sets, .inl (cI, 6, .inl o_sets')), (q_o_minutes, .inl (cI, 6, .inl o_minutes'))] := by rw [← e0_, ← e1_, ← e2_]; exact hD
        exact endMV hx hb hr hlocks hP hD hS dX5_add_61
      · have hf := ite_n hf c3
        refine lv_aload_n hx hb dX5_add_31 rfl (lv_at hl 0 rfl) ?_
        refine va_get (D := D) (ci := 4) (v := .ref q_o_minutes) (C := RX5) (T := TX5) (N := 3) hx hb hts hinX5 hown hK.1 hP 0 rfl rfl 0 (by decide) g9 (fun _ h9 => h9) rfl dX5_add_32 ?_
        refine lv_aload_n hx hb dX5_add_35 rfl (lv_at hl 0 rfl) ?_
        refine va_get (D := D) (ci := 4) (v := .int o_known) (C := RX5) (T := TX5) (N := 3) hx hb hts hinX5 hown hK.1 hP 0 rfl rfl 2 (by decide) g18 (fun _ h9 => h9) rfl dX5_add_36 ?_
        refine lv_iload_n hx hb dX5_add_39 rfl (lv_at hl 1 rfl) ?_
        obtain ⟨g4, hf⟩ := ing_some hf
        refine va_iast hx hb hK.1 hP hD hS 2 1 rfl rfl g4 dX5_add_40 (fun H locs hP hD hS => ?_)
        obtain ⟨w5, ew5⟩ : ∃ z : Nat → Int32, z = upd o_minutes o_known.toNatClampNeg p1 := ⟨_, rfl⟩
        have hf := bnd_at hf ew5
        have hP : va_P D vwCl [(q_o, .inr (4, [.ref q_o_minutes, .ref q_o_sets, .int o_known])), (q_o_sets, .inl (cI, 6, .inl o_sets)), (q_o_minutes, .inl (cI, 6, .inl w5))] H := by rw [ew5]; exact hP
        have hD : va_D A [(q_o, .inr (4, [.ref q_o_minutes, .ref q_o_sets, .int o_known])), (q_o_sets, .inl (cI, 6, .inl o_sets)), (q_o_minutes, .inl (cI, 6, .inl w5))] := by rw [ew5]; exact hD
        refine lv_aload_n hx hb dX5_add_41 rfl (lv_at hl 0 rfl) ?_
        refine va_get (D := D) (ci := 4) (v := .ref q_o_sets) (C := RX5) (T := TX5) (N := 3) hx hb hts hinX5 hown hK.1 hP 0 rfl rfl 1 (by decide) g15 (fun _ h9 => h9) rfl dX5_add_42 ?_
        refine lv_aload_n hx hb dX5_add_45 rfl (lv_at hl 0 rfl) ?_
        refine va_get (D := D) (ci := 4) (v := .int o_known) (C := RX5) (T := TX5) (N := 3) hx hb hts hinX5 hown hK.1 hP 0 rfl rfl 2 (by decide) g18 (fun _ h9 => h9) rfl dX5_add_46 ?_
        refine lv_iload_n hx hb dX5_add_49 rfl (lv_at hl 2 rfl) ?_
        obtain ⟨g6, hf⟩ := ing_some hf
        refine va_iast hx hb hK.1 hP hD hS 1 1 rfl rfl g6 dX5_add_50 (fun H locs hP hD hS => ?_)
        obtain ⟨w7, ew7⟩ : ∃ z : Nat → Int32, z = upd o_sets o_known.toNatClampNeg p2 := ⟨_, rfl⟩
        have hf := bnd_at hf ew7
        have hP : va_P D vwCl [(q_o, .inr (4, [.ref q_o_minutes, .ref q_o_sets, .int o_known])), (q_o_sets, .inl (cI, 6, .inl w7)), (q_o_minutes, .inl (cI, 6, .inl w5))] H := by rw [ew7]; exact hP
        have hD : va_D A [(q_o, .inr (4, [.ref q_o_minutes, .ref q_o_sets, .int o_known])), (q_o_sets, .inl (cI, 6, .inl w7)), (q_o_minutes, .inl (cI, 6, .inl w5))] := by rw [ew7]; exact hD
        refine lv_aload_n hx hb dX5_add_51 rfl (lv_at hl 0 rfl) ?_
        refine lv_dup hx hb dX5_add_52 rfl ?_
        refine va_get (D := D) (ci := 4) (v := .int o_known) (C := RX5) (T := TX5) (N := 3) hx hb hts hinX5 hown hK.1 hP 0 rfl rfl 2 (by decide) g18 (fun _ h9 => h9) rfl dX5_add_53 ?_
        refine lv_iconst (v := 1) hx hb dX5_add_56 (by decide) ?_
        refine lv_iadd hx hb dX5_add_57 ?_
        refine lv_topi (fun y8 ey8 => ?_)
        have hf := bnd_at hf ey8
        refine va_put (D := D) (ci := 4) (v := .int y8) (ty := .int) (C := RX5) (T := TX5) (N := 3) hx hb hts hinX5 tyX5 tyX5_ok nmX5 hown hK.1 hP hD hS 0 rfl rfl 2 (by decide) g18 (fun _ h9 => h9) rfl (by decide +kernel) rfl rfl (Nat.le_of_ble_eq_true rfl) dX5_add_58 (fun H locs hP hD hS => ?_)
        have hP : va_P D vwCl [(q_o, .inr (4, [.ref q_o_minutes, .ref q_o_sets, .int y8])), (q_o_sets, .inl (cI, 6, .inl w7)), (q_o_minutes, .inl (cI, 6, .inl w5))] H := hP
        have hD : va_D A [(q_o, .inr (4, [.ref q_o_minutes, .ref q_o_sets, .int y8])), (q_o_sets, .inl (cI, 6, .inl w7)), (q_o_minutes, .inl (cI, 6, .inl w5))] := hD
        obtain ⟨e0_, e1_, e2_⟩ := tup3 hf
        have hP : va_P D vwCl [(q_o, .inr (4, [.ref q_o_minutes, .ref q_o_sets, .int o_known'])), (q_o_sets, .inl (cI, 6, .inl o_sets')), (q_o_minutes, .inl (cI, 6, .inl o_minutes'))] H := by rw [← e0_, ← e1_, ← e2_]; exact hP
        have hD : va_D A [(q_o, .inr (4, [.ref q_o_minutes, .ref q_o_sets, .int o_known'])), (q_o_sets, .inl (cI, 6, .inl o_sets')), (q_o_minutes, .inl (cI, 6, .inl o_minutes'))] := by rw [← e0_, ← e1_, ← e2_]; exact hD
        exact endMV hx hb hr hlocks hP hD hS dX5_add_61
def f_X5_allowsBehind_50 (o_known : Int32) (o_sets : Nat → Int32) (o_minutes : Nat → Int32) (K2 : Int32 → Int32 → Int32 → Option (Int32)) (x1 : Int32) (x2 : Int32) (x3 : Int32) : Option (Int32) :=
  bnd (x3 + 1) fun y1 =>
  K2 x1 x2 y1
def f_X5_allowsBehind_2_b (o_known : Int32) (o_sets : Nat → Int32) (o_minutes : Nat → Int32) (K2 : Int32 → Int32 → Int32 → Option (Int32)) (x1 : Int32) (x2 : Int32) (x3 : Int32) : Option (Int32) :=
  if o_known ≤ x3 then (
    some (1)
  ) else (
    if (6 : Int32) ≤ x3 then (
      some (1)
    ) else (
      if (6 : Int32) ≤ x3 then (
        some (1)
      ) else (
        ing x3 6 <|
        if (o_minutes x3.toNatClampNeg) = x1 then (
          ing x3 6 <|
          if (o_sets x3.toNatClampNeg) = x2 then (
            f_X5_allowsBehind_50 o_known o_sets o_minutes K2 x1 x2 x3
          ) else (
            some (0)
          )
        ) else (
          f_X5_allowsBehind_50 o_known o_sets o_minutes K2 x1 x2 x3
        )
      )
    )
  )
def f_X5_allowsBehind_2 (o_known : Int32) (o_sets : Nat → Int32) (o_minutes : Nat → Int32) : Nat → Int32 → Int32 → Int32 → Option (Int32)
  | 0 => fun _ _ _ => none
  | n + 1 => f_X5_allowsBehind_2_b o_known o_sets o_minutes (f_X5_allowsBehind_2 o_known o_sets o_minutes n)
def f_X5_allowsBehind (o_known : Int32) (o_sets : Nat → Int32) (o_minutes : Nat → Int32) (p1 : Int32) (p2 : Int32) : Option (Int32) :=
  f_X5_allowsBehind_2 o_known o_sets o_minutes FU p1 p2 0
set_option maxHeartbeats 4000000 in
set_option maxRecDepth 100000 in
theorem c_X5_allowsBehind (l : Launch) (D : va_G) (cB cI cZ cM cN : ClassId) (q_o : Nat) (q_o_minutes : Nat) (q_o_sets : Nat) (o_known : Int32) (o_sets : Nat → Int32) (o_minutes : Nat → Int32) (p1 : Int32) (p2 : Int32) (r : Int32) (hf : f_X5_allowsBehind o_known o_sets o_minutes p1 p2 = some r) : Met l yX5_allowsBehind wsX5_allowsBehind ({ frames := 0, cells := 0, slots := 0, locals := 0 } : Room) (PR D cB cI cZ cM cN [.ref q_o, .int p1, .int p2] [(q_o, .inr (4, [.ref q_o_minutes, .ref q_o_sets, .int o_known])), (q_o_sets, .inl (cI, 6, .inl o_sets)), (q_o_minutes, .inl (cI, 6, .inl o_minutes))]) (RI r) 0 0 (fun _ => False) := by
  refine entR (by decide +kernel) rfl (Nat.le_of_ble_eq_true rfl) ?_
  intro p e s m below meth c hx hb hr hml hown hlocks hts hP hK ls hl
  have hown : s.vm.findClass RX5 = some m.cls := hown
  have hl : lv_has ls 4 [(0, .ref q_o), (1, .int p1), (2, .int p2)] := hl
  have hfix : CallFix p m c cX5_allowsBehind 4 s ([.ref q_o, .int p1, .int p2] : List Value).toArray wsX5_allowsBehind RX5 := ⟨hx, hb, hml, hown, hts⟩
  have hinX5 : ∀ w ∈ u_ws RX5 TX5 3, w ∈ wsX5_allowsBehind := by decide +kernel
  have g18 := hts (.fieldLink RX5 18 "LastCoat$Seen" "known" "I") (by decide +kernel)
  have g9 := hts (.fieldLink RX5 9 "LastCoat$Seen" "minutes" "[I") (by decide +kernel)
  have g15 := hts (.fieldLink RX5 15 "LastCoat$Seen" "sets" "[I") (by decide +kernel)
  have L2 : ∀ (n2 : Nat) (x1 : Int32) (x2 : Int32) (x3 : Int32) (ls : Array Slot), f_X5_allowsBehind_2 o_known o_sets o_minutes n2 x1 x2 x3 = some r → lv_has ls 4 [(0, .ref q_o), (1, .int x1), (2, .int x2), (3, .int x3)] → W p l e ({ frames := 0, cells := 0, slots := 0, locals := 0 } : Room) s m ([.ref q_o, .int p1, .int p2] : List Value).toArray below meth c s.heap [] 0 0 (MQ below (RI r) ([.ref q_o, .int p1, .int p2] : List Value).toArray s 0 0 (fun _ => False)) (F0 m 2 ls []) := by
    intro n2
    induction n2 with
    | zero =>
      intro x1 x2 x3 ls hf hl
      exact noneNe hf
    | succ n2 ih2 =>
      have L50 : ∀ (x1 : Int32) (x2 : Int32) (x3 : Int32) (ls : Array Slot), f_X5_allowsBehind_50 o_known o_sets o_minutes (f_X5_allowsBehind_2 o_known o_sets o_minutes n2) x1 x2 x3 = some r → lv_has ls 4 [(0, .ref q_o), (1, .int x1), (2, .int x2), (3, .int x3)] → W p l e ({ frames := 0, cells := 0, slots := 0, locals := 0 } : Room) s m ([.ref q_o, .int p1, .int p2] : List Value).toArray below meth c s.heap [] 0 0 (MQ below (RI r) ([.ref q_o, .int p1, .int p2] : List Value).toArray s 0 0 (fun _ => False)) (F0 m 50 ls []) := by
        intro x1 x2 x3 ls hf hl
        unfold f_X5_allowsBehind_50 at hf
        obtain ⟨y1, ey1⟩ : ∃ z : Int32, z = x3 + 1 := ⟨_, rfl⟩
        have hf := bnd_at hf ey1
        refine lv_iinc (v := y1) (lv' := [(3, .int y1), (0, .ref q_o), (1, .int x1), (2, .int x2)]) hx hb dX5_allowsBehind_50 hl (k := 3) rfl (by rw [ey1]; rfl) (by decide) rfl (fun ls hl => ?_)
        refine lv_goto (tgt := 2) hx hb dX5_allowsBehind_53 (by decide) ?_
        exact ih2 x1 x2 y1 ls hf (lv_sub hl [1, 2, 3, 0] rfl)
      intro x1 x2 x3 ls hf hl
      have hf : f_X5_allowsBehind_2_b o_known o_sets o_minutes (f_X5_allowsBehind_2 o_known o_sets o_minutes n2) x1 x2 x3 = some r := hf
      unfold f_X5_allowsBehind_2_b at hf
      refine lv_iload_n hx hb dX5_allowsBehind_2 rfl (lv_at hl 3 rfl) ?_
      refine lv_aload_n hx hb dX5_allowsBehind_3 rfl (lv_at hl 0 rfl) ?_
      refine va_get (D := D) (ci := 4) (v := .int o_known) (C := RX5) (T := TX5) (N := 3) hx hb hts hinX5 hown hK.1 hP 0 rfl rfl 2 (by decide) g18 (fun _ h9 => h9) rfl dX5_allowsBehind_4 ?_
      refine lv_icmp_ge (tgt := 56) hx hb dX5_allowsBehind_7 (by decide) (fun c2 => ?_) (fun c2 => ?_)
      · have hf := ite_p hf c2
        refine lv_iconst (v := 1) hx hb dX5_allowsBehind_56 (by decide) ?_
        have e0_ := Option.some.inj hf
        exact endRI hx hb hr hlocks rfl e0_ dX5_allowsBehind_57
      · have hf := ite_n hf c2
        refine lv_iload_n hx hb dX5_allowsBehind_10 rfl (lv_at hl 3 rfl) ?_
        refine lv_aload_n hx hb dX5_allowsBehind_11 rfl (lv_at hl 0 rfl) ?_
        refine va_get (D := D) (ci := 4) (v := .ref q_o_minutes) (C := RX5) (T := TX5) (N := 3) hx hb hts hinX5 hown hK.1 hP 0 rfl rfl 0 (by decide) g9 (fun _ h9 => h9) rfl dX5_allowsBehind_12 ?_
        refine va_alen (v := 6) hx hb hK.1 hP 2 1 rfl rfl rfl dX5_allowsBehind_15 ?_
        refine lv_icmp_ge (tgt := 56) hx hb dX5_allowsBehind_16 (by decide) (fun c3 => ?_) (fun c3 => ?_)
        · have hf := ite_p hf c3
          refine lv_iconst (v := 1) hx hb dX5_allowsBehind_56 (by decide) ?_
          have e0_ := Option.some.inj hf
          exact endRI hx hb hr hlocks rfl e0_ dX5_allowsBehind_57
        · have hf := ite_n hf c3
          refine lv_iload_n hx hb dX5_allowsBehind_19 rfl (lv_at hl 3 rfl) ?_
          refine lv_aload_n hx hb dX5_allowsBehind_20 rfl (lv_at hl 0 rfl) ?_
          refine va_get (D := D) (ci := 4) (v := .ref q_o_sets) (C := RX5) (T := TX5) (N := 3) hx hb hts hinX5 hown hK.1 hP 0 rfl rfl 1 (by decide) g15 (fun _ h9 => h9) rfl dX5_allowsBehind_21 ?_
          refine va_alen (v := 6) hx hb hK.1 hP 1 1 rfl rfl rfl dX5_allowsBehind_24 ?_
          refine lv_icmp_ge (tgt := 56) hx hb dX5_allowsBehind_25 (by decide) (fun c4 => ?_) (fun c4 => ?_)
          · have hf := ite_p hf c4
            refine lv_iconst (v := 1) hx hb dX5_allowsBehind_56 (by decide) ?_
            have e0_ := Option.some.inj hf
            exact endRI hx hb hr hlocks rfl e0_ dX5_allowsBehind_57
          · have hf := ite_n hf c4
            refine lv_aload_n hx hb dX5_allowsBehind_28 rfl (lv_at hl 0 rfl) ?_
            refine va_get (D := D) (ci := 4) (v := .ref q_o_minutes) (C := RX5) (T := TX5) (N := 3) hx hb hts hinX5 hown hK.1 hP 0 rfl rfl 0 (by decide) g9 (fun _ h9 => h9) rfl dX5_allowsBehind_29 ?_
            refine lv_iload_n hx hb dX5_allowsBehind_32 rfl (lv_at hl 3 rfl) ?_
            obtain ⟨g5, hf⟩ := ing_some hf
            refine va_iald hx hb hK.1 hP 2 1 rfl rfl g5 dX5_allowsBehind_33 ?_
            refine lv_iload_n hx hb dX5_allowsBehind_34 rfl (lv_at hl 1 rfl) ?_
            refine lv_icmp_ne (tgt := 50) hx hb dX5_allowsBehind_35 (by decide) (fun c6 => ?_) (fun c6 => ?_)
            · have hf := ite_n hf c6
              exact L50 x1 x2 x3 ls hf (lv_sub hl [0, 1, 2, 3] rfl)
            · have hf := ite_p hf c6
              refine lv_aload_n hx hb dX5_allowsBehind_38 rfl (lv_at hl 0 rfl) ?_
              refine va_get (D := D) (ci := 4) (v := .ref q_o_sets) (C := RX5) (T := TX5) (N := 3) hx hb hts hinX5 hown hK.1 hP 0 rfl rfl 1 (by decide) g15 (fun _ h9 => h9) rfl dX5_allowsBehind_39 ?_
              refine lv_iload_n hx hb dX5_allowsBehind_42 rfl (lv_at hl 3 rfl) ?_
              obtain ⟨g7, hf⟩ := ing_some hf
              refine va_iald hx hb hK.1 hP 1 1 rfl rfl g7 dX5_allowsBehind_43 ?_
              refine lv_iload_n hx hb dX5_allowsBehind_44 rfl (lv_at hl 2 rfl) ?_
              refine lv_icmp_eq (tgt := 50) hx hb dX5_allowsBehind_45 (by decide) (fun c8 => ?_) (fun c8 => ?_)
              · have hf := ite_p hf c8
                exact L50 x1 x2 x3 ls hf (lv_sub hl [0, 1, 2, 3] rfl)
              · have hf := ite_n hf c8
                refine lv_iconst (v := 0) hx hb dX5_allowsBehind_48 (by decide) ?_
                have e0_ := Option.some.inj hf
                exact endRI hx hb hr hlocks rfl e0_ dX5_allowsBehind_49
  unfold f_X5_allowsBehind at hf
  refine lv_iconst (v := 0) hx hb dX5_allowsBehind_0 (by decide) ?_
  refine lv_istore_n (lv' := [(3, .int 0), (0, .ref q_o), (1, .int p1), (2, .int p2)]) hx hb dX5_allowsBehind_1 rfl hl (by decide) rfl (fun ls hl => ?_)
  exact L2 FU p1 p2 0 ls hf (lv_sub hl [1, 2, 3, 0] rfl)
