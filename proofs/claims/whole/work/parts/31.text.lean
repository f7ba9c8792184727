def f_X6_hasRoomFor (o_length : Int32) (p1 : Int32) : Option (Int32) :=
  if (200 - p1) < o_length then (
    some (0)
  ) else (
    some (1)
  )
set_option maxHeartbeats 4000000 in
set_option maxRecDepth 100000 in
theorem c_X6_hasRoomFor (l : Launch) (D : va_G) (cB cI cZ cM cN : ClassId) (q_o : Nat) (q_o_bytes : Nat) (o_length : Int32) (o_token : Int32) (o_number : Int32) (o_place : Int32) (o_next : Int32) (o_toldOnce : Int32) (o_bytes : Nat → Int32) (p1 : Int32) (r : Int32) (hf : f_X6_hasRoomFor o_length p1 = some r) : Met l yX6_hasRoomFor wsX6_hasRoomFor ({ frames := 0, cells := 0, slots := 0, locals := 0 } : Room) (PR D cB cI cZ cM cN [.ref q_o, .int p1] [(q_o, .inr (5, [.ref q_o_bytes, .int o_length, .int o_token, .int o_number, .int o_place, .int o_next, .int o_toldOnce])), (q_o_bytes, .inl (cB, 200, .inl o_bytes))]) (RI r) 0 0 (fun _ => False) := by
  refine entR (by decide +kernel) rfl (Nat.le_of_ble_eq_true rfl) ?_
  intro p e s m below meth c hx hb hr hml hown hlocks hts hP hK ls hl
  have hown : s.vm.findClass RX6 = some m.cls := hown
  have hl : lv_has ls 2 [(0, .ref q_o), (1, .int p1)] := hl
  have hfix : CallFix p m c cX6_hasRoomFor 2 s ([.ref q_o, .int p1] : List Value).toArray wsX6_hasRoomFor RX6 := ⟨hx, hb, hml, hown, hts⟩
  have hinX6 : ∀ w ∈ u_ws RX6 TX6 7, w ∈ wsX6_hasRoomFor := by decide +kernel
  have g15 := hts (.fieldLink RX6 15 "LastCoat$Text" "length" "I") (by decide +kernel)
  have g9 := hts (.fieldLink RX6 9 "LastCoat$Text" "bytes" "[B") (by decide +kernel)
  unfold f_X6_hasRoomFor at hf
  refine lv_aload_n hx hb dX6_hasRoomFor_0 rfl (lv_at hl 0 rfl) ?_
  refine va_get (D := D) (ci := 5) (v := .int o_length) (C := RX6) (T := TX6) (N := 7) hx hb hts hinX6 hown hK.1 hP 0 rfl rfl 1 (by decide) g15 (fun _ h9 => h9) rfl dX6_hasRoomFor_1 ?_
  refine lv_aload_n hx hb dX6_hasRoomFor_4 rfl (lv_at hl 0 rfl) ?_
  refine va_get (D := D) (ci := 5) (v := .ref q_o_bytes) (C := RX6) (T := TX6) (N := 7) hx hb hts hinX6 hown hK.1 hP 0 rfl rfl 0 (by decide) g9 (fun _ h9 => h9) rfl dX6_hasRoomFor_5 ?_
  refine va_alen (v := 200) hx hb hK.1 hP 1 0 rfl rfl rfl dX6_hasRoomFor_8 ?_
  refine lv_iload_n hx hb dX6_hasRoomFor_9 rfl (lv_at hl 1 rfl) ?_
  refine lv_isub hx hb dX6_hasRoomFor_10 ?_
  refine lv_icmp_gt (tgt := 18) hx hb dX6_hasRoomFor_11 (by decide) (fun c1 => ?_) (fun c1 => ?_)
  · have hf := ite_p hf c1
    refine lv_iconst (v := 0) hx hb dX6_hasRoomFor_18 (by decide) ?_
    have e0_ := Option.some.inj hf
    exact endRI hx hb hr hlocks rfl e0_ dX6_hasRoomFor_19
  · have hf := ite_n hf c1
    refine lv_iconst (v := 1) hx hb dX6_hasRoomFor_14 (by decide) ?_
    refine lv_goto (tgt := 19) hx hb dX6_hasRoomFor_15 (by decide) ?_
    have e0_ := Option.some.inj hf
    exact endRI hx hb hr hlocks rfl e0_ dX6_hasRoomFor_19
def f_X6_add (o_length : Int32) (o_bytes : Nat → Int32) (p1 : Int32) : Option (Int32 × (Nat → Int32)) :=
  if o_length < 0 then (
    some (o_length, o_bytes)
  ) else (
    if (200 : Int32) ≤ o_length then (
      some (o_length, o_bytes)
    ) else (
      ing o_length 200 <|
      bnd (upd o_bytes o_length.toNatClampNeg (vp_nar .byte p1)) fun w4 =>
      bnd (o_length + 1) fun y5 =>
      some (y5, w4)
    )
  )
set_option maxHeartbeats 4000000 in
set_option maxRecDepth 100000 in
theorem c_X6_add (l : Launch) (D : va_G) (cB cI cZ cM cN : ClassId) (q_o : Nat) (q_o_bytes : Nat) (o_length : Int32) (o_token : Int32) (o_number : Int32) (o_place : Int32) (o_next : Int32) (o_toldOnce : Int32) (o_bytes : Nat → Int32) (p1 : Int32) (o_length' : Int32) (o_bytes' : Nat → Int32) (sz : Nat) (hf : f_X6_add o_length o_bytes p1 = some (o_length', o_bytes')) : Met l yX6_add wsX6_add ({ frames := 0, cells := 0, slots := 0, locals := 0 } : Room) (PM D cB cI cZ cM cN [.ref q_o, .int p1] [(q_o, .inr (5, [.ref q_o_bytes, .int o_length, .int o_token, .int o_number, .int o_place, .int o_next, .int o_toldOnce])), (q_o_bytes, .inl (cB, 200, .inl o_bytes))] sz) (QV D [(q_o, .inr (5, [.ref q_o_bytes, .int o_length', .int o_token, .int o_number, .int o_place, .int o_next, .int o_toldOnce])), (q_o_bytes, .inl (cB, 200, .inl o_bytes'))] (va_A [(q_o, .inr (5, [.ref q_o_bytes, .int o_length, .int o_token, .int o_number, .int o_place, .int o_next, .int o_toldOnce])), (q_o_bytes, .inl (cB, 200, .inl o_bytes))] sz)) 0 0 (va_A [(q_o, .inr (5, [.ref q_o_bytes, .int o_length, .int o_token, .int o_number, .int o_place, .int o_next, .int o_toldOnce])), (q_o_bytes, .inl (cB, 200, .inl o_bytes))] sz) := by
  refine entM (l := l) (y := yX6_add) (ws := wsX6_add) (cc := cX6_add) (av := [.ref q_o, .int p1]) (wc := [(q_o, .inr (5, [.ref q_o_bytes, .int o_length, .int o_token, .int o_number, .int o_place, .int o_next, .int o_toldOnce])), (q_o_bytes, .inl (cB, 200, .inl o_bytes))]) (sz := sz) (Qc := fun A => QV D [(q_o, .inr (5, [.ref q_o_bytes, .int o_length', .int o_token, .int o_number, .int o_place, .int o_next, .int o_toldOnce])), (q_o_bytes, .inl (cB, 200, .inl o_bytes'))] A) (by decide +kernel) rfl (Nat.le_of_ble_eq_true rfl) ?_
  intro A p e s m below meth c hx hb hr hml hown hlocks hts hK hA H locs hP hD hS ls hl
  have hown : s.vm.findClass RX6 = some m.cls := hown
  have hl : lv_has ls 2 [(0, .ref q_o), (1, .int p1)] := hl
  have hfix : CallFix p m c cX6_add 2 s ([.ref q_o, .int p1] : List Value).toArray wsX6_add RX6 := ⟨hx, hb, hml, hown, hts⟩
  have hinX6 : ∀ w ∈ u_ws RX6 TX6 7, w ∈ wsX6_add := by decide +kernel
  have g15 := hts (.fieldLink RX6 15 "LastCoat$Text" "length" "I") (by decide +kernel)
  have g9 := hts (.fieldLink RX6 9 "LastCoat$Text" "bytes" "[B") (by decide +kernel)
  unfold f_X6_add at hf
  refine lv_aload_n hx hb dX6_add_0 rfl (lv_at hl 0 rfl) ?_
  refine va_get (D := D) (ci := 5) (v := .int o_length) (C := RX6) (T := TX6) (N := 7) hx hb hts hinX6 hown hK.1 hP 0 rfl rfl 1 (by decide) g15 (fun _ h9 => h9) rfl dX6_add_1 ?_
  refine lv_if_lt (tgt := 39) hx hb dX6_add_4 (by decide) (fun c1 => ?_) (fun c1 => ?_)
  · have hf := ite_p hf c1
    obtain ⟨e0_, e1_⟩ := tup2 hf
    have hP : va_P D vwCl [(q_o, .inr (5, [.ref q_o_bytes, .int o_length', .int o_token, .int o_number, .int o_place, .int o_next, .int o_toldOnce])), (q_o_bytes, .inl (cB, 200, .inl o_bytes'))] H := by rw [← e0_, ← e1_]; exact hP
    have hD : va_D A [(q_o, .inr (5, [.ref q_o_bytes, .int o_length', .int o_token, .int o_number, .int o_place, .int o_next, .int o_toldOnce])), (q_o_bytes, .inl (cB, 200, .inl o_bytes'))] := by rw [← e0_, ← e1_]; exact hD
    exact endMV hx hb hr hlocks hP hD hS dX6_add_39
  · have hf := ite_n hf c1
    refine lv_aload_n hx hb dX6_add_7 rfl (lv_at hl 0 rfl) ?_
    refine va_get (D := D) (ci := 5) (v := .int o_length) (C := RX6) (T := TX6) (N := 7) hx hb hts hinX6 hown hK.1 hP 0 rfl rfl 1 (by decide) g15 (fun _ h9 => h9) rfl dX6_add_8 ?_
    refine lv_aload_n hx hb dX6_add_11 rfl (lv_at hl 0 rfl) ?_
    refine va_get (D := D) (ci := 5) (v := .ref q_o_bytes) (C := RX6) (T := TX6) (N := 7) hx hb hts hinX6 hown hK.1 hP 0 rfl rfl 0 (by decide) g9 (fun _ h9 => h9) rfl dX6_add_12 ?_
    refine va_alen (v := 200) hx hb hK.1 hP 1 0 rfl rfl rfl dX6_add_15 ?_
    refine lv_icmp_ge (tgt := 39) hx hb dX6_add_16 (by decide) (fun c2 => ?_) (fun c2 => ?_)
    · have hf := ite_p hf c2
      obtain ⟨e0_, e1_⟩ := tup2 hf
      have hP : va_P D vwCl [(q_o, .inr (5, [.ref q_o_bytes, .int o_length', .int o_token, .int o_number, .int o_place, .int o_next, .int o_toldOnce])), (q_o_bytes, .inl (cB, 200, .inl o_bytes'))] H := by rw [← e0_, ← e1_]; exact hP
      have hD : va_D A [(q_o, .inr (5, [.ref q_o_bytes, .int o_length', .int o_token, .int o_number, .int o_place, .int o_next, .int o_toldOnce])), (q_o_bytes, .inl (cB, 200, .inl o_bytes'))] := by rw [← e0_, ← e1_]; exact hD
      exact endMV hx hb hr hlocks hP hD hS dX6_add_39
    · have hf := ite_n hf c2
      refine lv_aload_n hx hb dX6_add_19 rfl (lv_at hl 0 rfl) ?_
      refine va_get (D := D) (ci := 5) (v := .ref q_o_bytes) (C := RX6) (T := TX6) (N := 7) hx hb hts hinX6 hown hK.1 hP 0 rfl rfl 0 (by decide) g9 (fun _ h9 => h9) rfl dX6_add_20 ?_
      refine lv_aload_n hx hb dX6_add_23 rfl (lv_at hl 0 rfl) ?_
      refine va_get (D := D) (ci := 5) (v := .int o_length) (C := RX6) (T := TX6) (N := 7) hx hb hts hinX6 hown hK.1 hP 0 rfl rfl 1 (by decide) g15 (fun _ h9 => h9) rfl dX6_add_24 ?_
      refine lv_iload_n hx hb dX6_add_27 rfl (lv_at hl 1 rfl) ?_
      obtain ⟨g3, hf⟩ := ing_some hf
      refine va_bast hx hb hK.1 hP hD hS 1 0 rfl rfl g3 dX6_add_28 (fun H locs hP hD hS => ?_)
      obtain ⟨w4, ew4⟩ : ∃ z : Nat → Int32, z = upd o_bytes o_length.toNatClampNeg (vp_nar .byte p1) := ⟨_, rfl⟩
      have hf := bnd_at hf ew4
      have hP : va_P D vwCl [(q_o, .inr (5, [.ref q_o_bytes, .int o_length, .int o_token, .int o_number, .int o_place, .int o_next, .int o_toldOnce])), (q_o_bytes, .inl (cB, 200, .inl w4))] H := by rw [ew4]; exact hP
      have hD : va_D A [(q_o, .inr (5, [.ref q_o_bytes, .int o_length, .int o_token, .int o_number, .int o_place, .int o_next, .int o_toldOnce])), (q_o_bytes, .inl (cB, 200, .inl w4))] := by rw [ew4]; exact hD
      refine lv_aload_n hx hb dX6_add_29 rfl (lv_at hl 0 rfl) ?_
      refine lv_dup hx hb dX6_add_30 rfl ?_
      refine va_get (D := D) (ci := 5) (v := .int o_length) (C := RX6) (T := TX6) (N := 7) hx hb hts hinX6 hown hK.1 hP 0 rfl rfl 1 (by decide) g15 (fun _ h9 => h9) rfl dX6_add_31 ?_
      refine lv_iconst (v := 1) hx hb dX6_add_34 (by decide) ?_
      refine lv_iadd hx hb dX6_add_35 ?_
      refine lv_topi (fun y5 ey5 => ?_)
      have hf := bnd_at hf ey5
      refine va_put (D := D) (ci := 5) (v := .int y5) (ty := .int) (C := RX6) (T := TX6) (N := 7) hx hb hts hinX6 tyX6 tyX6_ok nmX6 hown hK.1 hP hD hS 0 rfl rfl 1 (by decide) g15 (fun _ h9 => h9) rfl (by decide +kernel) rfl rfl (Nat.le_of_ble_eq_true rfl) dX6_add_36 (fun H locs hP hD hS => ?_)
      have hP : va_P D vwCl [(q_o, .inr (5, [.ref q_o_bytes, .int y5, .int o_token, .int o_number, .int o_place, .int o_next, .int o_toldOnce])), (q_o_bytes, .inl (cB, 200, .inl w4))] H := hP
      have hD : va_D A [(q_o, .inr (5, [.ref q_o_bytes, .int y5, .int o_token, .int o_number, .int o_place, .int o_next, .int o_toldOnce])), (q_o_bytes, .inl (cB, 200, .inl w4))] := hD
      obtain ⟨e0_, e1_⟩ := tup2 hf
      have hP : va_P D vwCl [(q_o, .inr (5, [.ref q_o_bytes, .int o_length', .int o_token, .int o_number, .int o_place, .int o_next, .int o_toldOnce])), (q_o_bytes, .inl (cB, 200, .inl o_bytes'))] H := by rw [← e0_, ← e1_]; exact hP
      have hD : va_D A [(q_o, .inr (5, [.ref q_o_bytes, .int o_length', .int o_token, .int o_number, .int o_place, .int o_next, .int o_toldOnce])), (q_o_bytes, .inl (cB, 200, .inl o_bytes'))] := by rw [← e0_, ← e1_]; exact hD
      exact endMV hx hb hr hlocks hP hD hS dX6_add_39
def f_X6_drop (o_length : Int32) : Option (Int32 × Int32) :=
  some (o_length, 0)
set_option maxHeartbeats 4000000 in
set_option maxRecDepth 100000 in
theorem c_X6_drop (l : Launch) (D : va_G) (cB cI cZ cM cN : ClassId) (q_o : Nat) (q_o_bytes : Nat) (o_length : Int32) (o_token : Int32) (o_number : Int32) (o_place : Int32) (o_next : Int32) (o_toldOnce : Int32) (r : Int32) (o_length' : Int32) (sz : Nat) (hf : f_X6_drop o_length = some (r, o_length')) : Met l yX6_drop wsX6_drop ({ frames := 0, cells := 0, slots := 0, locals := 0 } : Room) (PM D cB cI cZ cM cN [.ref q_o] [(q_o, .inr (5, [.ref q_o_bytes, .int o_length, .int o_token, .int o_number, .int o_place, .int o_next, .int o_toldOnce]))] sz) (QI D [(q_o, .inr (5, [.ref q_o_bytes, .int o_length', .int o_token, .int o_number, .int o_place, .int o_next, .int o_toldOnce]))] r (va_A [(q_o, .inr (5, [.ref q_o_bytes, .int o_length, .int o_token, .int o_number, .int o_place, .int o_next, .int o_toldOnce]))] sz)) 0 0 (va_A [(q_o, .inr (5, [.ref q_o_bytes, .int o_length, .int o_token, .int o_number, .int o_place, .int o_next, .int o_toldOnce]))] sz) := by
  refine entM (l := l) (y := yX6_drop) (ws := wsX6_drop) (cc := cX6_drop) (av := [.ref q_o]) (wc := [(q_o, .inr (5, [.ref q_o_bytes, .int o_length, .int o_token, .int o_number, .int o_place, .int o_next, .int o_toldOnce]))]) (sz := sz) (Qc := fun A => QI D [(q_o, .inr (5, [.ref q_o_bytes, .int o_length', .int o_token, .int o_number, .int o_place, .int o_next, .int o_toldOnce]))] r A) (by decide +kernel) rfl (Nat.le_of_ble_eq_true rfl) ?_
  intro A p e s m below meth c hx hb hr hml hown hlocks hts hK hA H locs hP hD hS ls hl
  have hown : s.vm.findClass RX6 = some m.cls := hown
  have hl : lv_has ls 2 [(0, .ref q_o)] := hl
  have hfix : CallFix p m c cX6_drop 2 s ([.ref q_o] : List Value).toArray wsX6_drop RX6 := ⟨hx, hb, hml, hown, hts⟩
  have hinX6 : ∀ w ∈ u_ws RX6 TX6 7, w ∈ wsX6_drop := by decide +kernel
  have g15 := hts (.fieldLink RX6 15 "LastCoat$Text" "length" "I") (by decide +kernel)
  unfold f_X6_drop at hf
  refine lv_aload_n hx hb dX6_drop_0 rfl (lv_at hl 0 rfl) ?_
  refine va_get (D := D) (ci := 5) (v := .int o_length) (C := RX6) (T := TX6) (N := 7) hx hb hts hinX6 hown hK.1 hP 0 rfl rfl 1 (by decide) g15 (fun _ h9 => h9) rfl dX6_drop_1 ?_
  refine lv_istore_n (lv' := [(1, .int o_length), (0, .ref q_o)]) hx hb dX6_drop_4 rfl hl (by decide) rfl (fun ls hl => ?_)
  refine lv_aload_n hx hb dX6_drop_5 rfl (lv_at hl 1 rfl) ?_
  refine lv_iconst (v := 0) hx hb dX6_drop_6 (by decide) ?_
  refine va_put (D := D) (ci := 5) (v := .int 0) (ty := .int) (C := RX6) (T := TX6) (N := 7) hx hb hts hinX6 tyX6 tyX6_ok nmX6 hown hK.1 hP hD hS 0 rfl rfl 1 (by decide) g15 (fun _ h9 => h9) rfl (by decide +kernel) rfl rfl (Nat.le_of_ble_eq_true rfl) dX6_drop_7 (fun H locs hP hD hS => ?_)
  have hP : va_P D vwCl [(q_o, .inr (5, [.ref q_o_bytes, .int 0, .int o_token, .int o_number, .int o_place, .int o_next, .int o_toldOnce]))] H := hP
  have hD : va_D A [(q_o, .inr (5, [.ref q_o_bytes, .int 0, .int o_token, .int o_number, .int o_place, .int o_next, .int o_toldOnce]))] := hD
  refine lv_iload_n hx hb dX6_drop_10 rfl (lv_at hl 0 rfl) ?_
  obtain ⟨e0_, e1_⟩ := tup2 hf
  have hP : va_P D vwCl [(q_o, .inr (5, [.ref q_o_bytes, .int o_length', .int o_token, .int o_number, .int o_place, .int o_next, .int o_toldOnce]))] H := by rw [← e1_]; exact hP
  have hD : va_D A [(q_o, .inr (5, [.ref q_o_bytes, .int o_length', .int o_token, .int o_number, .int o_place, .int o_next, .int o_toldOnce]))] := by rw [← e1_]; exact hD
  exact endMI hx hb hr hlocks rfl hP hD hS e0_ dX6_drop_11
def f_X6_byteAt (o_length : Int32) (o_bytes : Nat → Int32) (p1 : Int32) : Option (Int32) :=
  if p1 < 0 then (
    some ((-1))
  ) else (
    if o_length ≤ p1 then (
      some ((-1))
    ) else (
      if (200 : Int32) ≤ p1 then (
        some ((-1))
      ) else (
        ing p1 200 <|
        some ((o_bytes p1.toNatClampNeg) &&& 255)
      )
    )
  )
set_option maxHeartbeats 4000000 in
set_option maxRecDepth 100000 in
theorem c_X6_byteAt (l : Launch) (D : va_G) (cB cI cZ cM cN : ClassId) (q_o : Nat) (q_o_bytes : Nat) (o_length : Int32) (o_token : Int32) (o_number : Int32) (o_place : Int32) (o_next : Int32) (o_toldOnce : Int32) (o_bytes : Nat → Int32) (p1 : Int32) (r : Int32) (hf : f_X6_byteAt o_length o_bytes p1 = some r) : Met l yX6_byteAt wsX6_byteAt ({ frames := 0, cells := 0, slots := 0, locals := 0 } : Room) (PR D cB cI cZ cM cN [.ref q_o, .int p1] [(q_o, .inr (5, [.ref q_o_bytes, .int o_length, .int o_token, .int o_number, .int o_place, .int o_next, .int o_toldOnce])), (q_o_bytes, .inl (cB, 200, .inl o_bytes))]) (RI r) 0 0 (fun _ => False) := by
  refine entR (by decide +kernel) rfl (Nat.le_of_ble_eq_true rfl) ?_
  intro p e s m below meth c hx hb hr hml hown hlocks hts hP hK ls hl
  have hown : s.vm.findClass RX6 = some m.cls := hown
  have hl : lv_has ls 2 [(0, .ref q_o), (1, .int p1)] := hl
  have hfix : CallFix p m c cX6_byteAt 2 s ([.ref q_o, .int p1] : List Value).toArray wsX6_byteAt RX6 := ⟨hx, hb, hml, hown, hts⟩
  have hinX6 : ∀ w ∈ u_ws RX6 TX6 7, w ∈ wsX6_byteAt := by decide +kernel
  have g15 := hts (.fieldLink RX6 15 "LastCoat$Text" "length" "I") (by decide +kernel)
  have g9 := hts (.fieldLink RX6 9 "LastCoat$Text" "bytes" "[B") (by decide +kernel)
  unfold f_X6_byteAt at hf
  refine lv_iload_n hx hb dX6_byteAt_0 rfl (lv_at hl 1 rfl) ?_
  refine lv_if_lt (tgt := 34) hx hb dX6_byteAt_1 (by decide) (fun c1 => ?_) (fun c1 => ?_)
  · have hf := ite_p hf c1
    refine lv_iconst (v := (-1)) hx hb dX6_byteAt_34 (by decide) ?_
    have e0_ := Option.some.inj hf
    exact endRI hx hb hr hlocks rfl e0_ dX6_byteAt_35
  · have hf := ite_n hf c1
    refine lv_iload_n hx hb dX6_byteAt_4 rfl (lv_at hl 1 rfl) ?_
    refine lv_aload_n hx hb dX6_byteAt_5 rfl (lv_at hl 0 rfl) ?_
    refine va_get (D := D) (ci := 5) (v := .int o_length) (C := RX6) (T := TX6) (N := 7) hx hb hts hinX6 hown hK.1 hP 0 rfl rfl 1 (by decide) g15 (fun _ h9 => h9) rfl dX6_byteAt_6 ?_
    refine lv_icmp_ge (tgt := 34) hx hb dX6_byteAt_9 (by decide) (fun c2 => ?_) (fun c2 => ?_)
    · have hf := ite_p hf c2
      refine lv_iconst (v := (-1)) hx hb dX6_byteAt_34 (by decide) ?_
      have e0_ := Option.some.inj hf
      exact endRI hx hb hr hlocks rfl e0_ dX6_byteAt_35
    · have hf := ite_n hf c2
      refine lv_iload_n hx hb dX6_byteAt_12 rfl (lv_at hl 1 rfl) ?_
      refine lv_aload_n hx hb dX6_byteAt_13 rfl (lv_at hl 0 rfl) ?_
      refine va_get (D := D) (ci := 5) (v := .ref q_o_bytes) (C := RX6) (T := TX6) (N := 7) hx hb hts hinX6 hown hK.1 hP 0 rfl rfl 0 (by decide) g9 (fun _ h9 => h9) rfl dX6_byteAt_14 ?_
      refine va_alen (v := 200) hx hb hK.1 hP 1 0 rfl rfl rfl dX6_byteAt_17 ?_
      refine lv_icmp_ge (tgt := 34) hx hb dX6_byteAt_18 (by decide) (fun c3 => ?_) (fun c3 => ?_)
      · have hf := ite_p hf c3
        refine lv_iconst (v := (-1)) hx hb dX6_byteAt_34 (by decide) ?_
        have e0_ := Option.some.inj hf
        exact endRI hx hb hr hlocks rfl e0_ dX6_byteAt_35
      · have hf := ite_n hf c3
        refine lv_aload_n hx hb dX6_byteAt_21 rfl (lv_at hl 0 rfl) ?_
        refine va_get (D := D) (ci := 5) (v := .ref q_o_bytes) (C := RX6) (T := TX6) (N := 7) hx hb hts hinX6 hown hK.1 hP 0 rfl rfl 0 (by decide) g9 (fun _ h9 => h9) rfl dX6_byteAt_22 ?_
        refine lv_iload_n hx hb dX6_byteAt_25 rfl (lv_at hl 1 rfl) ?_
        obtain ⟨g4, hf⟩ := ing_some hf
        refine va_bald hx hb hK.1 hP 1 0 rfl rfl g4 dX6_byteAt_26 ?_
        refine lv_sipush (v := 255) hx hb dX6_byteAt_27 (by decide) ?_
        refine lv_iand hx hb dX6_byteAt_30 ?_
        refine lv_goto (tgt := 35) hx hb dX6_byteAt_31 (by decide) ?_
        have e0_ := Option.some.inj hf
        exact endRI hx hb hr hlocks rfl e0_ dX6_byteAt_35
def f_X6_kindOf_34 (x0 : Int32) : Option (Int32) :=
  if x0 = 59 then (
    some (3)
  ) else (
    some (1)
  )
def f_X6_kindOf_20 (x0 : Int32) : Option (Int32) :=
  if x0 < 97 then (
    f_X6_kindOf_34 x0
  ) else (
    if (122 : Int32) < x0 then (
      f_X6_kindOf_34 x0
    ) else (
      some (4)
    )
  )
def f_X6_kindOf (p0 : Int32) : Option (Int32) :=
  if (0 : Int32) ≤ p0 then (
    if p0 < 48 then (
      f_X6_kindOf_20 p0
    ) else (
      if (57 : Int32) < p0 then (
        f_X6_kindOf_20 p0
      ) else (
        some (2)
      )
    )
  ) else (
    some (0)
  )
set_option maxHeartbeats 4000000 in
set_option maxRecDepth 100000 in
theorem c_X6_kindOf (l : Launch) (D : va_G) (cB cI cZ cM cN : ClassId) (p0 : Int32) (r : Int32) (hf : f_X6_kindOf p0 = some r) : Met l yX6_kindOf wsX6_kindOf ({ frames := 0, cells := 0, slots := 0, locals := 0 } : Room) (PR D cB cI cZ cM cN [.int p0] []) (RI r) 0 0 (fun _ => False) := by
  refine entR (by decide +kernel) rfl (Nat.le_of_ble_eq_true rfl) ?_
  intro p e s m below meth c hx hb hr hml hown hlocks hts hP hK ls hl
  have hown : s.vm.findClass RX6 = some m.cls := hown
  have hl : lv_has ls 1 [(0, .int p0)] := hl
  have hfix : CallFix p m c cX6_kindOf 1 s ([.int p0] : List Value).toArray wsX6_kindOf RX6 := ⟨hx, hb, hml, hown, hts⟩
  have L34 : ∀ (x0 : Int32) (ls : Array Slot), f_X6_kindOf_34 x0 = some r → lv_has ls 1 [(0, .int x0)] → W p l e ({ frames := 0, cells := 0, slots := 0, locals := 0 } : Room) s m ([.int p0] : List Value).toArray below meth c s.heap [] 0 0 (MQ below (RI r) ([.int p0] : List Value).toArray s 0 0 (fun _ => False)) (F0 m 34 ls []) := by
    intro x0 ls hf hl
    unfold f_X6_kindOf_34 at hf
    refine lv_iload_n hx hb dX6_kindOf_34 rfl (lv_at hl 0 rfl) ?_
    refine lv_bipush (v := 59) hx hb dX6_kindOf_35 (by decide) ?_
    refine lv_icmp_ne (tgt := 44) hx hb dX6_kindOf_37 (by decide) (fun c1 => ?_) (fun c1 => ?_)
    · have hf := ite_n hf c1
      refine lv_iconst (v := 1) hx hb dX6_kindOf_44 (by decide) ?_
      have e0_ := Option.some.inj hf
      exact endRI hx hb hr hlocks rfl e0_ dX6_kindOf_45
    · have hf := ite_p hf c1
      refine lv_iconst (v := 3) hx hb dX6_kindOf_40 (by decide) ?_
      refine lv_goto (tgt := 45) hx hb dX6_kindOf_41 (by decide) ?_
      have e0_ := Option.some.inj hf
      exact endRI hx hb hr hlocks rfl e0_ dX6_kindOf_45
  have L20 : ∀ (x0 : Int32) (ls : Array Slot), f_X6_kindOf_20 x0 = some r → lv_has ls 1 [(0, .int x0)] → W p l e ({ frames := 0, cells := 0, slots := 0, locals := 0 } : Room) s m ([.int p0] : List Value).toArray below meth c s.heap [] 0 0 (MQ below (RI r) ([.int p0] : List Value).toArray s 0 0 (fun _ => False)) (F0 m 20 ls []) := by
    intro x0 ls hf hl
    unfold f_X6_kindOf_20 at hf
    refine lv_iload_n hx hb dX6_kindOf_20 rfl (lv_at hl 0 rfl) ?_
    refine lv_bipush (v := 97) hx hb dX6_kindOf_21 (by decide) ?_
    refine lv_icmp_lt (tgt := 34) hx hb dX6_kindOf_23 (by decide) (fun c2 => ?_) (fun c2 => ?_)
    · have hf := ite_p hf c2
      exact L34 x0 ls hf (lv_sub hl [0] rfl)
    · have hf := ite_n hf c2
      refine lv_iload_n hx hb dX6_kindOf_26 rfl (lv_at hl 0 rfl) ?_
      refine lv_bipush (v := 122) hx hb dX6_kindOf_27 (by decide) ?_
      refine lv_icmp_gt (tgt := 34) hx hb dX6_kindOf_29 (by decide) (fun c3 => ?_) (fun c3 => ?_)
      · have hf := ite_p hf c3
        exact L34 x0 ls hf (lv_sub hl [0] rfl)
      · have hf := ite_n hf c3
        refine lv_iconst (v := 4) hx hb dX6_kindOf_32 (by decide) ?_
        have e0_ := Option.some.inj hf
        exact endRI hx hb hr hlocks rfl e0_ dX6_kindOf_33
  unfold f_X6_kindOf at hf
  refine lv_iload_n hx hb dX6_kindOf_0 rfl (lv_at hl 0 rfl) ?_
  refine lv_if_ge (tgt := 6) hx hb dX6_kindOf_1 (by decide) (fun c4 => ?_) (fun c4 => ?_)
  · have hf := ite_p hf c4
    refine lv_iload_n hx hb dX6_kindOf_6 rfl (lv_at hl 0 rfl) ?_
    refine lv_bipush (v := 48) hx hb dX6_kindOf_7 (by decide) ?_
    refine lv_icmp_lt (tgt := 20) hx hb dX6_kindOf_9 (by decide) (fun c5 => ?_) (fun c5 => ?_)
    · have hf := ite_p hf c5
      exact L20 p0 ls hf (lv_sub hl [0] rfl)
    · have hf := ite_n hf c5
      refine lv_iload_n hx hb dX6_kindOf_12 rfl (lv_at hl 0 rfl) ?_
      refine lv_bipush (v := 57) hx hb dX6_kindOf_13 (by decide) ?_
      refine lv_icmp_gt (tgt := 20) hx hb dX6_kindOf_15 (by decide) (fun c6 => ?_) (fun c6 => ?_)
      · have hf := ite_p hf c6
        exact L20 p0 ls hf (lv_sub hl [0] rfl)
      · have hf := ite_n hf c6
        refine lv_iconst (v := 2) hx hb dX6_kindOf_18 (by decide) ?_
        have e0_ := Option.some.inj hf
        exact endRI hx hb hr hlocks rfl e0_ dX6_kindOf_19
  · have hf := ite_n hf c4
    refine lv_iconst (v := 0) hx hb dX6_kindOf_4 (by decide) ?_
    have e0_ := Option.some.inj hf
    exact endRI hx hb hr hlocks rfl e0_ dX6_kindOf_5
def f_X6_readToken_137 (o_length : Int32) (o_bytes : Nat → Int32) (K73 : Int32 → Int32 → Int32 → Int32 → Option (Int32 × Int32 × Int32)) (k0 : Int32) (o_token : Int32) (o_place : Int32) (o_next : Int32) : Option (Int32 × Int32 × Int32) :=
  K73 k0 o_token o_place o_next
def f_X6_readToken_136 (o_length : Int32) (o_bytes : Nat → Int32) (K73 : Int32 → Int32 → Int32 → Int32 → Option (Int32 × Int32 × Int32)) (o_token : Int32) (o_place : Int32) (o_next : Int32) : Option (Int32 × Int32 × Int32) :=
  f_X6_readToken_137 o_length o_bytes K73 0 o_token o_place o_next
def f_X6_readToken_114 (o_length : Int32) (o_bytes : Nat → Int32) (K73 : Int32 → Int32 → Int32 → Int32 → Option (Int32 × Int32 × Int32)) (o_token : Int32) (o_place : Int32) (o_next : Int32) : Option (Int32 × Int32 × Int32) :=
  ob1 (f_X6_byteAt o_length o_bytes o_next) fun r1 =>
  ob1 (f_X6_kindOf r1) fun r3 =>
  if r3 = o_token then (
    f_X6_readToken_137 o_length o_bytes K73 1 o_token o_place o_next
  ) else (
    f_X6_readToken_136 o_length o_bytes K73 o_token o_place o_next
  )
def f_X6_readToken_73_b (o_length : Int32) (o_bytes : Nat → Int32) (K73 : Int32 → Int32 → Int32 → Int32 → Option (Int32 × Int32 × Int32)) (x1 : Int32) (o_token : Int32) (o_place : Int32) (o_next : Int32) : Option (Int32 × Int32 × Int32) :=
  if o_length ≤ o_next then (
    some (o_token, o_place, o_next)
  ) else (
    if x1 = 0 then (
      some (o_token, o_place, o_next)
    ) else (
      bnd (o_next + 1) fun y8 =>
      if o_token = 2 then (
        f_X6_readToken_114 o_length o_bytes K73 o_token o_place y8
      ) else (
        if o_token = 4 then (
          f_X6_readToken_114 o_length o_bytes K73 o_token o_place y8
        ) else (
          f_X6_readToken_136 o_length o_bytes K73 o_token o_place y8
        )
      )
    )
  )
def f_X6_readToken_73 (o_length : Int32) (o_bytes : Nat → Int32) : Nat → Int32 → Int32 → Int32 → Int32 → Option (Int32 × Int32 × Int32)
  | 0 => fun _ _ _ _ => none
  | n + 1 => f_X6_readToken_73_b o_length o_bytes (f_X6_readToken_73 o_length o_bytes n)
def f_X6_readToken_72 (o_length : Int32) (o_bytes : Nat → Int32) (k0 : Int32) (o_token : Int32) (o_place : Int32) (o_next : Int32) : Option (Int32 × Int32 × Int32) :=
  f_X6_readToken_73 o_length o_bytes FU k0 o_token o_place o_next
def f_X6_readToken_37 (o_length : Int32) (o_bytes : Nat → Int32) (o_token : Int32) (o_place : Int32) (o_next : Int32) : Option (Int32 × Int32 × Int32) :=
  ob1 (f_X6_byteAt o_length o_bytes o_next) fun r11 =>
  ob1 (f_X6_kindOf r11) fun r13 =>
  if r13 = 0 then (
    f_X6_readToken_72 o_length o_bytes 0 r13 o_next o_next
  ) else (
    f_X6_readToken_72 o_length o_bytes 1 r13 o_next o_next
  )
def f_X6_readToken_0_b (o_length : Int32) (o_bytes : Nat → Int32) (K0 : Int32 → Int32 → Int32 → Option (Int32 × Int32 × Int32)) (o_token : Int32) (o_place : Int32) (o_next : Int32) : Option (Int32 × Int32 × Int32) :=
  if o_length ≤ o_next then (
    f_X6_readToken_37 o_length o_bytes o_token o_place o_next
  ) else (
    ob1 (f_X6_byteAt o_length o_bytes o_next) fun r17 =>
    if r17 = 32 then (
      bnd (o_next + 1) fun y20 =>
      K0 o_token o_place y20
    ) else (
      f_X6_readToken_37 o_length o_bytes o_token o_place o_next
    )
  )
def f_X6_readToken_0 (o_length : Int32) (o_bytes : Nat → Int32) : Nat → Int32 → Int32 → Int32 → Option (Int32 × Int32 × Int32)
  | 0 => fun _ _ _ => none
  | n + 1 => f_X6_readToken_0_b o_length o_bytes (f_X6_readToken_0 o_length o_bytes n)
def f_X6_readToken (o_length : Int32) (o_bytes : Nat → Int32) (o_token : Int32) (o_place : Int32) (o_next : Int32) : Option (Int32 × Int32 × Int32) :=
  f_X6_readToken_0 o_length o_bytes FU o_token o_place o_next
set_option maxHeartbeats 4000000 in
set_option maxRecDepth 100000 in
theorem c_X6_readToken (l : Launch) (D : va_G) (cB cI cZ cM cN : ClassId) (q_o : Nat) (q_o_bytes : Nat) (o_length : Int32) (o_token : Int32) (o_number : Int32) (o_place : Int32) (o_next : Int32) (o_toldOnce : Int32) (o_bytes : Nat → Int32) (o_token' : Int32) (o_place' : Int32) (o_next' : Int32) (sz : Nat) (hf : f_X6_readToken o_length o_bytes o_token o_place o_next = some (o_token', o_place', o_next')) : Met l yX6_readToken wsX6_readToken ({ frames := 1, cells := 0, slots := 0, locals := 21 } : Room) (PM D cB cI cZ cM cN [.ref q_o] [(q_o, .inr (5, [.ref q_o_bytes, .int o_length, .int o_token, .int o_number, .int o_place, .int o_next, .int o_toldOnce])), (q_o_bytes, .inl (cB, 200, .inl o_bytes))] sz) (QV D [(q_o, .inr (5, [.ref q_o_bytes, .int o_length, .int o_token', .int o_number, .int o_place', .int o_next', .int o_toldOnce])), (q_o_bytes, .inl (cB, 200, .inl o_bytes))] (va_A [(q_o, .inr (5, [.ref q_o_bytes, .int o_length, .int o_token, .int o_number, .int o_place, .int o_next, .int o_toldOnce])), (q_o_bytes, .inl (cB, 200, .inl o_bytes))] sz)) 0 0 (va_A [(q_o, .inr (5, [.ref q_o_bytes, .int o_length, .int o_token, .int o_number, .int o_place, .int o_next, .int o_toldOnce])), (q_o_bytes, .inl (cB, 200, .inl o_bytes))] sz) := by
  refine entM (l := l) (y := yX6_readToken) (ws := wsX6_readToken) (cc := cX6_readToken) (av := [.ref q_o]) (wc := [(q_o, .inr (5, [.ref q_o_bytes, .int o_length, .int o_token, .int o_number, .int o_place, .int o_next, .int o_toldOnce])), (q_o_bytes, .inl (cB, 200, .inl o_bytes))]) (sz := sz) (Qc := fun A => QV D [(q_o, .inr (5, [.ref q_o_bytes, .int o_length, .int o_token', .int o_number, .int o_place', .int o_next', .int o_toldOnce])), (q_o_bytes, .inl (cB, 200, .inl o_bytes))] A) (by decide +kernel) rfl (Nat.le_of_ble_eq_true rfl) ?_
  intro A p e s m below meth c hx hb hr hml hown hlocks hts hK hA H locs hP hD hS ls hl
  have hown : s.vm.findClass RX6 = some m.cls := hown
  have hl : lv_has ls 2 [(0, .ref q_o)] := hl
  have hfix : CallFix p m c cX6_readToken 2 s ([.ref q_o] : List Value).toArray wsX6_readToken RX6 := ⟨hx, hb, hml, hown, hts⟩
  have hinX6 : ∀ w ∈ u_ws RX6 TX6 7, w ∈ wsX6_readToken := by decide +kernel
  have g24 := hts (.fieldLink RX6 24 "LastCoat$Text" "next" "I") (by decide +kernel)
  have g33 := hts (.fieldLink RX6 33 "LastCoat$Text" "token" "I") (by decide +kernel)
  have g15 := hts (.fieldLink RX6 15 "LastCoat$Text" "length" "I") (by decide +kernel)
  have g44 := hts (.fieldLink RX6 44 "LastCoat$Text" "place" "I") (by decide +kernel)
  have L73 : ∀ (n73 : Nat) (x1 : Int32) (o_token : Int32) (o_place : Int32) (o_next : Int32) (H : Heap) (locs : List Loc) (ls : Array Slot), f_X6_readToken_73 o_length o_bytes n73 x1 o_token o_place o_next = some (o_token', o_place', o_next') → va_P D vwCl [(q_o, .inr (5, [.ref q_o_bytes, .int o_length, .int o_token, .int o_number, .int o_place, .int o_next, .int o_toldOnce])), (q_o_bytes, .inl (cB, 200, .inl o_bytes))] H → va_D A [(q_o, .inr (5, [.ref q_o_bytes, .int o_length, .int o_token, .int o_number, .int o_place, .int o_next, .int o_toldOnce])), (q_o_bytes, .inl (cB, 200, .inl o_bytes))] → va_S A s.heap H locs → lv_has ls 2 [(0, .ref q_o), (1, .int x1)] → W p l e ({ frames := 1, cells := 0, slots := 0, locals := 21 } : Room) s m ([.ref q_o] : List Value).toArray below meth c H locs 0 0 (MQ below (QV D [(q_o, .inr (5, [.ref q_o_bytes, .int o_length, .int o_token', .int o_number, .int o_place', .int o_next', .int o_toldOnce])), (q_o_bytes, .inl (cB, 200, .inl o_bytes))] A) ([.ref q_o] : List Value).toArray s 0 0 A) (F0 m 73 ls []) := by
    intro n73
    induction n73 with
    | zero =>
      intro x1 o_token o_place o_next H locs ls hf hP hD hS hl
      exact noneNe hf
    | succ n73 ih73 =>
      have L137 : ∀ (k0 : Int32) (o_token : Int32) (o_place : Int32) (o_next : Int32) (H : Heap) (locs : List Loc) (ls : Array Slot), f_X6_readToken_137 o_length o_bytes (f_X6_readToken_73 o_length o_bytes n73) k0 o_token o_place o_next = some (o_token', o_place', o_next') → va_P D vwCl [(q_o, .inr (5, [.ref q_o_bytes, .int o_length, .int o_token, .int o_number, .int o_place, .int o_next, .int o_toldOnce])), (q_o_bytes, .inl (cB, 200, .inl o_bytes))] H → va_D A [(q_o, .inr (5, [.ref q_o_bytes, .int o_length, .int o_token, .int o_number, .int o_place, .int o_next, .int o_toldOnce])), (q_o_bytes, .inl (cB, 200, .inl o_bytes))] → va_S A s.heap H locs → lv_has ls 2 [(0, .ref q_o)] → W p l e ({ frames := 1, cells := 0, slots := 0, locals := 21 } : Room) s m ([.ref q_o] : List Value).toArray below meth c H locs 0 0 (MQ below (QV D [(q_o, .inr (5, [.ref q_o_bytes, .int o_length, .int o_token', .int o_number, .int o_place', .int o_next', .int o_toldOnce])), (q_o_bytes, .inl (cB, 200, .inl o_bytes))] A) ([.ref q_o] : List Value).toArray s 0 0 A) (F0 m 137 ls [.int k0]) := by
        intro k0 o_token o_place o_next H locs ls hf hP hD hS hl
        unfold f_X6_readToken_137 at hf
        refine lv_istore_n (lv' := [(1, .int k0), (0, .ref q_o)]) hx hb dX6_readToken_137 rfl hl (by decide) rfl (fun ls hl => ?_)
        refine lv_goto (tgt := 73) hx hb dX6_readToken_138 (by decide) ?_
        exact ih73 k0 o_token o_place o_next _ _ ls hf hP hD hS (lv_sub hl [1, 0] rfl)
      have L136 : ∀ (o_token : Int32) (o_place : Int32) (o_next : Int32) (H : Heap) (locs : List Loc) (ls : Array Slot), f_X6_readToken_136 o_length o_bytes (f_X6_readToken_73 o_length o_bytes n73) o_token o_place o_next = some (o_token', o_place', o_next') → va_P D vwCl [(q_o, .inr (5, [.ref q_o_bytes, .int o_length, .int o_token, .int o_number, .int o_place, .int o_next, .int o_toldOnce])), (q_o_bytes, .inl (cB, 200, .inl o_bytes))] H → va_D A [(q_o, .inr (5, [.ref q_o_bytes, .int o_length, .int o_token, .int o_number, .int o_place, .int o_next, .int o_toldOnce])), (q_o_bytes, .inl (cB, 200, .inl o_bytes))] → va_S A s.heap H locs → lv_has ls 2 [(0, .ref q_o)] → W p l e ({ frames := 1, cells := 0, slots := 0, locals := 21 } : Room) s m ([.ref q_o] : List Value).toArray below meth c H locs 0 0 (MQ below (QV D [(q_o, .inr (5, [.ref q_o_bytes, .int o_length, .int o_token', .int o_number, .int o_place', .int o_next', .int o_toldOnce])), (q_o_bytes, .inl (cB, 200, .inl o_bytes))] A) ([.ref q_o] : List Value).toArray s 0 0 A) (F0 m 136 ls []) := by
        intro o_token o_place o_next H locs ls hf hP hD hS hl
        unfold f_X6_readToken_136 at hf
        refine lv_iconst (v := 0) hx hb dX6_readToken_136 (by decide) ?_
        exact L137 0 o_token o_place o_next _ _ ls hf hP hD hS (lv_sub hl [0] rfl)
      have L114 : ∀ (o_token : Int32) (o_place : Int32) (o_next : Int32) (H : Heap) (locs : List Loc) (ls : Array Slot), f_X6_readToken_114 o_length o_bytes (f_X6_readToken_73 o_length o_bytes n73) o_token o_place o_next = some (o_token', o_place', o_next') → va_P D vwCl [(q_o, .inr (5, [.ref q_o_bytes, .int o_length, .int o_token, .int o_number, .int o_place, .int o_next, .int o_toldOnce])), (q_o_bytes, .inl (cB, 200, .inl o_bytes))] H → va_D A [(q_o, .inr (5, [.ref q_o_bytes, .int o_length, .int o_token, .int o_number, .int o_place, .int o_next, .int o_toldOnce])), (q_o_bytes, .inl (cB, 200, .inl o_bytes))] → va_S A s.heap H locs → lv_has ls 2 [(0, .ref q_o)] → W p l e ({ frames := 1, cells := 0, slots := 0, locals := 21 } : Room) s m ([.ref q_o] : List Value).toArray below meth c H locs 0 0 (MQ below (QV D [(q_o, .inr (5, [.ref q_o_bytes, .int o_length, .int o_token', .int o_number, .int o_place', .int o_next', .int o_toldOnce])), (q_o_bytes, .inl (cB, 200, .inl o_bytes))] A) ([.ref q_o] : List Value).toArray s 0 0 A) (F0 m 114 ls []) := by
        intro o_token o_place o_next H locs ls hf hP hD hS hl
        unfold f_X6_readToken_114 at hf
        refine lv_aload_n hx hb dX6_readToken_114 rfl (lv_at hl 0 rfl) ?_
        refine lv_aload_n hx hb dX6_readToken_115 rfl (lv_at hl 0 rfl) ?_
        refine va_get (D := D) (ci := 5) (v := .int o_next) (C := RX6) (T := TX6) (N := 7) hx hb hts hinX6 hown hK.1 hP 0 rfl rfl 5 (by decide) g24 (fun _ h9 => h9) rfl dX6_readToken_116 ?_
        obtain ⟨r1, h2, hf⟩ := ob1_some hf
        refine roV (c_X6_byteAt l D cB cI cZ cM cN q_o q_o_bytes o_length o_token o_number o_place o_next o_toldOnce o_bytes o_next r1 h2) hfix (cwV 1 hts gX6_readToken_X6_byteAt rfl rfl rfl (by decide +kernel) ⟨Nat.le_of_ble_eq_true rfl, Nat.le_of_ble_eq_true rfl⟩) (subC hP [0, 1] rfl) hK rfl rfl rfl rfl hl.1 rfl (Nat.le_of_ble_eq_true rfl) dX6_readToken_119 ⟨Nat.zero_le _, Nat.zero_le _⟩ ?_
        obtain ⟨r3, h4, hf⟩ := ob1_some hf
        refine roS (c_X6_kindOf l D cB cI cZ cM cN r1 r3 h4) hfix (va_cwS 1 hts gX6_readToken_X6_kindOf rfl rfl rfl (by decide +kernel) ⟨Nat.le_of_ble_eq_true rfl, Nat.le_of_ble_eq_true rfl⟩) (subC hP [] rfl) hK rfl hl.1 rfl (Nat.le_of_ble_eq_true rfl) dX6_readToken_122 ⟨Nat.zero_le _, Nat.zero_le _⟩ ?_
        refine lv_aload_n hx hb dX6_readToken_125 rfl (lv_at hl 0 rfl) ?_
        refine va_get (D := D) (ci := 5) (v := .int o_token) (C := RX6) (T := TX6) (N := 7) hx hb hts hinX6 hown hK.1 hP 0 rfl rfl 2 (by decide) g33 (fun _ h9 => h9) rfl dX6_readToken_126 ?_
        refine lv_icmp_ne (tgt := 136) hx hb dX6_readToken_129 (by decide) (fun c5 => ?_) (fun c5 => ?_)
        · have hf := ite_n hf c5
          exact L136 o_token o_place o_next _ _ ls hf hP hD hS (lv_sub hl [0] rfl)
        · have hf := ite_p hf c5
          refine lv_iconst (v := 1) hx hb dX6_readToken_132 (by decide) ?_
          refine lv_goto (tgt := 137) hx hb dX6_readToken_133 (by decide) ?_
          exact L137 1 o_token o_place o_next _ _ ls hf hP hD hS (lv_sub hl [0] rfl)
      intro x1 o_token o_place o_next H locs ls hf hP hD hS hl
      have hf : f_X6_readToken_73_b o_length o_bytes (f_X6_readToken_73 o_length o_bytes n73) x1 o_token o_place o_next = some (o_token', o_place', o_next') := hf
      unfold f_X6_readToken_73_b at hf
      refine lv_aload_n hx hb dX6_readToken_73 rfl (lv_at hl 0 rfl) ?_
      refine va_get (D := D) (ci := 5) (v := .int o_next) (C := RX6) (T := TX6) (N := 7) hx hb hts hinX6 hown hK.1 hP 0 rfl rfl 5 (by decide) g24 (fun _ h9 => h9) rfl dX6_readToken_74 ?_
      refine lv_aload_n hx hb dX6_readToken_77 rfl (lv_at hl 0 rfl) ?_
      refine va_get (D := D) (ci := 5) (v := .int o_length) (C := RX6) (T := TX6) (N := 7) hx hb hts hinX6 hown hK.1 hP 0 rfl rfl 1 (by decide) g15 (fun _ h9 => h9) rfl dX6_readToken_78 ?_
      refine lv_icmp_ge (tgt := 141) hx hb dX6_readToken_81 (by decide) (fun c6 => ?_) (fun c6 => ?_)
      · have hf := ite_p hf c6
        obtain ⟨e0_, e1_, e2_⟩ := tup3 hf
        have hP : va_P D vwCl [(q_o, .inr (5, [.ref q_o_bytes, .int o_length, .int o_token', .int o_number, .int o_place', .int o_next', .int o_toldOnce])), (q_o_bytes, .inl (cB, 200, .inl o_bytes))] H := by rw [← e0_, ← e1_, ← e2_]; exact hP
        have hD : va_D A [(q_o, .inr (5, [.ref q_o_bytes, .int o_length, .int o_token', .int o_number, .int o_place', .int o_next', .int o_toldOnce])), (q_o_bytes, .inl (cB, 200, .inl o_bytes))] := by rw [← e0_, ← e1_, ← e2_]; exact hD
        exact endMV hx hb hr hlocks hP hD hS dX6_readToken_141
      · have hf := ite_n hf c6
        refine lv_iload_n hx hb dX6_readToken_84 rfl (lv_at hl 1 rfl) ?_
        refine lv_if_eq (tgt := 141) hx hb dX6_readToken_85 (by decide) (fun c7 => ?_) (fun c7 => ?_)
        · have hf := ite_p hf c7
          obtain ⟨e0_, e1_, e2_⟩ := tup3 hf
          have hP : va_P D vwCl [(q_o, .inr (5, [.ref q_o_bytes, .int o_length, .int o_token', .int o_number, .int o_place', .int o_next', .int o_toldOnce])), (q_o_bytes, .inl (cB, 200, .inl o_bytes))] H := by rw [← e0_, ← e1_, ← e2_]; exact hP
          have hD : va_D A [(q_o, .inr (5, [.ref q_o_bytes, .int o_length, .int o_token', .int o_number, .int o_place', .int o_next', .int o_toldOnce])), (q_o_bytes, .inl (cB, 200, .inl o_bytes))] := by rw [← e0_, ← e1_, ← e2_]; exact hD
          exact endMV hx hb hr hlocks hP hD hS dX6_readToken_141
        · have hf := ite_n hf c7
          refine lv_aload_n hx hb dX6_readToken_88 rfl (lv_at hl 0 rfl) ?_
          refine lv_dup hx hb dX6_readToken_89 rfl ?_
          refine va_get (D := D) (ci := 5) (v := .int o_next) (C := RX6) (T := TX6) (N := 7) hx hb hts hinX6 hown hK.1 hP 0 rfl rfl 5 (by decide) g24 (fun _ h9 => h9) rfl dX6_readToken_90 ?_
          refine lv_iconst (v := 1) hx hb dX6_readToken_93 (by decide) ?_
          refine lv_iadd hx hb dX6_readToken_94 ?_
          refine lv_topi (fun y8 ey8 => ?_)
          have hf := bnd_at hf ey8
          refine va_put (D := D) (ci := 5) (v := .int y8) (ty := .int) (C := RX6) (T := TX6) (N := 7) hx hb hts hinX6 tyX6 tyX6_ok nmX6 hown hK.1 hP hD hS 0 rfl rfl 5 (by decide) g24 (fun _ h9 => h9) rfl (by decide +kernel) rfl rfl (Nat.le_of_ble_eq_true rfl) dX6_readToken_95 (fun H locs hP hD hS => ?_)
          have hP : va_P D vwCl [(q_o, .inr (5, [.ref q_o_bytes, .int o_length, .int o_token, .int o_number, .int o_place, .int y8, .int o_toldOnce])), (q_o_bytes, .inl (cB, 200, .inl o_bytes))] H := hP
          have hD : va_D A [(q_o, .inr (5, [.ref q_o_bytes, .int o_length, .int o_token, .int o_number, .int o_place, .int y8, .int o_toldOnce])), (q_o_bytes, .inl (cB, 200, .inl o_bytes))] := hD
          refine lv_aload_n hx hb dX6_readToken_98 rfl (lv_at hl 0 rfl) ?_
          refine va_get (D := D) (ci := 5) (v := .int o_token) (C := RX6) (T := TX6) (N := 7) hx hb hts hinX6 hown hK.1 hP 0 rfl rfl 2 (by decide) g33 (fun _ h9 => h9) rfl dX6_readToken_99 ?_
          refine lv_iconst (v := 2) hx hb dX6_readToken_102 (by decide) ?_
          refine lv_icmp_eq (tgt := 114) hx hb dX6_readToken_103 (by decide) (fun c9 => ?_) (fun c9 => ?_)
          · have hf := ite_p hf c9
            exact L114 o_token o_place y8 _ _ ls hf hP hD hS (lv_sub hl [0] rfl)
          · have hf := ite_n hf c9
            refine lv_aload_n hx hb dX6_readToken_106 rfl (lv_at hl 0 rfl) ?_
            refine va_get (D := D) (ci := 5) (v := .int o_token) (C := RX6) (T := TX6) (N := 7) hx hb hts hinX6 hown hK.1 hP 0 rfl rfl 2 (by decide) g33 (fun _ h9 => h9) rfl dX6_readToken_107 ?_
            refine lv_iconst (v := 4) hx hb dX6_readToken_110 (by decide) ?_
            refine lv_icmp_ne (tgt := 136) hx hb dX6_readToken_111 (by decide) (fun c10 => ?_) (fun c10 => ?_)
            · have hf := ite_n hf c10
              exact L136 o_token o_place y8 _ _ ls hf hP hD hS (lv_sub hl [0] rfl)
            · have hf := ite_p hf c10
              exact L114 o_token o_place y8 _ _ ls hf hP hD hS (lv_sub hl [0] rfl)
  have L72 : ∀ (k0 : Int32) (o_token : Int32) (o_place : Int32) (o_next : Int32) (H : Heap) (locs : List Loc) (ls : Array Slot), f_X6_readToken_72 o_length o_bytes k0 o_token o_place o_next = some (o_token', o_place', o_next') → va_P D vwCl [(q_o, .inr (5, [.ref q_o_bytes, .int o_length, .int o_token, .int o_number, .int o_place, .int o_next, .int o_toldOnce])), (q_o_bytes, .inl (cB, 200, .inl o_bytes))] H → va_D A [(q_o, .inr (5, [.ref q_o_bytes, .int o_length, .int o_token, .int o_number, .int o_place, .int o_next, .int o_toldOnce])), (q_o_bytes, .inl (cB, 200, .inl o_bytes))] → va_S A s.heap H locs → lv_has ls 2 [(0, .ref q_o)] → W p l e ({ frames := 1, cells := 0, slots := 0, locals := 21 } : Room) s m ([.ref q_o] : List Value).toArray below meth c H locs 0 0 (MQ below (QV D [(q_o, .inr (5, [.ref q_o_bytes, .int o_length, .int o_token', .int o_number, .int o_place', .int o_next', .int o_toldOnce])), (q_o_bytes, .inl (cB, 200, .inl o_bytes))] A) ([.ref q_o] : List Value).toArray s 0 0 A) (F0 m 72 ls [.int k0]) := by
    intro k0 o_token o_place o_next H locs ls hf hP hD hS hl
    unfold f_X6_readToken_72 at hf
    refine lv_istore_n (lv' := [(1, .int k0), (0, .ref q_o)]) hx hb dX6_readToken_72 rfl hl (by decide) rfl (fun ls hl => ?_)
    exact L73 FU k0 o_token o_place o_next _ _ ls hf hP hD hS (lv_sub hl [1, 0] rfl)
  have L37 : ∀ (o_token : Int32) (o_place : Int32) (o_next : Int32) (H : Heap) (locs : List Loc) (ls : Array Slot), f_X6_readToken_37 o_length o_bytes o_token o_place o_next = some (o_token', o_place', o_next') → va_P D vwCl [(q_o, .inr (5, [.ref q_o_bytes, .int o_length, .int o_token, .int o_number, .int o_place, .int o_next, .int o_toldOnce])), (q_o_bytes, .inl (cB, 200, .inl o_bytes))] H → va_D A [(q_o, .inr (5, [.ref q_o_bytes, .int o_length, .int o_token, .int o_number, .int o_place, .int o_next, .int o_toldOnce])), (q_o_bytes, .inl (cB, 200, .inl o_bytes))] → va_S A s.heap H locs → lv_has ls 2 [(0, .ref q_o)] → W p l e ({ frames := 1, cells := 0, slots := 0, locals := 21 } : Room) s m ([.ref q_o] : List Value).toArray below meth c H locs 0 0 (MQ below (QV D [(q_o, .inr (5, [.ref q_o_bytes, .int o_length, .int o_token', .int o_number, .int o_place', .int o_next', .int o_toldOnce])), (q_o_bytes, .inl (cB, 200, .inl o_bytes))] A) ([.ref q_o] : List Value).toArray s 0 0 A) (F0 m 37 ls []) := by
    intro o_token o_place o_next H locs ls hf hP hD hS hl
    unfold f_X6_readToken_37 at hf
    refine lv_aload_n hx hb dX6_readToken_37 rfl (lv_at hl 0 rfl) ?_
    refine lv_aload_n hx hb dX6_readToken_38 rfl (lv_at hl 0 rfl) ?_
    refine va_get (D := D) (ci := 5) (v := .int o_next) (C := RX6) (T := TX6) (N := 7) hx hb hts hinX6 hown hK.1 hP 0 rfl rfl 5 (by decide) g24 (fun _ h9 => h9) rfl dX6_readToken_39 ?_
    refine va_put (D := D) (ci := 5) (v := .int o_next) (ty := .int) (C := RX6) (T := TX6) (N := 7) hx hb hts hinX6 tyX6 tyX6_ok nmX6 hown hK.1 hP hD hS 0 rfl rfl 4 (by decide) g44 (fun _ h9 => h9) rfl (by decide +kernel) rfl rfl (Nat.le_of_ble_eq_true rfl) dX6_readToken_42 (fun H locs hP hD hS => ?_)
    have hP : va_P D vwCl [(q_o, .inr (5, [.ref q_o_bytes, .int o_length, .int o_token, .int o_number, .int o_next, .int o_next, .int o_toldOnce])), (q_o_bytes, .inl (cB, 200, .inl o_bytes))] H := hP
    have hD : va_D A [(q_o, .inr (5, [.ref q_o_bytes, .int o_length, .int o_token, .int o_number, .int o_next, .int o_next, .int o_toldOnce])), (q_o_bytes, .inl (cB, 200, .inl o_bytes))] := hD
    refine lv_aload_n hx hb dX6_readToken_45 rfl (lv_at hl 0 rfl) ?_
    refine lv_aload_n hx hb dX6_readToken_46 rfl (lv_at hl 0 rfl) ?_
    refine lv_aload_n hx hb dX6_readToken_47 rfl (lv_at hl 0 rfl) ?_
    refine va_get (D := D) (ci := 5) (v := .int o_next) (C := RX6) (T := TX6) (N := 7) hx hb hts hinX6 hown hK.1 hP 0 rfl rfl 4 (by decide) g44 (fun _ h9 => h9) rfl dX6_readToken_48 ?_
    obtain ⟨r11, h12, hf⟩ := ob1_some hf
    refine roV (c_X6_byteAt l D cB cI cZ cM cN q_o q_o_bytes o_length o_token o_number o_next o_next o_toldOnce o_bytes o_next r11 h12) hfix (cwV 1 hts gX6_readToken_X6_byteAt rfl rfl rfl (by decide +kernel) ⟨Nat.le_of_ble_eq_true rfl, Nat.le_of_ble_eq_true rfl⟩) (subC hP [0, 1] rfl) hK rfl rfl rfl rfl hl.1 rfl (Nat.le_of_ble_eq_true rfl) dX6_readToken_51 ⟨Nat.zero_le _, Nat.zero_le _⟩ ?_
    obtain ⟨r13, h14, hf⟩ := ob1_some hf
    refine roS (c_X6_kindOf l D cB cI cZ cM cN r11 r13 h14) hfix (va_cwS 1 hts gX6_readToken_X6_kindOf rfl rfl rfl (by decide +kernel) ⟨Nat.le_of_ble_eq_true rfl, Nat.le_of_ble_eq_true rfl⟩) (subC hP [] rfl) hK rfl hl.1 rfl (Nat.le_of_ble_eq_true rfl) dX6_readToken_54 ⟨Nat.zero_le _, Nat.zero_le _⟩ ?_
    refine va_put (D := D) (ci := 5) (v := .int r13) (ty := .int) (C := RX6) (T := TX6) (N := 7) hx hb hts hinX6 tyX6 tyX6_ok nmX6 hown hK.1 hP hD hS 0 rfl rfl 2 (by decide) g33 (fun _ h9 => h9) rfl (by decide +kernel) rfl rfl (Nat.le_of_ble_eq_true rfl) dX6_readToken_57 (fun H locs hP hD hS => ?_)
    have hP : va_P D vwCl [(q_o, .inr (5, [.ref q_o_bytes, .int o_length, .int r13, .int o_number, .int o_next, .int o_next, .int o_toldOnce])), (q_o_bytes, .inl (cB, 200, .inl o_bytes))] H := hP
    have hD : va_D A [(q_o, .inr (5, [.ref q_o_bytes, .int o_length, .int r13, .int o_number, .int o_next, .int o_next, .int o_toldOnce])), (q_o_bytes, .inl (cB, 200, .inl o_bytes))] := hD
    refine lv_aload_n hx hb dX6_readToken_60 rfl (lv_at hl 0 rfl) ?_
    refine va_get (D := D) (ci := 5) (v := .int r13) (C := RX6) (T := TX6) (N := 7) hx hb hts hinX6 hown hK.1 hP 0 rfl rfl 2 (by decide) g33 (fun _ h9 => h9) rfl dX6_readToken_61 ?_
    refine lv_if_eq (tgt := 71) hx hb dX6_readToken_64 (by decide) (fun c15 => ?_) (fun c15 => ?_)
    · have hf := ite_p hf c15
      refine lv_iconst (v := 0) hx hb dX6_readToken_71 (by decide) ?_
      exact L72 0 r13 o_next o_next _ _ ls hf hP hD hS (lv_sub hl [0] rfl)
    · have hf := ite_n hf c15
      refine lv_iconst (v := 1) hx hb dX6_readToken_67 (by decide) ?_
      refine lv_goto (tgt := 72) hx hb dX6_readToken_68 (by decide) ?_
      exact L72 1 r13 o_next o_next _ _ ls hf hP hD hS (lv_sub hl [0] rfl)
  have L0 : ∀ (n0 : Nat) (o_token : Int32) (o_place : Int32) (o_next : Int32) (H : Heap) (locs : List Loc) (ls : Array Slot), f_X6_readToken_0 o_length o_bytes n0 o_token o_place o_next = some (o_token', o_place', o_next') → va_P D vwCl [(q_o, .inr (5, [.ref q_o_bytes, .int o_length, .int o_token, .int o_number, .int o_place, .int o_next, .int o_toldOnce])), (q_o_bytes, .inl (cB, 200, .inl o_bytes))] H → va_D A [(q_o, .inr (5, [.ref q_o_bytes, .int o_length, .int o_token, .int o_number, .int o_place, .int o_next, .int o_toldOnce])), (q_o_bytes, .inl (cB, 200, .inl o_bytes))] → va_S A s.heap H locs → lv_has ls 2 [(0, .ref q_o)] → W p l e ({ frames := 1, cells := 0, slots := 0, locals := 21 } : Room) s m ([.ref q_o] : List Value).toArray below meth c H locs 0 0 (MQ below (QV D [(q_o, .inr (5, [.ref q_o_bytes, .int o_length, .int o_token', .int o_number, .int o_place', .int o_next', .int o_toldOnce])), (q_o_bytes, .inl (cB, 200, .inl o_bytes))] A) ([.ref q_o] : List Value).toArray s 0 0 A) (F0 m 0 ls []) := by
    intro n0
    induction n0 with
    | zero =>
      intro o_token o_place o_next H locs ls hf hP hD hS hl
      exact noneNe hf
    | succ n0 ih0 =>
      intro o_token o_place o_next H locs ls hf hP hD hS hl
      have hf : f_X6_readToken_0_b o_length o_bytes (f_X6_readToken_0 o_length o_bytes n0) o_token o_place o_next = some (o_token', o_place', o_next') := hf
      unfold f_X6_readToken_0_b at hf
      refine lv_aload_n hx hb dX6_readToken_0 rfl (lv_at hl 0 rfl) ?_
      refine va_get (D := D) (ci := 5) (v := .int o_next) (C := RX6) (T := TX6) (N := 7) hx hb hts hinX6 hown hK.1 hP 0 rfl rfl 5 (by decide) g24 (fun _ h9 => h9) rfl dX6_readToken_1 ?_
      refine lv_aload_n hx hb dX6_readToken_4 rfl (lv_at hl 0 rfl) ?_
      refine va_get (D := D) (ci := 5) (v := .int o_length) (C := RX6) (T := TX6) (N := 7) hx hb hts hinX6 hown hK.1 hP 0 rfl rfl 1 (by decide) g15 (fun _ h9 => h9) rfl dX6_readToken_5 ?_
      refine lv_icmp_ge (tgt := 37) hx hb dX6_readToken_8 (by decide) (fun c16 => ?_) (fun c16 => ?_)
      · have hf := ite_p hf c16
        exact L37 o_token o_place o_next _ _ ls hf hP hD hS (lv_sub hl [0] rfl)
      · have hf := ite_n hf c16
        refine lv_aload_n hx hb dX6_readToken_11 rfl (lv_at hl 0 rfl) ?_
        refine lv_aload_n hx hb dX6_readToken_12 rfl (lv_at hl 0 rfl) ?_
        refine va_get (D := D) (ci := 5) (v := .int o_next) (C := RX6) (T := TX6) (N := 7) hx hb hts hinX6 hown hK.1 hP 0 rfl rfl 5 (by decide) g24 (fun _ h9 => h9) rfl dX6_readToken_13 ?_
        obtain ⟨r17, h18, hf⟩ := ob1_some hf
        refine roV (c_X6_byteAt l D cB cI cZ cM cN q_o q_o_bytes o_length o_token o_number o_place o_next o_toldOnce o_bytes o_next r17 h18) hfix (cwV 1 hts gX6_readToken_X6_byteAt rfl rfl rfl (by decide +kernel) ⟨Nat.le_of_ble_eq_true rfl, Nat.le_of_ble_eq_true rfl⟩) (subC hP [0, 1] rfl) hK rfl rfl rfl rfl hl.1 rfl (Nat.le_of_ble_eq_true rfl) dX6_readToken_16 ⟨Nat.zero_le _, Nat.zero_le _⟩ ?_
        refine lv_bipush (v := 32) hx hb dX6_readToken_19 (by decide) ?_
        refine lv_icmp_ne (tgt := 37) hx hb dX6_readToken_21 (by decide) (fun c19 => ?_) (fun c19 => ?_)
        · have hf := ite_n hf c19
          exact L37 o_token o_place o_next _ _ ls hf hP hD hS (lv_sub hl [0] rfl)
        · have hf := ite_p hf c19
          refine lv_aload_n hx hb dX6_readToken_24 rfl (lv_at hl 0 rfl) ?_
          refine lv_dup hx hb dX6_readToken_25 rfl ?_
          refine va_get (D := D) (ci := 5) (v := .int o_next) (C := RX6) (T := TX6) (N := 7) hx hb hts hinX6 hown hK.1 hP 0 rfl rfl 5 (by decide) g24 (fun _ h9 => h9) rfl dX6_readToken_26 ?_
          refine lv_iconst (v := 1) hx hb dX6_readToken_29 (by decide) ?_
          refine lv_iadd hx hb dX6_readToken_30 ?_
          refine lv_topi (fun y20 ey20 => ?_)
          have hf := bnd_at hf ey20
          refine va_put (D := D) (ci := 5) (v := .int y20) (ty := .int) (C := RX6) (T := TX6) (N := 7) hx hb hts hinX6 tyX6 tyX6_ok nmX6 hown hK.1 hP hD hS 0 rfl rfl 5 (by decide) g24 (fun _ h9 => h9) rfl (by decide +kernel) rfl rfl (Nat.le_of_ble_eq_true rfl) dX6_readToken_31 (fun H locs hP hD hS => ?_)
          have hP : va_P D vwCl [(q_o, .inr (5, [.ref q_o_bytes, .int o_length, .int o_token, .int o_number, .int o_place, .int y20, .int o_toldOnce])), (q_o_bytes, .inl (cB, 200, .inl o_bytes))] H := hP
          have hD : va_D A [(q_o, .inr (5, [.ref q_o_bytes, .int o_length, .int o_token, .int o_number, .int o_place, .int y20, .int o_toldOnce])), (q_o_bytes, .inl (cB, 200, .inl o_bytes))] := hD
          refine lv_goto (tgt := 0) hx hb dX6_readToken_34 (by decide) ?_
          exact ih0 o_token o_place y20 _ _ ls hf hP hD hS (lv_sub hl [0] rfl)
  unfold f_X6_readToken at hf
  exact L0 FU o_token o_place o_next _ _ ls hf hP hD hS (lv_sub hl [0] rfl)
def f_X6_valueOfToken_44_b (o_length : Int32) (o_token : Int32) (o_place : Int32) (o_next : Int32) (o_bytes : Nat → Int32) (K44 : Int32 → Int32 → Option (Int32)) (x1 : Int32) (x2 : Int32) : Option (Int32) :=
  if o_next ≤ x2 then (
    some (x1)
  ) else (
    ob1 (f_X6_byteAt o_length o_bytes x2) fun r2 =>
    bnd (if (((x1 * 10) + r2) - 48) < 100 then (((x1 * 10) + r2) - 48) else 100) fun y4 =>
    bnd (x2 + 1) fun y5 =>
    K44 y4 y5
  )
def f_X6_valueOfToken_44 (o_length : Int32) (o_token : Int32) (o_place : Int32) (o_next : Int32) (o_bytes : Nat → Int32) : Nat → Int32 → Int32 → Option (Int32)
  | 0 => fun _ _ => none
  | n + 1 => f_X6_valueOfToken_44_b o_length o_token o_place o_next o_bytes (f_X6_valueOfToken_44 o_length o_token o_place o_next o_bytes n)
def f_X6_valueOfToken_37 (o_length : Int32) (o_token : Int32) (o_place : Int32) (o_next : Int32) (o_bytes : Nat → Int32) : Option (Int32) :=
  f_X6_valueOfToken_44 o_length o_token o_place o_next o_bytes FU 0 o_place
def f_X6_valueOfToken (o_length : Int32) (o_token : Int32) (o_place : Int32) (o_next : Int32) (o_bytes : Nat → Int32) : Option (Int32) :=
  if o_token = 2 then (
    ob1 (f_X6_byteAt o_length o_bytes o_place) fun r7 =>
    if r7 = 48 then (
      if (o_next - o_place) ≤ 1 then (
        f_X6_valueOfToken_37 o_length o_token o_place o_next o_bytes
      ) else (
        some (100)
      )
    ) else (
      f_X6_valueOfToken_37 o_length o_token o_place o_next o_bytes
    )
  ) else (
    some (100)
  )
set_option maxHeartbeats 4000000 in
set_option maxRecDepth 100000 in
theorem c_X6_valueOfToken (l : Launch) (D : va_G) (cB cI cZ cM cN : ClassId) (q_o : Nat) (q_o_bytes : Nat) (o_length : Int32) (o_token : Int32) (o_number : Int32) (o_place : Int32) (o_next : Int32) (o_toldOnce : Int32) (o_bytes : Nat → Int32) (r : Int32) (hf : f_X6_valueOfToken o_length o_token o_place o_next o_bytes = some r) : Met l yX6_valueOfToken wsX6_valueOfToken ({ frames := 1, cells := 0, slots := 0, locals := 21 } : Room) (PR D cB cI cZ cM cN [.ref q_o] [(q_o, .inr (5, [.ref q_o_bytes, .int o_length, .int o_token, .int o_number, .int o_place, .int o_next, .int o_toldOnce])), (q_o_bytes, .inl (cB, 200, .inl o_bytes))]) (RI r) 0 0 (fun _ => False) := by
  refine entR (by decide +kernel) rfl (Nat.le_of_ble_eq_true rfl) ?_
  intro p e s m below meth c hx hb hr hml hown hlocks hts hP hK ls hl
  have hown : s.vm.findClass RX6 = some m.cls := hown
  have hl : lv_has ls 3 [(0, .ref q_o)] := hl
  have hfix : CallFix p m c cX6_valueOfToken 3 s ([.ref q_o] : List Value).toArray wsX6_valueOfToken RX6 := ⟨hx, hb, hml, hown, hts⟩
  have hinX6 : ∀ w ∈ u_ws RX6 TX6 7, w ∈ wsX6_valueOfToken := by decide +kernel
  have g24 := hts (.fieldLink RX6 24 "LastCoat$Text" "next" "I") (by decide +kernel)
  have gm103 := hts (.methodLink RX6 103 Lib.Math.min.name) (by decide +kernel)
  have gsmin := hts (.static Lib.Math.min.name) (by decide +kernel)
  have gi := hts (.initialized "java/lang/Math") (by decide +kernel)
  have gcmin := hts (.code Lib.Math.min.name Lib.Math.min.code 2 (some .int)) (by decide +kernel)
  have g44 := hts (.fieldLink RX6 44 "LastCoat$Text" "place" "I") (by decide +kernel)
  have g33 := hts (.fieldLink RX6 33 "LastCoat$Text" "token" "I") (by decide +kernel)
  have L44 : ∀ (n44 : Nat) (x1 : Int32) (x2 : Int32) (ls : Array Slot), f_X6_valueOfToken_44 o_length o_token o_place o_next o_bytes n44 x1 x2 = some r → lv_has ls 3 [(0, .ref q_o), (1, .int x1), (2, .int x2)] → W p l e ({ frames := 1, cells := 0, slots := 0, locals := 21 } : Room) s m ([.ref q_o] : List Value).toArray below meth c s.heap [] 0 0 (MQ below (RI r) ([.ref q_o] : List Value).toArray s 0 0 (fun _ => False)) (F0 m 44 ls []) := by
    intro n44
    induction n44 with
    | zero =>
      intro x1 x2 ls hf hl
      exact noneNe hf
    | succ n44 ih44 =>
      intro x1 x2 ls hf hl
      have hf : f_X6_valueOfToken_44_b o_length o_token o_place o_next o_bytes (f_X6_valueOfToken_44 o_length o_token o_place o_next o_bytes n44) x1 x2 = some r := hf
      unfold f_X6_valueOfToken_44_b at hf
      refine lv_iload_n hx hb dX6_valueOfToken_44 rfl (lv_at hl 2 rfl) ?_
      refine lv_aload_n hx hb dX6_valueOfToken_45 rfl (lv_at hl 0 rfl) ?_
      refine va_get (D := D) (ci := 5) (v := .int o_next) (C := RX6) (T := TX6) (N := 7) hx hb hts hinX6 hown hK.1 hP 0 rfl rfl 5 (by decide) g24 (fun _ h9 => h9) rfl dX6_valueOfToken_46 ?_
      refine lv_icmp_ge (tgt := 77) hx hb dX6_valueOfToken_49 (by decide) (fun c1 => ?_) (fun c1 => ?_)
      · have hf := ite_p hf c1
        refine lv_iload_n hx hb dX6_valueOfToken_77 rfl (lv_at hl 1 rfl) ?_
        have e0_ := Option.some.inj hf
        exact endRI hx hb hr hlocks rfl e0_ dX6_valueOfToken_78
      · have hf := ite_n hf c1
        refine lv_bipush (v := 100) hx hb dX6_valueOfToken_52 (by decide) ?_
        refine lv_iload_n hx hb dX6_valueOfToken_54 rfl (lv_at hl 1 rfl) ?_
        refine lv_bipush (v := 10) hx hb dX6_valueOfToken_55 (by decide) ?_
        refine lv_imul hx hb dX6_valueOfToken_57 ?_
        refine lv_aload_n hx hb dX6_valueOfToken_58 rfl (lv_at hl 0 rfl) ?_
        refine lv_iload_n hx hb dX6_valueOfToken_59 rfl (lv_at hl 2 rfl) ?_
        obtain ⟨r2, h3, hf⟩ := ob1_some hf
        refine roV (c_X6_byteAt l D cB cI cZ cM cN q_o q_o_bytes o_length o_token o_number o_place o_next o_toldOnce o_bytes x2 r2 h3) hfix (cwV 1 hts gX6_valueOfToken_X6_byteAt rfl rfl rfl (by decide +kernel) ⟨Nat.le_of_ble_eq_true rfl, Nat.le_of_ble_eq_true rfl⟩) (subC hP [0, 1] rfl) hK rfl rfl rfl rfl hl.1 rfl (Nat.le_of_ble_eq_true rfl) dX6_valueOfToken_60 ⟨Nat.zero_le _, Nat.zero_le _⟩ ?_
        refine lv_iadd hx hb dX6_valueOfToken_63 ?_
        refine lv_bipush (v := 48) hx hb dX6_valueOfToken_64 (by decide) ?_
        refine lv_isub hx hb dX6_valueOfToken_66 ?_
        refine va_mmin hx hb (by rw [hml]; exact hl.1.symm) hown gm103 gsmin gi gcmin (Nat.le_of_ble_eq_true rfl) (Nat.le_of_ble_eq_true rfl) (Nat.zero_le _) (Nat.zero_le _) dX6_valueOfToken_67 ?_
        refine lv_topi (fun y4 ey4 => ?_)
        have hf := bnd_at hf ey4
        refine lv_istore_n (lv' := [(1, .int y4), (0, .ref q_o), (2, .int x2)]) hx hb dX6_valueOfToken_70 rfl hl (by decide) rfl (fun ls hl => ?_)
        obtain ⟨y5, ey5⟩ : ∃ z : Int32, z = x2 + 1 := ⟨_, rfl⟩
        have hf := bnd_at hf ey5
        refine lv_iinc (v := y5) (lv' := [(2, .int y5), (1, .int y4), (0, .ref q_o)]) hx hb dX6_valueOfToken_71 hl (k := 2) rfl (by rw [ey5]; rfl) (by decide) rfl (fun ls hl => ?_)
        refine lv_goto (tgt := 44) hx hb dX6_valueOfToken_74 (by decide) ?_
        exact ih44 y4 y5 ls hf (lv_sub hl [2, 1, 0] rfl)
  have L37 : ∀ (ls : Array Slot), f_X6_valueOfToken_37 o_length o_token o_place o_next o_bytes = some r → lv_has ls 3 [(0, .ref q_o)] → W p l e ({ frames := 1, cells := 0, slots := 0, locals := 21 } : Room) s m ([.ref q_o] : List Value).toArray below meth c s.heap [] 0 0 (MQ below (RI r) ([.ref q_o] : List Value).toArray s 0 0 (fun _ => False)) (F0 m 37 ls []) := by
    intro ls hf hl
    unfold f_X6_valueOfToken_37 at hf
    refine lv_iconst (v := 0) hx hb dX6_valueOfToken_37 (by decide) ?_
    refine lv_istore_n (lv' := [(1, .int 0), (0, .ref q_o)]) hx hb dX6_valueOfToken_38 rfl hl (by decide) rfl (fun ls hl => ?_)
    refine lv_aload_n hx hb dX6_valueOfToken_39 rfl (lv_at hl 1 rfl) ?_
    refine va_get (D := D) (ci := 5) (v := .int o_place) (C := RX6) (T := TX6) (N := 7) hx hb hts hinX6 hown hK.1 hP 0 rfl rfl 4 (by decide) g44 (fun _ h9 => h9) rfl dX6_valueOfToken_40 ?_
    refine lv_istore_n (lv' := [(2, .int o_place), (1, .int 0), (0, .ref q_o)]) hx hb dX6_valueOfToken_43 rfl hl (by decide) rfl (fun ls hl => ?_)
    exact L44 FU 0 o_place ls hf (lv_sub hl [2, 1, 0] rfl)
  unfold f_X6_valueOfToken at hf
  refine lv_aload_n hx hb dX6_valueOfToken_0 rfl (lv_at hl 0 rfl) ?_
  refine va_get (D := D) (ci := 5) (v := .int o_token) (C := RX6) (T := TX6) (N := 7) hx hb hts hinX6 hown hK.1 hP 0 rfl rfl 2 (by decide) g33 (fun _ h9 => h9) rfl dX6_valueOfToken_1 ?_
  refine lv_iconst (v := 2) hx hb dX6_valueOfToken_4 (by decide) ?_
  refine lv_icmp_ne (tgt := 34) hx hb dX6_valueOfToken_5 (by decide) (fun c6 => ?_) (fun c6 => ?_)
  · have hf := ite_n hf c6
    refine lv_bipush (v := 100) hx hb dX6_valueOfToken_34 (by decide) ?_
    have e0_ := Option.some.inj hf
    exact endRI hx hb hr hlocks rfl e0_ dX6_valueOfToken_36
  · have hf := ite_p hf c6
    refine lv_aload_n hx hb dX6_valueOfToken_8 rfl (lv_at hl 0 rfl) ?_
    refine lv_aload_n hx hb dX6_valueOfToken_9 rfl (lv_at hl 0 rfl) ?_
    refine va_get (D := D) (ci := 5) (v := .int o_place) (C := RX6) (T := TX6) (N := 7) hx hb hts hinX6 hown hK.1 hP 0 rfl rfl 4 (by decide) g44 (fun _ h9 => h9) rfl dX6_valueOfToken_10 ?_
    obtain ⟨r7, h8, hf⟩ := ob1_some hf
    refine roV (c_X6_byteAt l D cB cI cZ cM cN q_o q_o_bytes o_length o_token o_number o_place o_next o_toldOnce o_bytes o_place r7 h8) hfix (cwV 1 hts gX6_valueOfToken_X6_byteAt rfl rfl rfl (by decide +kernel) ⟨Nat.le_of_ble_eq_true rfl, Nat.le_of_ble_eq_true rfl⟩) (subC hP [0, 1] rfl) hK rfl rfl rfl rfl hl.1 rfl (Nat.le_of_ble_eq_true rfl) dX6_valueOfToken_13 ⟨Nat.zero_le _, Nat.zero_le _⟩ ?_
    refine lv_bipush (v := 48) hx hb dX6_valueOfToken_16 (by decide) ?_
    refine lv_icmp_ne (tgt := 37) hx hb dX6_valueOfToken_18 (by decide) (fun c9 => ?_) (fun c9 => ?_)
    · have hf := ite_n hf c9
      exact L37 ls hf (lv_sub hl [0] rfl)
    · have hf := ite_p hf c9
      refine lv_aload_n hx hb dX6_valueOfToken_21 rfl (lv_at hl 0 rfl) ?_
      refine va_get (D := D) (ci := 5) (v := .int o_next) (C := RX6) (T := TX6) (N := 7) hx hb hts hinX6 hown hK.1 hP 0 rfl rfl 5 (by decide) g24 (fun _ h9 => h9) rfl dX6_valueOfToken_22 ?_
      refine lv_aload_n hx hb dX6_valueOfToken_25 rfl (lv_at hl 0 rfl) ?_
      refine va_get (D := D) (ci := 5) (v := .int o_place) (C := RX6) (T := TX6) (N := 7) hx hb hts hinX6 hown hK.1 hP 0 rfl rfl 4 (by decide) g44 (fun _ h9 => h9) rfl dX6_valueOfToken_26 ?_
      refine lv_isub hx hb dX6_valueOfToken_29 ?_
      refine lv_iconst (v := 1) hx hb dX6_valueOfToken_30 (by decide) ?_
      refine lv_icmp_le (tgt := 37) hx hb dX6_valueOfToken_31 (by decide) (fun c10 => ?_) (fun c10 => ?_)
      · have hf := ite_p hf c10
        exact L37 ls hf (lv_sub hl [0] rfl)
      · have hf := ite_n hf c10
        refine lv_bipush (v := 100) hx hb dX6_valueOfToken_34 (by decide) ?_
        have e0_ := Option.some.inj hf
        exact endRI hx hb hr hlocks rfl e0_ dX6_valueOfToken_36
def f_X6_isWord_20_b (o_length : Int32) (o_place : Int32) (o_next : Int32) (o_bytes : Nat → Int32) (p1 : Nat) (K20 : Int32 → Option (Int32)) (x2 : Int32) : Option (Int32) :=
  if (sln p1) ≤ x2 then (
    some (1)
  ) else (
    ob1 (f_X6_byteAt o_length o_bytes (o_place + x2)) fun r2 =>
    ing x2 (slens.getD p1 0) <|
    if r2 = (sch p1 x2) then (
      bnd (x2 + 1) fun y6 =>
      K20 y6
    ) else (
      some (0)
    )
  )
def f_X6_isWord_20 (o_length : Int32) (o_place : Int32) (o_next : Int32) (o_bytes : Nat → Int32) (p1 : Nat) : Nat → Int32 → Option (Int32)
  | 0 => fun _ => none
  | n + 1 => f_X6_isWord_20_b o_length o_place o_next o_bytes p1 (f_X6_isWord_20 o_length o_place o_next o_bytes p1 n)
def f_X6_isWord (o_length : Int32) (o_place : Int32) (o_next : Int32) (o_bytes : Nat → Int32) (p1 : Nat) : Option (Int32) :=
  if (o_next - o_place) = (sln p1) then (
    f_X6_isWord_20 o_length o_place o_next o_bytes p1 FU 0
  ) else (
    some (0)
  )
set_option maxHeartbeats 4000000 in
set_option maxRecDepth 100000 in
theorem c_X6_isWord (l : Launch) (D : va_G) (cB cI cZ cM cN : ClassId) (adK adV : Nat → Nat) (qf : Option Nat) (q_o : Nat) (q_o_bytes : Nat) (o_length : Int32) (o_token : Int32) (o_number : Int32) (o_place : Int32) (o_next : Int32) (o_toldOnce : Int32) (o_bytes : Nat → Int32) (p1 : Nat) (hp1 : p1 < 5) (r : Int32) (hf : f_X6_isWord o_length o_place o_next o_bytes p1 = some r) : Met l yX6_isWord wsX6_isWord ({ frames := 4, cells := 0, slots := 0, locals := 85 } : Room) (PRs D cB cI cZ cM cN adK adV qf [.ref q_o, .ref (adK p1)] [(q_o, .inr (5, [.ref q_o_bytes, .int o_length, .int o_token, .int o_number, .int o_place, .int o_next, .int o_toldOnce])), (q_o_bytes, .inl (cB, 200, .inl o_bytes))]) (RI r) 0 0 (fun _ => False) := by
  refine entRs (by decide +kernel) rfl (Nat.le_of_ble_eq_true rfl) ?_
  intro p e s m below meth c hx hb hr hml hown hlocks hts hP hK hKS hST ls hl
  have hown : s.vm.findClass RX6 = some m.cls := hown
  have hl : lv_has ls 3 [(0, .ref q_o), (1, .ref (adK p1))] := hl
  have hfix : CallFix p m c cX6_isWord 3 s ([.ref q_o, .ref (adK p1)] : List Value).toArray wsX6_isWord RX6 := ⟨hx, hb, hml, hown, hts⟩
  have hinX6 : ∀ w ∈ u_ws RX6 TX6 7, w ∈ wsX6_isWord := by decide +kernel
  have g44 := hts (.fieldLink RX6 44 "LastCoat$Text" "place" "I") (by decide +kernel)
  have g24 := hts (.fieldLink RX6 24 "LastCoat$Text" "next" "I") (by decide +kernel)
  have L20 : ∀ (n20 : Nat) (x2 : Int32) (ls : Array Slot), f_X6_isWord_20 o_length o_place o_next o_bytes p1 n20 x2 = some r → lv_has ls 3 [(0, .ref q_o), (1, .ref (adK p1)), (2, .int x2)] → W p l e ({ frames := 4, cells := 0, slots := 0, locals := 85 } : Room) s m ([.ref q_o, .ref (adK p1)] : List Value).toArray below meth c s.heap [] 0 0 (MQ below (RI r) ([.ref q_o, .ref (adK p1)] : List Value).toArray s 0 0 (fun _ => False)) (F0 m 20 ls []) := by
    intro n20
    induction n20 with
    | zero =>
      intro x2 ls hf hl
      exact noneNe hf
    | succ n20 ih20 =>
      intro x2 ls hf hl
      have hf : f_X6_isWord_20_b o_length o_place o_next o_bytes p1 (f_X6_isWord_20 o_length o_place o_next o_bytes p1 n20) x2 = some r := hf
      unfold f_X6_isWord_20_b at hf
      refine lv_iload_n hx hb dX6_isWord_20 rfl (lv_at hl 2 rfl) ?_
      refine lv_aload_n hx hb dX6_isWord_21 rfl (lv_at hl 1 rfl) ?_
      refine vp_callSi (W.runV (As := []) (rest := [.int x2]) hfix (c_strlen l adK adV qf p1 hp1) (cwV 0 hts gX6_isWord_J0_length_8abf5 rfl rfl rfl (by decide +kernel) ⟨Nat.le_of_ble_eq_true rfl, Nat.le_of_ble_eq_true rfl⟩) ⟨PSt.blind, vk_recv hKS.1 hp1 va_S.rf, PSt.at_ hKS⟩ rfl rfl hl.1 rfl (lv_room (Nat.le_of_ble_eq_true rfl)) dX6_isWord_22 ⟨Nat.zero_le _, Nat.zero_le _⟩) (fun z hz0 => ?_)
      subst hz0
      refine lv_icmp_ge (tgt := 54) hx hb dX6_isWord_25 (by decide) (fun c1 => ?_) (fun c1 => ?_)
      · have hf := ite_p hf c1
        refine lv_iconst (v := 1) hx hb dX6_isWord_54 (by decide) ?_
        have e0_ := Option.some.inj hf
        exact endRI hx hb hr hlocks rfl e0_ dX6_isWord_55
      · have hf := ite_n hf c1
        refine lv_aload_n hx hb dX6_isWord_28 rfl (lv_at hl 0 rfl) ?_
        refine lv_aload_n hx hb dX6_isWord_29 rfl (lv_at hl 0 rfl) ?_
        refine va_get (D := D) (ci := 5) (v := .int o_place) (C := RX6) (T := TX6) (N := 7) hx hb hts hinX6 hown hK.1 hP 0 rfl rfl 4 (by decide) g44 (fun _ h9 => h9) rfl dX6_isWord_30 ?_
        refine lv_iload_n hx hb dX6_isWord_33 rfl (lv_at hl 2 rfl) ?_
        refine lv_iadd hx hb dX6_isWord_34 ?_
        obtain ⟨r2, h3, hf⟩ := ob1_some hf
        refine roV (c_X6_byteAt l D cB cI cZ cM cN q_o q_o_bytes o_length o_token o_number o_place o_next o_toldOnce o_bytes (o_place + x2) r2 h3) hfix (cwV 1 hts gX6_isWord_X6_byteAt rfl rfl rfl (by decide +kernel) ⟨Nat.le_of_ble_eq_true rfl, Nat.le_of_ble_eq_true rfl⟩) (subC hP [0, 1] rfl) hK rfl rfl rfl rfl hl.1 rfl (Nat.le_of_ble_eq_true rfl) dX6_isWord_35 ⟨Nat.zero_le _, Nat.zero_le _⟩ ?_
        refine lv_aload_n hx hb dX6_isWord_38 rfl (lv_at hl 1 rfl) ?_
        refine lv_iload_n hx hb dX6_isWord_39 rfl (lv_at hl 2 rfl) ?_
        obtain ⟨g4, hf⟩ := ing_some hf
        refine vp_callSi (W.runV (As := [.int x2]) (rest := [.int r2]) hfix (c_charAt0 l adK adV qf p1 hp1 x2 g4) (cwV 1 hts gX6_isWord_J0_charAt_5068e rfl rfl rfl (by decide +kernel) ⟨Nat.le_of_ble_eq_true rfl, Nat.le_of_ble_eq_true rfl⟩) ⟨PSt.blind, vk_recv hKS.1 hp1 va_S.rf, PSt.at_ hKS⟩ rfl rfl hl.1 rfl (lv_room (Nat.le_of_ble_eq_true rfl)) dX6_isWord_40 ⟨Nat.zero_le _, Nat.zero_le _⟩) (fun z hz0 => ?_)
        subst hz0
        refine lv_icmp_eq (tgt := 48) hx hb dX6_isWord_43 (by decide) (fun c5 => ?_) (fun c5 => ?_)
        · have hf := ite_p hf c5
          obtain ⟨y6, ey6⟩ : ∃ z : Int32, z = x2 + 1 := ⟨_, rfl⟩
          have hf := bnd_at hf ey6
          refine lv_iinc (v := y6) (lv' := [(2, .int y6), (0, .ref q_o), (1, .ref (adK p1))]) hx hb dX6_isWord_48 hl (k := 2) rfl (by rw [ey6]; rfl) (by decide) rfl (fun ls hl => ?_)
          refine lv_goto (tgt := 20) hx hb dX6_isWord_51 (by decide) ?_
          exact ih20 y6 ls hf (lv_sub hl [1, 2, 0] rfl)
        · have hf := ite_n hf c5
          refine lv_iconst (v := 0) hx hb dX6_isWord_46 (by decide) ?_
          have e0_ := Option.some.inj hf
          exact endRI hx hb hr hlocks rfl e0_ dX6_isWord_47
  unfold f_X6_isWord at hf
  refine lv_aload_n hx hb dX6_isWord_0 rfl (lv_at hl 0 rfl) ?_
  refine va_get (D := D) (ci := 5) (v := .int o_next) (C := RX6) (T := TX6) (N := 7) hx hb hts hinX6 hown hK.1 hP 0 rfl rfl 5 (by decide) g24 (fun _ h9 => h9) rfl dX6_isWord_1 ?_
  refine lv_aload_n hx hb dX6_isWord_4 rfl (lv_at hl 0 rfl) ?_
  refine va_get (D := D) (ci := 5) (v := .int o_place) (C := RX6) (T := TX6) (N := 7) hx hb hts hinX6 hown hK.1 hP 0 rfl rfl 4 (by decide) g44 (fun _ h9 => h9) rfl dX6_isWord_5 ?_
  refine lv_isub hx hb dX6_isWord_8 ?_
  refine lv_aload_n hx hb dX6_isWord_9 rfl (lv_at hl 1 rfl) ?_
  refine vp_callSi (W.runV (As := []) (rest := [.int (o_next - o_place)]) hfix (c_strlen l adK adV qf p1 hp1) (cwV 0 hts gX6_isWord_J0_length_8abf5 rfl rfl rfl (by decide +kernel) ⟨Nat.le_of_ble_eq_true rfl, Nat.le_of_ble_eq_true rfl⟩) ⟨PSt.blind, vk_recv hKS.1 hp1 va_S.rf, PSt.at_ hKS⟩ rfl rfl hl.1 rfl (lv_room (Nat.le_of_ble_eq_true rfl)) dX6_isWord_10 ⟨Nat.zero_le _, Nat.zero_le _⟩) (fun z hz0 => ?_)
  subst hz0
  refine lv_icmp_eq (tgt := 18) hx hb dX6_isWord_13 (by decide) (fun c7 => ?_) (fun c7 => ?_)
  · have hf := ite_p hf c7
    refine lv_iconst (v := 0) hx hb dX6_isWord_18 (by decide) ?_
    refine lv_istore_n (lv' := [(2, .int 0), (0, .ref q_o), (1, .ref (adK p1))]) hx hb dX6_isWord_19 rfl hl (by decide) rfl (fun ls hl => ?_)
    exact L20 FU 0 ls hf (lv_sub hl [1, 2, 0] rfl)
  · have hf := ite_n hf c7
    refine lv_iconst (v := 0) hx hb dX6_isWord_16 (by decide) ?_
    have e0_ := Option.some.inj hf
    exact endRI hx hb hr hlocks rfl e0_ dX6_isWord_17
def f_X6_whichWord (o_length : Int32) (o_place : Int32) (o_next : Int32) (o_bytes : Nat → Int32) : Option (Int32) :=
  ob1 (f_X6_isWord o_length o_place o_next o_bytes 0) fun r1 =>
  if r1 = 0 then (
    ob1 (f_X6_isWord o_length o_place o_next o_bytes 1) fun r4 =>
    if r4 = 0 then (
      ob1 (f_X6_isWord o_length o_place o_next o_bytes 2) fun r7 =>
      if r7 = 0 then (
        ob1 (f_X6_isWord o_length o_place o_next o_bytes 3) fun r10 =>
        if r10 = 0 then (
          ob1 (f_X6_isWord o_length o_place o_next o_bytes 4) fun r13 =>
          if r13 = 0 then (
            some (5)
          ) else (
            some (4)
          )
        ) else (
          some (3)
        )
      ) else (
        some (2)
      )
    ) else (
      some (1)
    )
  ) else (
    some (0)
  )
set_option maxHeartbeats 4000000 in
set_option maxRecDepth 100000 in
theorem c_X6_whichWord (l : Launch) (D : va_G) (cB cI cZ cM cN : ClassId) (adK adV : Nat → Nat) (qf : Option Nat) (q_o : Nat) (q_o_bytes : Nat) (o_length : Int32) (o_token : Int32) (o_number : Int32) (o_place : Int32) (o_next : Int32) (o_toldOnce : Int32) (o_bytes : Nat → Int32) (r : Int32) (hf : f_X6_whichWord o_length o_place o_next o_bytes = some r) : Met l yX6_whichWord wsX6_whichWord ({ frames := 5, cells := 0, slots := 0, locals := 107 } : Room) (PRs D cB cI cZ cM cN adK adV qf [.ref q_o] [(q_o, .inr (5, [.ref q_o_bytes, .int o_length, .int o_token, .int o_number, .int o_place, .int o_next, .int o_toldOnce])), (q_o_bytes, .inl (cB, 200, .inl o_bytes))]) (RI r) 0 0 (fun _ => False) := by
  refine entRs (by decide +kernel) rfl (Nat.le_of_ble_eq_true rfl) ?_
  intro p e s m below meth c hx hb hr hml hown hlocks hts hP hK hKS hST ls hl
  have hown : s.vm.findClass RX6 = some m.cls := hown
  have hl : lv_has ls 1 [(0, .ref q_o)] := hl
  have hfix : CallFix p m c cX6_whichWord 1 s ([.ref q_o] : List Value).toArray wsX6_whichWord RX6 := ⟨hx, hb, hml, hown, hts⟩
  unfold f_X6_whichWord at hf
  refine lv_aload_n hx hb dX6_whichWord_0 rfl (lv_at hl 0 rfl) ?_
  refine va_ldcS hx hb hown hST.1 dX6_whichWord_1 ?_
  obtain ⟨r1, h2, hf⟩ := ob1_some hf
  refine roVs (c_X6_isWord l D cB cI cZ cM cN adK adV qf q_o q_o_bytes o_length o_token o_number o_place o_next o_toldOnce o_bytes 0 (by decide) r1 h2) hfix (cwV 1 hts gX6_whichWord_X6_isWord rfl rfl rfl (by decide +kernel) ⟨Nat.le_of_ble_eq_true rfl, Nat.le_of_ble_eq_true rfl⟩) (subC hP [0, 1] rfl) hK hKS hST rfl rfl rfl rfl hl.1 rfl (Nat.le_of_ble_eq_true rfl) dX6_whichWord_3 ⟨Nat.zero_le _, Nat.zero_le _⟩ ?_
  refine lv_if_eq (tgt := 11) hx hb dX6_whichWord_6 (by decide) (fun c3 => ?_) (fun c3 => ?_)
  · have hf := ite_p hf c3
    refine lv_aload_n hx hb dX6_whichWord_11 rfl (lv_at hl 0 rfl) ?_
    refine va_ldcS hx hb hown hST.2.1 dX6_whichWord_12 ?_
    obtain ⟨r4, h5, hf⟩ := ob1_some hf
    refine roVs (c_X6_isWord l D cB cI cZ cM cN adK adV qf q_o q_o_bytes o_length o_token o_number o_place o_next o_toldOnce o_bytes 1 (by decide) r4 h5) hfix (cwV 1 hts gX6_whichWord_X6_isWord rfl rfl rfl (by decide +kernel) ⟨Nat.le_of_ble_eq_true rfl, Nat.le_of_ble_eq_true rfl⟩) (subC hP [0, 1] rfl) hK hKS hST rfl rfl rfl rfl hl.1 rfl (Nat.le_of_ble_eq_true rfl) dX6_whichWord_14 ⟨Nat.zero_le _, Nat.zero_le _⟩ ?_
    refine lv_if_eq (tgt := 22) hx hb dX6_whichWord_17 (by decide) (fun c6 => ?_) (fun c6 => ?_)
    · have hf := ite_p hf c6
      refine lv_aload_n hx hb dX6_whichWord_22 rfl (lv_at hl 0 rfl) ?_
      refine va_ldcS hx hb hown hST.2.2.1 dX6_whichWord_23 ?_
      obtain ⟨r7, h8, hf⟩ := ob1_some hf
      refine roVs (c_X6_isWord l D cB cI cZ cM cN adK adV qf q_o q_o_bytes o_length o_token o_number o_place o_next o_toldOnce o_bytes 2 (by decide) r7 h8) hfix (cwV 1 hts gX6_whichWord_X6_isWord rfl rfl rfl (by decide +kernel) ⟨Nat.le_of_ble_eq_true rfl, Nat.le_of_ble_eq_true rfl⟩) (subC hP [0, 1] rfl) hK hKS hST rfl rfl rfl rfl hl.1 rfl (Nat.le_of_ble_eq_true rfl) dX6_whichWord_25 ⟨Nat.zero_le _, Nat.zero_le _⟩ ?_
      refine lv_if_eq (tgt := 33) hx hb dX6_whichWord_28 (by decide) (fun c9 => ?_) (fun c9 => ?_)
      · have hf := ite_p hf c9
        refine lv_aload_n hx hb dX6_whichWord_33 rfl (lv_at hl 0 rfl) ?_
        refine va_ldcS hx hb hown hST.2.2.2.1 dX6_whichWord_34 ?_
        obtain ⟨r10, h11, hf⟩ := ob1_some hf
        refine roVs (c_X6_isWord l D cB cI cZ cM cN adK adV qf q_o q_o_bytes o_length o_token o_number o_place o_next o_toldOnce o_bytes 3 (by decide) r10 h11) hfix (cwV 1 hts gX6_whichWord_X6_isWord rfl rfl rfl (by decide +kernel) ⟨Nat.le_of_ble_eq_true rfl, Nat.le_of_ble_eq_true rfl⟩) (subC hP [0, 1] rfl) hK hKS hST rfl rfl rfl rfl hl.1 rfl (Nat.le_of_ble_eq_true rfl) dX6_whichWord_36 ⟨Nat.zero_le _, Nat.zero_le _⟩ ?_
        refine lv_if_eq (tgt := 44) hx hb dX6_whichWord_39 (by decide) (fun c12 => ?_) (fun c12 => ?_)
        · have hf := ite_p hf c12
          refine lv_aload_n hx hb dX6_whichWord_44 rfl (lv_at hl 0 rfl) ?_
          refine va_ldcS hx hb hown hST.2.2.2.2 dX6_whichWord_45 ?_
          obtain ⟨r13, h14, hf⟩ := ob1_some hf
          refine roVs (c_X6_isWord l D cB cI cZ cM cN adK adV qf q_o q_o_bytes o_length o_token o_number o_place o_next o_toldOnce o_bytes 4 (by decide) r13 h14) hfix (cwV 1 hts gX6_whichWord_X6_isWord rfl rfl rfl (by decide +kernel) ⟨Nat.le_of_ble_eq_true rfl, Nat.le_of_ble_eq_true rfl⟩) (subC hP [0, 1] rfl) hK hKS hST rfl rfl rfl rfl hl.1 rfl (Nat.le_of_ble_eq_true rfl) dX6_whichWord_47 ⟨Nat.zero_le _, Nat.zero_le _⟩ ?_
          refine lv_if_eq (tgt := 57) hx hb dX6_whichWord_50 (by decide) (fun c15 => ?_) (fun c15 => ?_)
          · have hf := ite_p hf c15
            refine lv_iconst (v := 5) hx hb dX6_whichWord_57 (by decide) ?_
            have e0_ := Option.some.inj hf
            exact endRI hx hb hr hlocks rfl e0_ dX6_whichWord_58
          · have hf := ite_n hf c15
            refine lv_iconst (v := 4) hx hb dX6_whichWord_53 (by decide) ?_
            refine lv_goto (tgt := 58) hx hb dX6_whichWord_54 (by decide) ?_
            have e0_ := Option.some.inj hf
            exact endRI hx hb hr hlocks rfl e0_ dX6_whichWord_58
        · have hf := ite_n hf c12
          refine lv_iconst (v := 3) hx hb dX6_whichWord_42 (by decide) ?_
          have e0_ := Option.some.inj hf
          exact endRI hx hb hr hlocks rfl e0_ dX6_whichWord_43
      · have hf := ite_n hf c9
        refine lv_iconst (v := 2) hx hb dX6_whichWord_31 (by decide) ?_
        have e0_ := Option.some.inj hf
        exact endRI hx hb hr hlocks rfl e0_ dX6_whichWord_32
    · have hf := ite_n hf c6
      refine lv_iconst (v := 1) hx hb dX6_whichWord_20 (by decide) ?_
      have e0_ := Option.some.inj hf
      exact endRI hx hb hr hlocks rfl e0_ dX6_whichWord_21
  · have hf := ite_n hf c3
    refine lv_iconst (v := 0) hx hb dX6_whichWord_9 (by decide) ?_
    have e0_ := Option.some.inj hf
    exact endRI hx hb hr hlocks rfl e0_ dX6_whichWord_10
def f_X6_readNumber (o_length : Int32) (o_bytes : Nat → Int32) (o_token : Int32) (o_number : Int32) (o_place : Int32) (o_next : Int32) (p1 : Int32) (p2 : Int32) : Option (Int32 × Int32 × Int32 × Int32 × Int32) :=
  ob3 (f_X6_readToken o_length o_bytes o_token o_place o_next) fun m1 m2 m3 =>
  ob1 (f_X6_valueOfToken o_length m1 m2 m3 o_bytes) fun r5 =>
  if r5 < p1 then (
    some (0, m1, r5, m2, m3)
  ) else (
    if p2 < r5 then (
      some (0, m1, r5, m2, m3)
    ) else (
      some (1, m1, r5, m2, m3)
    )
  )
set_option maxHeartbeats 4000000 in
set_option maxRecDepth 100000 in
theorem c_X6_readNumber (l : Launch) (D : va_G) (cB cI cZ cM cN : ClassId) (q_o : Nat) (q_o_bytes : Nat) (o_length : Int32) (o_token : Int32) (o_number : Int32) (o_place : Int32) (o_next : Int32) (o_toldOnce : Int32) (o_bytes : Nat → Int32) (p1 : Int32) (p2 : Int32) (r : Int32) (o_token' : Int32) (o_number' : Int32) (o_place' : Int32) (o_next' : Int32) (sz : Nat) (hf : f_X6_readNumber o_length o_bytes o_token o_number o_place o_next p1 p2 = some (r, o_token', o_number', o_place', o_next')) : Met l yX6_readNumber wsX6_readNumber ({ frames := 2, cells := 0, slots := 0, locals := 43 } : Room) (PM D cB cI cZ cM cN [.ref q_o, .int p1, .int p2] [(q_o, .inr (5, [.ref q_o_bytes, .int o_length, .int o_token, .int o_number, .int o_place, .int o_next, .int o_toldOnce])), (q_o_bytes, .inl (cB, 200, .inl o_bytes))] sz) (QI D [(q_o, .inr (5, [.ref q_o_bytes, .int o_length, .int o_token', .int o_number', .int o_place', .int o_next', .int o_toldOnce])), (q_o_bytes, .inl (cB, 200, .inl o_bytes))] r (va_A [(q_o, .inr (5, [.ref q_o_bytes, .int o_length, .int o_token, .int o_number, .int o_place, .int o_next, .int o_toldOnce])), (q_o_bytes, .inl (cB, 200, .inl o_bytes))] sz)) 0 0 (va_A [(q_o, .inr (5, [.ref q_o_bytes, .int o_length, .int o_token, .int o_number, .int o_place, .int o_next, .int o_toldOnce])), (q_o_bytes, .inl (cB, 200, .inl o_bytes))] sz) := by
  refine entM (l := l) (y := yX6_readNumber) (ws := wsX6_readNumber) (cc := cX6_readNumber) (av := [.ref q_o, .int p1, .int p2]) (wc := [(q_o, .inr (5, [.ref q_o_bytes, .int o_length, .int o_token, .int o_number, .int o_place, .int o_next, .int o_toldOnce])), (q_o_bytes, .inl (cB, 200, .inl o_bytes))]) (sz := sz) (Qc := fun A => QI D [(q_o, .inr (5, [.ref q_o_bytes, .int o_length, .int o_token', .int o_number', .int o_place', .int o_next', .int o_toldOnce])), (q_o_bytes, .inl (cB, 200, .inl o_bytes))] r A) (by decide +kernel) rfl (Nat.le_of_ble_eq_true rfl) ?_
  intro A p e s m below meth c hx hb hr hml hown hlocks hts hK hA H locs hP hD hS ls hl
  have hown : s.vm.findClass RX6 = some m.cls := hown
  have hl : lv_has ls 3 [(0, .ref q_o), (1, .int p1), (2, .int p2)] := hl
  have hfix : CallFix p m c cX6_readNumber 3 s ([.ref q_o, .int p1, .int p2] : List Value).toArray wsX6_readNumber RX6 := ⟨hx, hb, hml, hown, hts⟩
  have hinX6 : ∀ w ∈ u_ws RX6 TX6 7, w ∈ wsX6_readNumber := by decide +kernel
  have g64 := hts (.fieldLink RX6 64 "LastCoat$Text" "number" "I") (by decide +kernel)
  unfold f_X6_readNumber at hf
  refine lv_aload_n hx hb dX6_readNumber_0 rfl (lv_at hl 0 rfl) ?_
  obtain ⟨m1, m2, m3, h4, hf⟩ := ob3_some hf
  refine muVv (wr := []) (ws1 := [(q_o, .inr (5, [.ref q_o_bytes, .int o_length, .int m1, .int o_number, .int m2, .int m3, .int o_toldOnce])), (q_o_bytes, .inl (cB, 200, .inl o_bytes))]) (c_X6_readToken l D cB cI cZ cM cN q_o q_o_bytes o_length o_token o_number o_place o_next o_toldOnce o_bytes m1 m2 m3 H.size h4) hfix (cwV 0 hts gX6_readNumber_X6_readToken rfl rfl rfl (by decide +kernel) ⟨Nat.le_of_ble_eq_true rfl, Nat.le_of_ble_eq_true rfl⟩) hP hK hD hA hS [0, 1] [] [0, 1] rfl rfl rfl rfl (by decide) rfl rfl rfl rfl rfl rfl hl.1 rfl (Nat.le_of_ble_eq_true rfl) dX6_readNumber_1 ⟨Nat.zero_le _, Nat.zero_le _⟩ (fun H locs hP hD hS => ?_)
  refine lv_aload_n hx hb dX6_readNumber_4 rfl (lv_at hl 0 rfl) ?_
  refine lv_aload_n hx hb dX6_readNumber_5 rfl (lv_at hl 0 rfl) ?_
  obtain ⟨r5, h6, hf⟩ := ob1_some hf
  refine roV (c_X6_valueOfToken l D cB cI cZ cM cN q_o q_o_bytes o_length m1 o_number m2 m3 o_toldOnce o_bytes r5 h6) hfix (cwV 0 hts gX6_readNumber_X6_valueOfToken rfl rfl rfl (by decide +kernel) ⟨Nat.le_of_ble_eq_true rfl, Nat.le_of_ble_eq_true rfl⟩) (subC hP [0, 1] rfl) hK rfl rfl rfl rfl hl.1 rfl (Nat.le_of_ble_eq_true rfl) dX6_readNumber_6 ⟨Nat.zero_le _, Nat.zero_le _⟩ ?_
  refine va_put (D := D) (ci := 5) (v := .int r5) (ty := .int) (C := RX6) (T := TX6) (N := 7) hx hb hts hinX6 tyX6 tyX6_ok nmX6 hown hK.1 hP hD hS 0 rfl rfl 3 (by decide) g64 (fun _ h9 => h9) rfl (by decide +kernel) rfl rfl (Nat.le_of_ble_eq_true rfl) dX6_readNumber_9 (fun H locs hP hD hS => ?_)
  have hP : va_P D vwCl [(q_o, .inr (5, [.ref q_o_bytes, .int o_length, .int m1, .int r5, .int m2, .int m3, .int o_toldOnce])), (q_o_bytes, .inl (cB, 200, .inl o_bytes))] H := hP
  have hD : va_D A [(q_o, .inr (5, [.ref q_o_bytes, .int o_length, .int m1, .int r5, .int m2, .int m3, .int o_toldOnce])), (q_o_bytes, .inl (cB, 200, .inl o_bytes))] := hD
  refine lv_aload_n hx hb dX6_readNumber_12 rfl (lv_at hl 0 rfl) ?_
  refine va_get (D := D) (ci := 5) (v := .int r5) (C := RX6) (T := TX6) (N := 7) hx hb hts hinX6 hown hK.1 hP 0 rfl rfl 3 (by decide) g64 (fun _ h9 => h9) rfl dX6_readNumber_13 ?_
  refine lv_iload_n hx hb dX6_readNumber_16 rfl (lv_at hl 1 rfl) ?_
  refine lv_icmp_lt (tgt := 32) hx hb dX6_readNumber_17 (by decide) (fun c7 => ?_) (fun c7 => ?_)
  · have hf := ite_p hf c7
    refine lv_iconst (v := 0) hx hb dX6_readNumber_32 (by decide) ?_
    obtain ⟨e0_, e1_, e2_, e3_, e4_⟩ := tup5 hf
    have hP : va_P D vwCl [(q_o, .inr (5, [.ref q_o_bytes, .int o_length, .int o_token', .int o_number', .int o_place', .int o_next', .int o_toldOnce])), (q_o_bytes, .inl (cB, 200, .inl o_bytes))] H := by rw [← e1_, ← e2_, ← e3_, ← e4_]; exact hP
    have hD : va_D A [(q_o, .inr (5, [.ref q_o_bytes, .int o_length, .int o_token', .int o_number', .int o_place', .int o_next', .int o_toldOnce])), (q_o_bytes, .inl (cB, 200, .inl o_bytes))] := by rw [← e1_, ← e2_, ← e3_, ← e4_]; exact hD
    exact endMI hx hb hr hlocks rfl hP hD hS e0_ dX6_readNumber_33
  · have hf := ite_n hf c7
    refine lv_aload_n hx hb dX6_readNumber_20 rfl (lv_at hl 0 rfl) ?_
    refine va_get (D := D) (ci := 5) (v := .int r5) (C := RX6) (T := TX6) (N := 7) hx hb hts hinX6 hown hK.1 hP 0 rfl rfl 3 (by decide) g64 (fun _ h9 => h9) rfl dX6_readNumber_21 ?_
    refine lv_iload_n hx hb dX6_readNumber_24 rfl (lv_at hl 2 rfl) ?_
    refine lv_icmp_gt (tgt := 32) hx hb dX6_readNumber_25 (by decide) (fun c8 => ?_) (fun c8 => ?_)
    · have hf := ite_p hf c8
      refine lv_iconst (v := 0) hx hb dX6_readNumber_32 (by decide) ?_
      obtain ⟨e0_, e1_, e2_, e3_, e4_⟩ := tup5 hf
      have hP : va_P D vwCl [(q_o, .inr (5, [.ref q_o_bytes, .int o_length, .int o_token', .int o_number', .int o_place', .int o_next', .int o_toldOnce])), (q_o_bytes, .inl (cB, 200, .inl o_bytes))] H := by rw [← e1_, ← e2_, ← e3_, ← e4_]; exact hP
      have hD : va_D A [(q_o, .inr (5, [.ref q_o_bytes, .int o_length, .int o_token', .int o_number', .int o_place', .int o_next', .int o_toldOnce])), (q_o_bytes, .inl (cB, 200, .inl o_bytes))] := by rw [← e1_, ← e2_, ← e3_, ← e4_]; exact hD
      exact endMI hx hb hr hlocks rfl hP hD hS e0_ dX6_readNumber_33
    · have hf := ite_n hf c8
      refine lv_iconst (v := 1) hx hb dX6_readNumber_28 (by decide) ?_
      refine lv_goto (tgt := 33) hx hb dX6_readNumber_29 (by decide) ?_
      obtain ⟨e0_, e1_, e2_, e3_, e4_⟩ := tup5 hf
      have hP : va_P D vwCl [(q_o, .inr (5, [.ref q_o_bytes, .int o_length, .int o_token', .int o_number', .int o_place', .int o_next', .int o_toldOnce])), (q_o_bytes, .inl (cB, 200, .inl o_bytes))] H := by rw [← e1_, ← e2_, ← e3_, ← e4_]; exact hP
      have hD : va_D A [(q_o, .inr (5, [.ref q_o_bytes, .int o_length, .int o_token', .int o_number', .int o_place', .int o_next', .int o_toldOnce])), (q_o_bytes, .inl (cB, 200, .inl o_bytes))] := by rw [← e1_, ← e2_, ← e3_, ← e4_]; exact hD
      exact endMI hx hb hr hlocks rfl hP hD hS e0_ dX6_readNumber_33
def f_X6_readSemicolon (o_length : Int32) (o_bytes : Nat → Int32) (o_token : Int32) (o_place : Int32) (o_next : Int32) : Option (Int32 × Int32 × Int32 × Int32) :=
  ob3 (f_X6_readToken o_length o_bytes o_token o_place o_next) fun m1 m2 m3 =>
  if m1 = 3 then (
    some (1, m1, m2, m3)
  ) else (
    some (0, m1, m2, m3)
  )
set_option maxHeartbeats 4000000 in
set_option maxRecDepth 100000 in
theorem c_X6_readSemicolon (l : Launch) (D : va_G) (cB cI cZ cM cN : ClassId) (q_o : Nat) (q_o_bytes : Nat) (o_length : Int32) (o_token : Int32) (o_number : Int32) (o_place : Int32) (o_next : Int32) (o_toldOnce : Int32) (o_bytes : Nat → Int32) (r : Int32) (o_token' : Int32) (o_place' : Int32) (o_next' : Int32) (sz : Nat) (hf : f_X6_readSemicolon o_length o_bytes o_token o_place o_next = some (r, o_token', o_place', o_next')) : Met l yX6_readSemicolon wsX6_readSemicolon ({ frames := 2, cells := 0, slots := 0, locals := 42 } : Room) (PM D cB cI cZ cM cN [.ref q_o] [(q_o, .inr (5, [.ref q_o_bytes, .int o_length, .int o_token, .int o_number, .int o_place, .int o_next, .int o_toldOnce])), (q_o_bytes, .inl (cB, 200, .inl o_bytes))] sz) (QI D [(q_o, .inr (5, [.ref q_o_bytes, .int o_length, .int o_token', .int o_number, .int o_place', .int o_next', .int o_toldOnce])), (q_o_bytes, .inl (cB, 200, .inl o_bytes))] r (va_A [(q_o, .inr (5, [.ref q_o_bytes, .int o_length, .int o_token, .int o_number, .int o_place, .int o_next, .int o_toldOnce])), (q_o_bytes, .inl (cB, 200, .inl o_bytes))] sz)) 0 0 (va_A [(q_o, .inr (5, [.ref q_o_bytes, .int o_length, .int o_token, .int o_number, .int o_place, .int o_next, .int o_toldOnce])), (q_o_bytes, .inl (cB, 200, .inl o_bytes))] sz) := by
  refine entM (l := l) (y := yX6_readSemicolon) (ws := wsX6_readSemicolon) (cc := cX6_readSemicolon) (av := [.ref q_o]) (wc := [(q_o, .inr (5, [.ref q_o_bytes, .int o_length, .int o_token, .int o_number, .int o_place, .int o_next, .int o_toldOnce])), (q_o_bytes, .inl (cB, 200, .inl o_bytes))]) (sz := sz) (Qc := fun A => QI D [(q_o, .inr (5, [.ref q_o_bytes, .int o_length, .int o_token', .int o_number, .int o_place', .int o_next', .int o_toldOnce])), (q_o_bytes, .inl (cB, 200, .inl o_bytes))] r A) (by decide +kernel) rfl (Nat.le_of_ble_eq_true rfl) ?_
  intro A p e s m below meth c hx hb hr hml hown hlocks hts hK hA H locs hP hD hS ls hl
  have hown : s.vm.findClass RX6 = some m.cls := hown
  have hl : lv_has ls 1 [(0, .ref q_o)] := hl
  have hfix : CallFix p m c cX6_readSemicolon 1 s ([.ref q_o] : List Value).toArray wsX6_readSemicolon RX6 := ⟨hx, hb, hml, hown, hts⟩
  have hinX6 : ∀ w ∈ u_ws RX6 TX6 7, w ∈ wsX6_readSemicolon := by decide +kernel
  have g33 := hts (.fieldLink RX6 33 "LastCoat$Text" "token" "I") (by decide +kernel)
  unfold f_X6_readSemicolon at hf
  refine lv_aload_n hx hb dX6_readSemicolon_0 rfl (lv_at hl 0 rfl) ?_
  obtain ⟨m1, m2, m3, h4, hf⟩ := ob3_some hf
  refine muVv (wr := []) (ws1 := [(q_o, .inr (5, [.ref q_o_bytes, .int o_length, .int m1, .int o_number, .int m2, .int m3, .int o_toldOnce])), (q_o_bytes, .inl (cB, 200, .inl o_bytes))]) (c_X6_readToken l D cB cI cZ cM cN q_o q_o_bytes o_length o_token o_number o_place o_next o_toldOnce o_bytes m1 m2 m3 H.size h4) hfix (cwV 0 hts gX6_readSemicolon_X6_readToken rfl rfl rfl (by decide +kernel) ⟨Nat.le_of_ble_eq_true rfl, Nat.le_of_ble_eq_true rfl⟩) hP hK hD hA hS [0, 1] [] [0, 1] rfl rfl rfl rfl (by decide) rfl rfl rfl rfl rfl rfl hl.1 rfl (Nat.le_of_ble_eq_true rfl) dX6_readSemicolon_1 ⟨Nat.zero_le _, Nat.zero_le _⟩ (fun H locs hP hD hS => ?_)
  refine lv_aload_n hx hb dX6_readSemicolon_4 rfl (lv_at hl 0 rfl) ?_
  refine va_get (D := D) (ci := 5) (v := .int m1) (C := RX6) (T := TX6) (N := 7) hx hb hts hinX6 hown hK.1 hP 0 rfl rfl 2 (by decide) g33 (fun _ h9 => h9) rfl dX6_readSemicolon_5 ?_
  refine lv_iconst (v := 3) hx hb dX6_readSemicolon_8 (by decide) ?_
  refine lv_icmp_ne (tgt := 16) hx hb dX6_readSemicolon_9 (by decide) (fun c5 => ?_) (fun c5 => ?_)
  · have hf := ite_n hf c5
    refine lv_iconst (v := 0) hx hb dX6_readSemicolon_16 (by decide) ?_
    obtain ⟨e0_, e1_, e2_, e3_⟩ := tup4 hf
    have hP : va_P D vwCl [(q_o, .inr (5, [.ref q_o_bytes, .int o_length, .int o_token', .int o_number, .int o_place', .int o_next', .int o_toldOnce])), (q_o_bytes, .inl (cB, 200, .inl o_bytes))] H := by rw [← e1_, ← e2_, ← e3_]; exact hP
    have hD : va_D A [(q_o, .inr (5, [.ref q_o_bytes, .int o_length, .int o_token', .int o_number, .int o_place', .int o_next', .int o_toldOnce])), (q_o_bytes, .inl (cB, 200, .inl o_bytes))] := by rw [← e1_, ← e2_, ← e3_]; exact hD
    exact endMI hx hb hr hlocks rfl hP hD hS e0_ dX6_readSemicolon_17
  · have hf := ite_p hf c5
    refine lv_iconst (v := 1) hx hb dX6_readSemicolon_12 (by decide) ?_
    refine lv_goto (tgt := 17) hx hb dX6_readSemicolon_13 (by decide) ?_
    obtain ⟨e0_, e1_, e2_, e3_⟩ := tup4 hf
    have hP : va_P D vwCl [(q_o, .inr (5, [.ref q_o_bytes, .int o_length, .int o_token', .int o_number, .int o_place', .int o_next', .int o_toldOnce])), (q_o_bytes, .inl (cB, 200, .inl o_bytes))] H := by rw [← e1_, ← e2_, ← e3_]; exact hP
    have hD : va_D A [(q_o, .inr (5, [.ref q_o_bytes, .int o_length, .int o_token', .int o_number, .int o_place', .int o_next', .int o_toldOnce])), (q_o_bytes, .inl (cB, 200, .inl o_bytes))] := by rw [← e1_, ← e2_, ← e3_]; exact hD
    exact endMI hx hb hr hlocks rfl hP hD hS e0_ dX6_readSemicolon_17
def f_X6_readMember (o_length : Int32) (o_bytes : Nat → Int32) (o_token : Int32) (o_number : Int32) (o_place : Int32) (o_next : Int32) (a1_members : Int32) (a1_firstWarmth : Int32) (a1_forMotion : Int32) : Option (Int32 × Int32 × Int32 × Int32 × Int32 × Int32 × Int32 × Int32) :=
  if (6 : Int32) ≤ a1_members then (
    some (0, o_token, o_number, o_place, o_next, a1_members, a1_firstWarmth, a1_forMotion)
  ) else (
    ob5 (f_X6_readNumber o_length o_bytes o_token o_number o_place o_next 1 20) fun r2 m3 m4 m5 m6 =>
    if r2 = 0 then (
      some (0, m3, m4, m5, m6, a1_members, a1_firstWarmth, a1_forMotion)
    ) else (
      ob5 (f_X6_readNumber o_length o_bytes m3 m4 m5 m6 0 1) fun r9 m10 m11 m12 m13 =>
      if r9 = 0 then (
        some (0, m10, m11, m12, m13, a1_members, a1_firstWarmth, a1_forMotion)
      ) else (
        ob3 (f_X2_addMember a1_members a1_firstWarmth a1_forMotion m4 m11) fun m16 m17 m18 =>
        ob4 (f_X6_readSemicolon o_length o_bytes m10 m12 m13) fun r20 m21 m22 m23 =>
        zbg r20 <|
        some (r20, m21, m11, m22, m23, m16, m17, m18)
      )
    )
  )
set_option maxHeartbeats 4000000 in
set_option maxRecDepth 100000 in
theorem c_X6_readMember (l : Launch) (D : va_G) (cB cI cZ cM cN : ClassId) (q_o : Nat) (q_a1 : Nat) (q_o_bytes : Nat) (o_length : Int32) (o_token : Int32) (o_number : Int32) (o_place : Int32) (o_next : Int32) (o_toldOnce : Int32) (o_bytes : Nat → Int32) (a1_members : Int32) (a1_firstWarmth : Int32) (a1_forMotion : Int32) (a1_cold : Int32) (a1_fur : Int32) (a1_coughs : Int32) (a1_seconds : Int32) (a1_pairs : Int64) (r : Int32) (o_token' : Int32) (o_number' : Int32) (o_place' : Int32) (o_next' : Int32) (a1_members' : Int32) (a1_firstWarmth' : Int32) (a1_forMotion' : Int32) (sz : Nat) (hf : f_X6_readMember o_length o_bytes o_token o_number o_place o_next a1_members a1_firstWarmth a1_forMotion = some (r, o_token', o_number', o_place', o_next', a1_members', a1_firstWarmth', a1_forMotion')) : Met l yX6_readMember wsX6_readMember ({ frames := 3, cells := 0, slots := 0, locals := 65 } : Room) (PM D cB cI cZ cM cN [.ref q_o, .ref q_a1] [(q_o, .inr (5, [.ref q_o_bytes, .int o_length, .int o_token, .int o_number, .int o_place, .int o_next, .int o_toldOnce])), (q_o_bytes, .inl (cB, 200, .inl o_bytes)), (q_a1, .inr (2, [.int a1_members, .int a1_firstWarmth, .int a1_forMotion, .int a1_cold, .int a1_fur, .int a1_coughs, .int a1_seconds, .long a1_pairs]))] sz) (QI D [(q_o, .inr (5, [.ref q_o_bytes, .int o_length, .int o_token', .int o_number', .int o_place', .int o_next', .int o_toldOnce])), (q_o_bytes, .inl (cB, 200, .inl o_bytes)), (q_a1, .inr (2, [.int a1_members', .int a1_firstWarmth', .int a1_forMotion', .int a1_cold, .int a1_fur, .int a1_coughs, .int a1_seconds, .long a1_pairs]))] r (va_A [(q_o, .inr (5, [.ref q_o_bytes, .int o_length, .int o_token, .int o_number, .int o_place, .int o_next, .int o_toldOnce])), (q_o_bytes, .inl (cB, 200, .inl o_bytes)), (q_a1, .inr (2, [.int a1_members, .int a1_firstWarmth, .int a1_forMotion, .int a1_cold, .int a1_fur, .int a1_coughs, .int a1_seconds, .long a1_pairs]))] sz)) 0 0 (va_A [(q_o, .inr (5, [.ref q_o_bytes, .int o_length, .int o_token, .int o_number, .int o_place, .int o_next, .int o_toldOnce])), (q_o_bytes, .inl (cB, 200, .inl o_bytes)), (q_a1, .inr (2, [.int a1_members, .int a1_firstWarmth, .int a1_forMotion, .int a1_cold, .int a1_fur, .int a1_coughs, .int a1_seconds, .long a1_pairs]))] sz) := by
  refine entM (l := l) (y := yX6_readMember) (ws := wsX6_readMember) (cc := cX6_readMember) (av := [.ref q_o, .ref q_a1]) (wc := [(q_o, .inr (5, [.ref q_o_bytes, .int o_length, .int o_token, .int o_number, .int o_place, .int o_next, .int o_toldOnce])), (q_o_bytes, .inl (cB, 200, .inl o_bytes)), (q_a1, .inr (2, [.int a1_members, .int a1_firstWarmth, .int a1_forMotion, .int a1_cold, .int a1_fur, .int a1_coughs, .int a1_seconds, .long a1_pairs]))]) (sz := sz) (Qc := fun A => QI D [(q_o, .inr (5, [.ref q_o_bytes, .int o_length, .int o_token', .int o_number', .int o_place', .int o_next', .int o_toldOnce])), (q_o_bytes, .inl (cB, 200, .inl o_bytes)), (q_a1, .inr (2, [.int a1_members', .int a1_firstWarmth', .int a1_forMotion', .int a1_cold, .int a1_fur, .int a1_coughs, .int a1_seconds, .long a1_pairs]))] r A) (by decide +kernel) rfl (Nat.le_of_ble_eq_true rfl) ?_
  intro A p e s m below meth c hx hb hr hml hown hlocks hts hK hA H locs hP hD hS ls hl
  have hown : s.vm.findClass RX6 = some m.cls := hown
  have hl : lv_has ls 3 [(0, .ref q_o), (1, .ref q_a1)] := hl
  have hfix : CallFix p m c cX6_readMember 3 s ([.ref q_o, .ref q_a1] : List Value).toArray wsX6_readMember RX6 := ⟨hx, hb, hml, hown, hts⟩
  have hinX2 : ∀ w ∈ u_ws RX2 TX2 8, w ∈ wsX6_readMember := by decide +kernel
  have hinX6 : ∀ w ∈ u_ws RX6 TX6 7, w ∈ wsX6_readMember := by decide +kernel
  have g57 := hK.2.use (A := ([.ref q_o, .ref q_a1] : List Value).toArray) (w := Cond.fieldLinkNest "LastCoat$Text" 57 "LastCoat$Parliament" "members" "I" "LastCoat") 2 rfl
  have g64 := hts (.fieldLink RX6 64 "LastCoat$Text" "number" "I") (by decide +kernel)
  unfold f_X6_readMember at hf
  refine lv_aload_n hx hb dX6_readMember_0 rfl (lv_at hl 1 rfl) ?_
  refine va_getN (D := D) (ci := 2) (v := .int a1_members) (C := RX2) (T := TX2) (N := 8) hx hb hts hinX2 hown hK.1 hP 2 rfl rfl 0 (by decide) g57 (fun _ h9 => h9) rfl dX6_readMember_1 ?_
  refine lv_bipush (v := 6) hx hb dX6_readMember_4 (by decide) ?_
  refine lv_icmp_ge (tgt := 19) hx hb dX6_readMember_6 (by decide) (fun c1 => ?_) (fun c1 => ?_)
  · have hf := ite_p hf c1
    refine lv_iconst (v := 0) hx hb dX6_readMember_19 (by decide) ?_
    obtain ⟨e0_, e1_, e2_, e3_, e4_, e5_, e6_, e7_⟩ := tup8 hf
    have hP : va_P D vwCl [(q_o, .inr (5, [.ref q_o_bytes, .int o_length, .int o_token', .int o_number', .int o_place', .int o_next', .int o_toldOnce])), (q_o_bytes, .inl (cB, 200, .inl o_bytes)), (q_a1, .inr (2, [.int a1_members', .int a1_firstWarmth', .int a1_forMotion', .int a1_cold, .int a1_fur, .int a1_coughs, .int a1_seconds, .long a1_pairs]))] H := by rw [← e1_, ← e2_, ← e3_, ← e4_, ← e5_, ← e6_, ← e7_]; exact hP
    have hD : va_D A [(q_o, .inr (5, [.ref q_o_bytes, .int o_length, .int o_token', .int o_number', .int o_place', .int o_next', .int o_toldOnce])), (q_o_bytes, .inl (cB, 200, .inl o_bytes)), (q_a1, .inr (2, [.int a1_members', .int a1_firstWarmth', .int a1_forMotion', .int a1_cold, .int a1_fur, .int a1_coughs, .int a1_seconds, .long a1_pairs]))] := by rw [← e1_, ← e2_, ← e3_, ← e4_, ← e5_, ← e6_, ← e7_]; exact hD
    exact endMI hx hb hr hlocks rfl hP hD hS e0_ dX6_readMember_20
  · have hf := ite_n hf c1
    refine lv_aload_n hx hb dX6_readMember_9 rfl (lv_at hl 0 rfl) ?_
    refine lv_iconst (v := 1) hx hb dX6_readMember_10 (by decide) ?_
    refine lv_bipush (v := 20) hx hb dX6_readMember_11 (by decide) ?_
    obtain ⟨r2, m3, m4, m5, m6, h7, hf⟩ := ob5_some hf
    refine muV (wr := [(q_a1, .inr (2, [.int a1_members, .int a1_firstWarmth, .int a1_forMotion, .int a1_cold, .int a1_fur, .int a1_coughs, .int a1_seconds, .long a1_pairs]))]) (ws1 := [(q_o, .inr (5, [.ref q_o_bytes, .int o_length, .int m3, .int m4, .int m5, .int m6, .int o_toldOnce])), (q_o_bytes, .inl (cB, 200, .inl o_bytes)), (q_a1, .inr (2, [.int a1_members, .int a1_firstWarmth, .int a1_forMotion, .int a1_cold, .int a1_fur, .int a1_coughs, .int a1_seconds, .long a1_pairs]))]) (c_X6_readNumber l D cB cI cZ cM cN q_o q_o_bytes o_length o_token o_number o_place o_next o_toldOnce o_bytes 1 20 r2 m3 m4 m5 m6 H.size h7) hfix (cwV 2 hts gX6_readMember_X6_readNumber rfl rfl rfl (by decide +kernel) ⟨Nat.le_of_ble_eq_true rfl, Nat.le_of_ble_eq_true rfl⟩) hP hK hD hA hS [0, 1] [2] [1, 2, 0] rfl rfl rfl rfl (by decide) rfl rfl rfl rfl rfl rfl hl.1 rfl (Nat.le_of_ble_eq_true rfl) dX6_readMember_13 ⟨Nat.zero_le _, Nat.zero_le _⟩ (fun H locs hP hD hS => ?_)
    refine lv_if_ne (tgt := 21) hx hb dX6_readMember_16 (by decide) (fun c8 => ?_) (fun c8 => ?_)
    · have hf := ite_n hf c8
      refine lv_aload_n hx hb dX6_readMember_21 rfl (lv_at hl 0 rfl) ?_
      refine va_get (D := D) (ci := 5) (v := .int m4) (C := RX6) (T := TX6) (N := 7) hx hb hts hinX6 hown hK.1 hP 0 rfl rfl 3 (by decide) g64 (fun _ h9 => h9) rfl dX6_readMember_22 ?_
      refine lv_istore_n (lv' := [(2, .int m4), (0, .ref q_o), (1, .ref q_a1)]) hx hb dX6_readMember_25 rfl hl (by decide) rfl (fun ls hl => ?_)
      refine lv_aload_n hx hb dX6_readMember_26 rfl (lv_at hl 1 rfl) ?_
      refine lv_iconst (v := 0) hx hb dX6_readMember_27 (by decide) ?_
      refine lv_iconst (v := 1) hx hb dX6_readMember_28 (by decide) ?_
      obtain ⟨r9, m10, m11, m12, m13, h14, hf⟩ := ob5_some hf
      refine muV (wr := [(q_a1, .inr (2, [.int a1_members, .int a1_firstWarmth, .int a1_forMotion, .int a1_cold, .int a1_fur, .int a1_coughs, .int a1_seconds, .long a1_pairs]))]) (ws1 := [(q_o, .inr (5, [.ref q_o_bytes, .int o_length, .int m10, .int m11, .int m12, .int m13, .int o_toldOnce])), (q_o_bytes, .inl (cB, 200, .inl o_bytes)), (q_a1, .inr (2, [.int a1_members, .int a1_firstWarmth, .int a1_forMotion, .int a1_cold, .int a1_fur, .int a1_coughs, .int a1_seconds, .long a1_pairs]))]) (c_X6_readNumber l D cB cI cZ cM cN q_o q_o_bytes o_length m3 m4 m5 m6 o_toldOnce o_bytes 0 1 r9 m10 m11 m12 m13 H.size h14) hfix (cwV 2 hts gX6_readMember_X6_readNumber rfl rfl rfl (by decide +kernel) ⟨Nat.le_of_ble_eq_true rfl, Nat.le_of_ble_eq_true rfl⟩) hP hK hD hA hS [0, 1] [2] [1, 2, 0] rfl rfl rfl rfl (by decide) rfl rfl rfl rfl rfl rfl hl.1 rfl (Nat.le_of_ble_eq_true rfl) dX6_readMember_29 ⟨Nat.zero_le _, Nat.zero_le _⟩ (fun H locs hP hD hS => ?_)
      refine lv_if_ne (tgt := 37) hx hb dX6_readMember_32 (by decide) (fun c15 => ?_) (fun c15 => ?_)
      · have hf := ite_n hf c15
        refine lv_aload_n hx hb dX6_readMember_37 rfl (lv_at hl 2 rfl) ?_
        refine lv_iload_n hx hb dX6_readMember_38 rfl (lv_at hl 0 rfl) ?_
        refine lv_aload_n hx hb dX6_readMember_39 rfl (lv_at hl 1 rfl) ?_
        refine va_get (D := D) (ci := 5) (v := .int m11) (C := RX6) (T := TX6) (N := 7) hx hb hts hinX6 hown hK.1 hP 0 rfl rfl 3 (by decide) g64 (fun _ h9 => h9) rfl dX6_readMember_40 ?_
        obtain ⟨m16, m17, m18, h19, hf⟩ := ob3_some hf
        refine muVv (wr := [(q_o, .inr (5, [.ref q_o_bytes, .int o_length, .int m10, .int m11, .int m12, .int m13, .int o_toldOnce])), (q_o_bytes, .inl (cB, 200, .inl o_bytes))]) (ws1 := [(q_o, .inr (5, [.ref q_o_bytes, .int o_length, .int m10, .int m11, .int m12, .int m13, .int o_toldOnce])), (q_o_bytes, .inl (cB, 200, .inl o_bytes)), (q_a1, .inr (2, [.int m16, .int m17, .int m18, .int a1_cold, .int a1_fur, .int a1_coughs, .int a1_seconds, .long a1_pairs]))]) (c_X2_addMember l D cB cI cZ cM cN q_a1 a1_members a1_firstWarmth a1_forMotion a1_cold a1_fur a1_coughs a1_seconds a1_pairs m4 m11 m16 m17 m18 H.size h19) hfix (cwV 2 hts gX6_readMember_X2_addMember rfl rfl rfl (by decide +kernel) ⟨Nat.le_of_ble_eq_true rfl, Nat.le_of_ble_eq_true rfl⟩) hP hK hD hA hS [2] [0, 1] [0, 1, 2] rfl rfl rfl rfl (by decide) rfl rfl rfl rfl rfl rfl hl.1 rfl (Nat.le_of_ble_eq_true rfl) dX6_readMember_43 ⟨Nat.zero_le _, Nat.zero_le _⟩ (fun H locs hP hD hS => ?_)
        refine lv_aload_n hx hb dX6_readMember_46 rfl (lv_at hl 1 rfl) ?_
        obtain ⟨r20, m21, m22, m23, h24, hf⟩ := ob4_some hf
        refine muV (wr := [(q_a1, .inr (2, [.int m16, .int m17, .int m18, .int a1_cold, .int a1_fur, .int a1_coughs, .int a1_seconds, .long a1_pairs]))]) (ws1 := [(q_o, .inr (5, [.ref q_o_bytes, .int o_length, .int m21, .int m11, .int m22, .int m23, .int o_toldOnce])), (q_o_bytes, .inl (cB, 200, .inl o_bytes)), (q_a1, .inr (2, [.int m16, .int m17, .int m18, .int a1_cold, .int a1_fur, .int a1_coughs, .int a1_seconds, .long a1_pairs]))]) (c_X6_readSemicolon l D cB cI cZ cM cN q_o q_o_bytes o_length m10 m11 m12 m13 o_toldOnce o_bytes r20 m21 m22 m23 H.size h24) hfix (cwV 0 hts gX6_readMember_X6_readSemicolon rfl rfl rfl (by decide +kernel) ⟨Nat.le_of_ble_eq_true rfl, Nat.le_of_ble_eq_true rfl⟩) hP hK hD hA hS [0, 1] [2] [1, 2, 0] rfl rfl rfl rfl (by decide) rfl rfl rfl rfl rfl rfl hl.1 rfl (Nat.le_of_ble_eq_true rfl) dX6_readMember_47 ⟨Nat.zero_le _, Nat.zero_le _⟩ (fun H locs hP hD hS => ?_)
        obtain ⟨g25, hf⟩ := zbg_some hf
        obtain ⟨e0_, e1_, e2_, e3_, e4_, e5_, e6_, e7_⟩ := tup8 hf
        have hP : va_P D vwCl [(q_o, .inr (5, [.ref q_o_bytes, .int o_length, .int o_token', .int o_number', .int o_place', .int o_next', .int o_toldOnce])), (q_o_bytes, .inl (cB, 200, .inl o_bytes)), (q_a1, .inr (2, [.int a1_members', .int a1_firstWarmth', .int a1_forMotion', .int a1_cold, .int a1_fur, .int a1_coughs, .int a1_seconds, .long a1_pairs]))] H := by rw [← e1_, ← e2_, ← e3_, ← e4_, ← e5_, ← e6_, ← e7_]; exact hP
        have hD : va_D A [(q_o, .inr (5, [.ref q_o_bytes, .int o_length, .int o_token', .int o_number', .int o_place', .int o_next', .int o_toldOnce])), (q_o_bytes, .inl (cB, 200, .inl o_bytes)), (q_a1, .inr (2, [.int a1_members', .int a1_firstWarmth', .int a1_forMotion', .int a1_cold, .int a1_fur, .int a1_coughs, .int a1_seconds, .long a1_pairs]))] := by rw [← e1_, ← e2_, ← e3_, ← e4_, ← e5_, ← e6_, ← e7_]; exact hD
        exact endMI hx hb hr hlocks g25 hP hD hS e0_ dX6_readMember_50
      · have hf := ite_p hf c15
        refine lv_iconst (v := 0) hx hb dX6_readMember_35 (by decide) ?_
        obtain ⟨e0_, e1_, e2_, e3_, e4_, e5_, e6_, e7_⟩ := tup8 hf
        have hP : va_P D vwCl [(q_o, .inr (5, [.ref q_o_bytes, .int o_length, .int o_token', .int o_number', .int o_place', .int o_next', .int o_toldOnce])), (q_o_bytes, .inl (cB, 200, .inl o_bytes)), (q_a1, .inr (2, [.int a1_members', .int a1_firstWarmth', .int a1_forMotion', .int a1_cold, .int a1_fur, .int a1_coughs, .int a1_seconds, .long a1_pairs]))] H := by rw [← e1_, ← e2_, ← e3_, ← e4_, ← e5_, ← e6_, ← e7_]; exact hP
        have hD : va_D A [(q_o, .inr (5, [.ref q_o_bytes, .int o_length, .int o_token', .int o_number', .int o_place', .int o_next', .int o_toldOnce])), (q_o_bytes, .inl (cB, 200, .inl o_bytes)), (q_a1, .inr (2, [.int a1_members', .int a1_firstWarmth', .int a1_forMotion', .int a1_cold, .int a1_fur, .int a1_coughs, .int a1_seconds, .long a1_pairs]))] := by rw [← e1_, ← e2_, ← e3_, ← e4_, ← e5_, ← e6_, ← e7_]; exact hD
        exact endMI hx hb hr hlocks rfl hP hD hS e0_ dX6_readMember_36
    · have hf := ite_p hf c8
      refine lv_iconst (v := 0) hx hb dX6_readMember_19 (by decide) ?_
      obtain ⟨e0_, e1_, e2_, e3_, e4_, e5_, e6_, e7_⟩ := tup8 hf
      have hP : va_P D vwCl [(q_o, .inr (5, [.ref q_o_bytes, .int o_length, .int o_token', .int o_number', .int o_place', .int o_next', .int o_toldOnce])), (q_o_bytes, .inl (cB, 200, .inl o_bytes)), (q_a1, .inr (2, [.int a1_members', .int a1_firstWarmth', .int a1_forMotion', .int a1_cold, .int a1_fur, .int a1_coughs, .int a1_seconds, .long a1_pairs]))] H := by rw [← e1_, ← e2_, ← e3_, ← e4_, ← e5_, ← e6_, ← e7_]; exact hP
      have hD : va_D A [(q_o, .inr (5, [.ref q_o_bytes, .int o_length, .int o_token', .int o_number', .int o_place', .int o_next', .int o_toldOnce])), (q_o_bytes, .inl (cB, 200, .inl o_bytes)), (q_a1, .inr (2, [.int a1_members', .int a1_firstWarmth', .int a1_forMotion', .int a1_cold, .int a1_fur, .int a1_coughs, .int a1_seconds, .long a1_pairs]))] := by rw [← e1_, ← e2_, ← e3_, ← e4_, ← e5_, ← e6_, ← e7_]; exact hD
      exact endMI hx hb hr hlocks rfl hP hD hS e0_ dX6_readMember_20
def f_X6_readSeconds (o_length : Int32) (o_bytes : Nat → Int32) (a1_members : Int32) (o_token : Int32) (o_number : Int32) (o_place : Int32) (o_next : Int32) (a1_seconds : Int32) (a1_pairs : Int64) : Option (Int32 × Int32 × Int32 × Int32 × Int32 × Int32 × Int64) :=
  if (8 : Int32) ≤ a1_seconds then (
    some (0, o_token, o_number, o_place, o_next, a1_seconds, a1_pairs)
  ) else (
    ob5 (f_X6_readNumber o_length o_bytes o_token o_number o_place o_next 0 (a1_members - 1)) fun r2 m3 m4 m5 m6 =>
    if r2 = 0 then (
      some (0, m3, m4, m5, m6, a1_seconds, a1_pairs)
    ) else (
      ob5 (f_X6_readNumber o_length o_bytes m3 m4 m5 m6 0 (a1_members - 1)) fun r9 m10 m11 m12 m13 =>
      if r9 = 0 then (
        some (0, m10, m11, m12, m13, a1_seconds, a1_pairs)
      ) else (
        if m11 = m4 then (
          some (0, m10, m11, m12, m13, a1_seconds, a1_pairs)
        ) else (
          ob2 (f_X2_addSeconds a1_seconds a1_pairs m4 m11) fun m17 m18 =>
          ob4 (f_X6_readSemicolon o_length o_bytes m10 m12 m13) fun r20 m21 m22 m23 =>
          zbg r20 <|
          some (r20, m21, m11, m22, m23, m17, m18)
        )
      )
    )
  )
set_option maxHeartbeats 4000000 in
set_option maxRecDepth 100000 in
theorem c_X6_readSeconds (l : Launch) (D : va_G) (cB cI cZ cM cN : ClassId) (q_o : Nat) (q_a1 : Nat) (q_o_bytes : Nat) (o_length : Int32) (o_token : Int32) (o_number : Int32) (o_place : Int32) (o_next : Int32) (o_toldOnce : Int32) (o_bytes : Nat → Int32) (a1_members : Int32) (a1_firstWarmth : Int32) (a1_forMotion : Int32) (a1_cold : Int32) (a1_fur : Int32) (a1_coughs : Int32) (a1_seconds : Int32) (a1_pairs : Int64) (r : Int32) (o_token' : Int32) (o_number' : Int32) (o_place' : Int32) (o_next' : Int32) (a1_seconds' : Int32) (a1_pairs' : Int64) (sz : Nat) (hf : f_X6_readSeconds o_length o_bytes a1_members o_token o_number o_place o_next a1_seconds a1_pairs = some (r, o_token', o_number', o_place', o_next', a1_seconds', a1_pairs')) : Met l yX6_readSeconds wsX6_readSeconds ({ frames := 3, cells := 0, slots := 0, locals := 65 } : Room) (PM D cB cI cZ cM cN [.ref q_o, .ref q_a1] [(q_o, .inr (5, [.ref q_o_bytes, .int o_length, .int o_token, .int o_number, .int o_place, .int o_next, .int o_toldOnce])), (q_o_bytes, .inl (cB, 200, .inl o_bytes)), (q_a1, .inr (2, [.int a1_members, .int a1_firstWarmth, .int a1_forMotion, .int a1_cold, .int a1_fur, .int a1_coughs, .int a1_seconds, .long a1_pairs]))] sz) (QI D [(q_o, .inr (5, [.ref q_o_bytes, .int o_length, .int o_token', .int o_number', .int o_place', .int o_next', .int o_toldOnce])), (q_o_bytes, .inl (cB, 200, .inl o_bytes)), (q_a1, .inr (2, [.int a1_members, .int a1_firstWarmth, .int a1_forMotion, .int a1_cold, .int a1_fur, .int a1_coughs, .int a1_seconds', .long a1_pairs']))] r (va_A [(q_o, .inr (5, [.ref q_o_bytes, .int o_length, .int o_token, .int o_number, .int o_place, .int o_next, .int o_toldOnce])), (q_o_bytes, .inl (cB, 200, .inl o_bytes)), (q_a1, .inr (2, [.int a1_members, .int a1_firstWarmth, .int a1_forMotion, .int a1_cold, .int a1_fur, .int a1_coughs, .int a1_seconds, .long a1_pairs]))] sz)) 0 0 (va_A [(q_o, .inr (5, [.ref q_o_bytes, .int o_length, .int o_token, .int o_number, .int o_place, .int o_next, .int o_toldOnce])), (q_o_bytes, .inl (cB, 200, .inl o_bytes)), (q_a1, .inr (2, [.int a1_members, .int a1_firstWarmth, .int a1_forMotion, .int a1_cold, .int a1_fur, .int a1_coughs, .int a1_seconds, .long a1_pairs]))] sz) := by
  refine entM (l := l) (y := yX6_readSeconds) (ws := wsX6_readSeconds) (cc := cX6_readSeconds) (av := [.ref q_o, .ref q_a1]) (wc := [(q_o, .inr (5, [.ref q_o_bytes, .int o_length, .int o_token, .int o_number, .int o_place, .int o_next, .int o_toldOnce])), (q_o_bytes, .inl (cB, 200, .inl o_bytes)), (q_a1, .inr (2, [.int a1_members, .int a1_firstWarmth, .int a1_forMotion, .int a1_cold, .int a1_fur, .int a1_coughs, .int a1_seconds, .long a1_pairs]))]) (sz := sz) (Qc := fun A => QI D [(q_o, .inr (5, [.ref q_o_bytes, .int o_length, .int o_token', .int o_number', .int o_place', .int o_next', .int o_toldOnce])), (q_o_bytes, .inl (cB, 200, .inl o_bytes)), (q_a1, .inr (2, [.int a1_members, .int a1_firstWarmth, .int a1_forMotion, .int a1_cold, .int a1_fur, .int a1_coughs, .int a1_seconds', .long a1_pairs']))] r A) (by decide +kernel) rfl (Nat.le_of_ble_eq_true rfl) ?_
  intro A p e s m below meth c hx hb hr hml hown hlocks hts hK hA H locs hP hD hS ls hl
  have hown : s.vm.findClass RX6 = some m.cls := hown
  have hl : lv_has ls 3 [(0, .ref q_o), (1, .ref q_a1)] := hl
  have hfix : CallFix p m c cX6_readSeconds 3 s ([.ref q_o, .ref q_a1] : List Value).toArray wsX6_readSeconds RX6 := ⟨hx, hb, hml, hown, hts⟩
  have hinX2 : ∀ w ∈ u_ws RX2 TX2 8, w ∈ wsX6_readSeconds := by decide +kernel
  have hinX6 : ∀ w ∈ u_ws RX6 TX6 7, w ∈ wsX6_readSeconds := by decide +kernel
  have g75 := hK.2.use (A := ([.ref q_o, .ref q_a1] : List Value).toArray) (w := Cond.fieldLinkNest "LastCoat$Text" 75 "LastCoat$Parliament" "seconds" "I" "LastCoat") 14 rfl
  have g57 := hK.2.use (A := ([.ref q_o, .ref q_a1] : List Value).toArray) (w := Cond.fieldLinkNest "LastCoat$Text" 57 "LastCoat$Parliament" "members" "I" "LastCoat") 2 rfl
  have g64 := hts (.fieldLink RX6 64 "LastCoat$Text" "number" "I") (by decide +kernel)
  unfold f_X6_readSeconds at hf
  refine lv_aload_n hx hb dX6_readSeconds_0 rfl (lv_at hl 1 rfl) ?_
  refine va_getN (D := D) (ci := 2) (v := .int a1_seconds) (C := RX2) (T := TX2) (N := 8) hx hb hts hinX2 hown hK.1 hP 2 rfl rfl 6 (by decide) g75 (fun _ h9 => h9) rfl dX6_readSeconds_1 ?_
  refine lv_bipush (v := 8) hx hb dX6_readSeconds_4 (by decide) ?_
  refine lv_icmp_ge (tgt := 23) hx hb dX6_readSeconds_6 (by decide) (fun c1 => ?_) (fun c1 => ?_)
  · have hf := ite_p hf c1
    refine lv_iconst (v := 0) hx hb dX6_readSeconds_23 (by decide) ?_
    obtain ⟨e0_, e1_, e2_, e3_, e4_, e5_, e6_⟩ := tup7 hf
    have hP : va_P D vwCl [(q_o, .inr (5, [.ref q_o_bytes, .int o_length, .int o_token', .int o_number', .int o_place', .int o_next', .int o_toldOnce])), (q_o_bytes, .inl (cB, 200, .inl o_bytes)), (q_a1, .inr (2, [.int a1_members, .int a1_firstWarmth, .int a1_forMotion, .int a1_cold, .int a1_fur, .int a1_coughs, .int a1_seconds', .long a1_pairs']))] H := by rw [← e1_, ← e2_, ← e3_, ← e4_, ← e5_, ← e6_]; exact hP
    have hD : va_D A [(q_o, .inr (5, [.ref q_o_bytes, .int o_length, .int o_token', .int o_number', .int o_place', .int o_next', .int o_toldOnce])), (q_o_bytes, .inl (cB, 200, .inl o_bytes)), (q_a1, .inr (2, [.int a1_members, .int a1_firstWarmth, .int a1_forMotion, .int a1_cold, .int a1_fur, .int a1_coughs, .int a1_seconds', .long a1_pairs']))] := by rw [← e1_, ← e2_, ← e3_, ← e4_, ← e5_, ← e6_]; exact hD
    exact endMI hx hb hr hlocks rfl hP hD hS e0_ dX6_readSeconds_24
  · have hf := ite_n hf c1
    refine lv_aload_n hx hb dX6_readSeconds_9 rfl (lv_at hl 0 rfl) ?_
    refine lv_iconst (v := 0) hx hb dX6_readSeconds_10 (by decide) ?_
    refine lv_aload_n hx hb dX6_readSeconds_11 rfl (lv_at hl 1 rfl) ?_
    refine va_getN (D := D) (ci := 2) (v := .int a1_members) (C := RX2) (T := TX2) (N := 8) hx hb hts hinX2 hown hK.1 hP 2 rfl rfl 0 (by decide) g57 (fun _ h9 => h9) rfl dX6_readSeconds_12 ?_
    refine lv_iconst (v := 1) hx hb dX6_readSeconds_15 (by decide) ?_
    refine lv_isub hx hb dX6_readSeconds_16 ?_
    obtain ⟨r2, m3, m4, m5, m6, h7, hf⟩ := ob5_some hf
    refine muV (wr := [(q_a1, .inr (2, [.int a1_members, .int a1_firstWarmth, .int a1_forMotion, .int a1_cold, .int a1_fur, .int a1_coughs, .int a1_seconds, .long a1_pairs]))]) (ws1 := [(q_o, .inr (5, [.ref q_o_bytes, .int o_length, .int m3, .int m4, .int m5, .int m6, .int o_toldOnce])), (q_o_bytes, .inl (cB, 200, .inl o_bytes)), (q_a1, .inr (2, [.int a1_members, .int a1_firstWarmth, .int a1_forMotion, .int a1_cold, .int a1_fur, .int a1_coughs, .int a1_seconds, .long a1_pairs]))]) (c_X6_readNumber l D cB cI cZ cM cN q_o q_o_bytes o_length o_token o_number o_place o_next o_toldOnce o_bytes 0 (a1_members - 1) r2 m3 m4 m5 m6 H.size h7) hfix (cwV 2 hts gX6_readSeconds_X6_readNumber rfl rfl rfl (by decide +kernel) ⟨Nat.le_of_ble_eq_true rfl, Nat.le_of_ble_eq_true rfl⟩) hP hK hD hA hS [0, 1] [2] [1, 2, 0] rfl rfl rfl rfl (by decide) rfl rfl rfl rfl rfl rfl hl.1 rfl (Nat.le_of_ble_eq_true rfl) dX6_readSeconds_17 ⟨Nat.zero_le _, Nat.zero_le _⟩ (fun H locs hP hD hS => ?_)
    refine lv_if_ne (tgt := 25) hx hb dX6_readSeconds_20 (by decide) (fun c8 => ?_) (fun c8 => ?_)
    · have hf := ite_n hf c8
      refine lv_aload_n hx hb dX6_readSeconds_25 rfl (lv_at hl 0 rfl) ?_
      refine va_get (D := D) (ci := 5) (v := .int m4) (C := RX6) (T := TX6) (N := 7) hx hb hts hinX6 hown hK.1 hP 0 rfl rfl 3 (by decide) g64 (fun _ h9 => h9) rfl dX6_readSeconds_26 ?_
      refine lv_istore_n (lv' := [(2, .int m4), (0, .ref q_o), (1, .ref q_a1)]) hx hb dX6_readSeconds_29 rfl hl (by decide) rfl (fun ls hl => ?_)
      refine lv_aload_n hx hb dX6_readSeconds_30 rfl (lv_at hl 1 rfl) ?_
      refine lv_iconst (v := 0) hx hb dX6_readSeconds_31 (by decide) ?_
      refine lv_aload_n hx hb dX6_readSeconds_32 rfl (lv_at hl 2 rfl) ?_
      refine va_getN (D := D) (ci := 2) (v := .int a1_members) (C := RX2) (T := TX2) (N := 8) hx hb hts hinX2 hown hK.1 hP 2 rfl rfl 0 (by decide) g57 (fun _ h9 => h9) rfl dX6_readSeconds_33 ?_
      refine lv_iconst (v := 1) hx hb dX6_readSeconds_36 (by decide) ?_
      refine lv_isub hx hb dX6_readSeconds_37 ?_
      obtain ⟨r9, m10, m11, m12, m13, h14, hf⟩ := ob5_some hf
      refine muV (wr := [(q_a1, .inr (2, [.int a1_members, .int a1_firstWarmth, .int a1_forMotion, .int a1_cold, .int a1_fur, .int a1_coughs, .int a1_seconds, .long a1_pairs]))]) (ws1 := [(q_o, .inr (5, [.ref q_o_bytes, .int o_length, .int m10, .int m11, .int m12, .int m13, .int o_toldOnce])), (q_o_bytes, .inl (cB, 200, .inl o_bytes)), (q_a1, .inr (2, [.int a1_members, .int a1_firstWarmth, .int a1_forMotion, .int a1_cold, .int a1_fur, .int a1_coughs, .int a1_seconds, .long a1_pairs]))]) (c_X6_readNumber l D cB cI cZ cM cN q_o q_o_bytes o_length m3 m4 m5 m6 o_toldOnce o_bytes 0 (a1_members - 1) r9 m10 m11 m12 m13 H.size h14) hfix (cwV 2 hts gX6_readSeconds_X6_readNumber rfl rfl rfl (by decide +kernel) ⟨Nat.le_of_ble_eq_true rfl, Nat.le_of_ble_eq_true rfl⟩) hP hK hD hA hS [0, 1] [2] [1, 2, 0] rfl rfl rfl rfl (by decide) rfl rfl rfl rfl rfl rfl hl.1 rfl (Nat.le_of_ble_eq_true rfl) dX6_readSeconds_38 ⟨Nat.zero_le _, Nat.zero_le _⟩ (fun H locs hP hD hS => ?_)
      refine lv_if_eq (tgt := 52) hx hb dX6_readSeconds_41 (by decide) (fun c15 => ?_) (fun c15 => ?_)
      · have hf := ite_p hf c15
        refine lv_iconst (v := 0) hx hb dX6_readSeconds_52 (by decide) ?_
        obtain ⟨e0_, e1_, e2_, e3_, e4_, e5_, e6_⟩ := tup7 hf
        have hP : va_P D vwCl [(q_o, .inr (5, [.ref q_o_bytes, .int o_length, .int o_token', .int o_number', .int o_place', .int o_next', .int o_toldOnce])), (q_o_bytes, .inl (cB, 200, .inl o_bytes)), (q_a1, .inr (2, [.int a1_members, .int a1_firstWarmth, .int a1_forMotion, .int a1_cold, .int a1_fur, .int a1_coughs, .int a1_seconds', .long a1_pairs']))] H := by rw [← e1_, ← e2_, ← e3_, ← e4_, ← e5_, ← e6_]; exact hP
        have hD : va_D A [(q_o, .inr (5, [.ref q_o_bytes, .int o_length, .int o_token', .int o_number', .int o_place', .int o_next', .int o_toldOnce])), (q_o_bytes, .inl (cB, 200, .inl o_bytes)), (q_a1, .inr (2, [.int a1_members, .int a1_firstWarmth, .int a1_forMotion, .int a1_cold, .int a1_fur, .int a1_coughs, .int a1_seconds', .long a1_pairs']))] := by rw [← e1_, ← e2_, ← e3_, ← e4_, ← e5_, ← e6_]; exact hD
        exact endMI hx hb hr hlocks rfl hP hD hS e0_ dX6_readSeconds_53
      · have hf := ite_n hf c15
        refine lv_aload_n hx hb dX6_readSeconds_44 rfl (lv_at hl 1 rfl) ?_
        refine va_get (D := D) (ci := 5) (v := .int m11) (C := RX6) (T := TX6) (N := 7) hx hb hts hinX6 hown hK.1 hP 0 rfl rfl 3 (by decide) g64 (fun _ h9 => h9) rfl dX6_readSeconds_45 ?_
        refine lv_iload_n hx hb dX6_readSeconds_48 rfl (lv_at hl 0 rfl) ?_
        refine lv_icmp_ne (tgt := 54) hx hb dX6_readSeconds_49 (by decide) (fun c16 => ?_) (fun c16 => ?_)
        · have hf := ite_n hf c16
          refine lv_aload_n hx hb dX6_readSeconds_54 rfl (lv_at hl 2 rfl) ?_
          refine lv_iload_n hx hb dX6_readSeconds_55 rfl (lv_at hl 0 rfl) ?_
          refine lv_aload_n hx hb dX6_readSeconds_56 rfl (lv_at hl 1 rfl) ?_
          refine va_get (D := D) (ci := 5) (v := .int m11) (C := RX6) (T := TX6) (N := 7) hx hb hts hinX6 hown hK.1 hP 0 rfl rfl 3 (by decide) g64 (fun _ h9 => h9) rfl dX6_readSeconds_57 ?_
          obtain ⟨m17, m18, h19, hf⟩ := ob2_some hf
          refine muVv (wr := [(q_o, .inr (5, [.ref q_o_bytes, .int o_length, .int m10, .int m11, .int m12, .int m13, .int o_toldOnce])), (q_o_bytes, .inl (cB, 200, .inl o_bytes))]) (ws1 := [(q_o, .inr (5, [.ref q_o_bytes, .int o_length, .int m10, .int m11, .int m12, .int m13, .int o_toldOnce])), (q_o_bytes, .inl (cB, 200, .inl o_bytes)), (q_a1, .inr (2, [.int a1_members, .int a1_firstWarmth, .int a1_forMotion, .int a1_cold, .int a1_fur, .int a1_coughs, .int m17, .long m18]))]) (c_X2_addSeconds l D cB cI cZ cM cN q_a1 a1_members a1_firstWarmth a1_forMotion a1_cold a1_fur a1_coughs a1_seconds a1_pairs m4 m11 m17 m18 H.size h19) hfix (cwV 2 hts gX6_readSeconds_X2_addSeconds rfl rfl rfl (by decide +kernel) ⟨Nat.le_of_ble_eq_true rfl, Nat.le_of_ble_eq_true rfl⟩) hP hK hD hA hS [2] [0, 1] [0, 1, 2] rfl rfl rfl rfl (by decide) rfl rfl rfl rfl rfl rfl hl.1 rfl (Nat.le_of_ble_eq_true rfl) dX6_readSeconds_60 ⟨Nat.zero_le _, Nat.zero_le _⟩ (fun H locs hP hD hS => ?_)
          refine lv_aload_n hx hb dX6_readSeconds_63 rfl (lv_at hl 1 rfl) ?_
          obtain ⟨r20, m21, m22, m23, h24, hf⟩ := ob4_some hf
          refine muV (wr := [(q_a1, .inr (2, [.int a1_members, .int a1_firstWarmth, .int a1_forMotion, .int a1_cold, .int a1_fur, .int a1_coughs, .int m17, .long m18]))]) (ws1 := [(q_o, .inr (5, [.ref q_o_bytes, .int o_length, .int m21, .int m11, .int m22, .int m23, .int o_toldOnce])), (q_o_bytes, .inl (cB, 200, .inl o_bytes)), (q_a1, .inr (2, [.int a1_members, .int a1_firstWarmth, .int a1_forMotion, .int a1_cold, .int a1_fur, .int a1_coughs, .int m17, .long m18]))]) (c_X6_readSemicolon l D cB cI cZ cM cN q_o q_o_bytes o_length m10 m11 m12 m13 o_toldOnce o_bytes r20 m21 m22 m23 H.size h24) hfix (cwV 0 hts gX6_readSeconds_X6_readSemicolon rfl rfl rfl (by decide +kernel) ⟨Nat.le_of_ble_eq_true rfl, Nat.le_of_ble_eq_true rfl⟩) hP hK hD hA hS [0, 1] [2] [1, 2, 0] rfl rfl rfl rfl (by decide) rfl rfl rfl rfl rfl rfl hl.1 rfl (Nat.le_of_ble_eq_true rfl) dX6_readSeconds_64 ⟨Nat.zero_le _, Nat.zero_le _⟩ (fun H locs hP hD hS => ?_)
          obtain ⟨g25, hf⟩ := zbg_some hf
          obtain ⟨e0_, e1_, e2_, e3_, e4_, e5_, e6_⟩ := tup7 hf
          have hP : va_P D vwCl [(q_o, .inr (5, [.ref q_o_bytes, .int o_length, .int o_token', .int o_number', .int o_place', .int o_next', .int o_toldOnce])), (q_o_bytes, .inl (cB, 200, .inl o_bytes)), (q_a1, .inr (2, [.int a1_members, .int a1_firstWarmth, .int a1_forMotion, .int a1_cold, .int a1_fur, .int a1_coughs, .int a1_seconds', .long a1_pairs']))] H := by rw [← e1_, ← e2_, ← e3_, ← e4_, ← e5_, ← e6_]; exact hP
          have hD : va_D A [(q_o, .inr (5, [.ref q_o_bytes, .int o_length, .int o_token', .int o_number', .int o_place', .int o_next', .int o_toldOnce])), (q_o_bytes, .inl (cB, 200, .inl o_bytes)), (q_a1, .inr (2, [.int a1_members, .int a1_firstWarmth, .int a1_forMotion, .int a1_cold, .int a1_fur, .int a1_coughs, .int a1_seconds', .long a1_pairs']))] := by rw [← e1_, ← e2_, ← e3_, ← e4_, ← e5_, ← e6_]; exact hD
          exact endMI hx hb hr hlocks g25 hP hD hS e0_ dX6_readSeconds_67
        · have hf := ite_p hf c16
          refine lv_iconst (v := 0) hx hb dX6_readSeconds_52 (by decide) ?_
          obtain ⟨e0_, e1_, e2_, e3_, e4_, e5_, e6_⟩ := tup7 hf
          have hP : va_P D vwCl [(q_o, .inr (5, [.ref q_o_bytes, .int o_length, .int o_token', .int o_number', .int o_place', .int o_next', .int o_toldOnce])), (q_o_bytes, .inl (cB, 200, .inl o_bytes)), (q_a1, .inr (2, [.int a1_members, .int a1_firstWarmth, .int a1_forMotion, .int a1_cold, .int a1_fur, .int a1_coughs, .int a1_seconds', .long a1_pairs']))] H := by rw [← e1_, ← e2_, ← e3_, ← e4_, ← e5_, ← e6_]; exact hP
          have hD : va_D A [(q_o, .inr (5, [.ref q_o_bytes, .int o_length, .int o_token', .int o_number', .int o_place', .int o_next', .int o_toldOnce])), (q_o_bytes, .inl (cB, 200, .inl o_bytes)), (q_a1, .inr (2, [.int a1_members, .int a1_firstWarmth, .int a1_forMotion, .int a1_cold, .int a1_fur, .int a1_coughs, .int a1_seconds', .long a1_pairs']))] := by rw [← e1_, ← e2_, ← e3_, ← e4_, ← e5_, ← e6_]; exact hD
          exact endMI hx hb hr hlocks rfl hP hD hS e0_ dX6_readSeconds_53
    · have hf := ite_p hf c8
      refine lv_iconst (v := 0) hx hb dX6_readSeconds_23 (by decide) ?_
      obtain ⟨e0_, e1_, e2_, e3_, e4_, e5_, e6_⟩ := tup7 hf
      have hP : va_P D vwCl [(q_o, .inr (5, [.ref q_o_bytes, .int o_length, .int o_token', .int o_number', .int o_place', .int o_next', .int o_toldOnce])), (q_o_bytes, .inl (cB, 200, .inl o_bytes)), (q_a1, .inr (2, [.int a1_members, .int a1_firstWarmth, .int a1_forMotion, .int a1_cold, .int a1_fur, .int a1_coughs, .int a1_seconds', .long a1_pairs']))] H := by rw [← e1_, ← e2_, ← e3_, ← e4_, ← e5_, ← e6_]; exact hP
      have hD : va_D A [(q_o, .inr (5, [.ref q_o_bytes, .int o_length, .int o_token', .int o_number', .int o_place', .int o_next', .int o_toldOnce])), (q_o_bytes, .inl (cB, 200, .inl o_bytes)), (q_a1, .inr (2, [.int a1_members, .int a1_firstWarmth, .int a1_forMotion, .int a1_cold, .int a1_fur, .int a1_coughs, .int a1_seconds', .long a1_pairs']))] := by rw [← e1_, ← e2_, ← e3_, ← e4_, ← e5_, ← e6_]; exact hD
      exact endMI hx hb hr hlocks rfl hP hD hS e0_ dX6_readSeconds_24
def f_X6_mostOf (p0 : Int32) : Option (Int32) :=
  if p0 = 2 then (
    some (5)
  ) else (
    if p0 = 3 then (
      some (5)
    ) else (
      some (9)
    )
  )
set_option maxHeartbeats 4000000 in
set_option maxRecDepth 100000 in
theorem c_X6_mostOf (l : Launch) (D : va_G) (cB cI cZ cM cN : ClassId) (p0 : Int32) (r : Int32) (hf : f_X6_mostOf p0 = some r) : Met l yX6_mostOf wsX6_mostOf ({ frames := 0, cells := 0, slots := 0, locals := 0 } : Room) (PR D cB cI cZ cM cN [.int p0] []) (RI r) 0 0 (fun _ => False) := by
  refine entR (by decide +kernel) rfl (Nat.le_of_ble_eq_true rfl) ?_
  intro p e s m below meth c hx hb hr hml hown hlocks hts hP hK ls hl
  have hown : s.vm.findClass RX6 = some m.cls := hown
  have hl : lv_has ls 1 [(0, .int p0)] := hl
  have hfix : CallFix p m c cX6_mostOf 1 s ([.int p0] : List Value).toArray wsX6_mostOf RX6 := ⟨hx, hb, hml, hown, hts⟩
  unfold f_X6_mostOf at hf
  refine lv_iload_n hx hb dX6_mostOf_0 rfl (lv_at hl 0 rfl) ?_
  refine lv_iconst (v := 2) hx hb dX6_mostOf_1 (by decide) ?_
  refine lv_icmp_ne (tgt := 7) hx hb dX6_mostOf_2 (by decide) (fun c1 => ?_) (fun c1 => ?_)
  · have hf := ite_n hf c1
    refine lv_iload_n hx hb dX6_mostOf_7 rfl (lv_at hl 0 rfl) ?_
    refine lv_iconst (v := 3) hx hb dX6_mostOf_8 (by decide) ?_
    refine lv_icmp_ne (tgt := 16) hx hb dX6_mostOf_9 (by decide) (fun c2 => ?_) (fun c2 => ?_)
    · have hf := ite_n hf c2
      refine lv_bipush (v := 9) hx hb dX6_mostOf_16 (by decide) ?_
      have e0_ := Option.some.inj hf
      exact endRI hx hb hr hlocks rfl e0_ dX6_mostOf_18
    · have hf := ite_p hf c2
      refine lv_iconst (v := 5) hx hb dX6_mostOf_12 (by decide) ?_
      refine lv_goto (tgt := 18) hx hb dX6_mostOf_13 (by decide) ?_
      have e0_ := Option.some.inj hf
      exact endRI hx hb hr hlocks rfl e0_ dX6_mostOf_18
  · have hf := ite_p hf c1
    refine lv_iconst (v := 5) hx hb dX6_mostOf_5 (by decide) ?_
    have e0_ := Option.some.inj hf
    exact endRI hx hb hr hlocks rfl e0_ dX6_mostOf_6
def f_X6_readOnce_77 (o_length : Int32) (o_bytes : Nat → Int32) (o_token : Int32) (o_number : Int32) (o_place : Int32) (o_next : Int32) (o_toldOnce : Int32) (a1_cold : Int32) (a1_fur : Int32) (a1_coughs : Int32) : Option (Int32 × Int32 × Int32 × Int32 × Int32 × Int32 × Int32 × Int32 × Int32) :=
  ob4 (f_X6_readSemicolon o_length o_bytes o_token o_place o_next) fun r1 m2 m3 m4 =>
  zbg r1 <|
  some (r1, m2, o_number, m3, m4, o_toldOnce, a1_cold, a1_fur, a1_coughs)
def f_X6_readOnce (o_length : Int32) (o_bytes : Nat → Int32) (o_token : Int32) (o_number : Int32) (o_place : Int32) (o_next : Int32) (o_toldOnce : Int32) (a1_cold : Int32) (a1_fur : Int32) (a1_coughs : Int32) (p2 : Int32) : Option (Int32 × Int32 × Int32 × Int32 × Int32 × Int32 × Int32 × Int32 × Int32) :=
  bnd ((1 : Int32) <<< (p2 &&& 31)) fun y7 =>
  if (o_toldOnce &&& y7) = 0 then (
    ob1 (f_X6_mostOf p2) fun r9 =>
    ob5 (f_X6_readNumber o_length o_bytes o_token o_number o_place o_next 0 r9) fun r11 m12 m13 m14 m15 =>
    if r11 = 0 then (
      some (0, m12, m13, m14, m15, o_toldOnce, a1_cold, a1_fur, a1_coughs)
    ) else (
      bnd (o_toldOnce ||| y7) fun y18 =>
      if p2 = 2 then (
        f_X6_readOnce_77 o_length o_bytes m12 m13 m14 m15 y18 m13 a1_fur a1_coughs
      ) else (
        if p2 = 3 then (
          f_X6_readOnce_77 o_length o_bytes m12 m13 m14 m15 y18 a1_cold m13 a1_coughs
        ) else (
          f_X6_readOnce_77 o_length o_bytes m12 m13 m14 m15 y18 a1_cold a1_fur m13
        )
      )
    )
  ) else (
    some (0, o_token, o_number, o_place, o_next, o_toldOnce, a1_cold, a1_fur, a1_coughs)
  )
set_option maxHeartbeats 4000000 in
set_option maxRecDepth 100000 in
theorem c_X6_readOnce (l : Launch) (D : va_G) (cB cI cZ cM cN : ClassId) (q_o : Nat) (q_a1 : Nat) (q_o_bytes : Nat) (o_length : Int32) (o_token : Int32) (o_number : Int32) (o_place : Int32) (o_next : Int32) (o_toldOnce : Int32) (o_bytes : Nat → Int32) (a1_members : Int32) (a1_firstWarmth : Int32) (a1_forMotion : Int32) (a1_cold : Int32) (a1_fur : Int32) (a1_coughs : Int32) (a1_seconds : Int32) (a1_pairs : Int64) (p2 : Int32) (r : Int32) (o_token' : Int32) (o_number' : Int32) (o_place' : Int32) (o_next' : Int32) (o_toldOnce' : Int32) (a1_cold' : Int32) (a1_fur' : Int32) (a1_coughs' : Int32) (sz : Nat) (hf : f_X6_readOnce o_length o_bytes o_token o_number o_place o_next o_toldOnce a1_cold a1_fur a1_coughs p2 = some (r, o_token', o_number', o_place', o_next', o_toldOnce', a1_cold', a1_fur', a1_coughs')) : Met l yX6_readOnce wsX6_readOnce ({ frames := 3, cells := 0, slots := 0, locals := 65 } : Room) (PM D cB cI cZ cM cN [.ref q_o, .ref q_a1, .int p2] [(q_o, .inr (5, [.ref q_o_bytes, .int o_length, .int o_token, .int o_number, .int o_place, .int o_next, .int o_toldOnce])), (q_o_bytes, .inl (cB, 200, .inl o_bytes)), (q_a1, .inr (2, [.int a1_members, .int a1_firstWarmth, .int a1_forMotion, .int a1_cold, .int a1_fur, .int a1_coughs, .int a1_seconds, .long a1_pairs]))] sz) (QI D [(q_o, .inr (5, [.ref q_o_bytes, .int o_length, .int o_token', .int o_number', .int o_place', .int o_next', .int o_toldOnce'])), (q_o_bytes, .inl (cB, 200, .inl o_bytes)), (q_a1, .inr (2, [.int a1_members, .int a1_firstWarmth, .int a1_forMotion, .int a1_cold', .int a1_fur', .int a1_coughs', .int a1_seconds, .long a1_pairs]))] r (va_A [(q_o, .inr (5, [.ref q_o_bytes, .int o_length, .int o_token, .int o_number, .int o_place, .int o_next, .int o_toldOnce])), (q_o_bytes, .inl (cB, 200, .inl o_bytes)), (q_a1, .inr (2, [.int a1_members, .int a1_firstWarmth, .int a1_forMotion, .int a1_cold, .int a1_fur, .int a1_coughs, .int a1_seconds, .long a1_pairs]))] sz)) 0 0 (va_A [(q_o, .inr (5, [.ref q_o_bytes, .int o_length, .int o_token, .int o_number, .int o_place, .int o_next, .int o_toldOnce])), (q_o_bytes, .inl (cB, 200, .inl o_bytes)), (q_a1, .inr (2, [.int a1_members, .int a1_firstWarmth, .int a1_forMotion, .int a1_cold, .int a1_fur, .int a1_coughs, .int a1_seconds, .long a1_pairs]))] sz) := by
  refine entM (l := l) (y := yX6_readOnce) (ws := wsX6_readOnce) (cc := cX6_readOnce) (av := [.ref q_o, .ref q_a1, .int p2]) (wc := [(q_o, .inr (5, [.ref q_o_bytes, .int o_length, .int o_token, .int o_number, .int o_place, .int o_next, .int o_toldOnce])), (q_o_bytes, .inl (cB, 200, .inl o_bytes)), (q_a1, .inr (2, [.int a1_members, .int a1_firstWarmth, .int a1_forMotion, .int a1_cold, .int a1_fur, .int a1_coughs, .int a1_seconds, .long a1_pairs]))]) (sz := sz) (Qc := fun A => QI D [(q_o, .inr (5, [.ref q_o_bytes, .int o_length, .int o_token', .int o_number', .int o_place', .int o_next', .int o_toldOnce'])), (q_o_bytes, .inl (cB, 200, .inl o_bytes)), (q_a1, .inr (2, [.int a1_members, .int a1_firstWarmth, .int a1_forMotion, .int a1_cold', .int a1_fur', .int a1_coughs', .int a1_seconds, .long a1_pairs]))] r A) (by decide +kernel) rfl (Nat.le_of_ble_eq_true rfl) ?_
  intro A p e s m below meth c hx hb hr hml hown hlocks hts hK hA H locs hP hD hS ls hl
  have hown : s.vm.findClass RX6 = some m.cls := hown
  have hl : lv_has ls 4 [(0, .ref q_o), (1, .ref q_a1), (2, .int p2)] := hl
  have hfix : CallFix p m c cX6_readOnce 4 s ([.ref q_o, .ref q_a1, .int p2] : List Value).toArray wsX6_readOnce RX6 := ⟨hx, hb, hml, hown, hts⟩
  have hinX6 : ∀ w ∈ u_ws RX6 TX6 7, w ∈ wsX6_readOnce := by decide +kernel
  have hinX2 : ∀ w ∈ u_ws RX2 TX2 8, w ∈ wsX6_readOnce := by decide +kernel
  have g27 := hts (.fieldLink RX6 27 "LastCoat$Text" "toldOnce" "I") (by decide +kernel)
  have g64 := hts (.fieldLink RX6 64 "LastCoat$Text" "number" "I") (by decide +kernel)
  have g91 := hK.2.use (A := ([.ref q_o, .ref q_a1, .int p2] : List Value).toArray) (w := Cond.fieldLinkNest "LastCoat$Text" 91 "LastCoat$Parliament" "coughs" "I" "LastCoat") 13 rfl
  have g88 := hK.2.use (A := ([.ref q_o, .ref q_a1, .int p2] : List Value).toArray) (w := Cond.fieldLinkNest "LastCoat$Text" 88 "LastCoat$Parliament" "fur" "I" "LastCoat") 9 rfl
  have g85 := hK.2.use (A := ([.ref q_o, .ref q_a1, .int p2] : List Value).toArray) (w := Cond.fieldLinkNest "LastCoat$Text" 85 "LastCoat$Parliament" "cold" "I" "LastCoat") 8 rfl
  have L77 : ∀ (o_token : Int32) (o_number : Int32) (o_place : Int32) (o_next : Int32) (o_toldOnce : Int32) (a1_cold : Int32) (a1_fur : Int32) (a1_coughs : Int32) (H : Heap) (locs : List Loc) (ls : Array Slot), f_X6_readOnce_77 o_length o_bytes o_token o_number o_place o_next o_toldOnce a1_cold a1_fur a1_coughs = some (r, o_token', o_number', o_place', o_next', o_toldOnce', a1_cold', a1_fur', a1_coughs') → va_P D vwCl [(q_o, .inr (5, [.ref q_o_bytes, .int o_length, .int o_token, .int o_number, .int o_place, .int o_next, .int o_toldOnce])), (q_o_bytes, .inl (cB, 200, .inl o_bytes)), (q_a1, .inr (2, [.int a1_members, .int a1_firstWarmth, .int a1_forMotion, .int a1_cold, .int a1_fur, .int a1_coughs, .int a1_seconds, .long a1_pairs]))] H → va_D A [(q_o, .inr (5, [.ref q_o_bytes, .int o_length, .int o_token, .int o_number, .int o_place, .int o_next, .int o_toldOnce])), (q_o_bytes, .inl (cB, 200, .inl o_bytes)), (q_a1, .inr (2, [.int a1_members, .int a1_firstWarmth, .int a1_forMotion, .int a1_cold, .int a1_fur, .int a1_coughs, .int a1_seconds, .long a1_pairs]))] → va_S A s.heap H locs → lv_has ls 4 [(0, .ref q_o)] → W p l e ({ frames := 3, cells := 0, slots := 0, locals := 65 } : Room) s m ([.ref q_o, .ref q_a1, .int p2] : List Value).toArray below meth c H locs 0 0 (MQ below (QI D [(q_o, .inr (5, [.ref q_o_bytes, .int o_length, .int o_token', .int o_number', .int o_place', .int o_next', .int o_toldOnce'])), (q_o_bytes, .inl (cB, 200, .inl o_bytes)), (q_a1, .inr (2, [.int a1_members, .int a1_firstWarmth, .int a1_forMotion, .int a1_cold', .int a1_fur', .int a1_coughs', .int a1_seconds, .long a1_pairs]))] r A) ([.ref q_o, .ref q_a1, .int p2] : List Value).toArray s 0 0 A) (F0 m 77 ls []) := by
    intro o_token o_number o_place o_next o_toldOnce a1_cold a1_fur a1_coughs H locs ls hf hP hD hS hl
    unfold f_X6_readOnce_77 at hf
    refine lv_aload_n hx hb dX6_readOnce_77 rfl (lv_at hl 0 rfl) ?_
    obtain ⟨r1, m2, m3, m4, h5, hf⟩ := ob4_some hf
    refine muV (wr := [(q_a1, .inr (2, [.int a1_members, .int a1_firstWarmth, .int a1_forMotion, .int a1_cold, .int a1_fur, .int a1_coughs, .int a1_seconds, .long a1_pairs]))]) (ws1 := [(q_o, .inr (5, [.ref q_o_bytes, .int o_length, .int m2, .int o_number, .int m3, .int m4, .int o_toldOnce])), (q_o_bytes, .inl (cB, 200, .inl o_bytes)), (q_a1, .inr (2, [.int a1_members, .int a1_firstWarmth, .int a1_forMotion, .int a1_cold, .int a1_fur, .int a1_coughs, .int a1_seconds, .long a1_pairs]))]) (c_X6_readSemicolon l D cB cI cZ cM cN q_o q_o_bytes o_length o_token o_number o_place o_next o_toldOnce o_bytes r1 m2 m3 m4 H.size h5) hfix (cwV 0 hts gX6_readOnce_X6_readSemicolon rfl rfl rfl (by decide +kernel) ⟨Nat.le_of_ble_eq_true rfl, Nat.le_of_ble_eq_true rfl⟩) hP hK hD hA hS [0, 1] [2] [1, 2, 0] rfl rfl rfl rfl (by decide) rfl rfl rfl rfl rfl rfl hl.1 rfl (Nat.le_of_ble_eq_true rfl) dX6_readOnce_78 ⟨Nat.zero_le _, Nat.zero_le _⟩ (fun H locs hP hD hS => ?_)
    obtain ⟨g6, hf⟩ := zbg_some hf
    obtain ⟨e0_, e1_, e2_, e3_, e4_, e5_, e6_, e7_, e8_⟩ := tup9 hf
    have hP : va_P D vwCl [(q_o, .inr (5, [.ref q_o_bytes, .int o_length, .int o_token', .int o_number', .int o_place', .int o_next', .int o_toldOnce'])), (q_o_bytes, .inl (cB, 200, .inl o_bytes)), (q_a1, .inr (2, [.int a1_members, .int a1_firstWarmth, .int a1_forMotion, .int a1_cold', .int a1_fur', .int a1_coughs', .int a1_seconds, .long a1_pairs]))] H := by rw [← e1_, ← e2_, ← e3_, ← e4_, ← e5_, ← e6_, ← e7_, ← e8_]; exact hP
    have hD : va_D A [(q_o, .inr (5, [.ref q_o_bytes, .int o_length, .int o_token', .int o_number', .int o_place', .int o_next', .int o_toldOnce'])), (q_o_bytes, .inl (cB, 200, .inl o_bytes)), (q_a1, .inr (2, [.int a1_members, .int a1_firstWarmth, .int a1_forMotion, .int a1_cold', .int a1_fur', .int a1_coughs', .int a1_seconds, .long a1_pairs]))] := by rw [← e1_, ← e2_, ← e3_, ← e4_, ← e5_, ← e6_, ← e7_, ← e8_]; exact hD
    exact endMI hx hb hr hlocks g6 hP hD hS e0_ dX6_readOnce_81
  unfold f_X6_readOnce at hf
  refine lv_iconst (v := 1) hx hb dX6_readOnce_0 (by decide) ?_
  refine lv_iload_n hx hb dX6_readOnce_1 rfl (lv_at hl 2 rfl) ?_
  refine lv_ishl hx hb dX6_readOnce_2 ?_
  refine lv_topi (fun y7 ey7 => ?_)
  have hf := bnd_at hf ey7
  refine lv_istore_n (lv' := [(3, .int y7), (0, .ref q_o), (1, .ref q_a1), (2, .int p2)]) hx hb dX6_readOnce_3 rfl hl (by decide) rfl (fun ls hl => ?_)
  refine lv_aload_n hx hb dX6_readOnce_4 rfl (lv_at hl 1 rfl) ?_
  refine va_get (D := D) (ci := 5) (v := .int o_toldOnce) (C := RX6) (T := TX6) (N := 7) hx hb hts hinX6 hown hK.1 hP 0 rfl rfl 6 (by decide) g27 (fun _ h9 => h9) rfl dX6_readOnce_5 ?_
  refine lv_iload_n hx hb dX6_readOnce_8 rfl (lv_at hl 0 rfl) ?_
  refine lv_iand hx hb dX6_readOnce_9 ?_
  refine lv_if_ne (tgt := 25) hx hb dX6_readOnce_10 (by decide) (fun c8 => ?_) (fun c8 => ?_)
  · have hf := ite_n hf c8
    refine lv_iconst (v := 0) hx hb dX6_readOnce_25 (by decide) ?_
    obtain ⟨e0_, e1_, e2_, e3_, e4_, e5_, e6_, e7_, e8_⟩ := tup9 hf
    have hP : va_P D vwCl [(q_o, .inr (5, [.ref q_o_bytes, .int o_length, .int o_token', .int o_number', .int o_place', .int o_next', .int o_toldOnce'])), (q_o_bytes, .inl (cB, 200, .inl o_bytes)), (q_a1, .inr (2, [.int a1_members, .int a1_firstWarmth, .int a1_forMotion, .int a1_cold', .int a1_fur', .int a1_coughs', .int a1_seconds, .long a1_pairs]))] H := by rw [← e1_, ← e2_, ← e3_, ← e4_, ← e5_, ← e6_, ← e7_, ← e8_]; exact hP
    have hD : va_D A [(q_o, .inr (5, [.ref q_o_bytes, .int o_length, .int o_token', .int o_number', .int o_place', .int o_next', .int o_toldOnce'])), (q_o_bytes, .inl (cB, 200, .inl o_bytes)), (q_a1, .inr (2, [.int a1_members, .int a1_firstWarmth, .int a1_forMotion, .int a1_cold', .int a1_fur', .int a1_coughs', .int a1_seconds, .long a1_pairs]))] := by rw [← e1_, ← e2_, ← e3_, ← e4_, ← e5_, ← e6_, ← e7_, ← e8_]; exact hD
    exact endMI hx hb hr hlocks rfl hP hD hS e0_ dX6_readOnce_26
  · have hf := ite_p hf c8
    refine lv_aload_n hx hb dX6_readOnce_13 rfl (lv_at hl 1 rfl) ?_
    refine lv_iconst (v := 0) hx hb dX6_readOnce_14 (by decide) ?_
    refine lv_iload_n hx hb dX6_readOnce_15 rfl (lv_at hl 3 rfl) ?_
    obtain ⟨r9, h10, hf⟩ := ob1_some hf
    refine roS (c_X6_mostOf l D cB cI cZ cM cN p2 r9 h10) hfix (va_cwS 1 hts gX6_readOnce_X6_mostOf rfl rfl rfl (by decide +kernel) ⟨Nat.le_of_ble_eq_true rfl, Nat.le_of_ble_eq_true rfl⟩) (subC hP [] rfl) hK rfl hl.1 rfl (Nat.le_of_ble_eq_true rfl) dX6_readOnce_16 ⟨Nat.zero_le _, Nat.zero_le _⟩ ?_
    obtain ⟨r11, m12, m13, m14, m15, h16, hf⟩ := ob5_some hf
    refine muV (wr := [(q_a1, .inr (2, [.int a1_members, .int a1_firstWarmth, .int a1_forMotion, .int a1_cold, .int a1_fur, .int a1_coughs, .int a1_seconds, .long a1_pairs]))]) (ws1 := [(q_o, .inr (5, [.ref q_o_bytes, .int o_length, .int m12, .int m13, .int m14, .int m15, .int o_toldOnce])), (q_o_bytes, .inl (cB, 200, .inl o_bytes)), (q_a1, .inr (2, [.int a1_members, .int a1_firstWarmth, .int a1_forMotion, .int a1_cold, .int a1_fur, .int a1_coughs, .int a1_seconds, .long a1_pairs]))]) (c_X6_readNumber l D cB cI cZ cM cN q_o q_o_bytes o_length o_token o_number o_place o_next o_toldOnce o_bytes 0 r9 r11 m12 m13 m14 m15 H.size h16) hfix (cwV 2 hts gX6_readOnce_X6_readNumber rfl rfl rfl (by decide +kernel) ⟨Nat.le_of_ble_eq_true rfl, Nat.le_of_ble_eq_true rfl⟩) hP hK hD hA hS [0, 1] [2] [1, 2, 0] rfl rfl rfl rfl (by decide) rfl rfl rfl rfl rfl rfl hl.1 rfl (Nat.le_of_ble_eq_true rfl) dX6_readOnce_19 ⟨Nat.zero_le _, Nat.zero_le _⟩ (fun H locs hP hD hS => ?_)
    refine lv_if_ne (tgt := 27) hx hb dX6_readOnce_22 (by decide) (fun c17 => ?_) (fun c17 => ?_)
    · have hf := ite_n hf c17
      refine lv_aload_n hx hb dX6_readOnce_27 rfl (lv_at hl 1 rfl) ?_
      refine lv_dup hx hb dX6_readOnce_28 rfl ?_
      refine va_get (D := D) (ci := 5) (v := .int o_toldOnce) (C := RX6) (T := TX6) (N := 7) hx hb hts hinX6 hown hK.1 hP 0 rfl rfl 6 (by decide) g27 (fun _ h9 => h9) rfl dX6_readOnce_29 ?_
      refine lv_iload_n hx hb dX6_readOnce_32 rfl (lv_at hl 0 rfl) ?_
      refine lv_ior hx hb dX6_readOnce_33 ?_
      refine lv_topi (fun y18 ey18 => ?_)
      have hf := bnd_at hf ey18
      refine va_put (D := D) (ci := 5) (v := .int y18) (ty := .int) (C := RX6) (T := TX6) (N := 7) hx hb hts hinX6 tyX6 tyX6_ok nmX6 hown hK.1 hP hD hS 0 rfl rfl 6 (by decide) g27 (fun _ h9 => h9) rfl (by decide +kernel) rfl rfl (Nat.le_of_ble_eq_true rfl) dX6_readOnce_34 (fun H locs hP hD hS => ?_)
      have hP : va_P D vwCl [(q_o, .inr (5, [.ref q_o_bytes, .int o_length, .int m12, .int m13, .int m14, .int m15, .int y18])), (q_o_bytes, .inl (cB, 200, .inl o_bytes)), (q_a1, .inr (2, [.int a1_members, .int a1_firstWarmth, .int a1_forMotion, .int a1_cold, .int a1_fur, .int a1_coughs, .int a1_seconds, .long a1_pairs]))] H := hP
      have hD : va_D A [(q_o, .inr (5, [.ref q_o_bytes, .int o_length, .int m12, .int m13, .int m14, .int m15, .int y18])), (q_o_bytes, .inl (cB, 200, .inl o_bytes)), (q_a1, .inr (2, [.int a1_members, .int a1_firstWarmth, .int a1_forMotion, .int a1_cold, .int a1_fur, .int a1_coughs, .int a1_seconds, .long a1_pairs]))] := hD
      refine lv_iload_n hx hb dX6_readOnce_37 rfl (lv_at hl 3 rfl) ?_
      refine lv_iconst (v := 2) hx hb dX6_readOnce_38 (by decide) ?_
      refine lv_icmp_ne (tgt := 53) hx hb dX6_readOnce_39 (by decide) (fun c19 => ?_) (fun c19 => ?_)
      · have hf := ite_n hf c19
        refine lv_iload_n hx hb dX6_readOnce_53 rfl (lv_at hl 3 rfl) ?_
        refine lv_iconst (v := 3) hx hb dX6_readOnce_54 (by decide) ?_
        refine lv_icmp_ne (tgt := 69) hx hb dX6_readOnce_55 (by decide) (fun c20 => ?_) (fun c20 => ?_)
        · have hf := ite_n hf c20
          refine lv_aload_n hx hb dX6_readOnce_69 rfl (lv_at hl 2 rfl) ?_
          refine lv_aload_n hx hb dX6_readOnce_70 rfl (lv_at hl 1 rfl) ?_
          refine va_get (D := D) (ci := 5) (v := .int m13) (C := RX6) (T := TX6) (N := 7) hx hb hts hinX6 hown hK.1 hP 0 rfl rfl 3 (by decide) g64 (fun _ h9 => h9) rfl dX6_readOnce_71 ?_
          refine va_putN (D := D) (ci := 2) (v := .int m13) (ty := .int) (C := RX2) (T := TX2) (N := 8) hx hb hts hinX2 tyX2 tyX2_ok nmX2 hown hK.1 hP hD hS 2 rfl rfl 5 (by decide) g91 (fun _ h9 => h9) rfl (by decide +kernel) rfl rfl (Nat.le_of_ble_eq_true rfl) dX6_readOnce_74 (fun H locs hP hD hS => ?_)
          have hP : va_P D vwCl [(q_o, .inr (5, [.ref q_o_bytes, .int o_length, .int m12, .int m13, .int m14, .int m15, .int y18])), (q_o_bytes, .inl (cB, 200, .inl o_bytes)), (q_a1, .inr (2, [.int a1_members, .int a1_firstWarmth, .int a1_forMotion, .int a1_cold, .int a1_fur, .int m13, .int a1_seconds, .long a1_pairs]))] H := hP
          have hD : va_D A [(q_o, .inr (5, [.ref q_o_bytes, .int o_length, .int m12, .int m13, .int m14, .int m15, .int y18])), (q_o_bytes, .inl (cB, 200, .inl o_bytes)), (q_a1, .inr (2, [.int a1_members, .int a1_firstWarmth, .int a1_forMotion, .int a1_cold, .int a1_fur, .int m13, .int a1_seconds, .long a1_pairs]))] := hD
          exact L77 m12 m13 m14 m15 y18 a1_cold a1_fur m13 _ _ ls hf hP hD hS (lv_sub hl [1] rfl)
        · have hf := ite_p hf c20
          refine lv_aload_n hx hb dX6_readOnce_58 rfl (lv_at hl 2 rfl) ?_
          refine lv_aload_n hx hb dX6_readOnce_59 rfl (lv_at hl 1 rfl) ?_
          refine va_get (D := D) (ci := 5) (v := .int m13) (C := RX6) (T := TX6) (N := 7) hx hb hts hinX6 hown hK.1 hP 0 rfl rfl 3 (by decide) g64 (fun _ h9 => h9) rfl dX6_readOnce_60 ?_
          refine va_putN (D := D) (ci := 2) (v := .int m13) (ty := .int) (C := RX2) (T := TX2) (N := 8) hx hb hts hinX2 tyX2 tyX2_ok nmX2 hown hK.1 hP hD hS 2 rfl rfl 4 (by decide) g88 (fun _ h9 => h9) rfl (by decide +kernel) rfl rfl (Nat.le_of_ble_eq_true rfl) dX6_readOnce_63 (fun H locs hP hD hS => ?_)
          have hP : va_P D vwCl [(q_o, .inr (5, [.ref q_o_bytes, .int o_length, .int m12, .int m13, .int m14, .int m15, .int y18])), (q_o_bytes, .inl (cB, 200, .inl o_bytes)), (q_a1, .inr (2, [.int a1_members, .int a1_firstWarmth, .int a1_forMotion, .int a1_cold, .int m13, .int a1_coughs, .int a1_seconds, .long a1_pairs]))] H := hP
          have hD : va_D A [(q_o, .inr (5, [.ref q_o_bytes, .int o_length, .int m12, .int m13, .int m14, .int m15, .int y18])), (q_o_bytes, .inl (cB, 200, .inl o_bytes)), (q_a1, .inr (2, [.int a1_members, .int a1_firstWarmth, .int a1_forMotion, .int a1_cold, .int m13, .int a1_coughs, .int a1_seconds, .long a1_pairs]))] := hD
          refine lv_goto (tgt := 77) hx hb dX6_readOnce_66 (by decide) ?_
          exact L77 m12 m13 m14 m15 y18 a1_cold m13 a1_coughs _ _ ls hf hP hD hS (lv_sub hl [1] rfl)
      · have hf := ite_p hf c19
        refine lv_aload_n hx hb dX6_readOnce_42 rfl (lv_at hl 2 rfl) ?_
        refine lv_aload_n hx hb dX6_readOnce_43 rfl (lv_at hl 1 rfl) ?_
        refine va_get (D := D) (ci := 5) (v := .int m13) (C := RX6) (T := TX6) (N := 7) hx hb hts hinX6 hown hK.1 hP 0 rfl rfl 3 (by decide) g64 (fun _ h9 => h9) rfl dX6_readOnce_44 ?_
        refine va_putN (D := D) (ci := 2) (v := .int m13) (ty := .int) (C := RX2) (T := TX2) (N := 8) hx hb hts hinX2 tyX2 tyX2_ok nmX2 hown hK.1 hP hD hS 2 rfl rfl 3 (by decide) g85 (fun _ h9 => h9) rfl (by decide +kernel) rfl rfl (Nat.le_of_ble_eq_true rfl) dX6_readOnce_47 (fun H locs hP hD hS => ?_)
        have hP : va_P D vwCl [(q_o, .inr (5, [.ref q_o_bytes, .int o_length, .int m12, .int m13, .int m14, .int m15, .int y18])), (q_o_bytes, .inl (cB, 200, .inl o_bytes)), (q_a1, .inr (2, [.int a1_members, .int a1_firstWarmth, .int a1_forMotion, .int m13, .int a1_fur, .int a1_coughs, .int a1_seconds, .long a1_pairs]))] H := hP
        have hD : va_D A [(q_o, .inr (5, [.ref q_o_bytes, .int o_length, .int m12, .int m13, .int m14, .int m15, .int y18])), (q_o_bytes, .inl (cB, 200, .inl o_bytes)), (q_a1, .inr (2, [.int a1_members, .int a1_firstWarmth, .int a1_forMotion, .int m13, .int a1_fur, .int a1_coughs, .int a1_seconds, .long a1_pairs]))] := hD
        refine lv_goto (tgt := 77) hx hb dX6_readOnce_50 (by decide) ?_
        exact L77 m12 m13 m14 m15 y18 m13 a1_fur a1_coughs _ _ ls hf hP hD hS (lv_sub hl [1] rfl)
    · have hf := ite_p hf c17
      refine lv_iconst (v := 0) hx hb dX6_readOnce_25 (by decide) ?_
      obtain ⟨e0_, e1_, e2_, e3_, e4_, e5_, e6_, e7_, e8_⟩ := tup9 hf
      have hP : va_P D vwCl [(q_o, .inr (5, [.ref q_o_bytes, .int o_length, .int o_token', .int o_number', .int o_place', .int o_next', .int o_toldOnce'])), (q_o_bytes, .inl (cB, 200, .inl o_bytes)), (q_a1, .inr (2, [.int a1_members, .int a1_firstWarmth, .int a1_forMotion, .int a1_cold', .int a1_fur', .int a1_coughs', .int a1_seconds, .long a1_pairs]))] H := by rw [← e1_, ← e2_, ← e3_, ← e4_, ← e5_, ← e6_, ← e7_, ← e8_]; exact hP
      have hD : va_D A [(q_o, .inr (5, [.ref q_o_bytes, .int o_length, .int o_token', .int o_number', .int o_place', .int o_next', .int o_toldOnce'])), (q_o_bytes, .inl (cB, 200, .inl o_bytes)), (q_a1, .inr (2, [.int a1_members, .int a1_firstWarmth, .int a1_forMotion, .int a1_cold', .int a1_fur', .int a1_coughs', .int a1_seconds, .long a1_pairs]))] := by rw [← e1_, ← e2_, ← e3_, ← e4_, ← e5_, ← e6_, ← e7_, ← e8_]; exact hD
      exact endMI hx hb hr hlocks rfl hP hD hS e0_ dX6_readOnce_26
def f_X6_readItem_48 (o_length : Int32) (o_bytes : Nat → Int32) (x2 : Int32) (o_token : Int32) (o_number : Int32) (o_place : Int32) (o_next : Int32) (o_toldOnce : Int32) (a1_members : Int32) (a1_firstWarmth : Int32) (a1_forMotion : Int32) (a1_cold : Int32) (a1_fur : Int32) (a1_coughs : Int32) (a1_seconds : Int32) (a1_pairs : Int64) : Option (Int32 × Int32 × Int32 × Int32 × Int32 × Int32 × Int32 × Int32 × Int32 × Int32 × Int32 × Int32 × Int32 × Int64) :=
  ob9 (f_X6_readOnce o_length o_bytes o_token o_number o_place o_next o_toldOnce a1_cold a1_fur a1_coughs x2) fun r1 m2 m3 m4 m5 m6 m7 m8 m9 =>
  zbg r1 <|
  some (r1, m2, m3, m4, m5, m6, a1_members, a1_firstWarmth, a1_forMotion, m7, m8, m9, a1_seconds, a1_pairs)
def f_X6_readItem (o_length : Int32) (o_bytes : Nat → Int32) (o_token : Int32) (o_number : Int32) (o_place : Int32) (o_next : Int32) (o_toldOnce : Int32) (a1_members : Int32) (a1_firstWarmth : Int32) (a1_forMotion : Int32) (a1_cold : Int32) (a1_fur : Int32) (a1_coughs : Int32) (a1_seconds : Int32) (a1_pairs : Int64) (p2 : Int32) : Option (Int32 × Int32 × Int32 × Int32 × Int32 × Int32 × Int32 × Int32 × Int32 × Int32 × Int32 × Int32 × Int32 × Int64) :=
  if p2 = 0 then (
    ob8 (f_X6_readMember o_length o_bytes o_token o_number o_place o_next a1_members a1_firstWarmth a1_forMotion) fun r13 m14 m15 m16 m17 m18 m19 m20 =>
    zbg r13 <|
    some (r13, m14, m15, m16, m17, o_toldOnce, m18, m19, m20, a1_cold, a1_fur, a1_coughs, a1_seconds, a1_pairs)
  ) else (
  if p2 = 1 then (
    ob7 (f_X6_readSeconds o_length o_bytes a1_members o_token o_number o_place o_next a1_seconds a1_pairs) fun r24 m25 m26 m27 m28 m29 m30 =>
    zbg r24 <|
    some (r24, m25, m26, m27, m28, o_toldOnce, a1_members, a1_firstWarmth, a1_forMotion, a1_cold, a1_fur, a1_coughs, m29, m30)
  ) else (
  if p2 = 2 then (
    f_X6_readItem_48 o_length o_bytes p2 o_token o_number o_place o_next o_toldOnce a1_members a1_firstWarmth a1_forMotion a1_cold a1_fur a1_coughs a1_seconds a1_pairs
  ) else (
  if p2 = 3 then (
    f_X6_readItem_48 o_length o_bytes p2 o_token o_number o_place o_next o_toldOnce a1_members a1_firstWarmth a1_forMotion a1_cold a1_fur a1_coughs a1_seconds a1_pairs
  ) else (
  if p2 = 4 then (
    f_X6_readItem_48 o_length o_bytes p2 o_token o_number o_place o_next o_toldOnce a1_members a1_firstWarmth a1_forMotion a1_cold a1_fur a1_coughs a1_seconds a1_pairs
  ) else (
    some (0, o_token, o_number, o_place, o_next, o_toldOnce, a1_members, a1_firstWarmth, a1_forMotion, a1_cold, a1_fur, a1_coughs, a1_seconds, a1_pairs)
  )))))
set_option maxHeartbeats 4000000 in
set_option maxRecDepth 100000 in
theorem c_X6_readItem (l : Launch) (D : va_G) (cB cI cZ cM cN : ClassId) (q_o : Nat) (q_a1 : Nat) (q_o_bytes : Nat) (o_length : Int32) (o_token : Int32) (o_number : Int32) (o_place : Int32) (o_next : Int32) (o_toldOnce : Int32) (o_bytes : Nat → Int32) (a1_members : Int32) (a1_firstWarmth : Int32) (a1_forMotion : Int32) (a1_cold : Int32) (a1_fur : Int32) (a1_coughs : Int32) (a1_seconds : Int32) (a1_pairs : Int64) (p2 : Int32) (r : Int32) (o_token' : Int32) (o_number' : Int32) (o_place' : Int32) (o_next' : Int32) (o_toldOnce' : Int32) (a1_members' : Int32) (a1_firstWarmth' : Int32) (a1_forMotion' : Int32) (a1_cold' : Int32) (a1_fur' : Int32) (a1_coughs' : Int32) (a1_seconds' : Int32) (a1_pairs' : Int64) (sz : Nat) (hf : f_X6_readItem o_length o_bytes o_token o_number o_place o_next o_toldOnce a1_members a1_firstWarmth a1_forMotion a1_cold a1_fur a1_coughs a1_seconds a1_pairs p2 = some (r, o_token', o_number', o_place', o_next', o_toldOnce', a1_members', a1_firstWarmth', a1_forMotion', a1_cold', a1_fur', a1_coughs', a1_seconds', a1_pairs')) : Met l yX6_readItem wsX6_readItem ({ frames := 4, cells := 0, slots := 0, locals := 88 } : Room) (PM D cB cI cZ cM cN [.ref q_o, .ref q_a1, .int p2] [(q_o, .inr (5, [.ref q_o_bytes, .int o_length, .int o_token, .int o_number, .int o_place, .int o_next, .int o_toldOnce])), (q_o_bytes, .inl (cB, 200, .inl o_bytes)), (q_a1, .inr (2, [.int a1_members, .int a1_firstWarmth, .int a1_forMotion, .int a1_cold, .int a1_fur, .int a1_coughs, .int a1_seconds, .long a1_pairs]))] sz) (QI D [(q_o, .inr (5, [.ref q_o_bytes, .int o_length, .int o_token', .int o_number', .int o_place', .int o_next', .int o_toldOnce'])), (q_o_bytes, .inl (cB, 200, .inl o_bytes)), (q_a1, .inr (2, [.int a1_members', .int a1_firstWarmth', .int a1_forMotion', .int a1_cold', .int a1_fur', .int a1_coughs', .int a1_seconds', .long a1_pairs']))] r (va_A [(q_o, .inr (5, [.ref q_o_bytes, .int o_length, .int o_token, .int o_number, .int o_place, .int o_next, .int o_toldOnce])), (q_o_bytes, .inl (cB, 200, .inl o_bytes)), (q_a1, .inr (2, [.int a1_members, .int a1_firstWarmth, .int a1_forMotion, .int a1_cold, .int a1_fur, .int a1_coughs, .int a1_seconds, .long a1_pairs]))] sz)) 0 0 (va_A [(q_o, .inr (5, [.ref q_o_bytes, .int o_length, .int o_token, .int o_number, .int o_place, .int o_next, .int o_toldOnce])), (q_o_bytes, .inl (cB, 200, .inl o_bytes)), (q_a1, .inr (2, [.int a1_members, .int a1_firstWarmth, .int a1_forMotion, .int a1_cold, .int a1_fur, .int a1_coughs, .int a1_seconds, .long a1_pairs]))] sz) := by
  refine entM (l := l) (y := yX6_readItem) (ws := wsX6_readItem) (cc := cX6_readItem) (av := [.ref q_o, .ref q_a1, .int p2]) (wc := [(q_o, .inr (5, [.ref q_o_bytes, .int o_length, .int o_token, .int o_number, .int o_place, .int o_next, .int o_toldOnce])), (q_o_bytes, .inl (cB, 200, .inl o_bytes)), (q_a1, .inr (2, [.int a1_members, .int a1_firstWarmth, .int a1_forMotion, .int a1_cold, .int a1_fur, .int a1_coughs, .int a1_seconds, .long a1_pairs]))]) (sz := sz) (Qc := fun A => QI D [(q_o, .inr (5, [.ref q_o_bytes, .int o_length, .int o_token', .int o_number', .int o_place', .int o_next', .int o_toldOnce'])), (q_o_bytes, .inl (cB, 200, .inl o_bytes)), (q_a1, .inr (2, [.int a1_members', .int a1_firstWarmth', .int a1_forMotion', .int a1_cold', .int a1_fur', .int a1_coughs', .int a1_seconds', .long a1_pairs']))] r A) (by decide +kernel) rfl (Nat.le_of_ble_eq_true rfl) ?_
  intro A p e s m below meth c hx hb hr hml hown hlocks hts hK hA H locs hP hD hS ls hl
  have hown : s.vm.findClass RX6 = some m.cls := hown
  have hl : lv_has ls 3 [(0, .ref q_o), (1, .ref q_a1), (2, .int p2)] := hl
  have hfix : CallFix p m c cX6_readItem 3 s ([.ref q_o, .ref q_a1, .int p2] : List Value).toArray wsX6_readItem RX6 := ⟨hx, hb, hml, hown, hts⟩
  have L48 : ∀ (x2 : Int32) (o_token : Int32) (o_number : Int32) (o_place : Int32) (o_next : Int32) (o_toldOnce : Int32) (a1_members : Int32) (a1_firstWarmth : Int32) (a1_forMotion : Int32) (a1_cold : Int32) (a1_fur : Int32) (a1_coughs : Int32) (a1_seconds : Int32) (a1_pairs : Int64) (H : Heap) (locs : List Loc) (ls : Array Slot), f_X6_readItem_48 o_length o_bytes x2 o_token o_number o_place o_next o_toldOnce a1_members a1_firstWarmth a1_forMotion a1_cold a1_fur a1_coughs a1_seconds a1_pairs = some (r, o_token', o_number', o_place', o_next', o_toldOnce', a1_members', a1_firstWarmth', a1_forMotion', a1_cold', a1_fur', a1_coughs', a1_seconds', a1_pairs') → va_P D vwCl [(q_o, .inr (5, [.ref q_o_bytes, .int o_length, .int o_token, .int o_number, .int o_place, .int o_next, .int o_toldOnce])), (q_o_bytes, .inl (cB, 200, .inl o_bytes)), (q_a1, .inr (2, [.int a1_members, .int a1_firstWarmth, .int a1_forMotion, .int a1_cold, .int a1_fur, .int a1_coughs, .int a1_seconds, .long a1_pairs]))] H → va_D A [(q_o, .inr (5, [.ref q_o_bytes, .int o_length, .int o_token, .int o_number, .int o_place, .int o_next, .int o_toldOnce])), (q_o_bytes, .inl (cB, 200, .inl o_bytes)), (q_a1, .inr (2, [.int a1_members, .int a1_firstWarmth, .int a1_forMotion, .int a1_cold, .int a1_fur, .int a1_coughs, .int a1_seconds, .long a1_pairs]))] → va_S A s.heap H locs → lv_has ls 3 [(0, .ref q_o), (1, .ref q_a1), (2, .int x2)] → W p l e ({ frames := 4, cells := 0, slots := 0, locals := 88 } : Room) s m ([.ref q_o, .ref q_a1, .int p2] : List Value).toArray below meth c H locs 0 0 (MQ below (QI D [(q_o, .inr (5, [.ref q_o_bytes, .int o_length, .int o_token', .int o_number', .int o_place', .int o_next', .int o_toldOnce'])), (q_o_bytes, .inl (cB, 200, .inl o_bytes)), (q_a1, .inr (2, [.int a1_members', .int a1_firstWarmth', .int a1_forMotion', .int a1_cold', .int a1_fur', .int a1_coughs', .int a1_seconds', .long a1_pairs']))] r A) ([.ref q_o, .ref q_a1, .int p2] : List Value).toArray s 0 0 A) (F0 m 48 ls []) := by
    intro x2 o_token o_number o_place o_next o_toldOnce a1_members a1_firstWarmth a1_forMotion a1_cold a1_fur a1_coughs a1_seconds a1_pairs H locs ls hf hP hD hS hl
    unfold f_X6_readItem_48 at hf
    refine lv_aload_n hx hb dX6_readItem_48 rfl (lv_at hl 0 rfl) ?_
    refine lv_aload_n hx hb dX6_readItem_49 rfl (lv_at hl 1 rfl) ?_
    refine lv_iload_n hx hb dX6_readItem_50 rfl (lv_at hl 2 rfl) ?_
    obtain ⟨r1, m2, m3, m4, m5, m6, m7, m8, m9, h10, hf⟩ := ob9_some hf
    refine muV (wr := []) (ws1 := [(q_o, .inr (5, [.ref q_o_bytes, .int o_length, .int m2, .int m3, .int m4, .int m5, .int m6])), (q_o_bytes, .inl (cB, 200, .inl o_bytes)), (q_a1, .inr (2, [.int a1_members, .int a1_firstWarmth, .int a1_forMotion, .int m7, .int m8, .int m9, .int a1_seconds, .long a1_pairs]))]) (c_X6_readOnce l D cB cI cZ cM cN q_o q_a1 q_o_bytes o_length o_token o_number o_place o_next o_toldOnce o_bytes a1_members a1_firstWarmth a1_forMotion a1_cold a1_fur a1_coughs a1_seconds a1_pairs x2 r1 m2 m3 m4 m5 m6 m7 m8 m9 H.size h10) hfix (cwV 2 hts gX6_readItem_X6_readOnce rfl rfl rfl (by decide +kernel) ⟨Nat.le_of_ble_eq_true rfl, Nat.le_of_ble_eq_true rfl⟩) hP hK hD hA hS [0, 1, 2] [] [0, 1, 2] rfl rfl rfl rfl (by decide) rfl rfl rfl rfl rfl rfl hl.1 rfl (Nat.le_of_ble_eq_true rfl) dX6_readItem_51 ⟨Nat.zero_le _, Nat.zero_le _⟩ (fun H locs hP hD hS => ?_)
    obtain ⟨g11, hf⟩ := zbg_some hf
    obtain ⟨e0_, e1_, e2_, e3_, e4_, e5_, e6_, e7_, e8_, e9_, e10_, e11_, e12_, e13_⟩ := tup14 hf
    have hP : va_P D vwCl [(q_o, .inr (5, [.ref q_o_bytes, .int o_length, .int o_token', .int o_number', .int o_place', .int o_next', .int o_toldOnce'])), (q_o_bytes, .inl (cB, 200, .inl o_bytes)), (q_a1, .inr (2, [.int a1_members', .int a1_firstWarmth', .int a1_forMotion', .int a1_cold', .int a1_fur', .int a1_coughs', .int a1_seconds', .long a1_pairs']))] H := by rw [← e1_, ← e2_, ← e3_, ← e4_, ← e5_, ← e6_, ← e7_, ← e8_, ← e9_, ← e10_, ← e11_, ← e12_, ← e13_]; exact hP
    have hD : va_D A [(q_o, .inr (5, [.ref q_o_bytes, .int o_length, .int o_token', .int o_number', .int o_place', .int o_next', .int o_toldOnce'])), (q_o_bytes, .inl (cB, 200, .inl o_bytes)), (q_a1, .inr (2, [.int a1_members', .int a1_firstWarmth', .int a1_forMotion', .int a1_cold', .int a1_fur', .int a1_coughs', .int a1_seconds', .long a1_pairs']))] := by rw [← e1_, ← e2_, ← e3_, ← e4_, ← e5_, ← e6_, ← e7_, ← e8_, ← e9_, ← e10_, ← e11_, ← e12_, ← e13_]; exact hD
    exact endMI hx hb hr hlocks g11 hP hD hS e0_ dX6_readItem_54
  unfold f_X6_readItem at hf
  refine lv_iload_n hx hb dX6_readItem_0 rfl (lv_at hl 2 rfl) ?_
  by_cases c12 : p2 = 0
  · have hf := ite_p hf c12
    refine lv_tableIn (off := 35) (tgt := 36) hx hb dX6_readItem_1 (by rw [c12]; decide) (by rw [c12]; decide) (by rw [c12]; rfl) (by decide) ?_
    refine lv_aload_n hx hb dX6_readItem_36 rfl (lv_at hl 0 rfl) ?_
    refine lv_aload_n hx hb dX6_readItem_37 rfl (lv_at hl 1 rfl) ?_
    obtain ⟨r13, m14, m15, m16, m17, m18, m19, m20, h21, hf⟩ := ob8_some hf
    refine muV (wr := []) (ws1 := [(q_o, .inr (5, [.ref q_o_bytes, .int o_length, .int m14, .int m15, .int m16, .int m17, .int o_toldOnce])), (q_o_bytes, .inl (cB, 200, .inl o_bytes)), (q_a1, .inr (2, [.int m18, .int m19, .int m20, .int a1_cold, .int a1_fur, .int a1_coughs, .int a1_seconds, .long a1_pairs]))]) (c_X6_readMember l D cB cI cZ cM cN q_o q_a1 q_o_bytes o_length o_token o_number o_place o_next o_toldOnce o_bytes a1_members a1_firstWarmth a1_forMotion a1_cold a1_fur a1_coughs a1_seconds a1_pairs r13 m14 m15 m16 m17 m18 m19 m20 H.size h21) hfix (cwV 1 hts gX6_readItem_X6_readMember rfl rfl rfl (by decide +kernel) ⟨Nat.le_of_ble_eq_true rfl, Nat.le_of_ble_eq_true rfl⟩) hP hK hD hA hS [0, 1, 2] [] [0, 1, 2] rfl rfl rfl rfl (by decide) rfl rfl rfl rfl rfl rfl hl.1 rfl (Nat.le_of_ble_eq_true rfl) dX6_readItem_38 ⟨Nat.zero_le _, Nat.zero_le _⟩ (fun H locs hP hD hS => ?_)
    obtain ⟨g22, hf⟩ := zbg_some hf
    obtain ⟨e0_, e1_, e2_, e3_, e4_, e5_, e6_, e7_, e8_, e9_, e10_, e11_, e12_, e13_⟩ := tup14 hf
    have hP : va_P D vwCl [(q_o, .inr (5, [.ref q_o_bytes, .int o_length, .int o_token', .int o_number', .int o_place', .int o_next', .int o_toldOnce'])), (q_o_bytes, .inl (cB, 200, .inl o_bytes)), (q_a1, .inr (2, [.int a1_members', .int a1_firstWarmth', .int a1_forMotion', .int a1_cold', .int a1_fur', .int a1_coughs', .int a1_seconds', .long a1_pairs']))] H := by rw [← e1_, ← e2_, ← e3_, ← e4_, ← e5_, ← e6_, ← e7_, ← e8_, ← e9_, ← e10_, ← e11_, ← e12_, ← e13_]; exact hP
    have hD : va_D A [(q_o, .inr (5, [.ref q_o_bytes, .int o_length, .int o_token', .int o_number', .int o_place', .int o_next', .int o_toldOnce'])), (q_o_bytes, .inl (cB, 200, .inl o_bytes)), (q_a1, .inr (2, [.int a1_members', .int a1_firstWarmth', .int a1_forMotion', .int a1_cold', .int a1_fur', .int a1_coughs', .int a1_seconds', .long a1_pairs']))] := by rw [← e1_, ← e2_, ← e3_, ← e4_, ← e5_, ← e6_, ← e7_, ← e8_, ← e9_, ← e10_, ← e11_, ← e12_, ← e13_]; exact hD
    exact endMI hx hb hr hlocks g22 hP hD hS e0_ dX6_readItem_41
  have hf := ite_n hf c12
  by_cases c23 : p2 = 1
  · have hf := ite_p hf c23
    refine lv_tableIn (off := 41) (tgt := 42) hx hb dX6_readItem_1 (by rw [c23]; decide) (by rw [c23]; decide) (by rw [c23]; rfl) (by decide) ?_
    refine lv_aload_n hx hb dX6_readItem_42 rfl (lv_at hl 0 rfl) ?_
    refine lv_aload_n hx hb dX6_readItem_43 rfl (lv_at hl 1 rfl) ?_
    obtain ⟨r24, m25, m26, m27, m28, m29, m30, h31, hf⟩ := ob7_some hf
    refine muV (wr := []) (ws1 := [(q_o, .inr (5, [.ref q_o_bytes, .int o_length, .int m25, .int m26, .int m27, .int m28, .int o_toldOnce])), (q_o_bytes, .inl (cB, 200, .inl o_bytes)), (q_a1, .inr (2, [.int a1_members, .int a1_firstWarmth, .int a1_forMotion, .int a1_cold, .int a1_fur, .int a1_coughs, .int m29, .long m30]))]) (c_X6_readSeconds l D cB cI cZ cM cN q_o q_a1 q_o_bytes o_length o_token o_number o_place o_next o_toldOnce o_bytes a1_members a1_firstWarmth a1_forMotion a1_cold a1_fur a1_coughs a1_seconds a1_pairs r24 m25 m26 m27 m28 m29 m30 H.size h31) hfix (cwV 1 hts gX6_readItem_X6_readSeconds rfl rfl rfl (by decide +kernel) ⟨Nat.le_of_ble_eq_true rfl, Nat.le_of_ble_eq_true rfl⟩) hP hK hD hA hS [0, 1, 2] [] [0, 1, 2] rfl rfl rfl rfl (by decide) rfl rfl rfl rfl rfl rfl hl.1 rfl (Nat.le_of_ble_eq_true rfl) dX6_readItem_44 ⟨Nat.zero_le _, Nat.zero_le _⟩ (fun H locs hP hD hS => ?_)
    obtain ⟨g32, hf⟩ := zbg_some hf
    obtain ⟨e0_, e1_, e2_, e3_, e4_, e5_, e6_, e7_, e8_, e9_, e10_, e11_, e12_, e13_⟩ := tup14 hf
    have hP : va_P D vwCl [(q_o, .inr (5, [.ref q_o_bytes, .int o_length, .int o_token', .int o_number', .int o_place', .int o_next', .int o_toldOnce'])), (q_o_bytes, .inl (cB, 200, .inl o_bytes)), (q_a1, .inr (2, [.int a1_members', .int a1_firstWarmth', .int a1_forMotion', .int a1_cold', .int a1_fur', .int a1_coughs', .int a1_seconds', .long a1_pairs']))] H := by rw [← e1_, ← e2_, ← e3_, ← e4_, ← e5_, ← e6_, ← e7_, ← e8_, ← e9_, ← e10_, ← e11_, ← e12_, ← e13_]; exact hP
    have hD : va_D A [(q_o, .inr (5, [.ref q_o_bytes, .int o_length, .int o_token', .int o_number', .int o_place', .int o_next', .int o_toldOnce'])), (q_o_bytes, .inl (cB, 200, .inl o_bytes)), (q_a1, .inr (2, [.int a1_members', .int a1_firstWarmth', .int a1_forMotion', .int a1_cold', .int a1_fur', .int a1_coughs', .int a1_seconds', .long a1_pairs']))] := by rw [← e1_, ← e2_, ← e3_, ← e4_, ← e5_, ← e6_, ← e7_, ← e8_, ← e9_, ← e10_, ← e11_, ← e12_, ← e13_]; exact hD
    exact endMI hx hb hr hlocks g32 hP hD hS e0_ dX6_readItem_47
  have hf := ite_n hf c23
  by_cases c33 : p2 = 2
  · have hf := ite_p hf c33
    refine lv_tableIn (off := 47) (tgt := 48) hx hb dX6_readItem_1 (by rw [c33]; decide) (by rw [c33]; decide) (by rw [c33]; rfl) (by decide) ?_
    exact L48 p2 o_token o_number o_place o_next o_toldOnce a1_members a1_firstWarmth a1_forMotion a1_cold a1_fur a1_coughs a1_seconds a1_pairs _ _ ls hf hP hD hS (lv_sub hl [0, 1, 2] rfl)
  have hf := ite_n hf c33
  by_cases c34 : p2 = 3
  · have hf := ite_p hf c34
    refine lv_tableIn (off := 47) (tgt := 48) hx hb dX6_readItem_1 (by rw [c34]; decide) (by rw [c34]; decide) (by rw [c34]; rfl) (by decide) ?_
    exact L48 p2 o_token o_number o_place o_next o_toldOnce a1_members a1_firstWarmth a1_forMotion a1_cold a1_fur a1_coughs a1_seconds a1_pairs _ _ ls hf hP hD hS (lv_sub hl [0, 1, 2] rfl)
  have hf := ite_n hf c34
  by_cases c35 : p2 = 4
  · have hf := ite_p hf c35
    refine lv_tableIn (off := 47) (tgt := 48) hx hb dX6_readItem_1 (by rw [c35]; decide) (by rw [c35]; decide) (by rw [c35]; rfl) (by decide) ?_
    exact L48 p2 o_token o_number o_place o_next o_toldOnce a1_members a1_firstWarmth a1_forMotion a1_cold a1_fur a1_coughs a1_seconds a1_pairs _ _ ls hf hP hD hS (lv_sub hl [0, 1, 2] rfl)
  have hf := ite_n hf c35
  refine lv_tableOut (tgt := 55) hx hb dX6_readItem_1 (by
      have zc12 : p2.toInt ≠ 0 := fun h => c12 (Int32.toInt_inj.mp h)
      have zc23 : p2.toInt ≠ 1 := fun h => c23 (Int32.toInt_inj.mp h)
      have zc33 : p2.toInt ≠ 2 := fun h => c33 (Int32.toInt_inj.mp h)
      have zc34 : p2.toInt ≠ 3 := fun h => c34 (Int32.toInt_inj.mp h)
      have zc35 : p2.toInt ≠ 4 := fun h => c35 (Int32.toInt_inj.mp h)
      omega) (by decide) ?_
  refine lv_iconst (v := 0) hx hb dX6_readItem_55 (by decide) ?_
  obtain ⟨e0_, e1_, e2_, e3_, e4_, e5_, e6_, e7_, e8_, e9_, e10_, e11_, e12_, e13_⟩ := tup14 hf
  have hP : va_P D vwCl [(q_o, .inr (5, [.ref q_o_bytes, .int o_length, .int o_token', .int o_number', .int o_place', .int o_next', .int o_toldOnce'])), (q_o_bytes, .inl (cB, 200, .inl o_bytes)), (q_a1, .inr (2, [.int a1_members', .int a1_firstWarmth', .int a1_forMotion', .int a1_cold', .int a1_fur', .int a1_coughs', .int a1_seconds', .long a1_pairs']))] H := by rw [← e1_, ← e2_, ← e3_, ← e4_, ← e5_, ← e6_, ← e7_, ← e8_, ← e9_, ← e10_, ← e11_, ← e12_, ← e13_]; exact hP
  have hD : va_D A [(q_o, .inr (5, [.ref q_o_bytes, .int o_length, .int o_token', .int o_number', .int o_place', .int o_next', .int o_toldOnce'])), (q_o_bytes, .inl (cB, 200, .inl o_bytes)), (q_a1, .inr (2, [.int a1_members', .int a1_firstWarmth', .int a1_forMotion', .int a1_cold', .int a1_fur', .int a1_coughs', .int a1_seconds', .long a1_pairs']))] := by rw [← e1_, ← e2_, ← e3_, ← e4_, ← e5_, ← e6_, ← e7_, ← e8_, ← e9_, ← e10_, ← e11_, ← e12_, ← e13_]; exact hD
  exact endMI hx hb hr hlocks rfl hP hD hS e0_ dX6_readItem_56
def f_X6_readInto_20_b (o_length : Int32) (o_bytes : Nat → Int32) (K20 : Int32 → Int32 → Int32 → Int32 → Int32 → Int32 → Int32 → Int32 → Int32 → Int32 → Int32 → Int32 → Int32 → Int64 → Option (Int32 × Int32 × Int32 × Int32 × Int32 × Int32 × Int32 × Int32 × Int32 × Int32 × Int32 × Int32 × Int32 × Int64)) (x2 : Int32) (o_token : Int32) (o_number : Int32) (o_place : Int32) (o_next : Int32) (o_toldOnce : Int32) (a1_members : Int32) (a1_firstWarmth : Int32) (a1_forMotion : Int32) (a1_cold : Int32) (a1_fur : Int32) (a1_coughs : Int32) (a1_seconds : Int32) (a1_pairs : Int64) : Option (Int32 × Int32 × Int32 × Int32 × Int32 × Int32 × Int32 × Int32 × Int32 × Int32 × Int32 × Int32 × Int32 × Int64) :=
  if (200 : Int32) < x2 then (
    some (x2, o_token, o_number, o_place, o_next, o_toldOnce, a1_members, a1_firstWarmth, a1_forMotion, a1_cold, a1_fur, a1_coughs, a1_seconds, a1_pairs)
  ) else (
    if o_token = 0 then (
      some (x2, o_token, o_number, o_place, o_next, o_toldOnce, a1_members, a1_firstWarmth, a1_forMotion, a1_cold, a1_fur, a1_coughs, a1_seconds, a1_pairs)
    ) else (
      ob1 (f_X6_whichWord o_length o_place o_next o_bytes) fun r3 =>
      ob14 (f_X6_readItem o_length o_bytes o_token o_number o_place o_next o_toldOnce a1_members a1_firstWarmth a1_forMotion a1_cold a1_fur a1_coughs a1_seconds a1_pairs r3) fun r5 m6 m7 m8 m9 m10 m11 m12 m13 m14 m15 m16 m17 m18 =>
      if r5 = 0 then (
        some (((-10)) - m8, m6, m7, m8, m9, m10, m11, m12, m13, m14, m15, m16, m17, m18)
      ) else (
        bnd (x2 + 1) fun y21 =>
        ob3 (f_X6_readToken o_length o_bytes m6 m8 m9) fun m22 m23 m24 =>
        K20 y21 m22 m7 m23 m24 m10 m11 m12 m13 m14 m15 m16 m17 m18
      )
    )
  )
def f_X6_readInto_20 (o_length : Int32) (o_bytes : Nat → Int32) : Nat → Int32 → Int32 → Int32 → Int32 → Int32 → Int32 → Int32 → Int32 → Int32 → Int32 → Int32 → Int32 → Int32 → Int64 → Option (Int32 × Int32 × Int32 × Int32 × Int32 × Int32 × Int32 × Int32 × Int32 × Int32 × Int32 × Int32 × Int32 × Int64)
  | 0 => fun _ _ _ _ _ _ _ _ _ _ _ _ _ _ => none
  | n + 1 => f_X6_readInto_20_b o_length o_bytes (f_X6_readInto_20 o_length o_bytes n)
def f_X6_readInto (o_length : Int32) (o_bytes : Nat → Int32) (o_token : Int32) (o_number : Int32) (o_place : Int32) (o_next : Int32) (o_toldOnce : Int32) (a1_members : Int32) (a1_firstWarmth : Int32) (a1_forMotion : Int32) (a1_cold : Int32) (a1_fur : Int32) (a1_coughs : Int32) (a1_seconds : Int32) (a1_pairs : Int64) : Option (Int32 × Int32 × Int32 × Int32 × Int32 × Int32 × Int32 × Int32 × Int32 × Int32 × Int32 × Int32 × Int32 × Int64) :=
  ob8 (f_X2_beAsAtFirst a1_members a1_firstWarmth a1_forMotion a1_cold a1_fur a1_coughs a1_seconds a1_pairs) fun m26 m27 m28 m29 m30 m31 m32 m33 =>
  ob3 (f_X6_readToken o_length o_bytes o_token o_place 0) fun m35 m36 m37 =>
  f_X6_readInto_20 o_length o_bytes FU 0 m35 o_number m36 m37 0 m26 m27 m28 m29 m30 m31 m32 m33
set_option maxHeartbeats 4000000 in
set_option maxRecDepth 100000 in
theorem c_X6_readInto (l : Launch) (D : va_G) (cB cI cZ cM cN : ClassId) (adK adV : Nat → Nat) (qf : Option Nat) (q_o : Nat) (q_a1 : Nat) (q_o_bytes : Nat) (o_length : Int32) (o_token : Int32) (o_number : Int32) (o_place : Int32) (o_next : Int32) (o_toldOnce : Int32) (o_bytes : Nat → Int32) (a1_members : Int32) (a1_firstWarmth : Int32) (a1_forMotion : Int32) (a1_cold : Int32) (a1_fur : Int32) (a1_coughs : Int32) (a1_seconds : Int32) (a1_pairs : Int64) (r : Int32) (o_token' : Int32) (o_number' : Int32) (o_place' : Int32) (o_next' : Int32) (o_toldOnce' : Int32) (a1_members' : Int32) (a1_firstWarmth' : Int32) (a1_forMotion' : Int32) (a1_cold' : Int32) (a1_fur' : Int32) (a1_coughs' : Int32) (a1_seconds' : Int32) (a1_pairs' : Int64) (sz : Nat) (hf : f_X6_readInto o_length o_bytes o_token o_number o_place o_next o_toldOnce a1_members a1_firstWarmth a1_forMotion a1_cold a1_fur a1_coughs a1_seconds a1_pairs = some (r, o_token', o_number', o_place', o_next', o_toldOnce', a1_members', a1_firstWarmth', a1_forMotion', a1_cold', a1_fur', a1_coughs', a1_seconds', a1_pairs')) : Met l yX6_readInto wsX6_readInto ({ frames := 6, cells := 0, slots := 0, locals := 127 } : Room) (PMs D cB cI cZ cM cN adK adV qf [.ref q_o, .ref q_a1] [(q_o, .inr (5, [.ref q_o_bytes, .int o_length, .int o_token, .int o_number, .int o_place, .int o_next, .int o_toldOnce])), (q_o_bytes, .inl (cB, 200, .inl o_bytes)), (q_a1, .inr (2, [.int a1_members, .int a1_firstWarmth, .int a1_forMotion, .int a1_cold, .int a1_fur, .int a1_coughs, .int a1_seconds, .long a1_pairs]))] sz) (QI D [(q_o, .inr (5, [.ref q_o_bytes, .int o_length, .int o_token', .int o_number', .int o_place', .int o_next', .int o_toldOnce'])), (q_o_bytes, .inl (cB, 200, .inl o_bytes)), (q_a1, .inr (2, [.int a1_members', .int a1_firstWarmth', .int a1_forMotion', .int a1_cold', .int a1_fur', .int a1_coughs', .int a1_seconds', .long a1_pairs']))] r (va_A [(q_o, .inr (5, [.ref q_o_bytes, .int o_length, .int o_token, .int o_number, .int o_place, .int o_next, .int o_toldOnce])), (q_o_bytes, .inl (cB, 200, .inl o_bytes)), (q_a1, .inr (2, [.int a1_members, .int a1_firstWarmth, .int a1_forMotion, .int a1_cold, .int a1_fur, .int a1_coughs, .int a1_seconds, .long a1_pairs]))] sz)) 0 0 (va_A [(q_o, .inr (5, [.ref q_o_bytes, .int o_length, .int o_token, .int o_number, .int o_place, .int o_next, .int o_toldOnce])), (q_o_bytes, .inl (cB, 200, .inl o_bytes)), (q_a1, .inr (2, [.int a1_members, .int a1_firstWarmth, .int a1_forMotion, .int a1_cold, .int a1_fur, .int a1_coughs, .int a1_seconds, .long a1_pairs]))] sz) := by
  refine entMs (l := l) (y := yX6_readInto) (ws := wsX6_readInto) (cc := cX6_readInto) (av := [.ref q_o, .ref q_a1]) (wc := [(q_o, .inr (5, [.ref q_o_bytes, .int o_length, .int o_token, .int o_number, .int o_place, .int o_next, .int o_toldOnce])), (q_o_bytes, .inl (cB, 200, .inl o_bytes)), (q_a1, .inr (2, [.int a1_members, .int a1_firstWarmth, .int a1_forMotion, .int a1_cold, .int a1_fur, .int a1_coughs, .int a1_seconds, .long a1_pairs]))]) (sz := sz) (Qc := fun A => QI D [(q_o, .inr (5, [.ref q_o_bytes, .int o_length, .int o_token', .int o_number', .int o_place', .int o_next', .int o_toldOnce'])), (q_o_bytes, .inl (cB, 200, .inl o_bytes)), (q_a1, .inr (2, [.int a1_members', .int a1_firstWarmth', .int a1_forMotion', .int a1_cold', .int a1_fur', .int a1_coughs', .int a1_seconds', .long a1_pairs']))] r A) (by decide +kernel) rfl (Nat.le_of_ble_eq_true rfl) ?_
  intro A p e s m below meth c hx hb hr hml hown hlocks hts hK hKA hST hA H locs hP hD hS ls hl
  have hown : s.vm.findClass RX6 = some m.cls := hown
  have hl : lv_has ls 3 [(0, .ref q_o), (1, .ref q_a1)] := hl
  have hfix : CallFix p m c cX6_readInto 3 s ([.ref q_o, .ref q_a1] : List Value).toArray wsX6_readInto RX6 := ⟨hx, hb, hml, hown, hts⟩
  have hinX6 : ∀ w ∈ u_ws RX6 TX6 7, w ∈ wsX6_readInto := by decide +kernel
  have g33 := hts (.fieldLink RX6 33 "LastCoat$Text" "token" "I") (by decide +kernel)
  have g44 := hts (.fieldLink RX6 44 "LastCoat$Text" "place" "I") (by decide +kernel)
  have g24 := hts (.fieldLink RX6 24 "LastCoat$Text" "next" "I") (by decide +kernel)
  have g27 := hts (.fieldLink RX6 27 "LastCoat$Text" "toldOnce" "I") (by decide +kernel)
  have L20 : ∀ (n20 : Nat) (x2 : Int32) (o_token : Int32) (o_number : Int32) (o_place : Int32) (o_next : Int32) (o_toldOnce : Int32) (a1_members : Int32) (a1_firstWarmth : Int32) (a1_forMotion : Int32) (a1_cold : Int32) (a1_fur : Int32) (a1_coughs : Int32) (a1_seconds : Int32) (a1_pairs : Int64) (H : Heap) (locs : List Loc) (ls : Array Slot), f_X6_readInto_20 o_length o_bytes n20 x2 o_token o_number o_place o_next o_toldOnce a1_members a1_firstWarmth a1_forMotion a1_cold a1_fur a1_coughs a1_seconds a1_pairs = some (r, o_token', o_number', o_place', o_next', o_toldOnce', a1_members', a1_firstWarmth', a1_forMotion', a1_cold', a1_fur', a1_coughs', a1_seconds', a1_pairs') → va_P D vwCl [(q_o, .inr (5, [.ref q_o_bytes, .int o_length, .int o_token, .int o_number, .int o_place, .int o_next, .int o_toldOnce])), (q_o_bytes, .inl (cB, 200, .inl o_bytes)), (q_a1, .inr (2, [.int a1_members, .int a1_firstWarmth, .int a1_forMotion, .int a1_cold, .int a1_fur, .int a1_coughs, .int a1_seconds, .long a1_pairs]))] H → va_D A [(q_o, .inr (5, [.ref q_o_bytes, .int o_length, .int o_token, .int o_number, .int o_place, .int o_next, .int o_toldOnce])), (q_o_bytes, .inl (cB, 200, .inl o_bytes)), (q_a1, .inr (2, [.int a1_members, .int a1_firstWarmth, .int a1_forMotion, .int a1_cold, .int a1_fur, .int a1_coughs, .int a1_seconds, .long a1_pairs]))] → va_S A s.heap H locs → lv_has ls 3 [(0, .ref q_o), (1, .ref q_a1), (2, .int x2)] → W p l e ({ frames := 6, cells := 0, slots := 0, locals := 127 } : Room) s m ([.ref q_o, .ref q_a1] : List Value).toArray below meth c H locs 0 0 (MQ below (QI D [(q_o, .inr (5, [.ref q_o_bytes, .int o_length, .int o_token', .int o_number', .int o_place', .int o_next', .int o_toldOnce'])), (q_o_bytes, .inl (cB, 200, .inl o_bytes)), (q_a1, .inr (2, [.int a1_members', .int a1_firstWarmth', .int a1_forMotion', .int a1_cold', .int a1_fur', .int a1_coughs', .int a1_seconds', .long a1_pairs']))] r A) ([.ref q_o, .ref q_a1] : List Value).toArray s 0 0 A) (F0 m 20 ls []) := by
    intro n20
    induction n20 with
    | zero =>
      intro x2 o_token o_number o_place o_next o_toldOnce a1_members a1_firstWarmth a1_forMotion a1_cold a1_fur a1_coughs a1_seconds a1_pairs H locs ls hf hP hD hS hl
      exact noneNe hf
    | succ n20 ih20 =>
      intro x2 o_token o_number o_place o_next o_toldOnce a1_members a1_firstWarmth a1_forMotion a1_cold a1_fur a1_coughs a1_seconds a1_pairs H locs ls hf hP hD hS hl
      have hf : f_X6_readInto_20_b o_length o_bytes (f_X6_readInto_20 o_length o_bytes n20) x2 o_token o_number o_place o_next o_toldOnce a1_members a1_firstWarmth a1_forMotion a1_cold a1_fur a1_coughs a1_seconds a1_pairs = some (r, o_token', o_number', o_place', o_next', o_toldOnce', a1_members', a1_firstWarmth', a1_forMotion', a1_cold', a1_fur', a1_coughs', a1_seconds', a1_pairs') := hf
      unfold f_X6_readInto_20_b at hf
      refine lv_iload_n hx hb dX6_readInto_20 rfl (lv_at hl 2 rfl) ?_
      refine lv_sipush (v := 200) hx hb dX6_readInto_21 (by decide) ?_
      refine lv_icmp_gt (tgt := 64) hx hb dX6_readInto_24 (by decide) (fun c1 => ?_) (fun c1 => ?_)
      · have hf := ite_p hf c1
        refine lv_iload_n hx hb dX6_readInto_64 rfl (lv_at hl 2 rfl) ?_
        obtain ⟨e0_, e1_, e2_, e3_, e4_, e5_, e6_, e7_, e8_, e9_, e10_, e11_, e12_, e13_⟩ := tup14 hf
        have hP : va_P D vwCl [(q_o, .inr (5, [.ref q_o_bytes, .int o_length, .int o_token', .int o_number', .int o_place', .int o_next', .int o_toldOnce'])), (q_o_bytes, .inl (cB, 200, .inl o_bytes)), (q_a1, .inr (2, [.int a1_members', .int a1_firstWarmth', .int a1_forMotion', .int a1_cold', .int a1_fur', .int a1_coughs', .int a1_seconds', .long a1_pairs']))] H := by rw [← e1_, ← e2_, ← e3_, ← e4_, ← e5_, ← e6_, ← e7_, ← e8_, ← e9_, ← e10_, ← e11_, ← e12_, ← e13_]; exact hP
        have hD : va_D A [(q_o, .inr (5, [.ref q_o_bytes, .int o_length, .int o_token', .int o_number', .int o_place', .int o_next', .int o_toldOnce'])), (q_o_bytes, .inl (cB, 200, .inl o_bytes)), (q_a1, .inr (2, [.int a1_members', .int a1_firstWarmth', .int a1_forMotion', .int a1_cold', .int a1_fur', .int a1_coughs', .int a1_seconds', .long a1_pairs']))] := by rw [← e1_, ← e2_, ← e3_, ← e4_, ← e5_, ← e6_, ← e7_, ← e8_, ← e9_, ← e10_, ← e11_, ← e12_, ← e13_]; exact hD
        exact endMI hx hb hr hlocks rfl hP hD hS e0_ dX6_readInto_65
      · have hf := ite_n hf c1
        refine lv_aload_n hx hb dX6_readInto_27 rfl (lv_at hl 0 rfl) ?_
        refine va_get (D := D) (ci := 5) (v := .int o_token) (C := RX6) (T := TX6) (N := 7) hx hb hts hinX6 hown hK.1 hP 0 rfl rfl 2 (by decide) g33 (fun _ h9 => h9) rfl dX6_readInto_28 ?_
        refine lv_if_eq (tgt := 64) hx hb dX6_readInto_31 (by decide) (fun c2 => ?_) (fun c2 => ?_)
        · have hf := ite_p hf c2
          refine lv_iload_n hx hb dX6_readInto_64 rfl (lv_at hl 2 rfl) ?_
          obtain ⟨e0_, e1_, e2_, e3_, e4_, e5_, e6_, e7_, e8_, e9_, e10_, e11_, e12_, e13_⟩ := tup14 hf
          have hP : va_P D vwCl [(q_o, .inr (5, [.ref q_o_bytes, .int o_length, .int o_token', .int o_number', .int o_place', .int o_next', .int o_toldOnce'])), (q_o_bytes, .inl (cB, 200, .inl o_bytes)), (q_a1, .inr (2, [.int a1_members', .int a1_firstWarmth', .int a1_forMotion', .int a1_cold', .int a1_fur', .int a1_coughs', .int a1_seconds', .long a1_pairs']))] H := by rw [← e1_, ← e2_, ← e3_, ← e4_, ← e5_, ← e6_, ← e7_, ← e8_, ← e9_, ← e10_, ← e11_, ← e12_, ← e13_]; exact hP
          have hD : va_D A [(q_o, .inr (5, [.ref q_o_bytes, .int o_length, .int o_token', .int o_number', .int o_place', .int o_next', .int o_toldOnce'])), (q_o_bytes, .inl (cB, 200, .inl o_bytes)), (q_a1, .inr (2, [.int a1_members', .int a1_firstWarmth', .int a1_forMotion', .int a1_cold', .int a1_fur', .int a1_coughs', .int a1_seconds', .long a1_pairs']))] := by rw [← e1_, ← e2_, ← e3_, ← e4_, ← e5_, ← e6_, ← e7_, ← e8_, ← e9_, ← e10_, ← e11_, ← e12_, ← e13_]; exact hD
          exact endMI hx hb hr hlocks rfl hP hD hS e0_ dX6_readInto_65
        · have hf := ite_n hf c2
          refine lv_aload_n hx hb dX6_readInto_34 rfl (lv_at hl 0 rfl) ?_
          refine lv_aload_n hx hb dX6_readInto_35 rfl (lv_at hl 1 rfl) ?_
          refine lv_aload_n hx hb dX6_readInto_36 rfl (lv_at hl 0 rfl) ?_
          obtain ⟨r3, h4, hf⟩ := ob1_some hf
          have hKS := (hKA.kept hS.2.1).narrow (B := NA) (fun _ h => h.elim)
          refine roVs (c_X6_whichWord l D cB cI cZ cM cN adK adV qf q_o q_o_bytes o_length o_token o_number o_place o_next o_toldOnce o_bytes r3 h4) hfix (cwV 0 hts gX6_readInto_X6_whichWord rfl rfl rfl (by decide +kernel) ⟨Nat.le_of_ble_eq_true rfl, Nat.le_of_ble_eq_true rfl⟩) (subC hP [0, 1] rfl) hK hKS hST rfl rfl rfl rfl hl.1 rfl (Nat.le_of_ble_eq_true rfl) dX6_readInto_37 ⟨Nat.zero_le _, Nat.zero_le _⟩ ?_
          obtain ⟨r5, m6, m7, m8, m9, m10, m11, m12, m13, m14, m15, m16, m17, m18, h19, hf⟩ := ob14_some hf
          refine muV (wr := []) (ws1 := [(q_o, .inr (5, [.ref q_o_bytes, .int o_length, .int m6, .int m7, .int m8, .int m9, .int m10])), (q_o_bytes, .inl (cB, 200, .inl o_bytes)), (q_a1, .inr (2, [.int m11, .int m12, .int m13, .int m14, .int m15, .int m16, .int m17, .long m18]))]) (c_X6_readItem l D cB cI cZ cM cN q_o q_a1 q_o_bytes o_length o_token o_number o_place o_next o_toldOnce o_bytes a1_members a1_firstWarmth a1_forMotion a1_cold a1_fur a1_coughs a1_seconds a1_pairs r3 r5 m6 m7 m8 m9 m10 m11 m12 m13 m14 m15 m16 m17 m18 H.size h19) hfix (cwV 2 hts gX6_readInto_X6_readItem rfl rfl rfl (by decide +kernel) ⟨Nat.le_of_ble_eq_true rfl, Nat.le_of_ble_eq_true rfl⟩) hP hK hD hA hS [0, 1, 2] [] [0, 1, 2] rfl rfl rfl rfl (by decide) rfl rfl rfl rfl rfl rfl hl.1 rfl (Nat.le_of_ble_eq_true rfl) dX6_readInto_40 ⟨Nat.zero_le _, Nat.zero_le _⟩ (fun H locs hP hD hS => ?_)
          refine lv_if_ne (tgt := 54) hx hb dX6_readInto_43 (by decide) (fun c20 => ?_) (fun c20 => ?_)
          · have hf := ite_n hf c20
            obtain ⟨y21, ey21⟩ : ∃ z : Int32, z = x2 + 1 := ⟨_, rfl⟩
            have hf := bnd_at hf ey21
            refine lv_iinc (v := y21) (lv' := [(2, .int y21), (0, .ref q_o), (1, .ref q_a1)]) hx hb dX6_readInto_54 hl (k := 2) rfl (by rw [ey21]; rfl) (by decide) rfl (fun ls hl => ?_)
            refine lv_aload_n hx hb dX6_readInto_57 rfl (lv_at hl 1 rfl) ?_
            obtain ⟨m22, m23, m24, h25, hf⟩ := ob3_some hf
            refine muVv (wr := [(q_a1, .inr (2, [.int m11, .int m12, .int m13, .int m14, .int m15, .int m16, .int m17, .long m18]))]) (ws1 := [(q_o, .inr (5, [.ref q_o_bytes, .int o_length, .int m22, .int m7, .int m23, .int m24, .int m10])), (q_o_bytes, .inl (cB, 200, .inl o_bytes)), (q_a1, .inr (2, [.int m11, .int m12, .int m13, .int m14, .int m15, .int m16, .int m17, .long m18]))]) (c_X6_readToken l D cB cI cZ cM cN q_o q_o_bytes o_length m6 m7 m8 m9 m10 o_bytes m22 m23 m24 H.size h25) hfix (cwV 0 hts gX6_readInto_X6_readToken rfl rfl rfl (by decide +kernel) ⟨Nat.le_of_ble_eq_true rfl, Nat.le_of_ble_eq_true rfl⟩) hP hK hD hA hS [0, 1] [2] [1, 2, 0] rfl rfl rfl rfl (by decide) rfl rfl rfl rfl rfl rfl hl.1 rfl (Nat.le_of_ble_eq_true rfl) dX6_readInto_58 ⟨Nat.zero_le _, Nat.zero_le _⟩ (fun H locs hP hD hS => ?_)
            refine lv_goto (tgt := 20) hx hb dX6_readInto_61 (by decide) ?_
            exact ih20 y21 m22 m7 m23 m24 m10 m11 m12 m13 m14 m15 m16 m17 m18 _ _ ls hf hP hD hS (lv_sub hl [1, 2, 0] rfl)
          · have hf := ite_p hf c20
            refine lv_bipush (v := (-10)) hx hb dX6_readInto_46 (by decide) ?_
            refine lv_aload_n hx hb dX6_readInto_48 rfl (lv_at hl 0 rfl) ?_
            refine va_get (D := D) (ci := 5) (v := .int m8) (C := RX6) (T := TX6) (N := 7) hx hb hts hinX6 hown hK.1 hP 0 rfl rfl 4 (by decide) g44 (fun _ h9 => h9) rfl dX6_readInto_49 ?_
            refine lv_isub hx hb dX6_readInto_52 ?_
            obtain ⟨e0_, e1_, e2_, e3_, e4_, e5_, e6_, e7_, e8_, e9_, e10_, e11_, e12_, e13_⟩ := tup14 hf
            have hP : va_P D vwCl [(q_o, .inr (5, [.ref q_o_bytes, .int o_length, .int o_token', .int o_number', .int o_place', .int o_next', .int o_toldOnce'])), (q_o_bytes, .inl (cB, 200, .inl o_bytes)), (q_a1, .inr (2, [.int a1_members', .int a1_firstWarmth', .int a1_forMotion', .int a1_cold', .int a1_fur', .int a1_coughs', .int a1_seconds', .long a1_pairs']))] H := by rw [← e1_, ← e2_, ← e3_, ← e4_, ← e5_, ← e6_, ← e7_, ← e8_, ← e9_, ← e10_, ← e11_, ← e12_, ← e13_]; exact hP
            have hD : va_D A [(q_o, .inr (5, [.ref q_o_bytes, .int o_length, .int o_token', .int o_number', .int o_place', .int o_next', .int o_toldOnce'])), (q_o_bytes, .inl (cB, 200, .inl o_bytes)), (q_a1, .inr (2, [.int a1_members', .int a1_firstWarmth', .int a1_forMotion', .int a1_cold', .int a1_fur', .int a1_coughs', .int a1_seconds', .long a1_pairs']))] := by rw [← e1_, ← e2_, ← e3_, ← e4_, ← e5_, ← e6_, ← e7_, ← e8_, ← e9_, ← e10_, ← e11_, ← e12_, ← e13_]; exact hD
            exact endMI hx hb hr hlocks rfl hP hD hS e0_ dX6_readInto_53
  unfold f_X6_readInto at hf
  refine lv_aload_n hx hb dX6_readInto_0 rfl (lv_at hl 1 rfl) ?_
  obtain ⟨m26, m27, m28, m29, m30, m31, m32, m33, h34, hf⟩ := ob8_some hf
  refine muVv (wr := [(q_o, .inr (5, [.ref q_o_bytes, .int o_length, .int o_token, .int o_number, .int o_place, .int o_next, .int o_toldOnce])), (q_o_bytes, .inl (cB, 200, .inl o_bytes))]) (ws1 := [(q_o, .inr (5, [.ref q_o_bytes, .int o_length, .int o_token, .int o_number, .int o_place, .int o_next, .int o_toldOnce])), (q_o_bytes, .inl (cB, 200, .inl o_bytes)), (q_a1, .inr (2, [.int m26, .int m27, .int m28, .int m29, .int m30, .int m31, .int m32, .long m33]))]) (c_X2_beAsAtFirst l D cB cI cZ cM cN q_a1 a1_members a1_firstWarmth a1_forMotion a1_cold a1_fur a1_coughs a1_seconds a1_pairs m26 m27 m28 m29 m30 m31 m32 m33 H.size h34) hfix (cwV 0 hts gX6_readInto_X2_beAsAtFirst rfl rfl rfl (by decide +kernel) ⟨Nat.le_of_ble_eq_true rfl, Nat.le_of_ble_eq_true rfl⟩) hP hK hD hA hS [2] [0, 1] [0, 1, 2] rfl rfl rfl rfl (by decide) rfl rfl rfl rfl rfl rfl hl.1 rfl (Nat.le_of_ble_eq_true rfl) dX6_readInto_1 ⟨Nat.zero_le _, Nat.zero_le _⟩ (fun H locs hP hD hS => ?_)
  refine lv_aload_n hx hb dX6_readInto_4 rfl (lv_at hl 0 rfl) ?_
  refine lv_iconst (v := 0) hx hb dX6_readInto_5 (by decide) ?_
  refine va_put (D := D) (ci := 5) (v := .int 0) (ty := .int) (C := RX6) (T := TX6) (N := 7) hx hb hts hinX6 tyX6 tyX6_ok nmX6 hown hK.1 hP hD hS 0 rfl rfl 5 (by decide) g24 (fun _ h9 => h9) rfl (by decide +kernel) rfl rfl (Nat.le_of_ble_eq_true rfl) dX6_readInto_6 (fun H locs hP hD hS => ?_)
  have hP : va_P D vwCl [(q_o, .inr (5, [.ref q_o_bytes, .int o_length, .int o_token, .int o_number, .int o_place, .int 0, .int o_toldOnce])), (q_o_bytes, .inl (cB, 200, .inl o_bytes)), (q_a1, .inr (2, [.int m26, .int m27, .int m28, .int m29, .int m30, .int m31, .int m32, .long m33]))] H := hP
  have hD : va_D A [(q_o, .inr (5, [.ref q_o_bytes, .int o_length, .int o_token, .int o_number, .int o_place, .int 0, .int o_toldOnce])), (q_o_bytes, .inl (cB, 200, .inl o_bytes)), (q_a1, .inr (2, [.int m26, .int m27, .int m28, .int m29, .int m30, .int m31, .int m32, .long m33]))] := hD
  refine lv_aload_n hx hb dX6_readInto_9 rfl (lv_at hl 0 rfl) ?_
  refine lv_iconst (v := 0) hx hb dX6_readInto_10 (by decide) ?_
  refine va_put (D := D) (ci := 5) (v := .int 0) (ty := .int) (C := RX6) (T := TX6) (N := 7) hx hb hts hinX6 tyX6 tyX6_ok nmX6 hown hK.1 hP hD hS 0 rfl rfl 6 (by decide) g27 (fun _ h9 => h9) rfl (by decide +kernel) rfl rfl (Nat.le_of_ble_eq_true rfl) dX6_readInto_11 (fun H locs hP hD hS => ?_)
  have hP : va_P D vwCl [(q_o, .inr (5, [.ref q_o_bytes, .int o_length, .int o_token, .int o_number, .int o_place, .int 0, .int 0])), (q_o_bytes, .inl (cB, 200, .inl o_bytes)), (q_a1, .inr (2, [.int m26, .int m27, .int m28, .int m29, .int m30, .int m31, .int m32, .long m33]))] H := hP
  have hD : va_D A [(q_o, .inr (5, [.ref q_o_bytes, .int o_length, .int o_token, .int o_number, .int o_place, .int 0, .int 0])), (q_o_bytes, .inl (cB, 200, .inl o_bytes)), (q_a1, .inr (2, [.int m26, .int m27, .int m28, .int m29, .int m30, .int m31, .int m32, .long m33]))] := hD
  refine lv_iconst (v := 0) hx hb dX6_readInto_14 (by decide) ?_
  refine lv_istore_n (lv' := [(2, .int 0), (0, .ref q_o), (1, .ref q_a1)]) hx hb dX6_readInto_15 rfl hl (by decide) rfl (fun ls hl => ?_)
  refine lv_aload_n hx hb dX6_readInto_16 rfl (lv_at hl 1 rfl) ?_
  obtain ⟨m35, m36, m37, h38, hf⟩ := ob3_some hf
  refine muVv (wr := [(q_a1, .inr (2, [.int m26, .int m27, .int m28, .int m29, .int m30, .int m31, .int m32, .long m33]))]) (ws1 := [(q_o, .inr (5, [.ref q_o_bytes, .int o_length, .int m35, .int o_number, .int m36, .int m37, .int 0])), (q_o_bytes, .inl (cB, 200, .inl o_bytes)), (q_a1, .inr (2, [.int m26, .int m27, .int m28, .int m29, .int m30, .int m31, .int m32, .long m33]))]) (c_X6_readToken l D cB cI cZ cM cN q_o q_o_bytes o_length o_token o_number o_place 0 0 o_bytes m35 m36 m37 H.size h38) hfix (cwV 0 hts gX6_readInto_X6_readToken rfl rfl rfl (by decide +kernel) ⟨Nat.le_of_ble_eq_true rfl, Nat.le_of_ble_eq_true rfl⟩) hP hK hD hA hS [0, 1] [2] [1, 2, 0] rfl rfl rfl rfl (by decide) rfl rfl rfl rfl rfl rfl hl.1 rfl (Nat.le_of_ble_eq_true rfl) dX6_readInto_17 ⟨Nat.zero_le _, Nat.zero_le _⟩ (fun H locs hP hD hS => ?_)
  exact L20 FU 0 m35 o_number m36 m37 0 m26 m27 m28 m29 m30 m31 m32 m33 _ _ ls hf hP hD hS (lv_sub hl [1, 2, 0] rfl)
