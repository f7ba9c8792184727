def f_J6_bitCount_0f7a4 (p0 : Int32) : Option (Int32) :=
  bnd (p0 - (((p0.toUInt32 >>> ((1 : Int32).toUInt32 &&& Int32.toUInt32 31)).toInt32) &&& 1431655765)) fun y1 =>
  bnd ((y1 &&& 858993459) + (((y1.toUInt32 >>> ((2 : Int32).toUInt32 &&& Int32.toUInt32 31)).toInt32) &&& 858993459)) fun y2 =>
  bnd ((y2 + ((y2.toUInt32 >>> ((4 : Int32).toUInt32 &&& Int32.toUInt32 31)).toInt32)) &&& 252645135) fun y3 =>
  bnd (y3 + ((y3.toUInt32 >>> ((8 : Int32).toUInt32 &&& Int32.toUInt32 31)).toInt32)) fun y4 =>
  bnd (y4 + ((y4.toUInt32 >>> ((16 : Int32).toUInt32 &&& Int32.toUInt32 31)).toInt32)) fun y5 =>
  some (y5 &&& 63)
set_option maxHeartbeats 4000000 in
set_option maxRecDepth 100000 in
theorem c_J6_bitCount_0f7a4 (l : Launch) (D : va_G) (cB cI cZ cM cN : ClassId) (p0 : Int32) (r : Int32) (hf : f_J6_bitCount_0f7a4 p0 = some r) : Met l yJ6_bitCount_0f7a4 wsJ6_bitCount_0f7a4 ({ frames := 0, cells := 0, slots := 0, locals := 0 } : Room) (PR D cB cI cZ cM cN [.int p0] []) (RI r) 0 0 (fun _ => False) := by
  refine entR (by decide +kernel) rfl (Nat.le_of_ble_eq_true rfl) ?_
  intro p e s m below meth c hx hb hr hml hown hlocks hts hP hK ls hl
  have hown : s.vm.findClass RJ6 = some m.cls := hown
  have hl : lv_has ls 1 [(0, .int p0)] := hl
  have hfix : CallFix p m c cJ6_bitCount_0f7a4 1 s ([.int p0] : List Value).toArray wsJ6_bitCount_0f7a4 RJ6 := ⟨hx, hb, hml, hown, hts⟩
  have g265 := hts (.constant RJ6 265 (1431655765)) (by decide +kernel)
  have g266 := hts (.constant RJ6 266 (858993459)) (by decide +kernel)
  have g267 := hts (.constant RJ6 267 (252645135)) (by decide +kernel)
  unfold f_J6_bitCount_0f7a4 at hf
  refine lv_iload_n hx hb dJ6_bitCount_0f7a4_0 rfl (lv_at hl 0 rfl) ?_
  refine lv_iload_n hx hb dJ6_bitCount_0f7a4_1 rfl (lv_at hl 0 rfl) ?_
  refine lv_iconst (v := 1) hx hb dJ6_bitCount_0f7a4_2 (by decide) ?_
  refine lv_iushr (v := (p0.toUInt32 >>> ((1 : Int32).toUInt32 &&& Int32.toUInt32 31)).toInt32) hx hb dJ6_bitCount_0f7a4_3 rfl ?_
  refine lv_ldcw (v := 1431655765) hx hb hown g265 dJ6_bitCount_0f7a4_4 ?_
  refine lv_iand hx hb dJ6_bitCount_0f7a4_7 ?_
  refine lv_isub hx hb dJ6_bitCount_0f7a4_8 ?_
  refine lv_topi (fun y1 ey1 => ?_)
  have hf := bnd_at hf ey1
  refine lv_istore_n (lv' := [(0, .int y1)]) hx hb dJ6_bitCount_0f7a4_9 rfl hl (by decide) rfl (fun ls hl => ?_)
  refine lv_iload_n hx hb dJ6_bitCount_0f7a4_10 rfl (lv_at hl 0 rfl) ?_
  refine lv_ldcw (v := 858993459) hx hb hown g266 dJ6_bitCount_0f7a4_11 ?_
  refine lv_iand hx hb dJ6_bitCount_0f7a4_14 ?_
  refine lv_iload_n hx hb dJ6_bitCount_0f7a4_15 rfl (lv_at hl 0 rfl) ?_
  refine lv_iconst (v := 2) hx hb dJ6_bitCount_0f7a4_16 (by decide) ?_
  refine lv_iushr (v := (y1.toUInt32 >>> ((2 : Int32).toUInt32 &&& Int32.toUInt32 31)).toInt32) hx hb dJ6_bitCount_0f7a4_17 rfl ?_
  refine lv_ldcw (v := 858993459) hx hb hown g266 dJ6_bitCount_0f7a4_18 ?_
  refine lv_iand hx hb dJ6_bitCount_0f7a4_21 ?_
  refine lv_iadd hx hb dJ6_bitCount_0f7a4_22 ?_
  refine lv_topi (fun y2 ey2 => ?_)
  have hf := bnd_at hf ey2
  refine lv_istore_n (lv' := [(0, .int y2)]) hx hb dJ6_bitCount_0f7a4_23 rfl hl (by decide) rfl (fun ls hl => ?_)
  refine lv_iload_n hx hb dJ6_bitCount_0f7a4_24 rfl (lv_at hl 0 rfl) ?_
  refine lv_iload_n hx hb dJ6_bitCount_0f7a4_25 rfl (lv_at hl 0 rfl) ?_
  refine lv_iconst (v := 4) hx hb dJ6_bitCount_0f7a4_26 (by decide) ?_
  refine lv_iushr (v := (y2.toUInt32 >>> ((4 : Int32).toUInt32 &&& Int32.toUInt32 31)).toInt32) hx hb dJ6_bitCount_0f7a4_27 rfl ?_
  refine lv_iadd hx hb dJ6_bitCount_0f7a4_28 ?_
  refine lv_ldcw (v := 252645135) hx hb hown g267 dJ6_bitCount_0f7a4_29 ?_
  refine lv_iand hx hb dJ6_bitCount_0f7a4_32 ?_
  refine lv_topi (fun y3 ey3 => ?_)
  have hf := bnd_at hf ey3
  refine lv_istore_n (lv' := [(0, .int y3)]) hx hb dJ6_bitCount_0f7a4_33 rfl hl (by decide) rfl (fun ls hl => ?_)
  refine lv_iload_n hx hb dJ6_bitCount_0f7a4_34 rfl (lv_at hl 0 rfl) ?_
  refine lv_iload_n hx hb dJ6_bitCount_0f7a4_35 rfl (lv_at hl 0 rfl) ?_
  refine lv_bipush (v := 8) hx hb dJ6_bitCount_0f7a4_36 (by decide) ?_
  refine lv_iushr (v := (y3.toUInt32 >>> ((8 : Int32).toUInt32 &&& Int32.toUInt32 31)).toInt32) hx hb dJ6_bitCount_0f7a4_38 rfl ?_
  refine lv_iadd hx hb dJ6_bitCount_0f7a4_39 ?_
  refine lv_topi (fun y4 ey4 => ?_)
  have hf := bnd_at hf ey4
  refine lv_istore_n (lv' := [(0, .int y4)]) hx hb dJ6_bitCount_0f7a4_40 rfl hl (by decide) rfl (fun ls hl => ?_)
  refine lv_iload_n hx hb dJ6_bitCount_0f7a4_41 rfl (lv_at hl 0 rfl) ?_
  refine lv_iload_n hx hb dJ6_bitCount_0f7a4_42 rfl (lv_at hl 0 rfl) ?_
  refine lv_bipush (v := 16) hx hb dJ6_bitCount_0f7a4_43 (by decide) ?_
  refine lv_iushr (v := (y4.toUInt32 >>> ((16 : Int32).toUInt32 &&& Int32.toUInt32 31)).toInt32) hx hb dJ6_bitCount_0f7a4_45 rfl ?_
  refine lv_iadd hx hb dJ6_bitCount_0f7a4_46 ?_
  refine lv_topi (fun y5 ey5 => ?_)
  have hf := bnd_at hf ey5
  refine lv_istore_n (lv' := [(0, .int y5)]) hx hb dJ6_bitCount_0f7a4_47 rfl hl (by decide) rfl (fun ls hl => ?_)
  refine lv_iload_n hx hb dJ6_bitCount_0f7a4_48 rfl (lv_at hl 0 rfl) ?_
  refine lv_bipush (v := 63) hx hb dJ6_bitCount_0f7a4_49 (by decide) ?_
  refine lv_iand hx hb dJ6_bitCount_0f7a4_51 ?_
  have e0_ := Option.some.inj hf
  exact endRI hx hb hr hlocks rfl e0_ dJ6_bitCount_0f7a4_52
def f_X1_become (a1_warmth : Int32) (a1_wearer : Int32) (a1_fur : Int32) (a1_minutes : Int32) (a1_lot : Int32) (o_warmth : Int32) (o_wearer : Int32) (o_fur : Int32) (o_minutes : Int32) (o_lot : Int32) : Option (Int32 × Int32 × Int32 × Int32 × Int32) :=
  some (a1_warmth, a1_wearer, a1_fur, a1_minutes, a1_lot)
set_option maxHeartbeats 4000000 in
set_option maxRecDepth 100000 in
theorem c_X1_become (l : Launch) (D : va_G) (cB cI cZ cM cN : ClassId) (q_o : Nat) (q_a1 : Nat) (o_warmth : Int32) (o_wearer : Int32) (o_fur : Int32) (o_minutes : Int32) (o_lot : Int32) (a1_warmth : Int32) (a1_wearer : Int32) (a1_fur : Int32) (a1_minutes : Int32) (a1_lot : Int32) (o_warmth' : Int32) (o_wearer' : Int32) (o_fur' : Int32) (o_minutes' : Int32) (o_lot' : Int32) (sz : Nat) (hf : f_X1_become a1_warmth a1_wearer a1_fur a1_minutes a1_lot o_warmth o_wearer o_fur o_minutes o_lot = some (o_warmth', o_wearer', o_fur', o_minutes', o_lot')) : Met l yX1_become wsX1_become ({ frames := 0, cells := 0, slots := 0, locals := 0 } : Room) (PM D cB cI cZ cM cN [.ref q_o, .ref q_a1] [(q_o, .inr (1, [.int o_warmth, .int o_wearer, .int o_fur, .int o_minutes, .int o_lot])), (q_a1, .inr (1, [.int a1_warmth, .int a1_wearer, .int a1_fur, .int a1_minutes, .int a1_lot]))] sz) (QV D [(q_o, .inr (1, [.int o_warmth', .int o_wearer', .int o_fur', .int o_minutes', .int o_lot'])), (q_a1, .inr (1, [.int a1_warmth, .int a1_wearer, .int a1_fur, .int a1_minutes, .int a1_lot]))] (va_A [(q_o, .inr (1, [.int o_warmth, .int o_wearer, .int o_fur, .int o_minutes, .int o_lot])), (q_a1, .inr (1, [.int a1_warmth, .int a1_wearer, .int a1_fur, .int a1_minutes, .int a1_lot]))] sz)) 0 0 (va_A [(q_o, .inr (1, [.int o_warmth, .int o_wearer, .int o_fur, .int o_minutes, .int o_lot])), (q_a1, .inr (1, [.int a1_warmth, .int a1_wearer, .int a1_fur, .int a1_minutes, .int a1_lot]))] sz) := by
  refine entM (l := l) (y := yX1_become) (ws := wsX1_become) (cc := cX1_become) (av := [.ref q_o, .ref q_a1]) (wc := [(q_o, .inr (1, [.int o_warmth, .int o_wearer, .int o_fur, .int o_minutes, .int o_lot])), (q_a1, .inr (1, [.int a1_warmth, .int a1_wearer, .int a1_fur, .int a1_minutes, .int a1_lot]))]) (sz := sz) (Qc := fun A => QV D [(q_o, .inr (1, [.int o_warmth', .int o_wearer', .int o_fur', .int o_minutes', .int o_lot'])), (q_a1, .inr (1, [.int a1_warmth, .int a1_wearer, .int a1_fur, .int a1_minutes, .int a1_lot]))] A) (by decide +kernel) rfl (Nat.le_of_ble_eq_true rfl) ?_
  intro A p e s m below meth c hx hb hr hml hown hlocks hts hK hA H locs hP hD hS ls hl
  have hown : s.vm.findClass RX1 = some m.cls := hown
  have hl : lv_has ls 2 [(0, .ref q_o), (1, .ref q_a1)] := hl
  have hfix : CallFix p m c cX1_become 2 s ([.ref q_o, .ref q_a1] : List Value).toArray wsX1_become RX1 := ⟨hx, hb, hml, hown, hts⟩
  have hinX1 : ∀ w ∈ u_ws RX1 TX1 5, w ∈ wsX1_become := by decide +kernel
  have g18 := hts (.fieldLink RX1 18 "LastCoat$Now" "warmth" "I") (by decide +kernel)
  have g9 := hts (.fieldLink RX1 9 "LastCoat$Now" "wearer" "I") (by decide +kernel)
  have g21 := hts (.fieldLink RX1 21 "LastCoat$Now" "fur" "I") (by decide +kernel)
  have g24 := hts (.fieldLink RX1 24 "LastCoat$Now" "minutes" "I") (by decide +kernel)
  have g15 := hts (.fieldLink RX1 15 "LastCoat$Now" "lot" "I") (by decide +kernel)
  unfold f_X1_become at hf
  refine lv_aload_n hx hb dX1_become_0 rfl (lv_at hl 0 rfl) ?_
  refine lv_aload_n hx hb dX1_become_1 rfl (lv_at hl 1 rfl) ?_
  refine va_get (D := D) (ci := 1) (v := .int a1_warmth) (C := RX1) (T := TX1) (N := 5) hx hb hts hinX1 hown hK.1 hP 1 rfl rfl 0 (by decide) g18 (fun _ h9 => h9) rfl dX1_become_2 ?_
  refine va_put (D := D) (ci := 1) (v := .int a1_warmth) (ty := .int) (C := RX1) (T := TX1) (N := 5) hx hb hts hinX1 tyX1 tyX1_ok nmX1 hown hK.1 hP hD hS 0 rfl rfl 0 (by decide) g18 (fun _ h9 => h9) rfl (by decide +kernel) rfl rfl (Nat.le_of_ble_eq_true rfl) dX1_become_5 (fun H locs hP hD hS => ?_)
  have hP : va_P D vwCl [(q_o, .inr (1, [.int a1_warmth, .int o_wearer, .int o_fur, .int o_minutes, .int o_lot])), (q_a1, .inr (1, [.int a1_warmth, .int a1_wearer, .int a1_fur, .int a1_minutes, .int a1_lot]))] H := hP
  have hD : va_D A [(q_o, .inr (1, [.int a1_warmth, .int o_wearer, .int o_fur, .int o_minutes, .int o_lot])), (q_a1, .inr (1, [.int a1_warmth, .int a1_wearer, .int a1_fur, .int a1_minutes, .int a1_lot]))] := hD
  refine lv_aload_n hx hb dX1_become_8 rfl (lv_at hl 0 rfl) ?_
  refine lv_aload_n hx hb dX1_become_9 rfl (lv_at hl 1 rfl) ?_
  refine va_get (D := D) (ci := 1) (v := .int a1_wearer) (C := RX1) (T := TX1) (N := 5) hx hb hts hinX1 hown hK.1 hP 1 rfl rfl 1 (by decide) g9 (fun _ h9 => h9) rfl dX1_become_10 ?_
  refine va_put (D := D) (ci := 1) (v := .int a1_wearer) (ty := .int) (C := RX1) (T := TX1) (N := 5) hx hb hts hinX1 tyX1 tyX1_ok nmX1 hown hK.1 hP hD hS 0 rfl rfl 1 (by decide) g9 (fun _ h9 => h9) rfl (by decide +kernel) rfl rfl (Nat.le_of_ble_eq_true rfl) dX1_become_13 (fun H locs hP hD hS => ?_)
  have hP : va_P D vwCl [(q_o, .inr (1, [.int a1_warmth, .int a1_wearer, .int o_fur, .int o_minutes, .int o_lot])), (q_a1, .inr (1, [.int a1_warmth, .int a1_wearer, .int a1_fur, .int a1_minutes, .int a1_lot]))] H := hP
  have hD : va_D A [(q_o, .inr (1, [.int a1_warmth, .int a1_wearer, .int o_fur, .int o_minutes, .int o_lot])), (q_a1, .inr (1, [.int a1_warmth, .int a1_wearer, .int a1_fur, .int a1_minutes, .int a1_lot]))] := hD
  refine lv_aload_n hx hb dX1_become_16 rfl (lv_at hl 0 rfl) ?_
  refine lv_aload_n hx hb dX1_become_17 rfl (lv_at hl 1 rfl) ?_
  refine va_get (D := D) (ci := 1) (v := .int a1_fur) (C := RX1) (T := TX1) (N := 5) hx hb hts hinX1 hown hK.1 hP 1 rfl rfl 2 (by decide) g21 (fun _ h9 => h9) rfl dX1_become_18 ?_
  refine va_put (D := D) (ci := 1) (v := .int a1_fur) (ty := .int) (C := RX1) (T := TX1) (N := 5) hx hb hts hinX1 tyX1 tyX1_ok nmX1 hown hK.1 hP hD hS 0 rfl rfl 2 (by decide) g21 (fun _ h9 => h9) rfl (by decide +kernel) rfl rfl (Nat.le_of_ble_eq_true rfl) dX1_become_21 (fun H locs hP hD hS => ?_)
  have hP : va_P D vwCl [(q_o, .inr (1, [.int a1_warmth, .int a1_wearer, .int a1_fur, .int o_minutes, .int o_lot])), (q_a1, .inr (1, [.int a1_warmth, .int a1_wearer, .int a1_fur, .int a1_minutes, .int a1_lot]))] H := hP
  have hD : va_D A [(q_o, .inr (1, [.int a1_warmth, .int a1_wearer, .int a1_fur, .int o_minutes, .int o_lot])), (q_a1, .inr (1, [.int a1_warmth, .int a1_wearer, .int a1_fur, .int a1_minutes, .int a1_lot]))] := hD
  refine lv_aload_n hx hb dX1_become_24 rfl (lv_at hl 0 rfl) ?_
  refine lv_aload_n hx hb dX1_become_25 rfl (lv_at hl 1 rfl) ?_
  refine va_get (D := D) (ci := 1) (v := .int a1_minutes) (C := RX1) (T := TX1) (N := 5) hx hb hts hinX1 hown hK.1 hP 1 rfl rfl 3 (by decide) g24 (fun _ h9 => h9) rfl dX1_become_26 ?_
  refine va_put (D := D) (ci := 1) (v := .int a1_minutes) (ty := .int) (C := RX1) (T := TX1) (N := 5) hx hb hts hinX1 tyX1 tyX1_ok nmX1 hown hK.1 hP hD hS 0 rfl rfl 3 (by decide) g24 (fun _ h9 => h9) rfl (by decide +kernel) rfl rfl (Nat.le_of_ble_eq_true rfl) dX1_become_29 (fun H locs hP hD hS => ?_)
  have hP : va_P D vwCl [(q_o, .inr (1, [.int a1_warmth, .int a1_wearer, .int a1_fur, .int a1_minutes, .int o_lot])), (q_a1, .inr (1, [.int a1_warmth, .int a1_wearer, .int a1_fur, .int a1_minutes, .int a1_lot]))] H := hP
  have hD : va_D A [(q_o, .inr (1, [.int a1_warmth, .int a1_wearer, .int a1_fur, .int a1_minutes, .int o_lot])), (q_a1, .inr (1, [.int a1_warmth, .int a1_wearer, .int a1_fur, .int a1_minutes, .int a1_lot]))] := hD
  refine lv_aload_n hx hb dX1_become_32 rfl (lv_at hl 0 rfl) ?_
  refine lv_aload_n hx hb dX1_become_33 rfl (lv_at hl 1 rfl) ?_
  refine va_get (D := D) (ci := 1) (v := .int a1_lot) (C := RX1) (T := TX1) (N := 5) hx hb hts hinX1 hown hK.1 hP 1 rfl rfl 4 (by decide) g15 (fun _ h9 => h9) rfl dX1_become_34 ?_
  refine va_put (D := D) (ci := 1) (v := .int a1_lot) (ty := .int) (C := RX1) (T := TX1) (N := 5) hx hb hts hinX1 tyX1 tyX1_ok nmX1 hown hK.1 hP hD hS 0 rfl rfl 4 (by decide) g15 (fun _ h9 => h9) rfl (by decide +kernel) rfl rfl (Nat.le_of_ble_eq_true rfl) dX1_become_37 (fun H locs hP hD hS => ?_)
  have hP : va_P D vwCl [(q_o, .inr (1, [.int a1_warmth, .int a1_wearer, .int a1_fur, .int a1_minutes, .int a1_lot])), (q_a1, .inr (1, [.int a1_warmth, .int a1_wearer, .int a1_fur, .int a1_minutes, .int a1_lot]))] H := hP
  have hD : va_D A [(q_o, .inr (1, [.int a1_warmth, .int a1_wearer, .int a1_fur, .int a1_minutes, .int a1_lot])), (q_a1, .inr (1, [.int a1_warmth, .int a1_wearer, .int a1_fur, .int a1_minutes, .int a1_lot]))] := hD
  obtain ⟨e0_, e1_, e2_, e3_, e4_⟩ := tup5 hf
  have hP : va_P D vwCl [(q_o, .inr (1, [.int o_warmth', .int o_wearer', .int o_fur', .int o_minutes', .int o_lot'])), (q_a1, .inr (1, [.int a1_warmth, .int a1_wearer, .int a1_fur, .int a1_minutes, .int a1_lot]))] H := by rw [← e0_, ← e1_, ← e2_, ← e3_, ← e4_]; exact hP
  have hD : va_D A [(q_o, .inr (1, [.int o_warmth', .int o_wearer', .int o_fur', .int o_minutes', .int o_lot'])), (q_a1, .inr (1, [.int a1_warmth, .int a1_wearer, .int a1_fur, .int a1_minutes, .int a1_lot]))] := by rw [← e0_, ← e1_, ← e2_, ← e3_, ← e4_]; exact hD
  exact endMV hx hb hr hlocks hP hD hS dX1_become_40
def f_X2_has (o_members : Int32) (p1 : Int32) : Option (Int32) :=
  if p1 < 0 then (
    some (0)
  ) else (
    if o_members ≤ p1 then (
      some (0)
    ) else (
      some (1)
    )
  )
set_option maxHeartbeats 4000000 in
set_option maxRecDepth 100000 in
theorem c_X2_has (l : Launch) (D : va_G) (cB cI cZ cM cN : ClassId) (q_o : Nat) (o_members : Int32) (o_firstWarmth : Int32) (o_forMotion : Int32) (o_cold : Int32) (o_fur : Int32) (o_coughs : Int32) (o_seconds : Int32) (o_pairs : Int64) (p1 : Int32) (r : Int32) (hf : f_X2_has o_members p1 = some r) : Met l yX2_has wsX2_has ({ frames := 0, cells := 0, slots := 0, locals := 0 } : Room) (PR D cB cI cZ cM cN [.ref q_o, .int p1] [(q_o, .inr (2, [.int o_members, .int o_firstWarmth, .int o_forMotion, .int o_cold, .int o_fur, .int o_coughs, .int o_seconds, .long o_pairs]))]) (RI r) 0 0 (fun _ => False) := by
  refine entR (by decide +kernel) rfl (Nat.le_of_ble_eq_true rfl) ?_
  intro p e s m below meth c hx hb hr hml hown hlocks hts hP hK ls hl
  have hown : s.vm.findClass RX2 = some m.cls := hown
  have hl : lv_has ls 2 [(0, .ref q_o), (1, .int p1)] := hl
  have hfix : CallFix p m c cX2_has 2 s ([.ref q_o, .int p1] : List Value).toArray wsX2_has RX2 := ⟨hx, hb, hml, hown, hts⟩
  have hinX2 : ∀ w ∈ u_ws RX2 TX2 8, w ∈ wsX2_has := by decide +kernel
  have g14 := hts (.fieldLink RX2 14 "LastCoat$Parliament" "members" "I") (by decide +kernel)
  unfold f_X2_has at hf
  refine lv_iload_n hx hb dX2_has_0 rfl (lv_at hl 1 rfl) ?_
  refine lv_if_lt (tgt := 16) hx hb dX2_has_1 (by decide) (fun c1 => ?_) (fun c1 => ?_)
  · have hf := ite_p hf c1
    refine lv_iconst (v := 0) hx hb dX2_has_16 (by decide) ?_
    have e0_ := Option.some.inj hf
    exact endRI hx hb hr hlocks rfl e0_ dX2_has_17
  · have hf := ite_n hf c1
    refine lv_iload_n hx hb dX2_has_4 rfl (lv_at hl 1 rfl) ?_
    refine lv_aload_n hx hb dX2_has_5 rfl (lv_at hl 0 rfl) ?_
    refine va_get (D := D) (ci := 2) (v := .int o_members) (C := RX2) (T := TX2) (N := 8) hx hb hts hinX2 hown hK.1 hP 0 rfl rfl 0 (by decide) g14 (fun _ h9 => h9) rfl dX2_has_6 ?_
    refine lv_icmp_ge (tgt := 16) hx hb dX2_has_9 (by decide) (fun c2 => ?_) (fun c2 => ?_)
    · have hf := ite_p hf c2
      refine lv_iconst (v := 0) hx hb dX2_has_16 (by decide) ?_
      have e0_ := Option.some.inj hf
      exact endRI hx hb hr hlocks rfl e0_ dX2_has_17
    · have hf := ite_n hf c2
      refine lv_iconst (v := 1) hx hb dX2_has_12 (by decide) ?_
      refine lv_goto (tgt := 17) hx hb dX2_has_13 (by decide) ?_
      have e0_ := Option.some.inj hf
      exact endRI hx hb hr hlocks rfl e0_ dX2_has_17
def f_X2_everybody (o_members : Int32) : Option (Int32) :=
  some (((1 : Int32) <<< (o_members &&& 31)) - 1)
set_option maxHeartbeats 4000000 in
set_option maxRecDepth 100000 in
theorem c_X2_everybody (l : Launch) (D : va_G) (cB cI cZ cM cN : ClassId) (q_o : Nat) (o_members : Int32) (o_firstWarmth : Int32) (o_forMotion : Int32) (o_cold : Int32) (o_fur : Int32) (o_coughs : Int32) (o_seconds : Int32) (o_pairs : Int64) (r : Int32) (hf : f_X2_everybody o_members = some r) : Met l yX2_everybody wsX2_everybody ({ frames := 0, cells := 0, slots := 0, locals := 0 } : Room) (PR D cB cI cZ cM cN [.ref q_o] [(q_o, .inr (2, [.int o_members, .int o_firstWarmth, .int o_forMotion, .int o_cold, .int o_fur, .int o_coughs, .int o_seconds, .long o_pairs]))]) (RI r) 0 0 (fun _ => False) := by
  refine entR (by decide +kernel) rfl (Nat.le_of_ble_eq_true rfl) ?_
  intro p e s m below meth c hx hb hr hml hown hlocks hts hP hK ls hl
  have hown : s.vm.findClass RX2 = some m.cls := hown
  have hl : lv_has ls 1 [(0, .ref q_o)] := hl
  have hfix : CallFix p m c cX2_everybody 1 s ([.ref q_o] : List Value).toArray wsX2_everybody RX2 := ⟨hx, hb, hml, hown, hts⟩
  have hinX2 : ∀ w ∈ u_ws RX2 TX2 8, w ∈ wsX2_everybody := by decide +kernel
  have g14 := hts (.fieldLink RX2 14 "LastCoat$Parliament" "members" "I") (by decide +kernel)
  unfold f_X2_everybody at hf
  refine lv_iconst (v := 1) hx hb dX2_everybody_0 (by decide) ?_
  refine lv_aload_n hx hb dX2_everybody_1 rfl (lv_at hl 0 rfl) ?_
  refine va_get (D := D) (ci := 2) (v := .int o_members) (C := RX2) (T := TX2) (N := 8) hx hb hts hinX2 hown hK.1 hP 0 rfl rfl 0 (by decide) g14 (fun _ h9 => h9) rfl dX2_everybody_2 ?_
  refine lv_ishl hx hb dX2_everybody_5 ?_
  refine lv_iconst (v := 1) hx hb dX2_everybody_6 (by decide) ?_
  refine lv_isub hx hb dX2_everybody_7 ?_
  have e0_ := Option.some.inj hf
  exact endRI hx hb hr hlocks rfl e0_ dX2_everybody_8
def f_X2_sideOf (o_forMotion : Int32) (p1 : Int32) : Option (Int32) :=
  some ((o_forMotion >>> (p1 &&& 31)) &&& 1)
set_option maxHeartbeats 4000000 in
set_option maxRecDepth 100000 in
theorem c_X2_sideOf (l : Launch) (D : va_G) (cB cI cZ cM cN : ClassId) (q_o : Nat) (o_members : Int32) (o_firstWarmth : Int32) (o_forMotion : Int32) (o_cold : Int32) (o_fur : Int32) (o_coughs : Int32) (o_seconds : Int32) (o_pairs : Int64) (p1 : Int32) (r : Int32) (hf : f_X2_sideOf o_forMotion p1 = some r) : Met l yX2_sideOf wsX2_sideOf ({ frames := 0, cells := 0, slots := 0, locals := 0 } : Room) (PR D cB cI cZ cM cN [.ref q_o, .int p1] [(q_o, .inr (2, [.int o_members, .int o_firstWarmth, .int o_forMotion, .int o_cold, .int o_fur, .int o_coughs, .int o_seconds, .long o_pairs]))]) (RI r) 0 0 (fun _ => False) := by
  refine entR (by decide +kernel) rfl (Nat.le_of_ble_eq_true rfl) ?_
  intro p e s m below meth c hx hb hr hml hown hlocks hts hP hK ls hl
  have hown : s.vm.findClass RX2 = some m.cls := hown
  have hl : lv_has ls 2 [(0, .ref q_o), (1, .int p1)] := hl
  have hfix : CallFix p m c cX2_sideOf 2 s ([.ref q_o, .int p1] : List Value).toArray wsX2_sideOf RX2 := ⟨hx, hb, hml, hown, hts⟩
  have hinX2 : ∀ w ∈ u_ws RX2 TX2 8, w ∈ wsX2_sideOf := by decide +kernel
  have g21 := hts (.fieldLink RX2 21 "LastCoat$Parliament" "forMotion" "I") (by decide +kernel)
  unfold f_X2_sideOf at hf
  refine lv_aload_n hx hb dX2_sideOf_0 rfl (lv_at hl 0 rfl) ?_
  refine va_get (D := D) (ci := 2) (v := .int o_forMotion) (C := RX2) (T := TX2) (N := 8) hx hb hts hinX2 hown hK.1 hP 0 rfl rfl 2 (by decide) g21 (fun _ h9 => h9) rfl dX2_sideOf_1 ?_
  refine lv_iload_n hx hb dX2_sideOf_4 rfl (lv_at hl 1 rfl) ?_
  refine lv_ishr hx hb dX2_sideOf_5 ?_
  refine lv_iconst (v := 1) hx hb dX2_sideOf_6 (by decide) ?_
  refine lv_iand hx hb dX2_sideOf_7 ?_
  have e0_ := Option.some.inj hf
  exact endRI hx hb hr hlocks rfl e0_ dX2_sideOf_8
def f_X2_secondersOf (o_pairs : Int64) (p1 : Int32) : Option (Int32) :=
  if (0 : Int32) ≤ p1 then (
    some (((o_pairs >>> ((6 * p1).toInt64 &&& 63)).toInt32) &&& 63)
  ) else (
    some (0)
  )
set_option maxHeartbeats 4000000 in
set_option maxRecDepth 100000 in
theorem c_X2_secondersOf (l : Launch) (D : va_G) (cB cI cZ cM cN : ClassId) (q_o : Nat) (o_members : Int32) (o_firstWarmth : Int32) (o_forMotion : Int32) (o_cold : Int32) (o_fur : Int32) (o_coughs : Int32) (o_seconds : Int32) (o_pairs : Int64) (p1 : Int32) (r : Int32) (hf : f_X2_secondersOf o_pairs p1 = some r) : Met l yX2_secondersOf wsX2_secondersOf ({ frames := 0, cells := 0, slots := 0, locals := 0 } : Room) (PR D cB cI cZ cM cN [.ref q_o, .int p1] [(q_o, .inr (2, [.int o_members, .int o_firstWarmth, .int o_forMotion, .int o_cold, .int o_fur, .int o_coughs, .int o_seconds, .long o_pairs]))]) (RI r) 0 0 (fun _ => False) := by
  refine entR (by decide +kernel) rfl (Nat.le_of_ble_eq_true rfl) ?_
  intro p e s m below meth c hx hb hr hml hown hlocks hts hP hK ls hl
  have hown : s.vm.findClass RX2 = some m.cls := hown
  have hl : lv_has ls 2 [(0, .ref q_o), (1, .int p1)] := hl
  have hfix : CallFix p m c cX2_secondersOf 2 s ([.ref q_o, .int p1] : List Value).toArray wsX2_secondersOf RX2 := ⟨hx, hb, hml, hown, hts⟩
  have hinX2 : ∀ w ∈ u_ws RX2 TX2 8, w ∈ wsX2_secondersOf := by decide +kernel
  have g36 := hts (.fieldLink RX2 36 "LastCoat$Parliament" "pairs" "J") (by decide +kernel)
  unfold f_X2_secondersOf at hf
  refine lv_iload_n hx hb dX2_secondersOf_0 rfl (lv_at hl 1 rfl) ?_
  refine lv_if_ge (tgt := 8) hx hb dX2_secondersOf_1 (by decide) (fun c1 => ?_) (fun c1 => ?_)
  · have hf := ite_p hf c1
    refine lv_aload_n hx hb dX2_secondersOf_8 rfl (lv_at hl 0 rfl) ?_
    refine va_get (D := D) (ci := 2) (v := .long o_pairs) (C := RX2) (T := TX2) (N := 8) hx hb hts hinX2 hown hK.1 hP 0 rfl rfl 7 (by decide) g36 (fun _ h9 => h9) rfl dX2_secondersOf_9 ?_
    refine lv_bipush (v := 6) hx hb dX2_secondersOf_12 (by decide) ?_
    refine lv_iload_n hx hb dX2_secondersOf_14 rfl (lv_at hl 1 rfl) ?_
    refine lv_imul hx hb dX2_secondersOf_15 ?_
    refine lv_lshr (v := o_pairs >>> ((6 * p1).toInt64 &&& 63)) hx hb dX2_secondersOf_16 rfl ?_
    refine lv_l2i (v := (o_pairs >>> ((6 * p1).toInt64 &&& 63)).toInt32) hx hb dX2_secondersOf_17 rfl ?_
    refine lv_bipush (v := 63) hx hb dX2_secondersOf_18 (by decide) ?_
    refine lv_iand hx hb dX2_secondersOf_20 ?_
    have e0_ := Option.some.inj hf
    exact endRI hx hb hr hlocks rfl e0_ dX2_secondersOf_21
  · have hf := ite_n hf c1
    refine lv_iconst (v := 0) hx hb dX2_secondersOf_4 (by decide) ?_
    refine lv_goto (tgt := 21) hx hb dX2_secondersOf_5 (by decide) ?_
    have e0_ := Option.some.inj hf
    exact endRI hx hb hr hlocks rfl e0_ dX2_secondersOf_21
def f_X2_warmthOf (p0 : Int32) (p1 : Int32) : Option (Int32) :=
  some ((p1 >>> ((5 * p0) &&& 31)) &&& 31)
set_option maxHeartbeats 4000000 in
set_option maxRecDepth 100000 in
theorem c_X2_warmthOf (l : Launch) (D : va_G) (cB cI cZ cM cN : ClassId) (p0 : Int32) (p1 : Int32) (r : Int32) (hf : f_X2_warmthOf p0 p1 = some r) : Met l yX2_warmthOf wsX2_warmthOf ({ frames := 0, cells := 0, slots := 0, locals := 0 } : Room) (PR D cB cI cZ cM cN [.int p0, .int p1] []) (RI r) 0 0 (fun _ => False) := by
  refine entR (by decide +kernel) rfl (Nat.le_of_ble_eq_true rfl) ?_
  intro p e s m below meth c hx hb hr hml hown hlocks hts hP hK ls hl
  have hown : s.vm.findClass RX2 = some m.cls := hown
  have hl : lv_has ls 2 [(0, .int p0), (1, .int p1)] := hl
  have hfix : CallFix p m c cX2_warmthOf 2 s ([.int p0, .int p1] : List Value).toArray wsX2_warmthOf RX2 := ⟨hx, hb, hml, hown, hts⟩
  unfold f_X2_warmthOf at hf
  refine lv_iload_n hx hb dX2_warmthOf_0 rfl (lv_at hl 1 rfl) ?_
  refine lv_iconst (v := 5) hx hb dX2_warmthOf_1 (by decide) ?_
  refine lv_iload_n hx hb dX2_warmthOf_2 rfl (lv_at hl 0 rfl) ?_
  refine lv_imul hx hb dX2_warmthOf_3 ?_
  refine lv_ishr hx hb dX2_warmthOf_4 ?_
  refine lv_bipush (v := 31) hx hb dX2_warmthOf_5 (by decide) ?_
  refine lv_iand hx hb dX2_warmthOf_7 ?_
  have e0_ := Option.some.inj hf
  exact endRI hx hb hr hlocks rfl e0_ dX2_warmthOf_8
def f_X2_isFrozen (p0 : Int32) (p1 : Int32) : Option (Int32) :=
  ob1 (f_X2_warmthOf p0 p1) fun r1 =>
  if r1 = 0 then (
    some (1)
  ) else (
    some (0)
  )
set_option maxHeartbeats 4000000 in
set_option maxRecDepth 100000 in
theorem c_X2_isFrozen (l : Launch) (D : va_G) (cB cI cZ cM cN : ClassId) (p0 : Int32) (p1 : Int32) (r : Int32) (hf : f_X2_isFrozen p0 p1 = some r) : Met l yX2_isFrozen wsX2_isFrozen ({ frames := 1, cells := 0, slots := 0, locals := 21 } : Room) (PR D cB cI cZ cM cN [.int p0, .int p1] []) (RI r) 0 0 (fun _ => False) := by
  refine entR (by decide +kernel) rfl (Nat.le_of_ble_eq_true rfl) ?_
  intro p e s m below meth c hx hb hr hml hown hlocks hts hP hK ls hl
  have hown : s.vm.findClass RX2 = some m.cls := hown
  have hl : lv_has ls 2 [(0, .int p0), (1, .int p1)] := hl
  have hfix : CallFix p m c cX2_isFrozen 2 s ([.int p0, .int p1] : List Value).toArray wsX2_isFrozen RX2 := ⟨hx, hb, hml, hown, hts⟩
  unfold f_X2_isFrozen at hf
  refine lv_iload_n hx hb dX2_isFrozen_0 rfl (lv_at hl 0 rfl) ?_
  refine lv_iload_n hx hb dX2_isFrozen_1 rfl (lv_at hl 1 rfl) ?_
  obtain ⟨r1, h2, hf⟩ := ob1_some hf
  refine roS (c_X2_warmthOf l D cB cI cZ cM cN p0 p1 r1 h2) hfix (va_cwS 2 hts gX2_isFrozen_X2_warmthOf rfl rfl rfl (by decide +kernel) ⟨Nat.le_of_ble_eq_true rfl, Nat.le_of_ble_eq_true rfl⟩) (subC hP [] rfl) hK rfl hl.1 rfl (Nat.le_of_ble_eq_true rfl) dX2_isFrozen_2 ⟨Nat.zero_le _, Nat.zero_le _⟩ ?_
  refine lv_if_ne (tgt := 12) hx hb dX2_isFrozen_5 (by decide) (fun c3 => ?_) (fun c3 => ?_)
  · have hf := ite_n hf c3
    refine lv_iconst (v := 0) hx hb dX2_isFrozen_12 (by decide) ?_
    have e0_ := Option.some.inj hf
    exact endRI hx hb hr hlocks rfl e0_ dX2_isFrozen_13
  · have hf := ite_p hf c3
    refine lv_iconst (v := 1) hx hb dX2_isFrozen_8 (by decide) ?_
    refine lv_goto (tgt := 13) hx hb dX2_isFrozen_9 (by decide) ?_
    have e0_ := Option.some.inj hf
    exact endRI hx hb hr hlocks rfl e0_ dX2_isFrozen_13
def f_X2_frozen_26 (o_members : Int32) (K4 : Int32 → Int32 → Int32 → Option (Int32)) (x1 : Int32) (x2 : Int32) (x3 : Int32) : Option (Int32) :=
  bnd (x3 + 1) fun y1 =>
  K4 x1 x2 y1
def f_X2_frozen_4_b (o_members : Int32) (K4 : Int32 → Int32 → Int32 → Option (Int32)) (x1 : Int32) (x2 : Int32) (x3 : Int32) : Option (Int32) :=
  if o_members ≤ x3 then (
    some (x2)
  ) else (
    ob1 (f_X2_isFrozen x3 x1) fun r3 =>
    if r3 = 0 then (
      f_X2_frozen_26 o_members K4 x1 x2 x3
    ) else (
      bnd (x2 ||| ((1 : Int32) <<< (x3 &&& 31))) fun y6 =>
      f_X2_frozen_26 o_members K4 x1 y6 x3
    )
  )
def f_X2_frozen_4 (o_members : Int32) : Nat → Int32 → Int32 → Int32 → Option (Int32)
  | 0 => fun _ _ _ => none
  | n + 1 => f_X2_frozen_4_b o_members (f_X2_frozen_4 o_members n)
def f_X2_frozen (o_members : Int32) (p1 : Int32) : Option (Int32) :=
  f_X2_frozen_4 o_members FU p1 0 0
set_option maxHeartbeats 4000000 in
set_option maxRecDepth 100000 in
theorem c_X2_frozen (l : Launch) (D : va_G) (cB cI cZ cM cN : ClassId) (q_o : Nat) (o_members : Int32) (o_firstWarmth : Int32) (o_forMotion : Int32) (o_cold : Int32) (o_fur : Int32) (o_coughs : Int32) (o_seconds : Int32) (o_pairs : Int64) (p1 : Int32) (r : Int32) (hf : f_X2_frozen o_members p1 = some r) : Met l yX2_frozen wsX2_frozen ({ frames := 2, cells := 0, slots := 0, locals := 42 } : Room) (PR D cB cI cZ cM cN [.ref q_o, .int p1] [(q_o, .inr (2, [.int o_members, .int o_firstWarmth, .int o_forMotion, .int o_cold, .int o_fur, .int o_coughs, .int o_seconds, .long o_pairs]))]) (RI r) 0 0 (fun _ => False) := by
  refine entR (by decide +kernel) rfl (Nat.le_of_ble_eq_true rfl) ?_
  intro p e s m below meth c hx hb hr hml hown hlocks hts hP hK ls hl
  have hown : s.vm.findClass RX2 = some m.cls := hown
  have hl : lv_has ls 4 [(0, .ref q_o), (1, .int p1)] := hl
  have hfix : CallFix p m c cX2_frozen 4 s ([.ref q_o, .int p1] : List Value).toArray wsX2_frozen RX2 := ⟨hx, hb, hml, hown, hts⟩
  have hinX2 : ∀ w ∈ u_ws RX2 TX2 8, w ∈ wsX2_frozen := by decide +kernel
  have g14 := hts (.fieldLink RX2 14 "LastCoat$Parliament" "members" "I") (by decide +kernel)
  have L4 : ∀ (n4 : Nat) (x1 : Int32) (x2 : Int32) (x3 : Int32) (ls : Array Slot), f_X2_frozen_4 o_members n4 x1 x2 x3 = some r → lv_has ls 4 [(0, .ref q_o), (1, .int x1), (2, .int x2), (3, .int x3)] → W p l e ({ frames := 2, cells := 0, slots := 0, locals := 42 } : Room) s m ([.ref q_o, .int p1] : List Value).toArray below meth c s.heap [] 0 0 (MQ below (RI r) ([.ref q_o, .int p1] : List Value).toArray s 0 0 (fun _ => False)) (F0 m 4 ls []) := by
    intro n4
    induction n4 with
    | zero =>
      intro x1 x2 x3 ls hf hl
      exact noneNe hf
    | succ n4 ih4 =>
      have L26 : ∀ (x1 : Int32) (x2 : Int32) (x3 : Int32) (ls : Array Slot), f_X2_frozen_26 o_members (f_X2_frozen_4 o_members n4) x1 x2 x3 = some r → lv_has ls 4 [(0, .ref q_o), (1, .int x1), (2, .int x2), (3, .int x3)] → W p l e ({ frames := 2, cells := 0, slots := 0, locals := 42 } : Room) s m ([.ref q_o, .int p1] : List Value).toArray below meth c s.heap [] 0 0 (MQ below (RI r) ([.ref q_o, .int p1] : List Value).toArray s 0 0 (fun _ => False)) (F0 m 26 ls []) := by
        intro x1 x2 x3 ls hf hl
        unfold f_X2_frozen_26 at hf
        obtain ⟨y1, ey1⟩ : ∃ z : Int32, z = x3 + 1 := ⟨_, rfl⟩
        have hf := bnd_at hf ey1
        refine lv_iinc (v := y1) (lv' := [(3, .int y1), (0, .ref q_o), (1, .int x1), (2, .int x2)]) hx hb dX2_frozen_26 hl (k := 3) rfl (by rw [ey1]; rfl) (by decide) rfl (fun ls hl => ?_)
        refine lv_goto (tgt := 4) hx hb dX2_frozen_29 (by decide) ?_
        exact ih4 x1 x2 y1 ls hf (lv_sub hl [1, 2, 3, 0] rfl)
      intro x1 x2 x3 ls hf hl
      have hf : f_X2_frozen_4_b o_members (f_X2_frozen_4 o_members n4) x1 x2 x3 = some r := hf
      unfold f_X2_frozen_4_b at hf
      refine lv_iload_n hx hb dX2_frozen_4 rfl (lv_at hl 3 rfl) ?_
      refine lv_aload_n hx hb dX2_frozen_5 rfl (lv_at hl 0 rfl) ?_
      refine va_get (D := D) (ci := 2) (v := .int o_members) (C := RX2) (T := TX2) (N := 8) hx hb hts hinX2 hown hK.1 hP 0 rfl rfl 0 (by decide) g14 (fun _ h9 => h9) rfl dX2_frozen_6 ?_
      refine lv_icmp_ge (tgt := 32) hx hb dX2_frozen_9 (by decide) (fun c2 => ?_) (fun c2 => ?_)
      · have hf := ite_p hf c2
        refine lv_iload_n hx hb dX2_frozen_32 rfl (lv_at hl 2 rfl) ?_
        have e0_ := Option.some.inj hf
        exact endRI hx hb hr hlocks rfl e0_ dX2_frozen_33
      · have hf := ite_n hf c2
        refine lv_iload_n hx hb dX2_frozen_12 rfl (lv_at hl 3 rfl) ?_
        refine lv_iload_n hx hb dX2_frozen_13 rfl (lv_at hl 1 rfl) ?_
        obtain ⟨r3, h4, hf⟩ := ob1_some hf
        refine roS (c_X2_isFrozen l D cB cI cZ cM cN x3 x1 r3 h4) hfix (va_cwS 2 hts gX2_frozen_X2_isFrozen rfl rfl rfl (by decide +kernel) ⟨Nat.le_of_ble_eq_true rfl, Nat.le_of_ble_eq_true rfl⟩) (subC hP [] rfl) hK rfl hl.1 rfl (Nat.le_of_ble_eq_true rfl) dX2_frozen_14 ⟨Nat.zero_le _, Nat.zero_le _⟩ ?_
        refine lv_if_eq (tgt := 26) hx hb dX2_frozen_17 (by decide) (fun c5 => ?_) (fun c5 => ?_)
        · have hf := ite_p hf c5
          exact L26 x1 x2 x3 ls hf (lv_sub hl [0, 1, 2, 3] rfl)
        · have hf := ite_n hf c5
          refine lv_iload_n hx hb dX2_frozen_20 rfl (lv_at hl 2 rfl) ?_
          refine lv_iconst (v := 1) hx hb dX2_frozen_21 (by decide) ?_
          refine lv_iload_n hx hb dX2_frozen_22 rfl (lv_at hl 3 rfl) ?_
          refine lv_ishl hx hb dX2_frozen_23 ?_
          refine lv_ior hx hb dX2_frozen_24 ?_
          refine lv_topi (fun y6 ey6 => ?_)
          have hf := bnd_at hf ey6
          refine lv_istore_n (lv' := [(2, .int y6), (0, .ref q_o), (1, .int x1), (3, .int x3)]) hx hb dX2_frozen_25 rfl hl (by decide) rfl (fun ls hl => ?_)
          exact L26 x1 y6 x3 ls hf (lv_sub hl [1, 2, 0, 3] rfl)
  unfold f_X2_frozen at hf
  refine lv_iconst (v := 0) hx hb dX2_frozen_0 (by decide) ?_
  refine lv_istore_n (lv' := [(2, .int 0), (0, .ref q_o), (1, .int p1)]) hx hb dX2_frozen_1 rfl hl (by decide) rfl (fun ls hl => ?_)
  refine lv_iconst (v := 0) hx hb dX2_frozen_2 (by decide) ?_
  refine lv_istore_n (lv' := [(3, .int 0), (2, .int 0), (0, .ref q_o), (1, .int p1)]) hx hb dX2_frozen_3 rfl hl (by decide) rfl (fun ls hl => ?_)
  exact L4 FU p1 0 0 ls hf (lv_sub hl [2, 3, 1, 0] rfl)
def f_X2_notFrozen (o_members : Int32) (p1 : Int32) : Option (Int32) :=
  ob1 (f_X2_frozen o_members p1) fun r1 =>
  ob1 (f_J6_bitCount_0f7a4 r1) fun r3 =>
  some (o_members - r3)
set_option maxHeartbeats 4000000 in
set_option maxRecDepth 100000 in
theorem c_X2_notFrozen (l : Launch) (D : va_G) (cB cI cZ cM cN : ClassId) (q_o : Nat) (o_members : Int32) (o_firstWarmth : Int32) (o_forMotion : Int32) (o_cold : Int32) (o_fur : Int32) (o_coughs : Int32) (o_seconds : Int32) (o_pairs : Int64) (p1 : Int32) (r : Int32) (hf : f_X2_notFrozen o_members p1 = some r) : Met l yX2_notFrozen wsX2_notFrozen ({ frames := 3, cells := 0, slots := 0, locals := 65 } : Room) (PR D cB cI cZ cM cN [.ref q_o, .int p1] [(q_o, .inr (2, [.int o_members, .int o_firstWarmth, .int o_forMotion, .int o_cold, .int o_fur, .int o_coughs, .int o_seconds, .long o_pairs]))]) (RI r) 0 0 (fun _ => False) := by
  refine entR (by decide +kernel) rfl (Nat.le_of_ble_eq_true rfl) ?_
  intro p e s m below meth c hx hb hr hml hown hlocks hts hP hK ls hl
  have hown : s.vm.findClass RX2 = some m.cls := hown
  have hl : lv_has ls 2 [(0, .ref q_o), (1, .int p1)] := hl
  have hfix : CallFix p m c cX2_notFrozen 2 s ([.ref q_o, .int p1] : List Value).toArray wsX2_notFrozen RX2 := ⟨hx, hb, hml, hown, hts⟩
  have hinX2 : ∀ w ∈ u_ws RX2 TX2 8, w ∈ wsX2_notFrozen := by decide +kernel
  have g14 := hts (.fieldLink RX2 14 "LastCoat$Parliament" "members" "I") (by decide +kernel)
  unfold f_X2_notFrozen at hf
  refine lv_aload_n hx hb dX2_notFrozen_0 rfl (lv_at hl 0 rfl) ?_
  refine va_get (D := D) (ci := 2) (v := .int o_members) (C := RX2) (T := TX2) (N := 8) hx hb hts hinX2 hown hK.1 hP 0 rfl rfl 0 (by decide) g14 (fun _ h9 => h9) rfl dX2_notFrozen_1 ?_
  refine lv_aload_n hx hb dX2_notFrozen_4 rfl (lv_at hl 0 rfl) ?_
  refine lv_iload_n hx hb dX2_notFrozen_5 rfl (lv_at hl 1 rfl) ?_
  obtain ⟨r1, h2, hf⟩ := ob1_some hf
  refine roV (c_X2_frozen l D cB cI cZ cM cN q_o o_members o_firstWarmth o_forMotion o_cold o_fur o_coughs o_seconds o_pairs p1 r1 h2) hfix (cwV 1 hts gX2_notFrozen_X2_frozen rfl rfl rfl (by decide +kernel) ⟨Nat.le_of_ble_eq_true rfl, Nat.le_of_ble_eq_true rfl⟩) (subC hP [0] rfl) hK rfl rfl rfl rfl hl.1 rfl (Nat.le_of_ble_eq_true rfl) dX2_notFrozen_6 ⟨Nat.zero_le _, Nat.zero_le _⟩ ?_
  obtain ⟨r3, h4, hf⟩ := ob1_some hf
  refine roS (c_J6_bitCount_0f7a4 l D cB cI cZ cM cN r1 r3 h4) hfix (va_cwS 1 hts gX2_notFrozen_J6_bitCount_0f7a4 rfl rfl rfl (by decide +kernel) ⟨Nat.le_of_ble_eq_true rfl, Nat.le_of_ble_eq_true rfl⟩) (subC hP [] rfl) hK rfl hl.1 rfl (Nat.le_of_ble_eq_true rfl) dX2_notFrozen_9 ⟨Nat.zero_le _, Nat.zero_le _⟩ ?_
  refine lv_isub hx hb dX2_notFrozen_12 ?_
  have e0_ := Option.some.inj hf
  exact endRI hx hb hr hlocks rfl e0_ dX2_notFrozen_13
def f_X2_isCarried (o_members : Int32) (o_forMotion : Int32) (p1 : Int32) : Option (Int32) :=
  ob1 (f_X2_everybody o_members) fun r1 =>
  ob1 (f_X2_frozen o_members p1) fun r3 =>
  bnd (r1 &&& (r3 ^^^ ((-1)))) fun y5 =>
  ob1 (f_J6_bitCount_0f7a4 (y5 &&& o_forMotion)) fun r6 =>
  ob1 (f_J6_bitCount_0f7a4 (y5 &&& (o_forMotion ^^^ ((-1))))) fun r8 =>
  if r6 ≤ r8 then (
    some (0)
  ) else (
    some (1)
  )
set_option maxHeartbeats 4000000 in
set_option maxRecDepth 100000 in
theorem c_X2_isCarried (l : Launch) (D : va_G) (cB cI cZ cM cN : ClassId) (q_o : Nat) (o_members : Int32) (o_firstWarmth : Int32) (o_forMotion : Int32) (o_cold : Int32) (o_fur : Int32) (o_coughs : Int32) (o_seconds : Int32) (o_pairs : Int64) (p1 : Int32) (r : Int32) (hf : f_X2_isCarried o_members o_forMotion p1 = some r) : Met l yX2_isCarried wsX2_isCarried ({ frames := 3, cells := 0, slots := 0, locals := 65 } : Room) (PR D cB cI cZ cM cN [.ref q_o, .int p1] [(q_o, .inr (2, [.int o_members, .int o_firstWarmth, .int o_forMotion, .int o_cold, .int o_fur, .int o_coughs, .int o_seconds, .long o_pairs]))]) (RI r) 0 0 (fun _ => False) := by
  refine entR (by decide +kernel) rfl (Nat.le_of_ble_eq_true rfl) ?_
  intro p e s m below meth c hx hb hr hml hown hlocks hts hP hK ls hl
  have hown : s.vm.findClass RX2 = some m.cls := hown
  have hl : lv_has ls 3 [(0, .ref q_o), (1, .int p1)] := hl
  have hfix : CallFix p m c cX2_isCarried 3 s ([.ref q_o, .int p1] : List Value).toArray wsX2_isCarried RX2 := ⟨hx, hb, hml, hown, hts⟩
  have hinX2 : ∀ w ∈ u_ws RX2 TX2 8, w ∈ wsX2_isCarried := by decide +kernel
  have g21 := hts (.fieldLink RX2 21 "LastCoat$Parliament" "forMotion" "I") (by decide +kernel)
  unfold f_X2_isCarried at hf
  refine lv_aload_n hx hb dX2_isCarried_0 rfl (lv_at hl 0 rfl) ?_
  obtain ⟨r1, h2, hf⟩ := ob1_some hf
  refine roV (c_X2_everybody l D cB cI cZ cM cN q_o o_members o_firstWarmth o_forMotion o_cold o_fur o_coughs o_seconds o_pairs r1 h2) hfix (cwV 0 hts gX2_isCarried_X2_everybody rfl rfl rfl (by decide +kernel) ⟨Nat.le_of_ble_eq_true rfl, Nat.le_of_ble_eq_true rfl⟩) (subC hP [0] rfl) hK rfl rfl rfl rfl hl.1 rfl (Nat.le_of_ble_eq_true rfl) dX2_isCarried_1 ⟨Nat.zero_le _, Nat.zero_le _⟩ ?_
  refine lv_aload_n hx hb dX2_isCarried_4 rfl (lv_at hl 0 rfl) ?_
  refine lv_iload_n hx hb dX2_isCarried_5 rfl (lv_at hl 1 rfl) ?_
  obtain ⟨r3, h4, hf⟩ := ob1_some hf
  refine roV (c_X2_frozen l D cB cI cZ cM cN q_o o_members o_firstWarmth o_forMotion o_cold o_fur o_coughs o_seconds o_pairs p1 r3 h4) hfix (cwV 1 hts gX2_isCarried_X2_frozen rfl rfl rfl (by decide +kernel) ⟨Nat.le_of_ble_eq_true rfl, Nat.le_of_ble_eq_true rfl⟩) (subC hP [0] rfl) hK rfl rfl rfl rfl hl.1 rfl (Nat.le_of_ble_eq_true rfl) dX2_isCarried_6 ⟨Nat.zero_le _, Nat.zero_le _⟩ ?_
  refine lv_iconst (v := (-1)) hx hb dX2_isCarried_9 (by decide) ?_
  refine lv_ixor hx hb dX2_isCarried_10 ?_
  refine lv_iand hx hb dX2_isCarried_11 ?_
  refine lv_topi (fun y5 ey5 => ?_)
  have hf := bnd_at hf ey5
  refine lv_istore_n (lv' := [(2, .int y5), (0, .ref q_o), (1, .int p1)]) hx hb dX2_isCarried_12 rfl hl (by decide) rfl (fun ls hl => ?_)
  refine lv_iload_n hx hb dX2_isCarried_13 rfl (lv_at hl 0 rfl) ?_
  refine lv_aload_n hx hb dX2_isCarried_14 rfl (lv_at hl 1 rfl) ?_
  refine va_get (D := D) (ci := 2) (v := .int o_forMotion) (C := RX2) (T := TX2) (N := 8) hx hb hts hinX2 hown hK.1 hP 0 rfl rfl 2 (by decide) g21 (fun _ h9 => h9) rfl dX2_isCarried_15 ?_
  refine lv_iand hx hb dX2_isCarried_18 ?_
  obtain ⟨r6, h7, hf⟩ := ob1_some hf
  refine roS (c_J6_bitCount_0f7a4 l D cB cI cZ cM cN (y5 &&& o_forMotion) r6 h7) hfix (va_cwS 1 hts gX2_isCarried_J6_bitCount_0f7a4 rfl rfl rfl (by decide +kernel) ⟨Nat.le_of_ble_eq_true rfl, Nat.le_of_ble_eq_true rfl⟩) (subC hP [] rfl) hK rfl hl.1 rfl (Nat.le_of_ble_eq_true rfl) dX2_isCarried_19 ⟨Nat.zero_le _, Nat.zero_le _⟩ ?_
  refine lv_iload_n hx hb dX2_isCarried_22 rfl (lv_at hl 0 rfl) ?_
  refine lv_aload_n hx hb dX2_isCarried_23 rfl (lv_at hl 1 rfl) ?_
  refine va_get (D := D) (ci := 2) (v := .int o_forMotion) (C := RX2) (T := TX2) (N := 8) hx hb hts hinX2 hown hK.1 hP 0 rfl rfl 2 (by decide) g21 (fun _ h9 => h9) rfl dX2_isCarried_24 ?_
  refine lv_iconst (v := (-1)) hx hb dX2_isCarried_27 (by decide) ?_
  refine lv_ixor hx hb dX2_isCarried_28 ?_
  refine lv_iand hx hb dX2_isCarried_29 ?_
  obtain ⟨r8, h9, hf⟩ := ob1_some hf
  refine roS (c_J6_bitCount_0f7a4 l D cB cI cZ cM cN (y5 &&& (o_forMotion ^^^ ((-1)))) r8 h9) hfix (va_cwS 1 hts gX2_isCarried_J6_bitCount_0f7a4 rfl rfl rfl (by decide +kernel) ⟨Nat.le_of_ble_eq_true rfl, Nat.le_of_ble_eq_true rfl⟩) (subC hP [] rfl) hK rfl hl.1 rfl (Nat.le_of_ble_eq_true rfl) dX2_isCarried_30 ⟨Nat.zero_le _, Nat.zero_le _⟩ ?_
  refine lv_icmp_le (tgt := 40) hx hb dX2_isCarried_33 (by decide) (fun c10 => ?_) (fun c10 => ?_)
  · have hf := ite_p hf c10
    refine lv_iconst (v := 0) hx hb dX2_isCarried_40 (by decide) ?_
    have e0_ := Option.some.inj hf
    exact endRI hx hb hr hlocks rfl e0_ dX2_isCarried_41
  · have hf := ite_n hf c10
    refine lv_iconst (v := 1) hx hb dX2_isCarried_36 (by decide) ?_
    refine lv_goto (tgt := 41) hx hb dX2_isCarried_37 (by decide) ?_
    have e0_ := Option.some.inj hf
    exact endRI hx hb hr hlocks rfl e0_ dX2_isCarried_41
def f_X2_mightBeCarried_62 (o_members : Int32) (o_forMotion : Int32) (o_cold : Int32) (K5 : Int32 → Int32 → Int32 → Int32 → Option (Int32)) (x1 : Int32) (x2 : Int32) (x3 : Int32) (x4 : Int32) : Option (Int32) :=
  bnd (x4 + 1) fun y1 =>
  K5 x1 x2 x3 y1
def f_X2_mightBeCarried_39 (o_members : Int32) (o_forMotion : Int32) (o_cold : Int32) (K5 : Int32 → Int32 → Int32 → Int32 → Option (Int32)) (x1 : Int32) (x2 : Int32) (x4 : Int32) (k0 : Int32) (k1 : Int32) : Option (Int32) :=
  bnd (k0 + k1) fun y2 =>
  f_X2_mightBeCarried_62 o_members o_forMotion o_cold K5 x1 x2 y2 x4
def f_X2_mightBeCarried_5_b (o_members : Int32) (o_forMotion : Int32) (o_cold : Int32) (K5 : Int32 → Int32 → Int32 → Int32 → Option (Int32)) (x1 : Int32) (x2 : Int32) (x3 : Int32) (x4 : Int32) : Option (Int32) :=
  if o_members ≤ x4 then (
    if x3 ≤ 0 then (
      some (0)
    ) else (
      some (1)
    )
  ) else (
    ob1 (f_X2_sideOf o_forMotion x4) fun r5 =>
    if r5 = 1 then (
      ob1 (f_X2_isFrozen x4 x1) fun r12 =>
      if r12 = 0 then (
        f_X2_mightBeCarried_39 o_members o_forMotion o_cold K5 x1 x2 x4 x3 1
      ) else (
        f_X2_mightBeCarried_39 o_members o_forMotion o_cold K5 x1 x2 x4 x3 0
      )
    ) else (
      ob1 (f_X2_warmthOf x4 x1) fun r8 =>
      if r8 ≤ (o_cold * x2) then (
        f_X2_mightBeCarried_62 o_members o_forMotion o_cold K5 x1 x2 x3 x4
      ) else (
        bnd (x3 + (-1)) fun y11 =>
        f_X2_mightBeCarried_62 o_members o_forMotion o_cold K5 x1 x2 y11 x4
      )
    )
  )
def f_X2_mightBeCarried_5 (o_members : Int32) (o_forMotion : Int32) (o_cold : Int32) : Nat → Int32 → Int32 → Int32 → Int32 → Option (Int32)
  | 0 => fun _ _ _ _ => none
  | n + 1 => f_X2_mightBeCarried_5_b o_members o_forMotion o_cold (f_X2_mightBeCarried_5 o_members o_forMotion o_cold n)
def f_X2_mightBeCarried (o_members : Int32) (o_forMotion : Int32) (o_cold : Int32) (p1 : Int32) (p2 : Int32) : Option (Int32) :=
  f_X2_mightBeCarried_5 o_members o_forMotion o_cold FU p1 p2 0 0
set_option maxHeartbeats 4000000 in
set_option maxRecDepth 100000 in
theorem c_X2_mightBeCarried (l : Launch) (D : va_G) (cB cI cZ cM cN : ClassId) (q_o : Nat) (o_members : Int32) (o_firstWarmth : Int32) (o_forMotion : Int32) (o_cold : Int32) (o_fur : Int32) (o_coughs : Int32) (o_seconds : Int32) (o_pairs : Int64) (p1 : Int32) (p2 : Int32) (r : Int32) (hf : f_X2_mightBeCarried o_members o_forMotion o_cold p1 p2 = some r) : Met l yX2_mightBeCarried wsX2_mightBeCarried ({ frames := 2, cells := 0, slots := 0, locals := 42 } : Room) (PR D cB cI cZ cM cN [.ref q_o, .int p1, .int p2] [(q_o, .inr (2, [.int o_members, .int o_firstWarmth, .int o_forMotion, .int o_cold, .int o_fur, .int o_coughs, .int o_seconds, .long o_pairs]))]) (RI r) 0 0 (fun _ => False) := by
  refine entR (by decide +kernel) rfl (Nat.le_of_ble_eq_true rfl) ?_
  intro p e s m below meth c hx hb hr hml hown hlocks hts hP hK ls hl
  have hown : s.vm.findClass RX2 = some m.cls := hown
  have hl : lv_has ls 5 [(0, .ref q_o), (1, .int p1), (2, .int p2)] := hl
  have hfix : CallFix p m c cX2_mightBeCarried 5 s ([.ref q_o, .int p1, .int p2] : List Value).toArray wsX2_mightBeCarried RX2 := ⟨hx, hb, hml, hown, hts⟩
  have hinX2 : ∀ w ∈ u_ws RX2 TX2 8, w ∈ wsX2_mightBeCarried := by decide +kernel
  have g14 := hts (.fieldLink RX2 14 "LastCoat$Parliament" "members" "I") (by decide +kernel)
  have g24 := hts (.fieldLink RX2 24 "LastCoat$Parliament" "cold" "I") (by decide +kernel)
  have L5 : ∀ (n5 : Nat) (x1 : Int32) (x2 : Int32) (x3 : Int32) (x4 : Int32) (ls : Array Slot), f_X2_mightBeCarried_5 o_members o_forMotion o_cold n5 x1 x2 x3 x4 = some r → lv_has ls 5 [(0, .ref q_o), (1, .int x1), (2, .int x2), (3, .int x3), (4, .int x4)] → W p l e ({ frames := 2, cells := 0, slots := 0, locals := 42 } : Room) s m ([.ref q_o, .int p1, .int p2] : List Value).toArray below meth c s.heap [] 0 0 (MQ below (RI r) ([.ref q_o, .int p1, .int p2] : List Value).toArray s 0 0 (fun _ => False)) (F0 m 5 ls []) := by
    intro n5
    induction n5 with
    | zero =>
      intro x1 x2 x3 x4 ls hf hl
      exact noneNe hf
    | succ n5 ih5 =>
      have L62 : ∀ (x1 : Int32) (x2 : Int32) (x3 : Int32) (x4 : Int32) (ls : Array Slot), f_X2_mightBeCarried_62 o_members o_forMotion o_cold (f_X2_mightBeCarried_5 o_members o_forMotion o_cold n5) x1 x2 x3 x4 = some r → lv_has ls 5 [(0, .ref q_o), (1, .int x1), (2, .int x2), (3, .int x3), (4, .int x4)] → W p l e ({ frames := 2, cells := 0, slots := 0, locals := 42 } : Room) s m ([.ref q_o, .int p1, .int p2] : List Value).toArray below meth c s.heap [] 0 0 (MQ below (RI r) ([.ref q_o, .int p1, .int p2] : List Value).toArray s 0 0 (fun _ => False)) (F0 m 62 ls []) := by
        intro x1 x2 x3 x4 ls hf hl
        unfold f_X2_mightBeCarried_62 at hf
        obtain ⟨y1, ey1⟩ : ∃ z : Int32, z = x4 + 1 := ⟨_, rfl⟩
        have hf := bnd_at hf ey1
        refine lv_iinc (v := y1) (lv' := [(4, .int y1), (0, .ref q_o), (1, .int x1), (2, .int x2), (3, .int x3)]) hx hb dX2_mightBeCarried_62 hl (k := 4) rfl (by rw [ey1]; rfl) (by decide) rfl (fun ls hl => ?_)
        refine lv_goto (tgt := 5) hx hb dX2_mightBeCarried_65 (by decide) ?_
        exact ih5 x1 x2 x3 y1 ls hf (lv_sub hl [1, 2, 3, 4, 0] rfl)
      have L39 : ∀ (x1 : Int32) (x2 : Int32) (x4 : Int32) (k0 : Int32) (k1 : Int32) (ls : Array Slot), f_X2_mightBeCarried_39 o_members o_forMotion o_cold (f_X2_mightBeCarried_5 o_members o_forMotion o_cold n5) x1 x2 x4 k0 k1 = some r → lv_has ls 5 [(0, .ref q_o), (1, .int x1), (2, .int x2), (4, .int x4)] → W p l e ({ frames := 2, cells := 0, slots := 0, locals := 42 } : Room) s m ([.ref q_o, .int p1, .int p2] : List Value).toArray below meth c s.heap [] 0 0 (MQ below (RI r) ([.ref q_o, .int p1, .int p2] : List Value).toArray s 0 0 (fun _ => False)) (F0 m 39 ls [.int k1, .int k0]) := by
        intro x1 x2 x4 k0 k1 ls hf hl
        unfold f_X2_mightBeCarried_39 at hf
        refine lv_iadd hx hb dX2_mightBeCarried_39 ?_
        refine lv_topi (fun y2 ey2 => ?_)
        have hf := bnd_at hf ey2
        refine lv_istore_n (lv' := [(3, .int y2), (0, .ref q_o), (1, .int x1), (2, .int x2), (4, .int x4)]) hx hb dX2_mightBeCarried_40 rfl hl (by decide) rfl (fun ls hl => ?_)
        refine lv_goto (tgt := 62) hx hb dX2_mightBeCarried_41 (by decide) ?_
        exact L62 x1 x2 y2 x4 ls hf (lv_sub hl [1, 2, 3, 0, 4] rfl)
      intro x1 x2 x3 x4 ls hf hl
      have hf : f_X2_mightBeCarried_5_b o_members o_forMotion o_cold (f_X2_mightBeCarried_5 o_members o_forMotion o_cold n5) x1 x2 x3 x4 = some r := hf
      unfold f_X2_mightBeCarried_5_b at hf
      refine lv_iload hx hb dX2_mightBeCarried_5 (lv_at hl 4 rfl) ?_
      refine lv_aload_n hx hb dX2_mightBeCarried_7 rfl (lv_at hl 0 rfl) ?_
      refine va_get (D := D) (ci := 2) (v := .int o_members) (C := RX2) (T := TX2) (N := 8) hx hb hts hinX2 hown hK.1 hP 0 rfl rfl 0 (by decide) g14 (fun _ h9 => h9) rfl dX2_mightBeCarried_8 ?_
      refine lv_icmp_ge (tgt := 68) hx hb dX2_mightBeCarried_11 (by decide) (fun c3 => ?_) (fun c3 => ?_)
      · have hf := ite_p hf c3
        refine lv_iload_n hx hb dX2_mightBeCarried_68 rfl (lv_at hl 3 rfl) ?_
        refine lv_if_le (tgt := 76) hx hb dX2_mightBeCarried_69 (by decide) (fun c4 => ?_) (fun c4 => ?_)
        · have hf := ite_p hf c4
          refine lv_iconst (v := 0) hx hb dX2_mightBeCarried_76 (by decide) ?_
          have e0_ := Option.some.inj hf
          exact endRI hx hb hr hlocks rfl e0_ dX2_mightBeCarried_77
        · have hf := ite_n hf c4
          refine lv_iconst (v := 1) hx hb dX2_mightBeCarried_72 (by decide) ?_
          refine lv_goto (tgt := 77) hx hb dX2_mightBeCarried_73 (by decide) ?_
          have e0_ := Option.some.inj hf
          exact endRI hx hb hr hlocks rfl e0_ dX2_mightBeCarried_77
      · have hf := ite_n hf c3
        refine lv_aload_n hx hb dX2_mightBeCarried_14 rfl (lv_at hl 0 rfl) ?_
        refine lv_iload hx hb dX2_mightBeCarried_15 (lv_at hl 4 rfl) ?_
        obtain ⟨r5, h6, hf⟩ := ob1_some hf
        refine roV (c_X2_sideOf l D cB cI cZ cM cN q_o o_members o_firstWarmth o_forMotion o_cold o_fur o_coughs o_seconds o_pairs x4 r5 h6) hfix (cwV 1 hts gX2_mightBeCarried_X2_sideOf rfl rfl rfl (by decide +kernel) ⟨Nat.le_of_ble_eq_true rfl, Nat.le_of_ble_eq_true rfl⟩) (subC hP [0] rfl) hK rfl rfl rfl rfl hl.1 rfl (Nat.le_of_ble_eq_true rfl) dX2_mightBeCarried_17 ⟨Nat.zero_le _, Nat.zero_le _⟩ ?_
        refine lv_iconst (v := 1) hx hb dX2_mightBeCarried_20 (by decide) ?_
        refine lv_icmp_ne (tgt := 44) hx hb dX2_mightBeCarried_21 (by decide) (fun c7 => ?_) (fun c7 => ?_)
        · have hf := ite_n hf c7
          refine lv_iload hx hb dX2_mightBeCarried_44 (lv_at hl 4 rfl) ?_
          refine lv_iload_n hx hb dX2_mightBeCarried_46 rfl (lv_at hl 1 rfl) ?_
          obtain ⟨r8, h9, hf⟩ := ob1_some hf
          refine roS (c_X2_warmthOf l D cB cI cZ cM cN x4 x1 r8 h9) hfix (va_cwS 2 hts gX2_mightBeCarried_X2_warmthOf rfl rfl rfl (by decide +kernel) ⟨Nat.le_of_ble_eq_true rfl, Nat.le_of_ble_eq_true rfl⟩) (subC hP [] rfl) hK rfl hl.1 rfl (Nat.le_of_ble_eq_true rfl) dX2_mightBeCarried_47 ⟨Nat.zero_le _, Nat.zero_le _⟩ ?_
          refine lv_aload_n hx hb dX2_mightBeCarried_50 rfl (lv_at hl 0 rfl) ?_
          refine va_get (D := D) (ci := 2) (v := .int o_cold) (C := RX2) (T := TX2) (N := 8) hx hb hts hinX2 hown hK.1 hP 0 rfl rfl 3 (by decide) g24 (fun _ h9 => h9) rfl dX2_mightBeCarried_51 ?_
          refine lv_iload_n hx hb dX2_mightBeCarried_54 rfl (lv_at hl 2 rfl) ?_
          refine lv_imul hx hb dX2_mightBeCarried_55 ?_
          refine lv_icmp_le (tgt := 62) hx hb dX2_mightBeCarried_56 (by decide) (fun c10 => ?_) (fun c10 => ?_)
          · have hf := ite_p hf c10
            exact L62 x1 x2 x3 x4 ls hf (lv_sub hl [0, 1, 2, 3, 4] rfl)
          · have hf := ite_n hf c10
            obtain ⟨y11, ey11⟩ : ∃ z : Int32, z = x3 + (-1) := ⟨_, rfl⟩
            have hf := bnd_at hf ey11
            refine lv_iinc (v := y11) (lv' := [(3, .int y11), (0, .ref q_o), (1, .int x1), (2, .int x2), (4, .int x4)]) hx hb dX2_mightBeCarried_59 hl (k := 3) rfl (by rw [ey11]; rfl) (by decide) rfl (fun ls hl => ?_)
            exact L62 x1 x2 y11 x4 ls hf (lv_sub hl [1, 2, 3, 0, 4] rfl)
        · have hf := ite_p hf c7
          refine lv_iload_n hx hb dX2_mightBeCarried_24 rfl (lv_at hl 3 rfl) ?_
          refine lv_iload hx hb dX2_mightBeCarried_25 (lv_at hl 4 rfl) ?_
          refine lv_iload_n hx hb dX2_mightBeCarried_27 rfl (lv_at hl 1 rfl) ?_
          obtain ⟨r12, h13, hf⟩ := ob1_some hf
          refine roS (c_X2_isFrozen l D cB cI cZ cM cN x4 x1 r12 h13) hfix (va_cwS 2 hts gX2_mightBeCarried_X2_isFrozen rfl rfl rfl (by decide +kernel) ⟨Nat.le_of_ble_eq_true rfl, Nat.le_of_ble_eq_true rfl⟩) (subC hP [] rfl) hK rfl hl.1 rfl (Nat.le_of_ble_eq_true rfl) dX2_mightBeCarried_28 ⟨Nat.zero_le _, Nat.zero_le _⟩ ?_
          refine lv_if_eq (tgt := 38) hx hb dX2_mightBeCarried_31 (by decide) (fun c14 => ?_) (fun c14 => ?_)
          · have hf := ite_p hf c14
            refine lv_iconst (v := 1) hx hb dX2_mightBeCarried_38 (by decide) ?_
            exact L39 x1 x2 x4 x3 1 ls hf (lv_sub hl [0, 1, 2, 4] rfl)
          · have hf := ite_n hf c14
            refine lv_iconst (v := 0) hx hb dX2_mightBeCarried_34 (by decide) ?_
            refine lv_goto (tgt := 39) hx hb dX2_mightBeCarried_35 (by decide) ?_
            exact L39 x1 x2 x4 x3 0 ls hf (lv_sub hl [0, 1, 2, 4] rfl)
  unfold f_X2_mightBeCarried at hf
  refine lv_iconst (v := 0) hx hb dX2_mightBeCarried_0 (by decide) ?_
  refine lv_istore_n (lv' := [(3, .int 0), (0, .ref q_o), (1, .int p1), (2, .int p2)]) hx hb dX2_mightBeCarried_1 rfl hl (by decide) rfl (fun ls hl => ?_)
  refine lv_iconst (v := 0) hx hb dX2_mightBeCarried_2 (by decide) ?_
  refine lv_istore (lv' := [(4, .int 0), (3, .int 0), (0, .ref q_o), (1, .int p1), (2, .int p2)]) hx hb dX2_mightBeCarried_3 hl (by decide) rfl (fun ls hl => ?_)
  exact L5 FU p1 p2 0 0 ls hf (lv_sub hl [2, 3, 4, 1, 0] rfl)
def f_X2_afterMinute_78 (o_members : Int32) (o_cold : Int32) (o_pairs : Int64) (K13 : Int32 → Int32 → Int32 → Int32 → Int32 → Int32 → Option (Int32)) (x1 : Int32) (x2 : Int32) (x3 : Int32) (x4 : Int32) (x5 : Int32) (x6 : Int32) (x7 : Int32) : Option (Int32) :=
  bnd (x5 ||| (x7 <<< ((5 * x6) &&& 31))) fun y1 =>
  bnd (x6 + 1) fun y2 =>
  K13 x1 x2 x3 x4 y1 y2
def f_X2_afterMinute_55 (o_members : Int32) (o_cold : Int32) (o_pairs : Int64) (K13 : Int32 → Int32 → Int32 → Int32 → Int32 → Int32 → Option (Int32)) (x1 : Int32) (x2 : Int32) (x3 : Int32) (x4 : Int32) (x5 : Int32) (x6 : Int32) (x7 : Int32) : Option (Int32) :=
  if ((x4 >>> (x6 &&& 31)) &&& 1) = 0 then (
    bnd (if (0 : Int32) < (x7 - o_cold) then (x7 - o_cold) else 0) fun y4 =>
    f_X2_afterMinute_78 o_members o_cold o_pairs K13 x1 x2 x3 x4 x5 x6 y4
  ) else (
    f_X2_afterMinute_78 o_members o_cold o_pairs K13 x1 x2 x3 x4 x5 x6 x7
  )
def f_X2_afterMinute_13_b (o_members : Int32) (o_cold : Int32) (o_pairs : Int64) (K13 : Int32 → Int32 → Int32 → Int32 → Int32 → Int32 → Option (Int32)) (x1 : Int32) (x2 : Int32) (x3 : Int32) (x4 : Int32) (x5 : Int32) (x6 : Int32) : Option (Int32) :=
  if o_members ≤ x6 then (
    some (x5)
  ) else (
    ob1 (f_X2_warmthOf x6 x1) fun r6 =>
    if x6 = x2 then (
      if r6 ≤ 0 then (
        f_X2_afterMinute_55 o_members o_cold o_pairs K13 x1 x2 x3 x4 x5 x6 r6
      ) else (
        bnd (if (r6 + x3) < 20 then (r6 + x3) else 20) fun y10 =>
        f_X2_afterMinute_78 o_members o_cold o_pairs K13 x1 x2 x3 x4 x5 x6 y10
      )
    ) else (
      f_X2_afterMinute_55 o_members o_cold o_pairs K13 x1 x2 x3 x4 x5 x6 r6
    )
  )
def f_X2_afterMinute_13 (o_members : Int32) (o_cold : Int32) (o_pairs : Int64) : Nat → Int32 → Int32 → Int32 → Int32 → Int32 → Int32 → Option (Int32)
  | 0 => fun _ _ _ _ _ _ => none
  | n + 1 => f_X2_afterMinute_13_b o_members o_cold o_pairs (f_X2_afterMinute_13 o_members o_cold o_pairs n)
def f_X2_afterMinute (o_members : Int32) (o_cold : Int32) (o_pairs : Int64) (p1 : Int32) (p2 : Int32) (p3 : Int32) : Option (Int32) :=
  ob1 (f_X2_secondersOf o_pairs p2) fun r11 =>
  f_X2_afterMinute_13 o_members o_cold o_pairs FU p1 p2 p3 r11 0 0
set_option maxHeartbeats 4000000 in
set_option maxRecDepth 100000 in
theorem c_X2_afterMinute (l : Launch) (D : va_G) (cB cI cZ cM cN : ClassId) (q_o : Nat) (o_members : Int32) (o_firstWarmth : Int32) (o_forMotion : Int32) (o_cold : Int32) (o_fur : Int32) (o_coughs : Int32) (o_seconds : Int32) (o_pairs : Int64) (p1 : Int32) (p2 : Int32) (p3 : Int32) (r : Int32) (hf : f_X2_afterMinute o_members o_cold o_pairs p1 p2 p3 = some r) : Met l yX2_afterMinute wsX2_afterMinute ({ frames := 1, cells := 0, slots := 0, locals := 21 } : Room) (PR D cB cI cZ cM cN [.ref q_o, .int p1, .int p2, .int p3] [(q_o, .inr (2, [.int o_members, .int o_firstWarmth, .int o_forMotion, .int o_cold, .int o_fur, .int o_coughs, .int o_seconds, .long o_pairs]))]) (RI r) 0 0 (fun _ => False) := by
  refine entR (by decide +kernel) rfl (Nat.le_of_ble_eq_true rfl) ?_
  intro p e s m below meth c hx hb hr hml hown hlocks hts hP hK ls hl
  have hown : s.vm.findClass RX2 = some m.cls := hown
  have hl : lv_has ls 8 [(0, .ref q_o), (1, .int p1), (2, .int p2), (3, .int p3)] := hl
  have hfix : CallFix p m c cX2_afterMinute 8 s ([.ref q_o, .int p1, .int p2, .int p3] : List Value).toArray wsX2_afterMinute RX2 := ⟨hx, hb, hml, hown, hts⟩
  have hinX2 : ∀ w ∈ u_ws RX2 TX2 8, w ∈ wsX2_afterMinute := by decide +kernel
  have g24 := hts (.fieldLink RX2 24 "LastCoat$Parliament" "cold" "I") (by decide +kernel)
  have gm72 := hts (.methodLink RX2 72 Lib.Math.max.name) (by decide +kernel)
  have gsmax := hts (.static Lib.Math.max.name) (by decide +kernel)
  have gi := hts (.initialized "java/lang/Math") (by decide +kernel)
  have gcmax := hts (.code Lib.Math.max.name Lib.Math.max.code 2 (some .int)) (by decide +kernel)
  have g14 := hts (.fieldLink RX2 14 "LastCoat$Parliament" "members" "I") (by decide +kernel)
  have gm67 := hts (.methodLink RX2 67 Lib.Math.min.name) (by decide +kernel)
  have gsmin := hts (.static Lib.Math.min.name) (by decide +kernel)
  have gcmin := hts (.code Lib.Math.min.name Lib.Math.min.code 2 (some .int)) (by decide +kernel)
  have L13 : ∀ (n13 : Nat) (x1 : Int32) (x2 : Int32) (x3 : Int32) (x4 : Int32) (x5 : Int32) (x6 : Int32) (ls : Array Slot), f_X2_afterMinute_13 o_members o_cold o_pairs n13 x1 x2 x3 x4 x5 x6 = some r → lv_has ls 8 [(0, .ref q_o), (1, .int x1), (2, .int x2), (3, .int x3), (4, .int x4), (5, .int x5), (6, .int x6)] → W p l e ({ frames := 1, cells := 0, slots := 0, locals := 21 } : Room) s m ([.ref q_o, .int p1, .int p2, .int p3] : List Value).toArray below meth c s.heap [] 0 0 (MQ below (RI r) ([.ref q_o, .int p1, .int p2, .int p3] : List Value).toArray s 0 0 (fun _ => False)) (F0 m 13 ls []) := by
    intro n13
    induction n13 with
    | zero =>
      intro x1 x2 x3 x4 x5 x6 ls hf hl
      exact noneNe hf
    | succ n13 ih13 =>
      have L78 : ∀ (x1 : Int32) (x2 : Int32) (x3 : Int32) (x4 : Int32) (x5 : Int32) (x6 : Int32) (x7 : Int32) (ls : Array Slot), f_X2_afterMinute_78 o_members o_cold o_pairs (f_X2_afterMinute_13 o_members o_cold o_pairs n13) x1 x2 x3 x4 x5 x6 x7 = some r → lv_has ls 8 [(0, .ref q_o), (1, .int x1), (2, .int x2), (3, .int x3), (4, .int x4), (5, .int x5), (6, .int x6), (7, .int x7)] → W p l e ({ frames := 1, cells := 0, slots := 0, locals := 21 } : Room) s m ([.ref q_o, .int p1, .int p2, .int p3] : List Value).toArray below meth c s.heap [] 0 0 (MQ below (RI r) ([.ref q_o, .int p1, .int p2, .int p3] : List Value).toArray s 0 0 (fun _ => False)) (F0 m 78 ls []) := by
        intro x1 x2 x3 x4 x5 x6 x7 ls hf hl
        unfold f_X2_afterMinute_78 at hf
        refine lv_iload hx hb dX2_afterMinute_78 (lv_at hl 5 rfl) ?_
        refine lv_iload hx hb dX2_afterMinute_80 (lv_at hl 7 rfl) ?_
        refine lv_iconst (v := 5) hx hb dX2_afterMinute_82 (by decide) ?_
        refine lv_iload hx hb dX2_afterMinute_83 (lv_at hl 6 rfl) ?_
        refine lv_imul hx hb dX2_afterMinute_85 ?_
        refine lv_ishl hx hb dX2_afterMinute_86 ?_
        refine lv_ior hx hb dX2_afterMinute_87 ?_
        refine lv_topi (fun y1 ey1 => ?_)
        have hf := bnd_at hf ey1
        refine lv_istore (lv' := [(5, .int y1), (0, .ref q_o), (1, .int x1), (2, .int x2), (3, .int x3), (4, .int x4), (6, .int x6), (7, .int x7)]) hx hb dX2_afterMinute_88 hl (by decide) rfl (fun ls hl => ?_)
        obtain ⟨y2, ey2⟩ : ∃ z : Int32, z = x6 + 1 := ⟨_, rfl⟩
        have hf := bnd_at hf ey2
        refine lv_iinc (v := y2) (lv' := [(6, .int y2), (5, .int y1), (0, .ref q_o), (1, .int x1), (2, .int x2), (3, .int x3), (4, .int x4), (7, .int x7)]) hx hb dX2_afterMinute_90 hl (k := 6) rfl (by rw [ey2]; rfl) (by decide) rfl (fun ls hl => ?_)
        refine lv_goto (tgt := 13) hx hb dX2_afterMinute_93 (by decide) ?_
        exact ih13 x1 x2 x3 x4 y1 y2 ls hf (lv_sub hl [2, 3, 4, 5, 6, 1, 0] rfl)
      have L55 : ∀ (x1 : Int32) (x2 : Int32) (x3 : Int32) (x4 : Int32) (x5 : Int32) (x6 : Int32) (x7 : Int32) (ls : Array Slot), f_X2_afterMinute_55 o_members o_cold o_pairs (f_X2_afterMinute_13 o_members o_cold o_pairs n13) x1 x2 x3 x4 x5 x6 x7 = some r → lv_has ls 8 [(0, .ref q_o), (1, .int x1), (2, .int x2), (3, .int x3), (4, .int x4), (5, .int x5), (6, .int x6), (7, .int x7)] → W p l e ({ frames := 1, cells := 0, slots := 0, locals := 21 } : Room) s m ([.ref q_o, .int p1, .int p2, .int p3] : List Value).toArray below meth c s.heap [] 0 0 (MQ below (RI r) ([.ref q_o, .int p1, .int p2, .int p3] : List Value).toArray s 0 0 (fun _ => False)) (F0 m 55 ls []) := by
        intro x1 x2 x3 x4 x5 x6 x7 ls hf hl
        unfold f_X2_afterMinute_55 at hf
        refine lv_iload hx hb dX2_afterMinute_55 (lv_at hl 4 rfl) ?_
        refine lv_iload hx hb dX2_afterMinute_57 (lv_at hl 6 rfl) ?_
        refine lv_ishr hx hb dX2_afterMinute_59 ?_
        refine lv_iconst (v := 1) hx hb dX2_afterMinute_60 (by decide) ?_
        refine lv_iand hx hb dX2_afterMinute_61 ?_
        refine lv_if_ne (tgt := 78) hx hb dX2_afterMinute_62 (by decide) (fun c3 => ?_) (fun c3 => ?_)
        · have hf := ite_n hf c3
          exact L78 x1 x2 x3 x4 x5 x6 x7 ls hf (lv_sub hl [0, 1, 2, 3, 4, 5, 6, 7] rfl)
        · have hf := ite_p hf c3
          refine lv_iconst (v := 0) hx hb dX2_afterMinute_65 (by decide) ?_
          refine lv_iload hx hb dX2_afterMinute_66 (lv_at hl 7 rfl) ?_
          refine lv_aload_n hx hb dX2_afterMinute_68 rfl (lv_at hl 0 rfl) ?_
          refine va_get (D := D) (ci := 2) (v := .int o_cold) (C := RX2) (T := TX2) (N := 8) hx hb hts hinX2 hown hK.1 hP 0 rfl rfl 3 (by decide) g24 (fun _ h9 => h9) rfl dX2_afterMinute_69 ?_
          refine lv_isub hx hb dX2_afterMinute_72 ?_
          refine va_mmax hx hb (by rw [hml]; exact hl.1.symm) hown gm72 gsmax gi gcmax (Nat.le_of_ble_eq_true rfl) (Nat.le_of_ble_eq_true rfl) (Nat.zero_le _) (Nat.zero_le _) dX2_afterMinute_73 ?_
          refine lv_topi (fun y4 ey4 => ?_)
          have hf := bnd_at hf ey4
          refine lv_istore (lv' := [(7, .int y4), (0, .ref q_o), (1, .int x1), (2, .int x2), (3, .int x3), (4, .int x4), (5, .int x5), (6, .int x6)]) hx hb dX2_afterMinute_76 hl (by decide) rfl (fun ls hl => ?_)
          exact L78 x1 x2 x3 x4 x5 x6 y4 ls hf (lv_sub hl [1, 2, 3, 4, 5, 6, 7, 0] rfl)
      intro x1 x2 x3 x4 x5 x6 ls hf hl
      have hf : f_X2_afterMinute_13_b o_members o_cold o_pairs (f_X2_afterMinute_13 o_members o_cold o_pairs n13) x1 x2 x3 x4 x5 x6 = some r := hf
      unfold f_X2_afterMinute_13_b at hf
      refine lv_iload hx hb dX2_afterMinute_13 (lv_at hl 6 rfl) ?_
      refine lv_aload_n hx hb dX2_afterMinute_15 rfl (lv_at hl 0 rfl) ?_
      refine va_get (D := D) (ci := 2) (v := .int o_members) (C := RX2) (T := TX2) (N := 8) hx hb hts hinX2 hown hK.1 hP 0 rfl rfl 0 (by decide) g14 (fun _ h9 => h9) rfl dX2_afterMinute_16 ?_
      refine lv_icmp_ge (tgt := 96) hx hb dX2_afterMinute_19 (by decide) (fun c5 => ?_) (fun c5 => ?_)
      · have hf := ite_p hf c5
        refine lv_iload hx hb dX2_afterMinute_96 (lv_at hl 5 rfl) ?_
        have e0_ := Option.some.inj hf
        exact endRI hx hb hr hlocks rfl e0_ dX2_afterMinute_98
      · have hf := ite_n hf c5
        refine lv_iload hx hb dX2_afterMinute_22 (lv_at hl 6 rfl) ?_
        refine lv_iload_n hx hb dX2_afterMinute_24 rfl (lv_at hl 1 rfl) ?_
        obtain ⟨r6, h7, hf⟩ := ob1_some hf
        refine roS (c_X2_warmthOf l D cB cI cZ cM cN x6 x1 r6 h7) hfix (va_cwS 2 hts gX2_afterMinute_X2_warmthOf rfl rfl rfl (by decide +kernel) ⟨Nat.le_of_ble_eq_true rfl, Nat.le_of_ble_eq_true rfl⟩) (subC hP [] rfl) hK rfl hl.1 rfl (Nat.le_of_ble_eq_true rfl) dX2_afterMinute_25 ⟨Nat.zero_le _, Nat.zero_le _⟩ ?_
        refine lv_istore (lv' := [(7, .int r6), (0, .ref q_o), (1, .int x1), (2, .int x2), (3, .int x3), (4, .int x4), (5, .int x5), (6, .int x6)]) hx hb dX2_afterMinute_28 hl (by decide) rfl (fun ls hl => ?_)
        refine lv_iload hx hb dX2_afterMinute_30 (lv_at hl 7 rfl) ?_
        refine lv_iload_n hx hb dX2_afterMinute_32 rfl (lv_at hl 3 rfl) ?_
        refine lv_icmp_ne (tgt := 55) hx hb dX2_afterMinute_33 (by decide) (fun c8 => ?_) (fun c8 => ?_)
        · have hf := ite_n hf c8
          exact L55 x1 x2 x3 x4 x5 x6 r6 ls hf (lv_sub hl [1, 2, 3, 4, 5, 6, 7, 0] rfl)
        · have hf := ite_p hf c8
          refine lv_iload hx hb dX2_afterMinute_36 (lv_at hl 0 rfl) ?_
          refine lv_if_le (tgt := 55) hx hb dX2_afterMinute_38 (by decide) (fun c9 => ?_) (fun c9 => ?_)
          · have hf := ite_p hf c9
            exact L55 x1 x2 x3 x4 x5 x6 r6 ls hf (lv_sub hl [1, 2, 3, 4, 5, 6, 7, 0] rfl)
          · have hf := ite_n hf c9
            refine lv_bipush (v := 20) hx hb dX2_afterMinute_41 (by decide) ?_
            refine lv_iload hx hb dX2_afterMinute_43 (lv_at hl 0 rfl) ?_
            refine lv_iload_n hx hb dX2_afterMinute_45 rfl (lv_at hl 4 rfl) ?_
            refine lv_iadd hx hb dX2_afterMinute_46 ?_
            refine va_mmin hx hb (by rw [hml]; exact hl.1.symm) hown gm67 gsmin gi gcmin (Nat.le_of_ble_eq_true rfl) (Nat.le_of_ble_eq_true rfl) (Nat.zero_le _) (Nat.zero_le _) dX2_afterMinute_47 ?_
            refine lv_topi (fun y10 ey10 => ?_)
            have hf := bnd_at hf ey10
            refine lv_istore (lv' := [(7, .int y10), (0, .ref q_o), (1, .int x1), (2, .int x2), (3, .int x3), (4, .int x4), (5, .int x5), (6, .int x6)]) hx hb dX2_afterMinute_50 hl (by decide) rfl (fun ls hl => ?_)
            refine lv_goto (tgt := 78) hx hb dX2_afterMinute_52 (by decide) ?_
            exact L78 x1 x2 x3 x4 x5 x6 y10 ls hf (lv_sub hl [1, 2, 3, 4, 5, 6, 7, 0] rfl)
  unfold f_X2_afterMinute at hf
  refine lv_aload_n hx hb dX2_afterMinute_0 rfl (lv_at hl 0 rfl) ?_
  refine lv_iload_n hx hb dX2_afterMinute_1 rfl (lv_at hl 2 rfl) ?_
  obtain ⟨r11, h12, hf⟩ := ob1_some hf
  refine roV (c_X2_secondersOf l D cB cI cZ cM cN q_o o_members o_firstWarmth o_forMotion o_cold o_fur o_coughs o_seconds o_pairs p2 r11 h12) hfix (cwV 1 hts gX2_afterMinute_X2_secondersOf rfl rfl rfl (by decide +kernel) ⟨Nat.le_of_ble_eq_true rfl, Nat.le_of_ble_eq_true rfl⟩) (subC hP [0] rfl) hK rfl rfl rfl rfl hl.1 rfl (Nat.le_of_ble_eq_true rfl) dX2_afterMinute_2 ⟨Nat.zero_le _, Nat.zero_le _⟩ ?_
  refine lv_istore (lv' := [(4, .int r11), (0, .ref q_o), (1, .int p1), (2, .int p2), (3, .int p3)]) hx hb dX2_afterMinute_5 hl (by decide) rfl (fun ls hl => ?_)
  refine lv_iconst (v := 0) hx hb dX2_afterMinute_7 (by decide) ?_
  refine lv_istore (lv' := [(5, .int 0), (4, .int r11), (0, .ref q_o), (1, .int p1), (2, .int p2), (3, .int p3)]) hx hb dX2_afterMinute_8 hl (by decide) rfl (fun ls hl => ?_)
  refine lv_iconst (v := 0) hx hb dX2_afterMinute_10 (by decide) ?_
  refine lv_istore (lv' := [(6, .int 0), (5, .int 0), (4, .int r11), (0, .ref q_o), (1, .int p1), (2, .int p2), (3, .int p3)]) hx hb dX2_afterMinute_11 hl (by decide) rfl (fun ls hl => ?_)
  exact L13 FU p1 p2 p3 r11 0 0 ls hf (lv_sub hl [3, 4, 5, 6, 2, 1, 0] rfl)
def f_X2_addMember (o_members : Int32) (o_firstWarmth : Int32) (o_forMotion : Int32) (p1 : Int32) (p2 : Int32) : Option (Int32 × Int32 × Int32) :=
  bnd (o_firstWarmth ||| (p1 <<< ((5 * o_members) &&& 31))) fun y1 =>
  bnd (o_forMotion ||| (p2 <<< (o_members &&& 31))) fun y2 =>
  bnd (o_members + 1) fun y3 =>
  some (y3, y1, y2)
set_option maxHeartbeats 4000000 in
set_option maxRecDepth 100000 in
theorem c_X2_addMember (l : Launch) (D : va_G) (cB cI cZ cM cN : ClassId) (q_o : Nat) (o_members : Int32) (o_firstWarmth : Int32) (o_forMotion : Int32) (o_cold : Int32) (o_fur : Int32) (o_coughs : Int32) (o_seconds : Int32) (o_pairs : Int64) (p1 : Int32) (p2 : Int32) (o_members' : Int32) (o_firstWarmth' : Int32) (o_forMotion' : Int32) (sz : Nat) (hf : f_X2_addMember o_members o_firstWarmth o_forMotion p1 p2 = some (o_members', o_firstWarmth', o_forMotion')) : Met l yX2_addMember wsX2_addMember ({ frames := 0, cells := 0, slots := 0, locals := 0 } : Room) (PM D cB cI cZ cM cN [.ref q_o, .int p1, .int p2] [(q_o, .inr (2, [.int o_members, .int o_firstWarmth, .int o_forMotion, .int o_cold, .int o_fur, .int o_coughs, .int o_seconds, .long o_pairs]))] sz) (QV D [(q_o, .inr (2, [.int o_members', .int o_firstWarmth', .int o_forMotion', .int o_cold, .int o_fur, .int o_coughs, .int o_seconds, .long o_pairs]))] (va_A [(q_o, .inr (2, [.int o_members, .int o_firstWarmth, .int o_forMotion, .int o_cold, .int o_fur, .int o_coughs, .int o_seconds, .long o_pairs]))] sz)) 0 0 (va_A [(q_o, .inr (2, [.int o_members, .int o_firstWarmth, .int o_forMotion, .int o_cold, .int o_fur, .int o_coughs, .int o_seconds, .long o_pairs]))] sz) := by
  refine entM (l := l) (y := yX2_addMember) (ws := wsX2_addMember) (cc := cX2_addMember) (av := [.ref q_o, .int p1, .int p2]) (wc := [(q_o, .inr (2, [.int o_members, .int o_firstWarmth, .int o_forMotion, .int o_cold, .int o_fur, .int o_coughs, .int o_seconds, .long o_pairs]))]) (sz := sz) (Qc := fun A => QV D [(q_o, .inr (2, [.int o_members', .int o_firstWarmth', .int o_forMotion', .int o_cold, .int o_fur, .int o_coughs, .int o_seconds, .long o_pairs]))] A) (by decide +kernel) rfl (Nat.le_of_ble_eq_true rfl) ?_
  intro A p e s m below meth c hx hb hr hml hown hlocks hts hK hA H locs hP hD hS ls hl
  have hown : s.vm.findClass RX2 = some m.cls := hown
  have hl : lv_has ls 3 [(0, .ref q_o), (1, .int p1), (2, .int p2)] := hl
  have hfix : CallFix p m c cX2_addMember 3 s ([.ref q_o, .int p1, .int p2] : List Value).toArray wsX2_addMember RX2 := ⟨hx, hb, hml, hown, hts⟩
  have hinX2 : ∀ w ∈ u_ws RX2 TX2 8, w ∈ wsX2_addMember := by decide +kernel
  have g18 := hts (.fieldLink RX2 18 "LastCoat$Parliament" "firstWarmth" "I") (by decide +kernel)
  have g14 := hts (.fieldLink RX2 14 "LastCoat$Parliament" "members" "I") (by decide +kernel)
  have g21 := hts (.fieldLink RX2 21 "LastCoat$Parliament" "forMotion" "I") (by decide +kernel)
  unfold f_X2_addMember at hf
  refine lv_aload_n hx hb dX2_addMember_0 rfl (lv_at hl 0 rfl) ?_
  refine lv_dup hx hb dX2_addMember_1 rfl ?_
  refine va_get (D := D) (ci := 2) (v := .int o_firstWarmth) (C := RX2) (T := TX2) (N := 8) hx hb hts hinX2 hown hK.1 hP 0 rfl rfl 1 (by decide) g18 (fun _ h9 => h9) rfl dX2_addMember_2 ?_
  refine lv_iload_n hx hb dX2_addMember_5 rfl (lv_at hl 1 rfl) ?_
  refine lv_iconst (v := 5) hx hb dX2_addMember_6 (by decide) ?_
  refine lv_aload_n hx hb dX2_addMember_7 rfl (lv_at hl 0 rfl) ?_
  refine va_get (D := D) (ci := 2) (v := .int o_members) (C := RX2) (T := TX2) (N := 8) hx hb hts hinX2 hown hK.1 hP 0 rfl rfl 0 (by decide) g14 (fun _ h9 => h9) rfl dX2_addMember_8 ?_
  refine lv_imul hx hb dX2_addMember_11 ?_
  refine lv_ishl hx hb dX2_addMember_12 ?_
  refine lv_ior hx hb dX2_addMember_13 ?_
  refine lv_topi (fun y1 ey1 => ?_)
  have hf := bnd_at hf ey1
  refine va_put (D := D) (ci := 2) (v := .int y1) (ty := .int) (C := RX2) (T := TX2) (N := 8) hx hb hts hinX2 tyX2 tyX2_ok nmX2 hown hK.1 hP hD hS 0 rfl rfl 1 (by decide) g18 (fun _ h9 => h9) rfl (by decide +kernel) rfl rfl (Nat.le_of_ble_eq_true rfl) dX2_addMember_14 (fun H locs hP hD hS => ?_)
  have hP : va_P D vwCl [(q_o, .inr (2, [.int o_members, .int y1, .int o_forMotion, .int o_cold, .int o_fur, .int o_coughs, .int o_seconds, .long o_pairs]))] H := hP
  have hD : va_D A [(q_o, .inr (2, [.int o_members, .int y1, .int o_forMotion, .int o_cold, .int o_fur, .int o_coughs, .int o_seconds, .long o_pairs]))] := hD
  refine lv_aload_n hx hb dX2_addMember_17 rfl (lv_at hl 0 rfl) ?_
  refine lv_dup hx hb dX2_addMember_18 rfl ?_
  refine va_get (D := D) (ci := 2) (v := .int o_forMotion) (C := RX2) (T := TX2) (N := 8) hx hb hts hinX2 hown hK.1 hP 0 rfl rfl 2 (by decide) g21 (fun _ h9 => h9) rfl dX2_addMember_19 ?_
  refine lv_iload_n hx hb dX2_addMember_22 rfl (lv_at hl 2 rfl) ?_
  refine lv_aload_n hx hb dX2_addMember_23 rfl (lv_at hl 0 rfl) ?_
  refine va_get (D := D) (ci := 2) (v := .int o_members) (C := RX2) (T := TX2) (N := 8) hx hb hts hinX2 hown hK.1 hP 0 rfl rfl 0 (by decide) g14 (fun _ h9 => h9) rfl dX2_addMember_24 ?_
  refine lv_ishl hx hb dX2_addMember_27 ?_
  refine lv_ior hx hb dX2_addMember_28 ?_
  refine lv_topi (fun y2 ey2 => ?_)
  have hf := bnd_at hf ey2
  refine va_put (D := D) (ci := 2) (v := .int y2) (ty := .int) (C := RX2) (T := TX2) (N := 8) hx hb hts hinX2 tyX2 tyX2_ok nmX2 hown hK.1 hP hD hS 0 rfl rfl 2 (by decide) g21 (fun _ h9 => h9) rfl (by decide +kernel) rfl rfl (Nat.le_of_ble_eq_true rfl) dX2_addMember_29 (fun H locs hP hD hS => ?_)
  have hP : va_P D vwCl [(q_o, .inr (2, [.int o_members, .int y1, .int y2, .int o_cold, .int o_fur, .int o_coughs, .int o_seconds, .long o_pairs]))] H := hP
  have hD : va_D A [(q_o, .inr (2, [.int o_members, .int y1, .int y2, .int o_cold, .int o_fur, .int o_coughs, .int o_seconds, .long o_pairs]))] := hD
  refine lv_aload_n hx hb dX2_addMember_32 rfl (lv_at hl 0 rfl) ?_
  refine lv_dup hx hb dX2_addMember_33 rfl ?_
  refine va_get (D := D) (ci := 2) (v := .int o_members) (C := RX2) (T := TX2) (N := 8) hx hb hts hinX2 hown hK.1 hP 0 rfl rfl 0 (by decide) g14 (fun _ h9 => h9) rfl dX2_addMember_34 ?_
  refine lv_iconst (v := 1) hx hb dX2_addMember_37 (by decide) ?_
  refine lv_iadd hx hb dX2_addMember_38 ?_
  refine lv_topi (fun y3 ey3 => ?_)
  have hf := bnd_at hf ey3
  refine va_put (D := D) (ci := 2) (v := .int y3) (ty := .int) (C := RX2) (T := TX2) (N := 8) hx hb hts hinX2 tyX2 tyX2_ok nmX2 hown hK.1 hP hD hS 0 rfl rfl 0 (by decide) g14 (fun _ h9 => h9) rfl (by decide +kernel) rfl rfl (Nat.le_of_ble_eq_true rfl) dX2_addMember_39 (fun H locs hP hD hS => ?_)
  have hP : va_P D vwCl [(q_o, .inr (2, [.int y3, .int y1, .int y2, .int o_cold, .int o_fur, .int o_coughs, .int o_seconds, .long o_pairs]))] H := hP
  have hD : va_D A [(q_o, .inr (2, [.int y3, .int y1, .int y2, .int o_cold, .int o_fur, .int o_coughs, .int o_seconds, .long o_pairs]))] := hD
  obtain ⟨e0_, e1_, e2_⟩ := tup3 hf
  have hP : va_P D vwCl [(q_o, .inr (2, [.int o_members', .int o_firstWarmth', .int o_forMotion', .int o_cold, .int o_fur, .int o_coughs, .int o_seconds, .long o_pairs]))] H := by rw [← e0_, ← e1_, ← e2_]; exact hP
  have hD : va_D A [(q_o, .inr (2, [.int o_members', .int o_firstWarmth', .int o_forMotion', .int o_cold, .int o_fur, .int o_coughs, .int o_seconds, .long o_pairs]))] := by rw [← e0_, ← e1_, ← e2_]; exact hD
  exact endMV hx hb hr hlocks hP hD hS dX2_addMember_42
def f_X2_addSeconds (o_seconds : Int32) (o_pairs : Int64) (p1 : Int32) (p2 : Int32) : Option (Int32 × Int64) :=
  bnd (o_pairs ||| ((1 : Int64) <<< (((6 * p2) + p1).toInt64 &&& 63))) fun y1 =>
  bnd (o_seconds + 1) fun y2 =>
  some (y2, y1)
set_option maxHeartbeats 4000000 in
set_option maxRecDepth 100000 in
theorem c_X2_addSeconds (l : Launch) (D : va_G) (cB cI cZ cM cN : ClassId) (q_o : Nat) (o_members : Int32) (o_firstWarmth : Int32) (o_forMotion : Int32) (o_cold : Int32) (o_fur : Int32) (o_coughs : Int32) (o_seconds : Int32) (o_pairs : Int64) (p1 : Int32) (p2 : Int32) (o_seconds' : Int32) (o_pairs' : Int64) (sz : Nat) (hf : f_X2_addSeconds o_seconds o_pairs p1 p2 = some (o_seconds', o_pairs')) : Met l yX2_addSeconds wsX2_addSeconds ({ frames := 0, cells := 0, slots := 0, locals := 0 } : Room) (PM D cB cI cZ cM cN [.ref q_o, .int p1, .int p2] [(q_o, .inr (2, [.int o_members, .int o_firstWarmth, .int o_forMotion, .int o_cold, .int o_fur, .int o_coughs, .int o_seconds, .long o_pairs]))] sz) (QV D [(q_o, .inr (2, [.int o_members, .int o_firstWarmth, .int o_forMotion, .int o_cold, .int o_fur, .int o_coughs, .int o_seconds', .long o_pairs']))] (va_A [(q_o, .inr (2, [.int o_members, .int o_firstWarmth, .int o_forMotion, .int o_cold, .int o_fur, .int o_coughs, .int o_seconds, .long o_pairs]))] sz)) 0 0 (va_A [(q_o, .inr (2, [.int o_members, .int o_firstWarmth, .int o_forMotion, .int o_cold, .int o_fur, .int o_coughs, .int o_seconds, .long o_pairs]))] sz) := by
  refine entM (l := l) (y := yX2_addSeconds) (ws := wsX2_addSeconds) (cc := cX2_addSeconds) (av := [.ref q_o, .int p1, .int p2]) (wc := [(q_o, .inr (2, [.int o_members, .int o_firstWarmth, .int o_forMotion, .int o_cold, .int o_fur, .int o_coughs, .int o_seconds, .long o_pairs]))]) (sz := sz) (Qc := fun A => QV D [(q_o, .inr (2, [.int o_members, .int o_firstWarmth, .int o_forMotion, .int o_cold, .int o_fur, .int o_coughs, .int o_seconds', .long o_pairs']))] A) (by decide +kernel) rfl (Nat.le_of_ble_eq_true rfl) ?_
  intro A p e s m below meth c hx hb hr hml hown hlocks hts hK hA H locs hP hD hS ls hl
  have hown : s.vm.findClass RX2 = some m.cls := hown
  have hl : lv_has ls 3 [(0, .ref q_o), (1, .int p1), (2, .int p2)] := hl
  have hfix : CallFix p m c cX2_addSeconds 3 s ([.ref q_o, .int p1, .int p2] : List Value).toArray wsX2_addSeconds RX2 := ⟨hx, hb, hml, hown, hts⟩
  have hinX2 : ∀ w ∈ u_ws RX2 TX2 8, w ∈ wsX2_addSeconds := by decide +kernel
  have g36 := hts (.fieldLink RX2 36 "LastCoat$Parliament" "pairs" "J") (by decide +kernel)
  have g33 := hts (.fieldLink RX2 33 "LastCoat$Parliament" "seconds" "I") (by decide +kernel)
  unfold f_X2_addSeconds at hf
  refine lv_aload_n hx hb dX2_addSeconds_0 rfl (lv_at hl 0 rfl) ?_
  refine lv_dup hx hb dX2_addSeconds_1 rfl ?_
  refine va_get (D := D) (ci := 2) (v := .long o_pairs) (C := RX2) (T := TX2) (N := 8) hx hb hts hinX2 hown hK.1 hP 0 rfl rfl 7 (by decide) g36 (fun _ h9 => h9) rfl dX2_addSeconds_2 ?_
  refine lv_lconst (v := 1) hx hb dX2_addSeconds_5 (by decide) ?_
  refine lv_bipush (v := 6) hx hb dX2_addSeconds_6 (by decide) ?_
  refine lv_iload_n hx hb dX2_addSeconds_8 rfl (lv_at hl 2 rfl) ?_
  refine lv_imul hx hb dX2_addSeconds_9 ?_
  refine lv_iload_n hx hb dX2_addSeconds_10 rfl (lv_at hl 1 rfl) ?_
  refine lv_iadd hx hb dX2_addSeconds_11 ?_
  refine lv_lshl (v := (1 : Int64) <<< (((6 * p2) + p1).toInt64 &&& 63)) hx hb dX2_addSeconds_12 rfl ?_
  refine lv_lor hx hb dX2_addSeconds_13 ?_
  refine lv_topl (fun y1 ey1 => ?_)
  have hf := bnd_at hf ey1
  refine va_put (D := D) (ci := 2) (v := .long y1) (ty := .long) (C := RX2) (T := TX2) (N := 8) hx hb hts hinX2 tyX2 tyX2_ok nmX2 hown hK.1 hP hD hS 0 rfl rfl 7 (by decide) g36 (fun _ h9 => h9) rfl (by decide +kernel) rfl rfl (Nat.le_of_ble_eq_true rfl) dX2_addSeconds_14 (fun H locs hP hD hS => ?_)
  have hP : va_P D vwCl [(q_o, .inr (2, [.int o_members, .int o_firstWarmth, .int o_forMotion, .int o_cold, .int o_fur, .int o_coughs, .int o_seconds, .long y1]))] H := hP
  have hD : va_D A [(q_o, .inr (2, [.int o_members, .int o_firstWarmth, .int o_forMotion, .int o_cold, .int o_fur, .int o_coughs, .int o_seconds, .long y1]))] := hD
  refine lv_aload_n hx hb dX2_addSeconds_17 rfl (lv_at hl 0 rfl) ?_
  refine lv_dup hx hb dX2_addSeconds_18 rfl ?_
  refine va_get (D := D) (ci := 2) (v := .int o_seconds) (C := RX2) (T := TX2) (N := 8) hx hb hts hinX2 hown hK.1 hP 0 rfl rfl 6 (by decide) g33 (fun _ h9 => h9) rfl dX2_addSeconds_19 ?_
  refine lv_iconst (v := 1) hx hb dX2_addSeconds_22 (by decide) ?_
  refine lv_iadd hx hb dX2_addSeconds_23 ?_
  refine lv_topi (fun y2 ey2 => ?_)
  have hf := bnd_at hf ey2
  refine va_put (D := D) (ci := 2) (v := .int y2) (ty := .int) (C := RX2) (T := TX2) (N := 8) hx hb hts hinX2 tyX2 tyX2_ok nmX2 hown hK.1 hP hD hS 0 rfl rfl 6 (by decide) g33 (fun _ h9 => h9) rfl (by decide +kernel) rfl rfl (Nat.le_of_ble_eq_true rfl) dX2_addSeconds_24 (fun H locs hP hD hS => ?_)
  have hP : va_P D vwCl [(q_o, .inr (2, [.int o_members, .int o_firstWarmth, .int o_forMotion, .int o_cold, .int o_fur, .int o_coughs, .int y2, .long y1]))] H := hP
  have hD : va_D A [(q_o, .inr (2, [.int o_members, .int o_firstWarmth, .int o_forMotion, .int o_cold, .int o_fur, .int o_coughs, .int y2, .long y1]))] := hD
  obtain ⟨e0_, e1_⟩ := tup2 hf
  have hP : va_P D vwCl [(q_o, .inr (2, [.int o_members, .int o_firstWarmth, .int o_forMotion, .int o_cold, .int o_fur, .int o_coughs, .int o_seconds', .long o_pairs']))] H := by rw [← e0_, ← e1_]; exact hP
  have hD : va_D A [(q_o, .inr (2, [.int o_members, .int o_firstWarmth, .int o_forMotion, .int o_cold, .int o_fur, .int o_coughs, .int o_seconds', .long o_pairs']))] := by rw [← e0_, ← e1_]; exact hD
  exact endMV hx hb hr hlocks hP hD hS dX2_addSeconds_27
def f_X2_beAsAtFirst (o_members : Int32) (o_firstWarmth : Int32) (o_forMotion : Int32) (o_cold : Int32) (o_fur : Int32) (o_coughs : Int32) (o_seconds : Int32) (o_pairs : Int64) : Option (Int32 × Int32 × Int32 × Int32 × Int32 × Int32 × Int32 × Int64) :=
  some (0, 0, 0, 1, 1, 0, 0, 0)
set_option maxHeartbeats 4000000 in
set_option maxRecDepth 100000 in
theorem c_X2_beAsAtFirst (l : Launch) (D : va_G) (cB cI cZ cM cN : ClassId) (q_o : Nat) (o_members : Int32) (o_firstWarmth : Int32) (o_forMotion : Int32) (o_cold : Int32) (o_fur : Int32) (o_coughs : Int32) (o_seconds : Int32) (o_pairs : Int64) (o_members' : Int32) (o_firstWarmth' : Int32) (o_forMotion' : Int32) (o_cold' : Int32) (o_fur' : Int32) (o_coughs' : Int32) (o_seconds' : Int32) (o_pairs' : Int64) (sz : Nat) (hf : f_X2_beAsAtFirst o_members o_firstWarmth o_forMotion o_cold o_fur o_coughs o_seconds o_pairs = some (o_members', o_firstWarmth', o_forMotion', o_cold', o_fur', o_coughs', o_seconds', o_pairs')) : Met l yX2_beAsAtFirst wsX2_beAsAtFirst ({ frames := 0, cells := 0, slots := 0, locals := 0 } : Room) (PM D cB cI cZ cM cN [.ref q_o] [(q_o, .inr (2, [.int o_members, .int o_firstWarmth, .int o_forMotion, .int o_cold, .int o_fur, .int o_coughs, .int o_seconds, .long o_pairs]))] sz) (QV D [(q_o, .inr (2, [.int o_members', .int o_firstWarmth', .int o_forMotion', .int o_cold', .int o_fur', .int o_coughs', .int o_seconds', .long o_pairs']))] (va_A [(q_o, .inr (2, [.int o_members, .int o_firstWarmth, .int o_forMotion, .int o_cold, .int o_fur, .int o_coughs, .int o_seconds, .long o_pairs]))] sz)) 0 0 (va_A [(q_o, .inr (2, [.int o_members, .int o_firstWarmth, .int o_forMotion, .int o_cold, .int o_fur, .int o_coughs, .int o_seconds, .long o_pairs]))] sz) := by
  refine entM (l := l) (y := yX2_beAsAtFirst) (ws := wsX2_beAsAtFirst) (cc := cX2_beAsAtFirst) (av := [.ref q_o]) (wc := [(q_o, .inr (2, [.int o_members, .int o_firstWarmth, .int o_forMotion, .int o_cold, .int o_fur, .int o_coughs, .int o_seconds, .long o_pairs]))]) (sz := sz) (Qc := fun A => QV D [(q_o, .inr (2, [.int o_members', .int o_firstWarmth', .int o_forMotion', .int o_cold', .int o_fur', .int o_coughs', .int o_seconds', .long o_pairs']))] A) (by decide +kernel) rfl (Nat.le_of_ble_eq_true rfl) ?_
  intro A p e s m below meth c hx hb hr hml hown hlocks hts hK hA H locs hP hD hS ls hl
  have hown : s.vm.findClass RX2 = some m.cls := hown
  have hl : lv_has ls 1 [(0, .ref q_o)] := hl
  have hfix : CallFix p m c cX2_beAsAtFirst 1 s ([.ref q_o] : List Value).toArray wsX2_beAsAtFirst RX2 := ⟨hx, hb, hml, hown, hts⟩
  have hinX2 : ∀ w ∈ u_ws RX2 TX2 8, w ∈ wsX2_beAsAtFirst := by decide +kernel
  have g14 := hts (.fieldLink RX2 14 "LastCoat$Parliament" "members" "I") (by decide +kernel)
  have g18 := hts (.fieldLink RX2 18 "LastCoat$Parliament" "firstWarmth" "I") (by decide +kernel)
  have g21 := hts (.fieldLink RX2 21 "LastCoat$Parliament" "forMotion" "I") (by decide +kernel)
  have g24 := hts (.fieldLink RX2 24 "LastCoat$Parliament" "cold" "I") (by decide +kernel)
  have g27 := hts (.fieldLink RX2 27 "LastCoat$Parliament" "fur" "I") (by decide +kernel)
  have g30 := hts (.fieldLink RX2 30 "LastCoat$Parliament" "coughs" "I") (by decide +kernel)
  have g33 := hts (.fieldLink RX2 33 "LastCoat$Parliament" "seconds" "I") (by decide +kernel)
  have g36 := hts (.fieldLink RX2 36 "LastCoat$Parliament" "pairs" "J") (by decide +kernel)
  unfold f_X2_beAsAtFirst at hf
  refine lv_aload_n hx hb dX2_beAsAtFirst_0 rfl (lv_at hl 0 rfl) ?_
  refine lv_iconst (v := 0) hx hb dX2_beAsAtFirst_1 (by decide) ?_
  refine va_put (D := D) (ci := 2) (v := .int 0) (ty := .int) (C := RX2) (T := TX2) (N := 8) hx hb hts hinX2 tyX2 tyX2_ok nmX2 hown hK.1 hP hD hS 0 rfl rfl 0 (by decide) g14 (fun _ h9 => h9) rfl (by decide +kernel) rfl rfl (Nat.le_of_ble_eq_true rfl) dX2_beAsAtFirst_2 (fun H locs hP hD hS => ?_)
  have hP : va_P D vwCl [(q_o, .inr (2, [.int 0, .int o_firstWarmth, .int o_forMotion, .int o_cold, .int o_fur, .int o_coughs, .int o_seconds, .long o_pairs]))] H := hP
  have hD : va_D A [(q_o, .inr (2, [.int 0, .int o_firstWarmth, .int o_forMotion, .int o_cold, .int o_fur, .int o_coughs, .int o_seconds, .long o_pairs]))] := hD
  refine lv_aload_n hx hb dX2_beAsAtFirst_5 rfl (lv_at hl 0 rfl) ?_
  refine lv_iconst (v := 0) hx hb dX2_beAsAtFirst_6 (by decide) ?_
  refine va_put (D := D) (ci := 2) (v := .int 0) (ty := .int) (C := RX2) (T := TX2) (N := 8) hx hb hts hinX2 tyX2 tyX2_ok nmX2 hown hK.1 hP hD hS 0 rfl rfl 1 (by decide) g18 (fun _ h9 => h9) rfl (by decide +kernel) rfl rfl (Nat.le_of_ble_eq_true rfl) dX2_beAsAtFirst_7 (fun H locs hP hD hS => ?_)
  have hP : va_P D vwCl [(q_o, .inr (2, [.int 0, .int 0, .int o_forMotion, .int o_cold, .int o_fur, .int o_coughs, .int o_seconds, .long o_pairs]))] H := hP
  have hD : va_D A [(q_o, .inr (2, [.int 0, .int 0, .int o_forMotion, .int o_cold, .int o_fur, .int o_coughs, .int o_seconds, .long o_pairs]))] := hD
  refine lv_aload_n hx hb dX2_beAsAtFirst_10 rfl (lv_at hl 0 rfl) ?_
  refine lv_iconst (v := 0) hx hb dX2_beAsAtFirst_11 (by decide) ?_
  refine va_put (D := D) (ci := 2) (v := .int 0) (ty := .int) (C := RX2) (T := TX2) (N := 8) hx hb hts hinX2 tyX2 tyX2_ok nmX2 hown hK.1 hP hD hS 0 rfl rfl 2 (by decide) g21 (fun _ h9 => h9) rfl (by decide +kernel) rfl rfl (Nat.le_of_ble_eq_true rfl) dX2_beAsAtFirst_12 (fun H locs hP hD hS => ?_)
  have hP : va_P D vwCl [(q_o, .inr (2, [.int 0, .int 0, .int 0, .int o_cold, .int o_fur, .int o_coughs, .int o_seconds, .long o_pairs]))] H := hP
  have hD : va_D A [(q_o, .inr (2, [.int 0, .int 0, .int 0, .int o_cold, .int o_fur, .int o_coughs, .int o_seconds, .long o_pairs]))] := hD
  refine lv_aload_n hx hb dX2_beAsAtFirst_15 rfl (lv_at hl 0 rfl) ?_
  refine lv_iconst (v := 1) hx hb dX2_beAsAtFirst_16 (by decide) ?_
  refine va_put (D := D) (ci := 2) (v := .int 1) (ty := .int) (C := RX2) (T := TX2) (N := 8) hx hb hts hinX2 tyX2 tyX2_ok nmX2 hown hK.1 hP hD hS 0 rfl rfl 3 (by decide) g24 (fun _ h9 => h9) rfl (by decide +kernel) rfl rfl (Nat.le_of_ble_eq_true rfl) dX2_beAsAtFirst_17 (fun H locs hP hD hS => ?_)
  have hP : va_P D vwCl [(q_o, .inr (2, [.int 0, .int 0, .int 0, .int 1, .int o_fur, .int o_coughs, .int o_seconds, .long o_pairs]))] H := hP
  have hD : va_D A [(q_o, .inr (2, [.int 0, .int 0, .int 0, .int 1, .int o_fur, .int o_coughs, .int o_seconds, .long o_pairs]))] := hD
  refine lv_aload_n hx hb dX2_beAsAtFirst_20 rfl (lv_at hl 0 rfl) ?_
  refine lv_iconst (v := 1) hx hb dX2_beAsAtFirst_21 (by decide) ?_
  refine va_put (D := D) (ci := 2) (v := .int 1) (ty := .int) (C := RX2) (T := TX2) (N := 8) hx hb hts hinX2 tyX2 tyX2_ok nmX2 hown hK.1 hP hD hS 0 rfl rfl 4 (by decide) g27 (fun _ h9 => h9) rfl (by decide +kernel) rfl rfl (Nat.le_of_ble_eq_true rfl) dX2_beAsAtFirst_22 (fun H locs hP hD hS => ?_)
  have hP : va_P D vwCl [(q_o, .inr (2, [.int 0, .int 0, .int 0, .int 1, .int 1, .int o_coughs, .int o_seconds, .long o_pairs]))] H := hP
  have hD : va_D A [(q_o, .inr (2, [.int 0, .int 0, .int 0, .int 1, .int 1, .int o_coughs, .int o_seconds, .long o_pairs]))] := hD
  refine lv_aload_n hx hb dX2_beAsAtFirst_25 rfl (lv_at hl 0 rfl) ?_
  refine lv_iconst (v := 0) hx hb dX2_beAsAtFirst_26 (by decide) ?_
  refine va_put (D := D) (ci := 2) (v := .int 0) (ty := .int) (C := RX2) (T := TX2) (N := 8) hx hb hts hinX2 tyX2 tyX2_ok nmX2 hown hK.1 hP hD hS 0 rfl rfl 5 (by decide) g30 (fun _ h9 => h9) rfl (by decide +kernel) rfl rfl (Nat.le_of_ble_eq_true rfl) dX2_beAsAtFirst_27 (fun H locs hP hD hS => ?_)
  have hP : va_P D vwCl [(q_o, .inr (2, [.int 0, .int 0, .int 0, .int 1, .int 1, .int 0, .int o_seconds, .long o_pairs]))] H := hP
  have hD : va_D A [(q_o, .inr (2, [.int 0, .int 0, .int 0, .int 1, .int 1, .int 0, .int o_seconds, .long o_pairs]))] := hD
  refine lv_aload_n hx hb dX2_beAsAtFirst_30 rfl (lv_at hl 0 rfl) ?_
  refine lv_iconst (v := 0) hx hb dX2_beAsAtFirst_31 (by decide) ?_
  refine va_put (D := D) (ci := 2) (v := .int 0) (ty := .int) (C := RX2) (T := TX2) (N := 8) hx hb hts hinX2 tyX2 tyX2_ok nmX2 hown hK.1 hP hD hS 0 rfl rfl 6 (by decide) g33 (fun _ h9 => h9) rfl (by decide +kernel) rfl rfl (Nat.le_of_ble_eq_true rfl) dX2_beAsAtFirst_32 (fun H locs hP hD hS => ?_)
  have hP : va_P D vwCl [(q_o, .inr (2, [.int 0, .int 0, .int 0, .int 1, .int 1, .int 0, .int 0, .long o_pairs]))] H := hP
  have hD : va_D A [(q_o, .inr (2, [.int 0, .int 0, .int 0, .int 1, .int 1, .int 0, .int 0, .long o_pairs]))] := hD
  refine lv_aload_n hx hb dX2_beAsAtFirst_35 rfl (lv_at hl 0 rfl) ?_
  refine lv_lconst (v := 0) hx hb dX2_beAsAtFirst_36 (by decide) ?_
  refine va_put (D := D) (ci := 2) (v := .long 0) (ty := .long) (C := RX2) (T := TX2) (N := 8) hx hb hts hinX2 tyX2 tyX2_ok nmX2 hown hK.1 hP hD hS 0 rfl rfl 7 (by decide) g36 (fun _ h9 => h9) rfl (by decide +kernel) rfl rfl (Nat.le_of_ble_eq_true rfl) dX2_beAsAtFirst_37 (fun H locs hP hD hS => ?_)
  have hP : va_P D vwCl [(q_o, .inr (2, [.int 0, .int 0, .int 0, .int 1, .int 1, .int 0, .int 0, .long 0]))] H := hP
  have hD : va_D A [(q_o, .inr (2, [.int 0, .int 0, .int 0, .int 1, .int 1, .int 0, .int 0, .long 0]))] := hD
  obtain ⟨e0_, e1_, e2_, e3_, e4_, e5_, e6_, e7_⟩ := tup8 hf
  have hP : va_P D vwCl [(q_o, .inr (2, [.int o_members', .int o_firstWarmth', .int o_forMotion', .int o_cold', .int o_fur', .int o_coughs', .int o_seconds', .long o_pairs']))] H := by rw [← e0_, ← e1_, ← e2_, ← e3_, ← e4_, ← e5_, ← e6_, ← e7_]; exact hP
  have hD : va_D A [(q_o, .inr (2, [.int o_members', .int o_firstWarmth', .int o_forMotion', .int o_cold', .int o_fur', .int o_coughs', .int o_seconds', .long o_pairs']))] := by rw [← e0_, ← e1_, ← e2_, ← e3_, ← e4_, ← e5_, ← e6_, ← e7_]; exact hD
  exact endMV hx hb hr hlocks hP hD hS dX2_beAsAtFirst_40
