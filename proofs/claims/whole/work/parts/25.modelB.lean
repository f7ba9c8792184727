def f_X8_isMember (o_members : Int32) (p1 : Int32) : Option (Int32) :=
  ob1 (f_X8_in p1 0 (o_members - 1)) fun r1 =>
  zbg r1 <|
  some (r1)
set_option maxHeartbeats 4000000 in
set_option maxRecDepth 100000 in
theorem c_X8_isMember (l : Launch) (D : va_G) (cB cI cZ cM cN : ClassId) (q_o : Nat) (q_o_text : Nat) (q_o_warmth : Nat) (q_o_side : Nat) (q_o_seconds : Nat) (q_o_s : Nat) (q_o_kept : Nat) (q_o_isKept : Nat) (q_o_undos : Nat) (q_o_seenAt : Nat) (q_o_seen : Nat) (q_o_board : Nat) (q_o_pick : Nat) (q_o_worth : Nat) (q_o_best : Nat) (o_thrown : Int32) (o_trace : Int64) (o_typed : Int32) (o_next : Int32) (o_token : Int32) (o_place : Int32) (o_value : Int32) (o_fault : Int32) (o_members : Int32) (o_pairs : Int32) (o_cold : Int32) (o_fur : Int32) (o_coughs : Int32) (o_draftMembers : Int32) (o_draftPairs : Int32) (o_draftCold : Int32) (o_draftFur : Int32) (o_draftCoughs : Int32) (o_undoMany : Int32) (o_seenMany : Int32) (o_chosen : Int32) (p1 : Int32) (r : Int32) (hf : f_X8_isMember o_members p1 = some r) : Met l yX8_isMember wsX8_isMember ({ frames := 1, cells := 0, slots := 0, locals := 22 } : Room) (PR D cB cI cZ cM cN [.ref q_o, .int p1] [(q_o, .inr (7, [.int o_thrown, .long o_trace, .ref q_o_text, .int o_typed, .int o_next, .int o_token, .int o_place, .int o_value, .int o_fault, .ref q_o_warmth, .ref q_o_side, .ref q_o_seconds, .int o_members, .int o_pairs, .int o_cold, .int o_fur, .int o_coughs, .int o_draftMembers, .int o_draftPairs, .int o_draftCold, .int o_draftFur, .int o_draftCoughs, .ref q_o_s, .ref q_o_kept, .ref q_o_isKept, .ref q_o_undos, .int o_undoMany, .ref q_o_seenAt, .ref q_o_seen, .int o_seenMany, .ref q_o_board, .ref q_o_pick, .ref q_o_worth, .ref q_o_best, .int o_chosen]))]) (RI r) 0 0 (fun _ => False) := by
  refine entR (by decide +kernel) rfl (Nat.le_of_ble_eq_true rfl) ?_
  intro p e s m below meth c hx hb hr hml hown hlocks hts hP hK ls hl
  have hown : s.vm.findClass RX8 = some m.cls := hown
  have hl : lv_has ls 2 [(0, .ref q_o), (1, .int p1)] := hl
  have hfix : CallFix p m c cX8_isMember 2 s ([.ref q_o, .int p1] : List Value).toArray wsX8_isMember RX8 := ⟨hx, hb, hml, hown, hts⟩
  have hinX8 : ∀ w ∈ u_ws RX8 TX8 35, w ∈ wsX8_isMember := by decide +kernel
  have g145 := hts (.fieldLink RX8 145 "LastCoatModel" "members" "I") (by decide +kernel)
  unfold f_X8_isMember at hf
  refine lv_iload_n hx hb dX8_isMember_0 rfl (lv_at hl 1 rfl) ?_
  refine lv_iconst (v := 0) hx hb dX8_isMember_1 (by decide) ?_
  refine lv_aload_n hx hb dX8_isMember_2 rfl (lv_at hl 0 rfl) ?_
  refine va_get (D := D) (ci := 7) (v := .int o_members) (C := RX8) (T := TX8) (N := 35) hx hb hts hinX8 hown hK.1 hP 0 rfl rfl 12 (by decide) g145 (fun _ h9 => h9) rfl dX8_isMember_3 ?_
  refine lv_iconst (v := 1) hx hb dX8_isMember_6 (by decide) ?_
  refine lv_isub hx hb dX8_isMember_7 ?_
  obtain ⟨r1, h2, hf⟩ := ob1_some hf
  refine roS (c_X8_in l D cB cI cZ cM cN p1 0 (o_members - 1) r1 h2) hfix (va_cwS 3 hts gX8_isMember_X8_in rfl rfl rfl (by decide +kernel) ⟨Nat.le_of_ble_eq_true rfl, Nat.le_of_ble_eq_true rfl⟩) (subC hP [] rfl) hK rfl hl.1 rfl (Nat.le_of_ble_eq_true rfl) dX8_isMember_8 ⟨Nat.zero_le _, Nat.zero_le _⟩ ?_
  obtain ⟨g3, hf⟩ := zbg_some hf
  have e0_ := Option.some.inj hf
  exact endRI hx hb hr hlocks g3 e0_ dX8_isMember_11
def f_X8_member (o_members : Int32) (o_seconds : Nat → Int32) (o_side : Nat → Int32) (o_s : Nat → Int32) (o_thrown : Int32) (p1 : Int32) (p2 : Int32) : Option (Int32 × Int32) :=
  ob1 (f_X8_isMember o_members p1) fun r1 =>
  if r1 = 0 then (
    some ((-1), 0)
  ) else (
    ob1 (f_X8_in p2 0 3) fun r4 =>
    if r4 = 0 then (
      some ((-1), 0)
    ) else (
      if p2 = 0 then (
        ing p1 10 <|
        some (o_s p1.toNatClampNeg, 0)
      ) else (
        if p2 = 1 then (
          ing p1 12 <|
          some (o_side p1.toNatClampNeg, 0)
        ) else (
          if p2 = 2 then (
            ing p1 10 <|
            if (o_s p1.toNatClampNeg) = 0 then (
              some (1, 0)
            ) else (
              some (0, 0)
            )
          ) else (
            ing p1 12 <|
            ob1 (f_X8_ones (o_seconds p1.toNatClampNeg)) fun r11 =>
            some (r11, 0)
          )
        )
      )
    )
  )
set_option maxHeartbeats 4000000 in
set_option maxRecDepth 100000 in
theorem c_X8_member (l : Launch) (D : va_G) (cB cI cZ cM cN : ClassId) (q_o : Nat) (q_o_text : Nat) (q_o_warmth : Nat) (q_o_side : Nat) (q_o_seconds : Nat) (q_o_s : Nat) (q_o_kept : Nat) (q_o_isKept : Nat) (q_o_undos : Nat) (q_o_seenAt : Nat) (q_o_seen : Nat) (q_o_board : Nat) (q_o_pick : Nat) (q_o_worth : Nat) (q_o_best : Nat) (o_thrown : Int32) (o_trace : Int64) (o_typed : Int32) (o_next : Int32) (o_token : Int32) (o_place : Int32) (o_value : Int32) (o_fault : Int32) (o_members : Int32) (o_pairs : Int32) (o_cold : Int32) (o_fur : Int32) (o_coughs : Int32) (o_draftMembers : Int32) (o_draftPairs : Int32) (o_draftCold : Int32) (o_draftFur : Int32) (o_draftCoughs : Int32) (o_undoMany : Int32) (o_seenMany : Int32) (o_chosen : Int32) (o_seconds : Nat → Int32) (o_side : Nat → Int32) (o_s : Nat → Int32) (p1 : Int32) (p2 : Int32) (r : Int32) (o_thrown' : Int32) (sz : Nat) (hf : f_X8_member o_members o_seconds o_side o_s o_thrown p1 p2 = some (r, o_thrown')) : Met l yX8_member wsX8_member ({ frames := 2, cells := 0, slots := 0, locals := 43 } : Room) (PM D cB cI cZ cM cN [.ref q_o, .int p1, .int p2] [(q_o, .inr (7, [.int o_thrown, .long o_trace, .ref q_o_text, .int o_typed, .int o_next, .int o_token, .int o_place, .int o_value, .int o_fault, .ref q_o_warmth, .ref q_o_side, .ref q_o_seconds, .int o_members, .int o_pairs, .int o_cold, .int o_fur, .int o_coughs, .int o_draftMembers, .int o_draftPairs, .int o_draftCold, .int o_draftFur, .int o_draftCoughs, .ref q_o_s, .ref q_o_kept, .ref q_o_isKept, .ref q_o_undos, .int o_undoMany, .ref q_o_seenAt, .ref q_o_seen, .int o_seenMany, .ref q_o_board, .ref q_o_pick, .ref q_o_worth, .ref q_o_best, .int o_chosen])), (q_o_seconds, .inl (cI, 12, .inl o_seconds)), (q_o_side, .inl (cI, 12, .inl o_side)), (q_o_s, .inl (cI, 10, .inl o_s))] sz) (QI D [(q_o, .inr (7, [.int o_thrown', .long o_trace, .ref q_o_text, .int o_typed, .int o_next, .int o_token, .int o_place, .int o_value, .int o_fault, .ref q_o_warmth, .ref q_o_side, .ref q_o_seconds, .int o_members, .int o_pairs, .int o_cold, .int o_fur, .int o_coughs, .int o_draftMembers, .int o_draftPairs, .int o_draftCold, .int o_draftFur, .int o_draftCoughs, .ref q_o_s, .ref q_o_kept, .ref q_o_isKept, .ref q_o_undos, .int o_undoMany, .ref q_o_seenAt, .ref q_o_seen, .int o_seenMany, .ref q_o_board, .ref q_o_pick, .ref q_o_worth, .ref q_o_best, .int o_chosen])), (q_o_seconds, .inl (cI, 12, .inl o_seconds)), (q_o_side, .inl (cI, 12, .inl o_side)), (q_o_s, .inl (cI, 10, .inl o_s))] r (va_A [(q_o, .inr (7, [.int o_thrown, .long o_trace, .ref q_o_text, .int o_typed, .int o_next, .int o_token, .int o_place, .int o_value, .int o_fault, .ref q_o_warmth, .ref q_o_side, .ref q_o_seconds, .int o_members, .int o_pairs, .int o_cold, .int o_fur, .int o_coughs, .int o_draftMembers, .int o_draftPairs, .int o_draftCold, .int o_draftFur, .int o_draftCoughs, .ref q_o_s, .ref q_o_kept, .ref q_o_isKept, .ref q_o_undos, .int o_undoMany, .ref q_o_seenAt, .ref q_o_seen, .int o_seenMany, .ref q_o_board, .ref q_o_pick, .ref q_o_worth, .ref q_o_best, .int o_chosen])), (q_o_seconds, .inl (cI, 12, .inl o_seconds)), (q_o_side, .inl (cI, 12, .inl o_side)), (q_o_s, .inl (cI, 10, .inl o_s))] sz)) 0 0 (va_A [(q_o, .inr (7, [.int o_thrown, .long o_trace, .ref q_o_text, .int o_typed, .int o_next, .int o_token, .int o_place, .int o_value, .int o_fault, .ref q_o_warmth, .ref q_o_side, .ref q_o_seconds, .int o_members, .int o_pairs, .int o_cold, .int o_fur, .int o_coughs, .int o_draftMembers, .int o_draftPairs, .int o_draftCold, .int o_draftFur, .int o_draftCoughs, .ref q_o_s, .ref q_o_kept, .ref q_o_isKept, .ref q_o_undos, .int o_undoMany, .ref q_o_seenAt, .ref q_o_seen, .int o_seenMany, .ref q_o_board, .ref q_o_pick, .ref q_o_worth, .ref q_o_best, .int o_chosen])), (q_o_seconds, .inl (cI, 12, .inl o_seconds)), (q_o_side, .inl (cI, 12, .inl o_side)), (q_o_s, .inl (cI, 10, .inl o_s))] sz) := by
  refine entM (l := l) (y := yX8_member) (ws := wsX8_member) (cc := cX8_member) (av := [.ref q_o, .int p1, .int p2]) (wc := [(q_o, .inr (7, [.int o_thrown, .long o_trace, .ref q_o_text, .int o_typed, .int o_next, .int o_token, .int o_place, .int o_value, .int o_fault, .ref q_o_warmth, .ref q_o_side, .ref q_o_seconds, .int o_members, .int o_pairs, .int o_cold, .int o_fur, .int o_coughs, .int o_draftMembers, .int o_draftPairs, .int o_draftCold, .int o_draftFur, .int o_draftCoughs, .ref q_o_s, .ref q_o_kept, .ref q_o_isKept, .ref q_o_undos, .int o_undoMany, .ref q_o_seenAt, .ref q_o_seen, .int o_seenMany, .ref q_o_board, .ref q_o_pick, .ref q_o_worth, .ref q_o_best, .int o_chosen])), (q_o_seconds, .inl (cI, 12, .inl o_seconds)), (q_o_side, .inl (cI, 12, .inl o_side)), (q_o_s, .inl (cI, 10, .inl o_s))]) (sz := sz) (Qc := fun A => QI D [(q_o, .inr (7, [.int o_thrown', .long o_trace, .ref q_o_text, .int o_typed, .int o_next, .int o_token, .int o_place, .int o_value, .int o_fault, .ref q_o_warmth, .ref q_o_side, .ref q_o_seconds, .int o_members, .int o_pairs, .int o_cold, .int o_fur, .int o_coughs, .int o_draftMembers, .int o_draftPairs, .int o_draftCold, .int o_draftFur, .int o_draftCoughs, .ref q_o_s, .ref q_o_kept, .ref q_o_isKept, .ref q_o_undos, .int o_undoMany, .ref q_o_seenAt, .ref q_o_seen, .int o_seenMany, .ref q_o_board, .ref q_o_pick, .ref q_o_worth, .ref q_o_best, .int o_chosen])), (q_o_seconds, .inl (cI, 12, .inl o_seconds)), (q_o_side, .inl (cI, 12, .inl o_side)), (q_o_s, .inl (cI, 10, .inl o_s))] r A) (by decide +kernel) rfl (Nat.le_of_ble_eq_true rfl) ?_
  intro A p e s m below meth c hx hb hr hml hown hlocks hts hK hA H locs hP hD hS ls hl
  have hown : s.vm.findClass RX8 = some m.cls := hown
  have hl : lv_has ls 3 [(0, .ref q_o), (1, .int p1), (2, .int p2)] := hl
  have hfix : CallFix p m c cX8_member 3 s ([.ref q_o, .int p1, .int p2] : List Value).toArray wsX8_member RX8 := ⟨hx, hb, hml, hown, hts⟩
  have hinX8 : ∀ w ∈ u_ws RX8 TX8 35, w ∈ wsX8_member := by decide +kernel
  have g63 := hts (.fieldLink RX8 63 "LastCoatModel" "thrown" "I") (by decide +kernel)
  have g19 := hts (.fieldLink RX8 19 "LastCoatModel" "seconds" "[I") (by decide +kernel)
  have g22 := hts (.fieldLink RX8 22 "LastCoatModel" "s" "[I") (by decide +kernel)
  have g16 := hts (.fieldLink RX8 16 "LastCoatModel" "side" "[I") (by decide +kernel)
  unfold f_X8_member at hf
  refine lv_aload_n hx hb dX8_member_0 rfl (lv_at hl 0 rfl) ?_
  refine lv_iconst (v := 0) hx hb dX8_member_1 (by decide) ?_
  refine va_put (D := D) (ci := 7) (v := .int 0) (ty := .int) (C := RX8) (T := TX8) (N := 35) hx hb hts hinX8 tyX8 tyX8_ok nmX8 hown hK.1 hP hD hS 0 rfl rfl 0 (by decide) g63 (fun _ h9 => h9) rfl (by decide +kernel) rfl rfl (Nat.le_of_ble_eq_true rfl) dX8_member_2 (fun H locs hP hD hS => ?_)
  have hP : va_P D vwCl [(q_o, .inr (7, [.int 0, .long o_trace, .ref q_o_text, .int o_typed, .int o_next, .int o_token, .int o_place, .int o_value, .int o_fault, .ref q_o_warmth, .ref q_o_side, .ref q_o_seconds, .int o_members, .int o_pairs, .int o_cold, .int o_fur, .int o_coughs, .int o_draftMembers, .int o_draftPairs, .int o_draftCold, .int o_draftFur, .int o_draftCoughs, .ref q_o_s, .ref q_o_kept, .ref q_o_isKept, .ref q_o_undos, .int o_undoMany, .ref q_o_seenAt, .ref q_o_seen, .int o_seenMany, .ref q_o_board, .ref q_o_pick, .ref q_o_worth, .ref q_o_best, .int o_chosen])), (q_o_seconds, .inl (cI, 12, .inl o_seconds)), (q_o_side, .inl (cI, 12, .inl o_side)), (q_o_s, .inl (cI, 10, .inl o_s))] H := hP
  have hD : va_D A [(q_o, .inr (7, [.int 0, .long o_trace, .ref q_o_text, .int o_typed, .int o_next, .int o_token, .int o_place, .int o_value, .int o_fault, .ref q_o_warmth, .ref q_o_side, .ref q_o_seconds, .int o_members, .int o_pairs, .int o_cold, .int o_fur, .int o_coughs, .int o_draftMembers, .int o_draftPairs, .int o_draftCold, .int o_draftFur, .int o_draftCoughs, .ref q_o_s, .ref q_o_kept, .ref q_o_isKept, .ref q_o_undos, .int o_undoMany, .ref q_o_seenAt, .ref q_o_seen, .int o_seenMany, .ref q_o_board, .ref q_o_pick, .ref q_o_worth, .ref q_o_best, .int o_chosen])), (q_o_seconds, .inl (cI, 12, .inl o_seconds)), (q_o_side, .inl (cI, 12, .inl o_side)), (q_o_s, .inl (cI, 10, .inl o_s))] := hD
  refine lv_aload_n hx hb dX8_member_5 rfl (lv_at hl 0 rfl) ?_
  refine lv_iload_n hx hb dX8_member_6 rfl (lv_at hl 1 rfl) ?_
  obtain ⟨r1, h2, hf⟩ := ob1_some hf
  refine roV (c_X8_isMember l D cB cI cZ cM cN q_o q_o_text q_o_warmth q_o_side q_o_seconds q_o_s q_o_kept q_o_isKept q_o_undos q_o_seenAt q_o_seen q_o_board q_o_pick q_o_worth q_o_best 0 o_trace o_typed o_next o_token o_place o_value o_fault o_members o_pairs o_cold o_fur o_coughs o_draftMembers o_draftPairs o_draftCold o_draftFur o_draftCoughs o_undoMany o_seenMany o_chosen p1 r1 h2) hfix (cwV 1 hts gX8_member_X8_isMember rfl rfl rfl (by decide +kernel) ⟨Nat.le_of_ble_eq_true rfl, Nat.le_of_ble_eq_true rfl⟩) (subC hP [0] rfl) hK rfl rfl rfl rfl hl.1 rfl (Nat.le_of_ble_eq_true rfl) dX8_member_7 ⟨Nat.zero_le _, Nat.zero_le _⟩ ?_
  refine lv_if_eq (tgt := 22) hx hb dX8_member_10 (by decide) (fun c3 => ?_) (fun c3 => ?_)
  · have hf := ite_p hf c3
    refine lv_iconst (v := (-1)) hx hb dX8_member_22 (by decide) ?_
    obtain ⟨e0_, e1_⟩ := tup2 hf
    have hP : va_P D vwCl [(q_o, .inr (7, [.int o_thrown', .long o_trace, .ref q_o_text, .int o_typed, .int o_next, .int o_token, .int o_place, .int o_value, .int o_fault, .ref q_o_warmth, .ref q_o_side, .ref q_o_seconds, .int o_members, .int o_pairs, .int o_cold, .int o_fur, .int o_coughs, .int o_draftMembers, .int o_draftPairs, .int o_draftCold, .int o_draftFur, .int o_draftCoughs, .ref q_o_s, .ref q_o_kept, .ref q_o_isKept, .ref q_o_undos, .int o_undoMany, .ref q_o_seenAt, .ref q_o_seen, .int o_seenMany, .ref q_o_board, .ref q_o_pick, .ref q_o_worth, .ref q_o_best, .int o_chosen])), (q_o_seconds, .inl (cI, 12, .inl o_seconds)), (q_o_side, .inl (cI, 12, .inl o_side)), (q_o_s, .inl (cI, 10, .inl o_s))] H := by rw [← e1_]; exact hP
    have hD : va_D A [(q_o, .inr (7, [.int o_thrown', .long o_trace, .ref q_o_text, .int o_typed, .int o_next, .int o_token, .int o_place, .int o_value, .int o_fault, .ref q_o_warmth, .ref q_o_side, .ref q_o_seconds, .int o_members, .int o_pairs, .int o_cold, .int o_fur, .int o_coughs, .int o_draftMembers, .int o_draftPairs, .int o_draftCold, .int o_draftFur, .int o_draftCoughs, .ref q_o_s, .ref q_o_kept, .ref q_o_isKept, .ref q_o_undos, .int o_undoMany, .ref q_o_seenAt, .ref q_o_seen, .int o_seenMany, .ref q_o_board, .ref q_o_pick, .ref q_o_worth, .ref q_o_best, .int o_chosen])), (q_o_seconds, .inl (cI, 12, .inl o_seconds)), (q_o_side, .inl (cI, 12, .inl o_side)), (q_o_s, .inl (cI, 10, .inl o_s))] := by rw [← e1_]; exact hD
    exact endMI hx hb hr hlocks rfl hP hD hS e0_ dX8_member_23
  · have hf := ite_n hf c3
    refine lv_iload_n hx hb dX8_member_13 rfl (lv_at hl 2 rfl) ?_
    refine lv_iconst (v := 0) hx hb dX8_member_14 (by decide) ?_
    refine lv_iconst (v := 3) hx hb dX8_member_15 (by decide) ?_
    obtain ⟨r4, h5, hf⟩ := ob1_some hf
    refine roS (c_X8_in l D cB cI cZ cM cN p2 0 3 r4 h5) hfix (va_cwS 3 hts gX8_member_X8_in rfl rfl rfl (by decide +kernel) ⟨Nat.le_of_ble_eq_true rfl, Nat.le_of_ble_eq_true rfl⟩) (subC hP [] rfl) hK rfl hl.1 rfl (Nat.le_of_ble_eq_true rfl) dX8_member_16 ⟨Nat.zero_le _, Nat.zero_le _⟩ ?_
    refine lv_if_ne (tgt := 24) hx hb dX8_member_19 (by decide) (fun c6 => ?_) (fun c6 => ?_)
    · have hf := ite_n hf c6
      refine lv_iload_n hx hb dX8_member_24 rfl (lv_at hl 2 rfl) ?_
      refine lv_if_ne (tgt := 37) hx hb dX8_member_25 (by decide) (fun c7 => ?_) (fun c7 => ?_)
      · have hf := ite_n hf c7
        refine lv_iload_n hx hb dX8_member_37 rfl (lv_at hl 2 rfl) ?_
        refine lv_iconst (v := 1) hx hb dX8_member_38 (by decide) ?_
        refine lv_icmp_ne (tgt := 51) hx hb dX8_member_39 (by decide) (fun c8 => ?_) (fun c8 => ?_)
        · have hf := ite_n hf c8
          refine lv_iload_n hx hb dX8_member_51 rfl (lv_at hl 2 rfl) ?_
          refine lv_iconst (v := 2) hx hb dX8_member_52 (by decide) ?_
          refine lv_icmp_ne (tgt := 73) hx hb dX8_member_53 (by decide) (fun c9 => ?_) (fun c9 => ?_)
          · have hf := ite_n hf c9
            refine lv_aload_n hx hb dX8_member_73 rfl (lv_at hl 0 rfl) ?_
            refine va_get (D := D) (ci := 7) (v := .ref q_o_seconds) (C := RX8) (T := TX8) (N := 35) hx hb hts hinX8 hown hK.1 hP 0 rfl rfl 11 (by decide) g19 (fun _ h9 => h9) rfl dX8_member_74 ?_
            refine lv_iload_n hx hb dX8_member_77 rfl (lv_at hl 1 rfl) ?_
            obtain ⟨g10, hf⟩ := ing_some hf
            refine va_iald hx hb hK.1 hP 1 1 rfl rfl g10 dX8_member_78 ?_
            obtain ⟨r11, h12, hf⟩ := ob1_some hf
            refine roS (c_X8_ones l D cB cI cZ cM cN (o_seconds p1.toNatClampNeg) r11 h12) hfix (va_cwS 1 hts gX8_member_X8_ones rfl rfl rfl (by decide +kernel) ⟨Nat.le_of_ble_eq_true rfl, Nat.le_of_ble_eq_true rfl⟩) (subC hP [] rfl) hK rfl hl.1 rfl (Nat.le_of_ble_eq_true rfl) dX8_member_79 ⟨Nat.zero_le _, Nat.zero_le _⟩ ?_
            obtain ⟨e0_, e1_⟩ := tup2 hf
            have hP : va_P D vwCl [(q_o, .inr (7, [.int o_thrown', .long o_trace, .ref q_o_text, .int o_typed, .int o_next, .int o_token, .int o_place, .int o_value, .int o_fault, .ref q_o_warmth, .ref q_o_side, .ref q_o_seconds, .int o_members, .int o_pairs, .int o_cold, .int o_fur, .int o_coughs, .int o_draftMembers, .int o_draftPairs, .int o_draftCold, .int o_draftFur, .int o_draftCoughs, .ref q_o_s, .ref q_o_kept, .ref q_o_isKept, .ref q_o_undos, .int o_undoMany, .ref q_o_seenAt, .ref q_o_seen, .int o_seenMany, .ref q_o_board, .ref q_o_pick, .ref q_o_worth, .ref q_o_best, .int o_chosen])), (q_o_seconds, .inl (cI, 12, .inl o_seconds)), (q_o_side, .inl (cI, 12, .inl o_side)), (q_o_s, .inl (cI, 10, .inl o_s))] H := by rw [← e1_]; exact hP
            have hD : va_D A [(q_o, .inr (7, [.int o_thrown', .long o_trace, .ref q_o_text, .int o_typed, .int o_next, .int o_token, .int o_place, .int o_value, .int o_fault, .ref q_o_warmth, .ref q_o_side, .ref q_o_seconds, .int o_members, .int o_pairs, .int o_cold, .int o_fur, .int o_coughs, .int o_draftMembers, .int o_draftPairs, .int o_draftCold, .int o_draftFur, .int o_draftCoughs, .ref q_o_s, .ref q_o_kept, .ref q_o_isKept, .ref q_o_undos, .int o_undoMany, .ref q_o_seenAt, .ref q_o_seen, .int o_seenMany, .ref q_o_board, .ref q_o_pick, .ref q_o_worth, .ref q_o_best, .int o_chosen])), (q_o_seconds, .inl (cI, 12, .inl o_seconds)), (q_o_side, .inl (cI, 12, .inl o_side)), (q_o_s, .inl (cI, 10, .inl o_s))] := by rw [← e1_]; exact hD
            exact endMI hx hb hr hlocks rfl hP hD hS e0_ dX8_member_82
          · have hf := ite_p hf c9
            refine lv_aload_n hx hb dX8_member_56 rfl (lv_at hl 0 rfl) ?_
            refine va_get (D := D) (ci := 7) (v := .ref q_o_s) (C := RX8) (T := TX8) (N := 35) hx hb hts hinX8 hown hK.1 hP 0 rfl rfl 22 (by decide) g22 (fun _ h9 => h9) rfl dX8_member_57 ?_
            refine lv_iload_n hx hb dX8_member_60 rfl (lv_at hl 1 rfl) ?_
            obtain ⟨g13, hf⟩ := ing_some hf
            refine va_iald hx hb hK.1 hP 3 1 rfl rfl g13 dX8_member_61 ?_
            refine lv_if_ne (tgt := 69) hx hb dX8_member_62 (by decide) (fun c14 => ?_) (fun c14 => ?_)
            · have hf := ite_n hf c14
              refine lv_iconst (v := 0) hx hb dX8_member_69 (by decide) ?_
              refine lv_goto (tgt := 82) hx hb dX8_member_70 (by decide) ?_
              obtain ⟨e0_, e1_⟩ := tup2 hf
              have hP : va_P D vwCl [(q_o, .inr (7, [.int o_thrown', .long o_trace, .ref q_o_text, .int o_typed, .int o_next, .int o_token, .int o_place, .int o_value, .int o_fault, .ref q_o_warmth, .ref q_o_side, .ref q_o_seconds, .int o_members, .int o_pairs, .int o_cold, .int o_fur, .int o_coughs, .int o_draftMembers, .int o_draftPairs, .int o_draftCold, .int o_draftFur, .int o_draftCoughs, .ref q_o_s, .ref q_o_kept, .ref q_o_isKept, .ref q_o_undos, .int o_undoMany, .ref q_o_seenAt, .ref q_o_seen, .int o_seenMany, .ref q_o_board, .ref q_o_pick, .ref q_o_worth, .ref q_o_best, .int o_chosen])), (q_o_seconds, .inl (cI, 12, .inl o_seconds)), (q_o_side, .inl (cI, 12, .inl o_side)), (q_o_s, .inl (cI, 10, .inl o_s))] H := by rw [← e1_]; exact hP
              have hD : va_D A [(q_o, .inr (7, [.int o_thrown', .long o_trace, .ref q_o_text, .int o_typed, .int o_next, .int o_token, .int o_place, .int o_value, .int o_fault, .ref q_o_warmth, .ref q_o_side, .ref q_o_seconds, .int o_members, .int o_pairs, .int o_cold, .int o_fur, .int o_coughs, .int o_draftMembers, .int o_draftPairs, .int o_draftCold, .int o_draftFur, .int o_draftCoughs, .ref q_o_s, .ref q_o_kept, .ref q_o_isKept, .ref q_o_undos, .int o_undoMany, .ref q_o_seenAt, .ref q_o_seen, .int o_seenMany, .ref q_o_board, .ref q_o_pick, .ref q_o_worth, .ref q_o_best, .int o_chosen])), (q_o_seconds, .inl (cI, 12, .inl o_seconds)), (q_o_side, .inl (cI, 12, .inl o_side)), (q_o_s, .inl (cI, 10, .inl o_s))] := by rw [← e1_]; exact hD
              exact endMI hx hb hr hlocks rfl hP hD hS e0_ dX8_member_82
            · have hf := ite_p hf c14
              refine lv_iconst (v := 1) hx hb dX8_member_65 (by decide) ?_
              refine lv_goto (tgt := 82) hx hb dX8_member_66 (by decide) ?_
              obtain ⟨e0_, e1_⟩ := tup2 hf
              have hP : va_P D vwCl [(q_o, .inr (7, [.int o_thrown', .long o_trace, .ref q_o_text, .int o_typed, .int o_next, .int o_token, .int o_place, .int o_value, .int o_fault, .ref q_o_warmth, .ref q_o_side, .ref q_o_seconds, .int o_members, .int o_pairs, .int o_cold, .int o_fur, .int o_coughs, .int o_draftMembers, .int o_draftPairs, .int o_draftCold, .int o_draftFur, .int o_draftCoughs, .ref q_o_s, .ref q_o_kept, .ref q_o_isKept, .ref q_o_undos, .int o_undoMany, .ref q_o_seenAt, .ref q_o_seen, .int o_seenMany, .ref q_o_board, .ref q_o_pick, .ref q_o_worth, .ref q_o_best, .int o_chosen])), (q_o_seconds, .inl (cI, 12, .inl o_seconds)), (q_o_side, .inl (cI, 12, .inl o_side)), (q_o_s, .inl (cI, 10, .inl o_s))] H := by rw [← e1_]; exact hP
              have hD : va_D A [(q_o, .inr (7, [.int o_thrown', .long o_trace, .ref q_o_text, .int o_typed, .int o_next, .int o_token, .int o_place, .int o_value, .int o_fault, .ref q_o_warmth, .ref q_o_side, .ref q_o_seconds, .int o_members, .int o_pairs, .int o_cold, .int o_fur, .int o_coughs, .int o_draftMembers, .int o_draftPairs, .int o_draftCold, .int o_draftFur, .int o_draftCoughs, .ref q_o_s, .ref q_o_kept, .ref q_o_isKept, .ref q_o_undos, .int o_undoMany, .ref q_o_seenAt, .ref q_o_seen, .int o_seenMany, .ref q_o_board, .ref q_o_pick, .ref q_o_worth, .ref q_o_best, .int o_chosen])), (q_o_seconds, .inl (cI, 12, .inl o_seconds)), (q_o_side, .inl (cI, 12, .inl o_side)), (q_o_s, .inl (cI, 10, .inl o_s))] := by rw [← e1_]; exact hD
              exact endMI hx hb hr hlocks rfl hP hD hS e0_ dX8_member_82
        · have hf := ite_p hf c8
          refine lv_aload_n hx hb dX8_member_42 rfl (lv_at hl 0 rfl) ?_
          refine va_get (D := D) (ci := 7) (v := .ref q_o_side) (C := RX8) (T := TX8) (N := 35) hx hb hts hinX8 hown hK.1 hP 0 rfl rfl 10 (by decide) g16 (fun _ h9 => h9) rfl dX8_member_43 ?_
          refine lv_iload_n hx hb dX8_member_46 rfl (lv_at hl 1 rfl) ?_
          obtain ⟨g15, hf⟩ := ing_some hf
          refine va_iald hx hb hK.1 hP 2 1 rfl rfl g15 dX8_member_47 ?_
          refine lv_goto (tgt := 82) hx hb dX8_member_48 (by decide) ?_
          obtain ⟨e0_, e1_⟩ := tup2 hf
          have hP : va_P D vwCl [(q_o, .inr (7, [.int o_thrown', .long o_trace, .ref q_o_text, .int o_typed, .int o_next, .int o_token, .int o_place, .int o_value, .int o_fault, .ref q_o_warmth, .ref q_o_side, .ref q_o_seconds, .int o_members, .int o_pairs, .int o_cold, .int o_fur, .int o_coughs, .int o_draftMembers, .int o_draftPairs, .int o_draftCold, .int o_draftFur, .int o_draftCoughs, .ref q_o_s, .ref q_o_kept, .ref q_o_isKept, .ref q_o_undos, .int o_undoMany, .ref q_o_seenAt, .ref q_o_seen, .int o_seenMany, .ref q_o_board, .ref q_o_pick, .ref q_o_worth, .ref q_o_best, .int o_chosen])), (q_o_seconds, .inl (cI, 12, .inl o_seconds)), (q_o_side, .inl (cI, 12, .inl o_side)), (q_o_s, .inl (cI, 10, .inl o_s))] H := by rw [← e1_]; exact hP
          have hD : va_D A [(q_o, .inr (7, [.int o_thrown', .long o_trace, .ref q_o_text, .int o_typed, .int o_next, .int o_token, .int o_place, .int o_value, .int o_fault, .ref q_o_warmth, .ref q_o_side, .ref q_o_seconds, .int o_members, .int o_pairs, .int o_cold, .int o_fur, .int o_coughs, .int o_draftMembers, .int o_draftPairs, .int o_draftCold, .int o_draftFur, .int o_draftCoughs, .ref q_o_s, .ref q_o_kept, .ref q_o_isKept, .ref q_o_undos, .int o_undoMany, .ref q_o_seenAt, .ref q_o_seen, .int o_seenMany, .ref q_o_board, .ref q_o_pick, .ref q_o_worth, .ref q_o_best, .int o_chosen])), (q_o_seconds, .inl (cI, 12, .inl o_seconds)), (q_o_side, .inl (cI, 12, .inl o_side)), (q_o_s, .inl (cI, 10, .inl o_s))] := by rw [← e1_]; exact hD
          exact endMI hx hb hr hlocks rfl hP hD hS e0_ dX8_member_82
      · have hf := ite_p hf c7
        refine lv_aload_n hx hb dX8_member_28 rfl (lv_at hl 0 rfl) ?_
        refine va_get (D := D) (ci := 7) (v := .ref q_o_s) (C := RX8) (T := TX8) (N := 35) hx hb hts hinX8 hown hK.1 hP 0 rfl rfl 22 (by decide) g22 (fun _ h9 => h9) rfl dX8_member_29 ?_
        refine lv_iload_n hx hb dX8_member_32 rfl (lv_at hl 1 rfl) ?_
        obtain ⟨g16, hf⟩ := ing_some hf
        refine va_iald hx hb hK.1 hP 3 1 rfl rfl g16 dX8_member_33 ?_
        refine lv_goto (tgt := 82) hx hb dX8_member_34 (by decide) ?_
        obtain ⟨e0_, e1_⟩ := tup2 hf
        have hP : va_P D vwCl [(q_o, .inr (7, [.int o_thrown', .long o_trace, .ref q_o_text, .int o_typed, .int o_next, .int o_token, .int o_place, .int o_value, .int o_fault, .ref q_o_warmth, .ref q_o_side, .ref q_o_seconds, .int o_members, .int o_pairs, .int o_cold, .int o_fur, .int o_coughs, .int o_draftMembers, .int o_draftPairs, .int o_draftCold, .int o_draftFur, .int o_draftCoughs, .ref q_o_s, .ref q_o_kept, .ref q_o_isKept, .ref q_o_undos, .int o_undoMany, .ref q_o_seenAt, .ref q_o_seen, .int o_seenMany, .ref q_o_board, .ref q_o_pick, .ref q_o_worth, .ref q_o_best, .int o_chosen])), (q_o_seconds, .inl (cI, 12, .inl o_seconds)), (q_o_side, .inl (cI, 12, .inl o_side)), (q_o_s, .inl (cI, 10, .inl o_s))] H := by rw [← e1_]; exact hP
        have hD : va_D A [(q_o, .inr (7, [.int o_thrown', .long o_trace, .ref q_o_text, .int o_typed, .int o_next, .int o_token, .int o_place, .int o_value, .int o_fault, .ref q_o_warmth, .ref q_o_side, .ref q_o_seconds, .int o_members, .int o_pairs, .int o_cold, .int o_fur, .int o_coughs, .int o_draftMembers, .int o_draftPairs, .int o_draftCold, .int o_draftFur, .int o_draftCoughs, .ref q_o_s, .ref q_o_kept, .ref q_o_isKept, .ref q_o_undos, .int o_undoMany, .ref q_o_seenAt, .ref q_o_seen, .int o_seenMany, .ref q_o_board, .ref q_o_pick, .ref q_o_worth, .ref q_o_best, .int o_chosen])), (q_o_seconds, .inl (cI, 12, .inl o_seconds)), (q_o_side, .inl (cI, 12, .inl o_side)), (q_o_s, .inl (cI, 10, .inl o_s))] := by rw [← e1_]; exact hD
        exact endMI hx hb hr hlocks rfl hP hD hS e0_ dX8_member_82
    · have hf := ite_p hf c6
      refine lv_iconst (v := (-1)) hx hb dX8_member_22 (by decide) ?_
      obtain ⟨e0_, e1_⟩ := tup2 hf
      have hP : va_P D vwCl [(q_o, .inr (7, [.int o_thrown', .long o_trace, .ref q_o_text, .int o_typed, .int o_next, .int o_token, .int o_place, .int o_value, .int o_fault, .ref q_o_warmth, .ref q_o_side, .ref q_o_seconds, .int o_members, .int o_pairs, .int o_cold, .int o_fur, .int o_coughs, .int o_draftMembers, .int o_draftPairs, .int o_draftCold, .int o_draftFur, .int o_draftCoughs, .ref q_o_s, .ref q_o_kept, .ref q_o_isKept, .ref q_o_undos, .int o_undoMany, .ref q_o_seenAt, .ref q_o_seen, .int o_seenMany, .ref q_o_board, .ref q_o_pick, .ref q_o_worth, .ref q_o_best, .int o_chosen])), (q_o_seconds, .inl (cI, 12, .inl o_seconds)), (q_o_side, .inl (cI, 12, .inl o_side)), (q_o_s, .inl (cI, 10, .inl o_s))] H := by rw [← e1_]; exact hP
      have hD : va_D A [(q_o, .inr (7, [.int o_thrown', .long o_trace, .ref q_o_text, .int o_typed, .int o_next, .int o_token, .int o_place, .int o_value, .int o_fault, .ref q_o_warmth, .ref q_o_side, .ref q_o_seconds, .int o_members, .int o_pairs, .int o_cold, .int o_fur, .int o_coughs, .int o_draftMembers, .int o_draftPairs, .int o_draftCold, .int o_draftFur, .int o_draftCoughs, .ref q_o_s, .ref q_o_kept, .ref q_o_isKept, .ref q_o_undos, .int o_undoMany, .ref q_o_seenAt, .ref q_o_seen, .int o_seenMany, .ref q_o_board, .ref q_o_pick, .ref q_o_worth, .ref q_o_best, .int o_chosen])), (q_o_seconds, .inl (cI, 12, .inl o_seconds)), (q_o_side, .inl (cI, 12, .inl o_side)), (q_o_s, .inl (cI, 10, .inl o_s))] := by rw [← e1_]; exact hD
      exact endMI hx hb hr hlocks rfl hP hD hS e0_ dX8_member_23
def f_X8_frozenNow_29 (o_members : Int32) (o_s : Nat → Int32) (K4 : Int32 → Int32 → Option (Int32)) (x2 : Int32) (k0 : Int32) (k1 : Int32) : Option (Int32) :=
  bnd (k0 ||| k1) fun y1 =>
  bnd (x2 + 1) fun y2 =>
  K4 y1 y2
def f_X8_frozenNow_4_b (o_members : Int32) (o_s : Nat → Int32) (K4 : Int32 → Int32 → Option (Int32)) (x1 : Int32) (x2 : Int32) : Option (Int32) :=
  if o_members ≤ x2 then (
    some (x1)
  ) else (
    ing x2 10 <|
    if (o_s x2.toNatClampNeg) = 0 then (
      f_X8_frozenNow_29 o_members o_s K4 x2 x1 ((1 : Int32) <<< (x2 &&& 31))
    ) else (
      f_X8_frozenNow_29 o_members o_s K4 x2 x1 0
    )
  )
def f_X8_frozenNow_4 (o_members : Int32) (o_s : Nat → Int32) : Nat → Int32 → Int32 → Option (Int32)
  | 0 => fun _ _ => none
  | n + 1 => f_X8_frozenNow_4_b o_members o_s (f_X8_frozenNow_4 o_members o_s n)
def f_X8_frozenNow (o_members : Int32) (o_s : Nat → Int32) : Option (Int32) :=
  f_X8_frozenNow_4 o_members o_s FU 0 0
set_option maxHeartbeats 4000000 in
set_option maxRecDepth 100000 in
theorem c_X8_frozenNow (l : Launch) (D : va_G) (cB cI cZ cM cN : ClassId) (q_o : Nat) (q_o_text : Nat) (q_o_warmth : Nat) (q_o_side : Nat) (q_o_seconds : Nat) (q_o_s : Nat) (q_o_kept : Nat) (q_o_isKept : Nat) (q_o_undos : Nat) (q_o_seenAt : Nat) (q_o_seen : Nat) (q_o_board : Nat) (q_o_pick : Nat) (q_o_worth : Nat) (q_o_best : Nat) (o_thrown : Int32) (o_trace : Int64) (o_typed : Int32) (o_next : Int32) (o_token : Int32) (o_place : Int32) (o_value : Int32) (o_fault : Int32) (o_members : Int32) (o_pairs : Int32) (o_cold : Int32) (o_fur : Int32) (o_coughs : Int32) (o_draftMembers : Int32) (o_draftPairs : Int32) (o_draftCold : Int32) (o_draftFur : Int32) (o_draftCoughs : Int32) (o_undoMany : Int32) (o_seenMany : Int32) (o_chosen : Int32) (o_s : Nat → Int32) (r : Int32) (hf : f_X8_frozenNow o_members o_s = some r) : Met l yX8_frozenNow wsX8_frozenNow ({ frames := 0, cells := 0, slots := 0, locals := 0 } : Room) (PR D cB cI cZ cM cN [.ref q_o] [(q_o, .inr (7, [.int o_thrown, .long o_trace, .ref q_o_text, .int o_typed, .int o_next, .int o_token, .int o_place, .int o_value, .int o_fault, .ref q_o_warmth, .ref q_o_side, .ref q_o_seconds, .int o_members, .int o_pairs, .int o_cold, .int o_fur, .int o_coughs, .int o_draftMembers, .int o_draftPairs, .int o_draftCold, .int o_draftFur, .int o_draftCoughs, .ref q_o_s, .ref q_o_kept, .ref q_o_isKept, .ref q_o_undos, .int o_undoMany, .ref q_o_seenAt, .ref q_o_seen, .int o_seenMany, .ref q_o_board, .ref q_o_pick, .ref q_o_worth, .ref q_o_best, .int o_chosen])), (q_o_s, .inl (cI, 10, .inl o_s))]) (RI r) 0 0 (fun _ => False) := by
  refine entR (by decide +kernel) rfl (Nat.le_of_ble_eq_true rfl) ?_
  intro p e s m below meth c hx hb hr hml hown hlocks hts hP hK ls hl
  have hown : s.vm.findClass RX8 = some m.cls := hown
  have hl : lv_has ls 3 [(0, .ref q_o)] := hl
  have hfix : CallFix p m c cX8_frozenNow 3 s ([.ref q_o] : List Value).toArray wsX8_frozenNow RX8 := ⟨hx, hb, hml, hown, hts⟩
  have hinX8 : ∀ w ∈ u_ws RX8 TX8 35, w ∈ wsX8_frozenNow := by decide +kernel
  have g145 := hts (.fieldLink RX8 145 "LastCoatModel" "members" "I") (by decide +kernel)
  have g22 := hts (.fieldLink RX8 22 "LastCoatModel" "s" "[I") (by decide +kernel)
  have L4 : ∀ (n4 : Nat) (x1 : Int32) (x2 : Int32) (ls : Array Slot), f_X8_frozenNow_4 o_members o_s n4 x1 x2 = some r → lv_has ls 3 [(0, .ref q_o), (1, .int x1), (2, .int x2)] → W p l e ({ frames := 0, cells := 0, slots := 0, locals := 0 } : Room) s m ([.ref q_o] : List Value).toArray below meth c s.heap [] 0 0 (MQ below (RI r) ([.ref q_o] : List Value).toArray s 0 0 (fun _ => False)) (F0 m 4 ls []) := by
    intro n4
    induction n4 with
    | zero =>
      intro x1 x2 ls hf hl
      exact noneNe hf
    | succ n4 ih4 =>
      have L29 : ∀ (x2 : Int32) (k0 : Int32) (k1 : Int32) (ls : Array Slot), f_X8_frozenNow_29 o_members o_s (f_X8_frozenNow_4 o_members o_s n4) x2 k0 k1 = some r → lv_has ls 3 [(0, .ref q_o), (2, .int x2)] → W p l e ({ frames := 0, cells := 0, slots := 0, locals := 0 } : Room) s m ([.ref q_o] : List Value).toArray below meth c s.heap [] 0 0 (MQ below (RI r) ([.ref q_o] : List Value).toArray s 0 0 (fun _ => False)) (F0 m 29 ls [.int k1, .int k0]) := by
        intro x2 k0 k1 ls hf hl
        unfold f_X8_frozenNow_29 at hf
        refine lv_ior hx hb dX8_frozenNow_29 ?_
        refine lv_topi (fun y1 ey1 => ?_)
        have hf := bnd_at hf ey1
        refine lv_istore_n (lv' := [(1, .int y1), (0, .ref q_o), (2, .int x2)]) hx hb dX8_frozenNow_30 rfl hl (by decide) rfl (fun ls hl => ?_)
        obtain ⟨y2, ey2⟩ : ∃ z : Int32, z = x2 + 1 := ⟨_, rfl⟩
        have hf := bnd_at hf ey2
        refine lv_iinc (v := y2) (lv' := [(2, .int y2), (1, .int y1), (0, .ref q_o)]) hx hb dX8_frozenNow_31 hl (k := 2) rfl (by rw [ey2]; rfl) (by decide) rfl (fun ls hl => ?_)
        refine lv_goto (tgt := 4) hx hb dX8_frozenNow_34 (by decide) ?_
        exact ih4 y1 y2 ls hf (lv_sub hl [2, 1, 0] rfl)
      intro x1 x2 ls hf hl
      have hf : f_X8_frozenNow_4_b o_members o_s (f_X8_frozenNow_4 o_members o_s n4) x1 x2 = some r := hf
      unfold f_X8_frozenNow_4_b at hf
      refine lv_iload_n hx hb dX8_frozenNow_4 rfl (lv_at hl 2 rfl) ?_
      refine lv_aload_n hx hb dX8_frozenNow_5 rfl (lv_at hl 0 rfl) ?_
      refine va_get (D := D) (ci := 7) (v := .int o_members) (C := RX8) (T := TX8) (N := 35) hx hb hts hinX8 hown hK.1 hP 0 rfl rfl 12 (by decide) g145 (fun _ h9 => h9) rfl dX8_frozenNow_6 ?_
      refine lv_icmp_ge (tgt := 37) hx hb dX8_frozenNow_9 (by decide) (fun c3 => ?_) (fun c3 => ?_)
      · have hf := ite_p hf c3
        refine lv_iload_n hx hb dX8_frozenNow_37 rfl (lv_at hl 1 rfl) ?_
        have e0_ := Option.some.inj hf
        exact endRI hx hb hr hlocks rfl e0_ dX8_frozenNow_38
      · have hf := ite_n hf c3
        refine lv_iload_n hx hb dX8_frozenNow_12 rfl (lv_at hl 1 rfl) ?_
        refine lv_aload_n hx hb dX8_frozenNow_13 rfl (lv_at hl 0 rfl) ?_
        refine va_get (D := D) (ci := 7) (v := .ref q_o_s) (C := RX8) (T := TX8) (N := 35) hx hb hts hinX8 hown hK.1 hP 0 rfl rfl 22 (by decide) g22 (fun _ h9 => h9) rfl dX8_frozenNow_14 ?_
        refine lv_iload_n hx hb dX8_frozenNow_17 rfl (lv_at hl 2 rfl) ?_
        obtain ⟨g4, hf⟩ := ing_some hf
        refine va_iald hx hb hK.1 hP 1 1 rfl rfl g4 dX8_frozenNow_18 ?_
        refine lv_if_ne (tgt := 28) hx hb dX8_frozenNow_19 (by decide) (fun c5 => ?_) (fun c5 => ?_)
        · have hf := ite_n hf c5
          refine lv_iconst (v := 0) hx hb dX8_frozenNow_28 (by decide) ?_
          exact L29 x2 x1 0 ls hf (lv_sub hl [0, 2] rfl)
        · have hf := ite_p hf c5
          refine lv_iconst (v := 1) hx hb dX8_frozenNow_22 (by decide) ?_
          refine lv_iload_n hx hb dX8_frozenNow_23 rfl (lv_at hl 2 rfl) ?_
          refine lv_ishl hx hb dX8_frozenNow_24 ?_
          refine lv_goto (tgt := 29) hx hb dX8_frozenNow_25 (by decide) ?_
          exact L29 x2 x1 ((1 : Int32) <<< (x2 &&& 31)) ls hf (lv_sub hl [0, 2] rfl)
  unfold f_X8_frozenNow at hf
  refine lv_iconst (v := 0) hx hb dX8_frozenNow_0 (by decide) ?_
  refine lv_istore_n (lv' := [(1, .int 0), (0, .ref q_o)]) hx hb dX8_frozenNow_1 rfl hl (by decide) rfl (fun ls hl => ?_)
  refine lv_iconst (v := 0) hx hb dX8_frozenNow_2 (by decide) ?_
  refine lv_istore_n (lv' := [(2, .int 0), (1, .int 0), (0, .ref q_o)]) hx hb dX8_frozenNow_3 rfl hl (by decide) rfl (fun ls hl => ?_)
  exact L4 FU 0 0 ls hf (lv_sub hl [2, 1, 0] rfl)
def f_X8_told (o_members : Int32) (o_cold : Int32) (o_coughs : Int32) (o_s : Nat → Int32) (o_thrown : Int32) (p1 : Int32) : Option (Int32 × Int32) :=
  if (3 : Int32) ≤ p1 then (
    if p1 = 3 then (
      ing 6 10 <|
      some (o_s (6 : Int32).toNatClampNeg, 0)
    ) else (
      if p1 = 4 then (
        ing 8 10 <|
        some (o_s (8 : Int32).toNatClampNeg, 0)
      ) else (
        if p1 = 5 then (
          ob1 (f_X8_frozenNow o_members o_s) fun r5 =>
          some (r5, 0)
        ) else (
          some ((-1), 0)
        )
      )
    )
  ) else (
    if p1 = 0 then (
      some (o_cold, 0)
    ) else (
      if p1 = 1 then (
        ing 7 10 <|
        some (o_s (7 : Int32).toNatClampNeg, 0)
      ) else (
        if p1 = 2 then (
          some (o_coughs, 0)
        ) else (
          some ((-1), 0)
        )
      )
    )
  )
set_option maxHeartbeats 4000000 in
set_option maxRecDepth 100000 in
theorem c_X8_told (l : Launch) (D : va_G) (cB cI cZ cM cN : ClassId) (q_o : Nat) (q_o_text : Nat) (q_o_warmth : Nat) (q_o_side : Nat) (q_o_seconds : Nat) (q_o_s : Nat) (q_o_kept : Nat) (q_o_isKept : Nat) (q_o_undos : Nat) (q_o_seenAt : Nat) (q_o_seen : Nat) (q_o_board : Nat) (q_o_pick : Nat) (q_o_worth : Nat) (q_o_best : Nat) (o_thrown : Int32) (o_trace : Int64) (o_typed : Int32) (o_next : Int32) (o_token : Int32) (o_place : Int32) (o_value : Int32) (o_fault : Int32) (o_members : Int32) (o_pairs : Int32) (o_cold : Int32) (o_fur : Int32) (o_coughs : Int32) (o_draftMembers : Int32) (o_draftPairs : Int32) (o_draftCold : Int32) (o_draftFur : Int32) (o_draftCoughs : Int32) (o_undoMany : Int32) (o_seenMany : Int32) (o_chosen : Int32) (o_s : Nat → Int32) (p1 : Int32) (r : Int32) (o_thrown' : Int32) (sz : Nat) (hf : f_X8_told o_members o_cold o_coughs o_s o_thrown p1 = some (r, o_thrown')) : Met l yX8_told wsX8_told ({ frames := 1, cells := 0, slots := 0, locals := 22 } : Room) (PM D cB cI cZ cM cN [.ref q_o, .int p1] [(q_o, .inr (7, [.int o_thrown, .long o_trace, .ref q_o_text, .int o_typed, .int o_next, .int o_token, .int o_place, .int o_value, .int o_fault, .ref q_o_warmth, .ref q_o_side, .ref q_o_seconds, .int o_members, .int o_pairs, .int o_cold, .int o_fur, .int o_coughs, .int o_draftMembers, .int o_draftPairs, .int o_draftCold, .int o_draftFur, .int o_draftCoughs, .ref q_o_s, .ref q_o_kept, .ref q_o_isKept, .ref q_o_undos, .int o_undoMany, .ref q_o_seenAt, .ref q_o_seen, .int o_seenMany, .ref q_o_board, .ref q_o_pick, .ref q_o_worth, .ref q_o_best, .int o_chosen])), (q_o_s, .inl (cI, 10, .inl o_s))] sz) (QI D [(q_o, .inr (7, [.int o_thrown', .long o_trace, .ref q_o_text, .int o_typed, .int o_next, .int o_token, .int o_place, .int o_value, .int o_fault, .ref q_o_warmth, .ref q_o_side, .ref q_o_seconds, .int o_members, .int o_pairs, .int o_cold, .int o_fur, .int o_coughs, .int o_draftMembers, .int o_draftPairs, .int o_draftCold, .int o_draftFur, .int o_draftCoughs, .ref q_o_s, .ref q_o_kept, .ref q_o_isKept, .ref q_o_undos, .int o_undoMany, .ref q_o_seenAt, .ref q_o_seen, .int o_seenMany, .ref q_o_board, .ref q_o_pick, .ref q_o_worth, .ref q_o_best, .int o_chosen])), (q_o_s, .inl (cI, 10, .inl o_s))] r (va_A [(q_o, .inr (7, [.int o_thrown, .long o_trace, .ref q_o_text, .int o_typed, .int o_next, .int o_token, .int o_place, .int o_value, .int o_fault, .ref q_o_warmth, .ref q_o_side, .ref q_o_seconds, .int o_members, .int o_pairs, .int o_cold, .int o_fur, .int o_coughs, .int o_draftMembers, .int o_draftPairs, .int o_draftCold, .int o_draftFur, .int o_draftCoughs, .ref q_o_s, .ref q_o_kept, .ref q_o_isKept, .ref q_o_undos, .int o_undoMany, .ref q_o_seenAt, .ref q_o_seen, .int o_seenMany, .ref q_o_board, .ref q_o_pick, .ref q_o_worth, .ref q_o_best, .int o_chosen])), (q_o_s, .inl (cI, 10, .inl o_s))] sz)) 0 0 (va_A [(q_o, .inr (7, [.int o_thrown, .long o_trace, .ref q_o_text, .int o_typed, .int o_next, .int o_token, .int o_place, .int o_value, .int o_fault, .ref q_o_warmth, .ref q_o_side, .ref q_o_seconds, .int o_members, .int o_pairs, .int o_cold, .int o_fur, .int o_coughs, .int o_draftMembers, .int o_draftPairs, .int o_draftCold, .int o_draftFur, .int o_draftCoughs, .ref q_o_s, .ref q_o_kept, .ref q_o_isKept, .ref q_o_undos, .int o_undoMany, .ref q_o_seenAt, .ref q_o_seen, .int o_seenMany, .ref q_o_board, .ref q_o_pick, .ref q_o_worth, .ref q_o_best, .int o_chosen])), (q_o_s, .inl (cI, 10, .inl o_s))] sz) := by
  refine entM (l := l) (y := yX8_told) (ws := wsX8_told) (cc := cX8_told) (av := [.ref q_o, .int p1]) (wc := [(q_o, .inr (7, [.int o_thrown, .long o_trace, .ref q_o_text, .int o_typed, .int o_next, .int o_token, .int o_place, .int o_value, .int o_fault, .ref q_o_warmth, .ref q_o_side, .ref q_o_seconds, .int o_members, .int o_pairs, .int o_cold, .int o_fur, .int o_coughs, .int o_draftMembers, .int o_draftPairs, .int o_draftCold, .int o_draftFur, .int o_draftCoughs, .ref q_o_s, .ref q_o_kept, .ref q_o_isKept, .ref q_o_undos, .int o_undoMany, .ref q_o_seenAt, .ref q_o_seen, .int o_seenMany, .ref q_o_board, .ref q_o_pick, .ref q_o_worth, .ref q_o_best, .int o_chosen])), (q_o_s, .inl (cI, 10, .inl o_s))]) (sz := sz) (Qc := fun A => QI D [(q_o, .inr (7, [.int o_thrown', .long o_trace, .ref q_o_text, .int o_typed, .int o_next, .int o_token, .int o_place, .int o_value, .int o_fault, .ref q_o_warmth, .ref q_o_side, .ref q_o_seconds, .int o_members, .int o_pairs, .int o_cold, .int o_fur, .int o_coughs, .int o_draftMembers, .int o_draftPairs, .int o_draftCold, .int o_draftFur, .int o_draftCoughs, .ref q_o_s, .ref q_o_kept, .ref q_o_isKept, .ref q_o_undos, .int o_undoMany, .ref q_o_seenAt, .ref q_o_seen, .int o_seenMany, .ref q_o_board, .ref q_o_pick, .ref q_o_worth, .ref q_o_best, .int o_chosen])), (q_o_s, .inl (cI, 10, .inl o_s))] r A) (by decide +kernel) rfl (Nat.le_of_ble_eq_true rfl) ?_
  intro A p e s m below meth c hx hb hr hml hown hlocks hts hK hA H locs hP hD hS ls hl
  have hown : s.vm.findClass RX8 = some m.cls := hown
  have hl : lv_has ls 2 [(0, .ref q_o), (1, .int p1)] := hl
  have hfix : CallFix p m c cX8_told 2 s ([.ref q_o, .int p1] : List Value).toArray wsX8_told RX8 := ⟨hx, hb, hml, hown, hts⟩
  have hinX8 : ∀ w ∈ u_ws RX8 TX8 35, w ∈ wsX8_told := by decide +kernel
  have g63 := hts (.fieldLink RX8 63 "LastCoatModel" "thrown" "I") (by decide +kernel)
  have g22 := hts (.fieldLink RX8 22 "LastCoatModel" "s" "[I") (by decide +kernel)
  have g151 := hts (.fieldLink RX8 151 "LastCoatModel" "coughs" "I") (by decide +kernel)
  have g53 := hts (.fieldLink RX8 53 "LastCoatModel" "cold" "I") (by decide +kernel)
  unfold f_X8_told at hf
  refine lv_aload_n hx hb dX8_told_0 rfl (lv_at hl 0 rfl) ?_
  refine lv_iconst (v := 0) hx hb dX8_told_1 (by decide) ?_
  refine va_put (D := D) (ci := 7) (v := .int 0) (ty := .int) (C := RX8) (T := TX8) (N := 35) hx hb hts hinX8 tyX8 tyX8_ok nmX8 hown hK.1 hP hD hS 0 rfl rfl 0 (by decide) g63 (fun _ h9 => h9) rfl (by decide +kernel) rfl rfl (Nat.le_of_ble_eq_true rfl) dX8_told_2 (fun H locs hP hD hS => ?_)
  have hP : va_P D vwCl [(q_o, .inr (7, [.int 0, .long o_trace, .ref q_o_text, .int o_typed, .int o_next, .int o_token, .int o_place, .int o_value, .int o_fault, .ref q_o_warmth, .ref q_o_side, .ref q_o_seconds, .int o_members, .int o_pairs, .int o_cold, .int o_fur, .int o_coughs, .int o_draftMembers, .int o_draftPairs, .int o_draftCold, .int o_draftFur, .int o_draftCoughs, .ref q_o_s, .ref q_o_kept, .ref q_o_isKept, .ref q_o_undos, .int o_undoMany, .ref q_o_seenAt, .ref q_o_seen, .int o_seenMany, .ref q_o_board, .ref q_o_pick, .ref q_o_worth, .ref q_o_best, .int o_chosen])), (q_o_s, .inl (cI, 10, .inl o_s))] H := hP
  have hD : va_D A [(q_o, .inr (7, [.int 0, .long o_trace, .ref q_o_text, .int o_typed, .int o_next, .int o_token, .int o_place, .int o_value, .int o_fault, .ref q_o_warmth, .ref q_o_side, .ref q_o_seconds, .int o_members, .int o_pairs, .int o_cold, .int o_fur, .int o_coughs, .int o_draftMembers, .int o_draftPairs, .int o_draftCold, .int o_draftFur, .int o_draftCoughs, .ref q_o_s, .ref q_o_kept, .ref q_o_isKept, .ref q_o_undos, .int o_undoMany, .ref q_o_seenAt, .ref q_o_seen, .int o_seenMany, .ref q_o_board, .ref q_o_pick, .ref q_o_worth, .ref q_o_best, .int o_chosen])), (q_o_s, .inl (cI, 10, .inl o_s))] := hD
  refine lv_iload_n hx hb dX8_told_5 rfl (lv_at hl 1 rfl) ?_
  refine lv_iconst (v := 3) hx hb dX8_told_6 (by decide) ?_
  refine lv_icmp_ge (tgt := 50) hx hb dX8_told_7 (by decide) (fun c1 => ?_) (fun c1 => ?_)
  · have hf := ite_p hf c1
    refine lv_iload_n hx hb dX8_told_50 rfl (lv_at hl 1 rfl) ?_
    refine lv_iconst (v := 3) hx hb dX8_told_51 (by decide) ?_
    refine lv_icmp_ne (tgt := 65) hx hb dX8_told_52 (by decide) (fun c2 => ?_) (fun c2 => ?_)
    · have hf := ite_n hf c2
      refine lv_iload_n hx hb dX8_told_65 rfl (lv_at hl 1 rfl) ?_
      refine lv_iconst (v := 4) hx hb dX8_told_66 (by decide) ?_
      refine lv_icmp_ne (tgt := 80) hx hb dX8_told_67 (by decide) (fun c3 => ?_) (fun c3 => ?_)
      · have hf := ite_n hf c3
        refine lv_iload_n hx hb dX8_told_80 rfl (lv_at hl 1 rfl) ?_
        refine lv_iconst (v := 5) hx hb dX8_told_81 (by decide) ?_
        refine lv_icmp_ne (tgt := 92) hx hb dX8_told_82 (by decide) (fun c4 => ?_) (fun c4 => ?_)
        · have hf := ite_n hf c4
          refine lv_iconst (v := (-1)) hx hb dX8_told_92 (by decide) ?_
          obtain ⟨e0_, e1_⟩ := tup2 hf
          have hP : va_P D vwCl [(q_o, .inr (7, [.int o_thrown', .long o_trace, .ref q_o_text, .int o_typed, .int o_next, .int o_token, .int o_place, .int o_value, .int o_fault, .ref q_o_warmth, .ref q_o_side, .ref q_o_seconds, .int o_members, .int o_pairs, .int o_cold, .int o_fur, .int o_coughs, .int o_draftMembers, .int o_draftPairs, .int o_draftCold, .int o_draftFur, .int o_draftCoughs, .ref q_o_s, .ref q_o_kept, .ref q_o_isKept, .ref q_o_undos, .int o_undoMany, .ref q_o_seenAt, .ref q_o_seen, .int o_seenMany, .ref q_o_board, .ref q_o_pick, .ref q_o_worth, .ref q_o_best, .int o_chosen])), (q_o_s, .inl (cI, 10, .inl o_s))] H := by rw [← e1_]; exact hP
          have hD : va_D A [(q_o, .inr (7, [.int o_thrown', .long o_trace, .ref q_o_text, .int o_typed, .int o_next, .int o_token, .int o_place, .int o_value, .int o_fault, .ref q_o_warmth, .ref q_o_side, .ref q_o_seconds, .int o_members, .int o_pairs, .int o_cold, .int o_fur, .int o_coughs, .int o_draftMembers, .int o_draftPairs, .int o_draftCold, .int o_draftFur, .int o_draftCoughs, .ref q_o_s, .ref q_o_kept, .ref q_o_isKept, .ref q_o_undos, .int o_undoMany, .ref q_o_seenAt, .ref q_o_seen, .int o_seenMany, .ref q_o_board, .ref q_o_pick, .ref q_o_worth, .ref q_o_best, .int o_chosen])), (q_o_s, .inl (cI, 10, .inl o_s))] := by rw [← e1_]; exact hD
          exact endMI hx hb hr hlocks rfl hP hD hS e0_ dX8_told_93
        · have hf := ite_p hf c4
          refine lv_aload_n hx hb dX8_told_85 rfl (lv_at hl 0 rfl) ?_
          obtain ⟨r5, h6, hf⟩ := ob1_some hf
          refine roV (c_X8_frozenNow l D cB cI cZ cM cN q_o q_o_text q_o_warmth q_o_side q_o_seconds q_o_s q_o_kept q_o_isKept q_o_undos q_o_seenAt q_o_seen q_o_board q_o_pick q_o_worth q_o_best 0 o_trace o_typed o_next o_token o_place o_value o_fault o_members o_pairs o_cold o_fur o_coughs o_draftMembers o_draftPairs o_draftCold o_draftFur o_draftCoughs o_undoMany o_seenMany o_chosen o_s r5 h6) hfix (cwV 0 hts gX8_told_X8_frozenNow rfl rfl rfl (by decide +kernel) ⟨Nat.le_of_ble_eq_true rfl, Nat.le_of_ble_eq_true rfl⟩) (subC hP [0, 1] rfl) hK rfl rfl rfl rfl hl.1 rfl (Nat.le_of_ble_eq_true rfl) dX8_told_86 ⟨Nat.zero_le _, Nat.zero_le _⟩ ?_
          refine lv_goto (tgt := 93) hx hb dX8_told_89 (by decide) ?_
          obtain ⟨e0_, e1_⟩ := tup2 hf
          have hP : va_P D vwCl [(q_o, .inr (7, [.int o_thrown', .long o_trace, .ref q_o_text, .int o_typed, .int o_next, .int o_token, .int o_place, .int o_value, .int o_fault, .ref q_o_warmth, .ref q_o_side, .ref q_o_seconds, .int o_members, .int o_pairs, .int o_cold, .int o_fur, .int o_coughs, .int o_draftMembers, .int o_draftPairs, .int o_draftCold, .int o_draftFur, .int o_draftCoughs, .ref q_o_s, .ref q_o_kept, .ref q_o_isKept, .ref q_o_undos, .int o_undoMany, .ref q_o_seenAt, .ref q_o_seen, .int o_seenMany, .ref q_o_board, .ref q_o_pick, .ref q_o_worth, .ref q_o_best, .int o_chosen])), (q_o_s, .inl (cI, 10, .inl o_s))] H := by rw [← e1_]; exact hP
          have hD : va_D A [(q_o, .inr (7, [.int o_thrown', .long o_trace, .ref q_o_text, .int o_typed, .int o_next, .int o_token, .int o_place, .int o_value, .int o_fault, .ref q_o_warmth, .ref q_o_side, .ref q_o_seconds, .int o_members, .int o_pairs, .int o_cold, .int o_fur, .int o_coughs, .int o_draftMembers, .int o_draftPairs, .int o_draftCold, .int o_draftFur, .int o_draftCoughs, .ref q_o_s, .ref q_o_kept, .ref q_o_isKept, .ref q_o_undos, .int o_undoMany, .ref q_o_seenAt, .ref q_o_seen, .int o_seenMany, .ref q_o_board, .ref q_o_pick, .ref q_o_worth, .ref q_o_best, .int o_chosen])), (q_o_s, .inl (cI, 10, .inl o_s))] := by rw [← e1_]; exact hD
          exact endMI hx hb hr hlocks rfl hP hD hS e0_ dX8_told_93
      · have hf := ite_p hf c3
        refine lv_aload_n hx hb dX8_told_70 rfl (lv_at hl 0 rfl) ?_
        refine va_get (D := D) (ci := 7) (v := .ref q_o_s) (C := RX8) (T := TX8) (N := 35) hx hb hts hinX8 hown hK.1 hP 0 rfl rfl 22 (by decide) g22 (fun _ h9 => h9) rfl dX8_told_71 ?_
        refine lv_bipush (v := 8) hx hb dX8_told_74 (by decide) ?_
        obtain ⟨g7, hf⟩ := ing_some hf
        refine va_iald hx hb hK.1 hP 1 1 rfl rfl g7 dX8_told_76 ?_
        refine lv_goto (tgt := 93) hx hb dX8_told_77 (by decide) ?_
        obtain ⟨e0_, e1_⟩ := tup2 hf
        have hP : va_P D vwCl [(q_o, .inr (7, [.int o_thrown', .long o_trace, .ref q_o_text, .int o_typed, .int o_next, .int o_token, .int o_place, .int o_value, .int o_fault, .ref q_o_warmth, .ref q_o_side, .ref q_o_seconds, .int o_members, .int o_pairs, .int o_cold, .int o_fur, .int o_coughs, .int o_draftMembers, .int o_draftPairs, .int o_draftCold, .int o_draftFur, .int o_draftCoughs, .ref q_o_s, .ref q_o_kept, .ref q_o_isKept, .ref q_o_undos, .int o_undoMany, .ref q_o_seenAt, .ref q_o_seen, .int o_seenMany, .ref q_o_board, .ref q_o_pick, .ref q_o_worth, .ref q_o_best, .int o_chosen])), (q_o_s, .inl (cI, 10, .inl o_s))] H := by rw [← e1_]; exact hP
        have hD : va_D A [(q_o, .inr (7, [.int o_thrown', .long o_trace, .ref q_o_text, .int o_typed, .int o_next, .int o_token, .int o_place, .int o_value, .int o_fault, .ref q_o_warmth, .ref q_o_side, .ref q_o_seconds, .int o_members, .int o_pairs, .int o_cold, .int o_fur, .int o_coughs, .int o_draftMembers, .int o_draftPairs, .int o_draftCold, .int o_draftFur, .int o_draftCoughs, .ref q_o_s, .ref q_o_kept, .ref q_o_isKept, .ref q_o_undos, .int o_undoMany, .ref q_o_seenAt, .ref q_o_seen, .int o_seenMany, .ref q_o_board, .ref q_o_pick, .ref q_o_worth, .ref q_o_best, .int o_chosen])), (q_o_s, .inl (cI, 10, .inl o_s))] := by rw [← e1_]; exact hD
        exact endMI hx hb hr hlocks rfl hP hD hS e0_ dX8_told_93
    · have hf := ite_p hf c2
      refine lv_aload_n hx hb dX8_told_55 rfl (lv_at hl 0 rfl) ?_
      refine va_get (D := D) (ci := 7) (v := .ref q_o_s) (C := RX8) (T := TX8) (N := 35) hx hb hts hinX8 hown hK.1 hP 0 rfl rfl 22 (by decide) g22 (fun _ h9 => h9) rfl dX8_told_56 ?_
      refine lv_bipush (v := 6) hx hb dX8_told_59 (by decide) ?_
      obtain ⟨g8, hf⟩ := ing_some hf
      refine va_iald hx hb hK.1 hP 1 1 rfl rfl g8 dX8_told_61 ?_
      refine lv_goto (tgt := 93) hx hb dX8_told_62 (by decide) ?_
      obtain ⟨e0_, e1_⟩ := tup2 hf
      have hP : va_P D vwCl [(q_o, .inr (7, [.int o_thrown', .long o_trace, .ref q_o_text, .int o_typed, .int o_next, .int o_token, .int o_place, .int o_value, .int o_fault, .ref q_o_warmth, .ref q_o_side, .ref q_o_seconds, .int o_members, .int o_pairs, .int o_cold, .int o_fur, .int o_coughs, .int o_draftMembers, .int o_draftPairs, .int o_draftCold, .int o_draftFur, .int o_draftCoughs, .ref q_o_s, .ref q_o_kept, .ref q_o_isKept, .ref q_o_undos, .int o_undoMany, .ref q_o_seenAt, .ref q_o_seen, .int o_seenMany, .ref q_o_board, .ref q_o_pick, .ref q_o_worth, .ref q_o_best, .int o_chosen])), (q_o_s, .inl (cI, 10, .inl o_s))] H := by rw [← e1_]; exact hP
      have hD : va_D A [(q_o, .inr (7, [.int o_thrown', .long o_trace, .ref q_o_text, .int o_typed, .int o_next, .int o_token, .int o_place, .int o_value, .int o_fault, .ref q_o_warmth, .ref q_o_side, .ref q_o_seconds, .int o_members, .int o_pairs, .int o_cold, .int o_fur, .int o_coughs, .int o_draftMembers, .int o_draftPairs, .int o_draftCold, .int o_draftFur, .int o_draftCoughs, .ref q_o_s, .ref q_o_kept, .ref q_o_isKept, .ref q_o_undos, .int o_undoMany, .ref q_o_seenAt, .ref q_o_seen, .int o_seenMany, .ref q_o_board, .ref q_o_pick, .ref q_o_worth, .ref q_o_best, .int o_chosen])), (q_o_s, .inl (cI, 10, .inl o_s))] := by rw [← e1_]; exact hD
      exact endMI hx hb hr hlocks rfl hP hD hS e0_ dX8_told_93
  · have hf := ite_n hf c1
    refine lv_iload_n hx hb dX8_told_10 rfl (lv_at hl 1 rfl) ?_
    refine lv_if_ne (tgt := 21) hx hb dX8_told_11 (by decide) (fun c9 => ?_) (fun c9 => ?_)
    · have hf := ite_n hf c9
      refine lv_iload_n hx hb dX8_told_21 rfl (lv_at hl 1 rfl) ?_
      refine lv_iconst (v := 1) hx hb dX8_told_22 (by decide) ?_
      refine lv_icmp_ne (tgt := 36) hx hb dX8_told_23 (by decide) (fun c10 => ?_) (fun c10 => ?_)
      · have hf := ite_n hf c10
        refine lv_iload_n hx hb dX8_told_36 rfl (lv_at hl 1 rfl) ?_
        refine lv_iconst (v := 2) hx hb dX8_told_37 (by decide) ?_
        refine lv_icmp_ne (tgt := 48) hx hb dX8_told_38 (by decide) (fun c11 => ?_) (fun c11 => ?_)
        · have hf := ite_n hf c11
          refine lv_iconst (v := (-1)) hx hb dX8_told_48 (by decide) ?_
          obtain ⟨e0_, e1_⟩ := tup2 hf
          have hP : va_P D vwCl [(q_o, .inr (7, [.int o_thrown', .long o_trace, .ref q_o_text, .int o_typed, .int o_next, .int o_token, .int o_place, .int o_value, .int o_fault, .ref q_o_warmth, .ref q_o_side, .ref q_o_seconds, .int o_members, .int o_pairs, .int o_cold, .int o_fur, .int o_coughs, .int o_draftMembers, .int o_draftPairs, .int o_draftCold, .int o_draftFur, .int o_draftCoughs, .ref q_o_s, .ref q_o_kept, .ref q_o_isKept, .ref q_o_undos, .int o_undoMany, .ref q_o_seenAt, .ref q_o_seen, .int o_seenMany, .ref q_o_board, .ref q_o_pick, .ref q_o_worth, .ref q_o_best, .int o_chosen])), (q_o_s, .inl (cI, 10, .inl o_s))] H := by rw [← e1_]; exact hP
          have hD : va_D A [(q_o, .inr (7, [.int o_thrown', .long o_trace, .ref q_o_text, .int o_typed, .int o_next, .int o_token, .int o_place, .int o_value, .int o_fault, .ref q_o_warmth, .ref q_o_side, .ref q_o_seconds, .int o_members, .int o_pairs, .int o_cold, .int o_fur, .int o_coughs, .int o_draftMembers, .int o_draftPairs, .int o_draftCold, .int o_draftFur, .int o_draftCoughs, .ref q_o_s, .ref q_o_kept, .ref q_o_isKept, .ref q_o_undos, .int o_undoMany, .ref q_o_seenAt, .ref q_o_seen, .int o_seenMany, .ref q_o_board, .ref q_o_pick, .ref q_o_worth, .ref q_o_best, .int o_chosen])), (q_o_s, .inl (cI, 10, .inl o_s))] := by rw [← e1_]; exact hD
          exact endMI hx hb hr hlocks rfl hP hD hS e0_ dX8_told_49
        · have hf := ite_p hf c11
          refine lv_aload_n hx hb dX8_told_41 rfl (lv_at hl 0 rfl) ?_
          refine va_get (D := D) (ci := 7) (v := .int o_coughs) (C := RX8) (T := TX8) (N := 35) hx hb hts hinX8 hown hK.1 hP 0 rfl rfl 16 (by decide) g151 (fun _ h9 => h9) rfl dX8_told_42 ?_
          refine lv_goto (tgt := 49) hx hb dX8_told_45 (by decide) ?_
          obtain ⟨e0_, e1_⟩ := tup2 hf
          have hP : va_P D vwCl [(q_o, .inr (7, [.int o_thrown', .long o_trace, .ref q_o_text, .int o_typed, .int o_next, .int o_token, .int o_place, .int o_value, .int o_fault, .ref q_o_warmth, .ref q_o_side, .ref q_o_seconds, .int o_members, .int o_pairs, .int o_cold, .int o_fur, .int o_coughs, .int o_draftMembers, .int o_draftPairs, .int o_draftCold, .int o_draftFur, .int o_draftCoughs, .ref q_o_s, .ref q_o_kept, .ref q_o_isKept, .ref q_o_undos, .int o_undoMany, .ref q_o_seenAt, .ref q_o_seen, .int o_seenMany, .ref q_o_board, .ref q_o_pick, .ref q_o_worth, .ref q_o_best, .int o_chosen])), (q_o_s, .inl (cI, 10, .inl o_s))] H := by rw [← e1_]; exact hP
          have hD : va_D A [(q_o, .inr (7, [.int o_thrown', .long o_trace, .ref q_o_text, .int o_typed, .int o_next, .int o_token, .int o_place, .int o_value, .int o_fault, .ref q_o_warmth, .ref q_o_side, .ref q_o_seconds, .int o_members, .int o_pairs, .int o_cold, .int o_fur, .int o_coughs, .int o_draftMembers, .int o_draftPairs, .int o_draftCold, .int o_draftFur, .int o_draftCoughs, .ref q_o_s, .ref q_o_kept, .ref q_o_isKept, .ref q_o_undos, .int o_undoMany, .ref q_o_seenAt, .ref q_o_seen, .int o_seenMany, .ref q_o_board, .ref q_o_pick, .ref q_o_worth, .ref q_o_best, .int o_chosen])), (q_o_s, .inl (cI, 10, .inl o_s))] := by rw [← e1_]; exact hD
          exact endMI hx hb hr hlocks rfl hP hD hS e0_ dX8_told_49
      · have hf := ite_p hf c10
        refine lv_aload_n hx hb dX8_told_26 rfl (lv_at hl 0 rfl) ?_
        refine va_get (D := D) (ci := 7) (v := .ref q_o_s) (C := RX8) (T := TX8) (N := 35) hx hb hts hinX8 hown hK.1 hP 0 rfl rfl 22 (by decide) g22 (fun _ h9 => h9) rfl dX8_told_27 ?_
        refine lv_bipush (v := 7) hx hb dX8_told_30 (by decide) ?_
        obtain ⟨g12, hf⟩ := ing_some hf
        refine va_iald hx hb hK.1 hP 1 1 rfl rfl g12 dX8_told_32 ?_
        refine lv_goto (tgt := 49) hx hb dX8_told_33 (by decide) ?_
        obtain ⟨e0_, e1_⟩ := tup2 hf
        have hP : va_P D vwCl [(q_o, .inr (7, [.int o_thrown', .long o_trace, .ref q_o_text, .int o_typed, .int o_next, .int o_token, .int o_place, .int o_value, .int o_fault, .ref q_o_warmth, .ref q_o_side, .ref q_o_seconds, .int o_members, .int o_pairs, .int o_cold, .int o_fur, .int o_coughs, .int o_draftMembers, .int o_draftPairs, .int o_draftCold, .int o_draftFur, .int o_draftCoughs, .ref q_o_s, .ref q_o_kept, .ref q_o_isKept, .ref q_o_undos, .int o_undoMany, .ref q_o_seenAt, .ref q_o_seen, .int o_seenMany, .ref q_o_board, .ref q_o_pick, .ref q_o_worth, .ref q_o_best, .int o_chosen])), (q_o_s, .inl (cI, 10, .inl o_s))] H := by rw [← e1_]; exact hP
        have hD : va_D A [(q_o, .inr (7, [.int o_thrown', .long o_trace, .ref q_o_text, .int o_typed, .int o_next, .int o_token, .int o_place, .int o_value, .int o_fault, .ref q_o_warmth, .ref q_o_side, .ref q_o_seconds, .int o_members, .int o_pairs, .int o_cold, .int o_fur, .int o_coughs, .int o_draftMembers, .int o_draftPairs, .int o_draftCold, .int o_draftFur, .int o_draftCoughs, .ref q_o_s, .ref q_o_kept, .ref q_o_isKept, .ref q_o_undos, .int o_undoMany, .ref q_o_seenAt, .ref q_o_seen, .int o_seenMany, .ref q_o_board, .ref q_o_pick, .ref q_o_worth, .ref q_o_best, .int o_chosen])), (q_o_s, .inl (cI, 10, .inl o_s))] := by rw [← e1_]; exact hD
        exact endMI hx hb hr hlocks rfl hP hD hS e0_ dX8_told_49
    · have hf := ite_p hf c9
      refine lv_aload_n hx hb dX8_told_14 rfl (lv_at hl 0 rfl) ?_
      refine va_get (D := D) (ci := 7) (v := .int o_cold) (C := RX8) (T := TX8) (N := 35) hx hb hts hinX8 hown hK.1 hP 0 rfl rfl 14 (by decide) g53 (fun _ h9 => h9) rfl dX8_told_15 ?_
      refine lv_goto (tgt := 49) hx hb dX8_told_18 (by decide) ?_
      obtain ⟨e0_, e1_⟩ := tup2 hf
      have hP : va_P D vwCl [(q_o, .inr (7, [.int o_thrown', .long o_trace, .ref q_o_text, .int o_typed, .int o_next, .int o_token, .int o_place, .int o_value, .int o_fault, .ref q_o_warmth, .ref q_o_side, .ref q_o_seconds, .int o_members, .int o_pairs, .int o_cold, .int o_fur, .int o_coughs, .int o_draftMembers, .int o_draftPairs, .int o_draftCold, .int o_draftFur, .int o_draftCoughs, .ref q_o_s, .ref q_o_kept, .ref q_o_isKept, .ref q_o_undos, .int o_undoMany, .ref q_o_seenAt, .ref q_o_seen, .int o_seenMany, .ref q_o_board, .ref q_o_pick, .ref q_o_worth, .ref q_o_best, .int o_chosen])), (q_o_s, .inl (cI, 10, .inl o_s))] H := by rw [← e1_]; exact hP
      have hD : va_D A [(q_o, .inr (7, [.int o_thrown', .long o_trace, .ref q_o_text, .int o_typed, .int o_next, .int o_token, .int o_place, .int o_value, .int o_fault, .ref q_o_warmth, .ref q_o_side, .ref q_o_seconds, .int o_members, .int o_pairs, .int o_cold, .int o_fur, .int o_coughs, .int o_draftMembers, .int o_draftPairs, .int o_draftCold, .int o_draftFur, .int o_draftCoughs, .ref q_o_s, .ref q_o_kept, .ref q_o_isKept, .ref q_o_undos, .int o_undoMany, .ref q_o_seenAt, .ref q_o_seen, .int o_seenMany, .ref q_o_board, .ref q_o_pick, .ref q_o_worth, .ref q_o_best, .int o_chosen])), (q_o_s, .inl (cI, 10, .inl o_s))] := by rw [← e1_]; exact hD
      exact endMI hx hb hr hlocks rfl hP hD hS e0_ dX8_told_49
def f_X8_warmed_72 (o_cold : Int32) (o_seconds : Nat → Int32) (k0 : Int32) : Option (Int32) :=
  if (0 : Int32) ≤ k0 then (
    some (k0)
  ) else (
    some (0)
  )
def f_X8_warmed_55 (o_cold : Int32) (o_seconds : Nat → Int32) (x2 : Int32) (k0 : Int32) : Option (Int32) :=
  if k0 = 0 then (
    f_X8_warmed_72 o_cold o_seconds (x2 - o_cold)
  ) else (
    f_X8_warmed_72 o_cold o_seconds x2
  )
def f_X8_warmed_54 (o_cold : Int32) (o_seconds : Nat → Int32) (x2 : Int32) : Option (Int32) :=
  f_X8_warmed_55 o_cold o_seconds x2 0
def f_X8_warmed (o_cold : Int32) (o_seconds : Nat → Int32) (p1 : Int32) (p2 : Int32) (p3 : Int32) (p4 : Int32) : Option (Int32) :=
  if p2 = 0 then (
    some (0)
  ) else (
    if p1 = p3 then (
      if (p2 + p4) ≤ 20 then (
        some (p2 + p4)
      ) else (
        some (20)
      )
    ) else (
      if p3 = ((-9)) then (
        f_X8_warmed_54 o_cold o_seconds p2
      ) else (
        ing p3 12 <|
        if (((o_seconds p3.toNatClampNeg) >>> (p1 &&& 31)) &&& 1) = 1 then (
          f_X8_warmed_55 o_cold o_seconds p2 1
        ) else (
          f_X8_warmed_54 o_cold o_seconds p2
        )
      )
    )
  )
set_option maxHeartbeats 4000000 in
set_option maxRecDepth 100000 in
theorem c_X8_warmed (l : Launch) (D : va_G) (cB cI cZ cM cN : ClassId) (q_o : Nat) (q_o_text : Nat) (q_o_warmth : Nat) (q_o_side : Nat) (q_o_seconds : Nat) (q_o_s : Nat) (q_o_kept : Nat) (q_o_isKept : Nat) (q_o_undos : Nat) (q_o_seenAt : Nat) (q_o_seen : Nat) (q_o_board : Nat) (q_o_pick : Nat) (q_o_worth : Nat) (q_o_best : Nat) (o_thrown : Int32) (o_trace : Int64) (o_typed : Int32) (o_next : Int32) (o_token : Int32) (o_place : Int32) (o_value : Int32) (o_fault : Int32) (o_members : Int32) (o_pairs : Int32) (o_cold : Int32) (o_fur : Int32) (o_coughs : Int32) (o_draftMembers : Int32) (o_draftPairs : Int32) (o_draftCold : Int32) (o_draftFur : Int32) (o_draftCoughs : Int32) (o_undoMany : Int32) (o_seenMany : Int32) (o_chosen : Int32) (o_seconds : Nat → Int32) (p1 : Int32) (p2 : Int32) (p3 : Int32) (p4 : Int32) (r : Int32) (hf : f_X8_warmed o_cold o_seconds p1 p2 p3 p4 = some r) : Met l yX8_warmed wsX8_warmed ({ frames := 0, cells := 0, slots := 0, locals := 0 } : Room) (PR D cB cI cZ cM cN [.ref q_o, .int p1, .int p2, .int p3, .int p4] [(q_o, .inr (7, [.int o_thrown, .long o_trace, .ref q_o_text, .int o_typed, .int o_next, .int o_token, .int o_place, .int o_value, .int o_fault, .ref q_o_warmth, .ref q_o_side, .ref q_o_seconds, .int o_members, .int o_pairs, .int o_cold, .int o_fur, .int o_coughs, .int o_draftMembers, .int o_draftPairs, .int o_draftCold, .int o_draftFur, .int o_draftCoughs, .ref q_o_s, .ref q_o_kept, .ref q_o_isKept, .ref q_o_undos, .int o_undoMany, .ref q_o_seenAt, .ref q_o_seen, .int o_seenMany, .ref q_o_board, .ref q_o_pick, .ref q_o_worth, .ref q_o_best, .int o_chosen])), (q_o_seconds, .inl (cI, 12, .inl o_seconds))]) (RI r) 0 0 (fun _ => False) := by
  refine entR (by decide +kernel) rfl (Nat.le_of_ble_eq_true rfl) ?_
  intro p e s m below meth c hx hb hr hml hown hlocks hts hP hK ls hl
  have hown : s.vm.findClass RX8 = some m.cls := hown
  have hl : lv_has ls 7 [(0, .ref q_o), (1, .int p1), (2, .int p2), (3, .int p3), (4, .int p4)] := hl
  have hfix : CallFix p m c cX8_warmed 7 s ([.ref q_o, .int p1, .int p2, .int p3, .int p4] : List Value).toArray wsX8_warmed RX8 := ⟨hx, hb, hml, hown, hts⟩
  have hinX8 : ∀ w ∈ u_ws RX8 TX8 35, w ∈ wsX8_warmed := by decide +kernel
  have g53 := hts (.fieldLink RX8 53 "LastCoatModel" "cold" "I") (by decide +kernel)
  have g19 := hts (.fieldLink RX8 19 "LastCoatModel" "seconds" "[I") (by decide +kernel)
  have L72 : ∀ (k0 : Int32) (ls : Array Slot), f_X8_warmed_72 o_cold o_seconds k0 = some r → lv_has ls 7 [] → W p l e ({ frames := 0, cells := 0, slots := 0, locals := 0 } : Room) s m ([.ref q_o, .int p1, .int p2, .int p3, .int p4] : List Value).toArray below meth c s.heap [] 0 0 (MQ below (RI r) ([.ref q_o, .int p1, .int p2, .int p3, .int p4] : List Value).toArray s 0 0 (fun _ => False)) (F0 m 72 ls [.int k0]) := by
    intro k0 ls hf hl
    unfold f_X8_warmed_72 at hf
    refine lv_istore (lv' := [(6, .int k0)]) hx hb dX8_warmed_72 hl (by decide) rfl (fun ls hl => ?_)
    refine lv_iload hx hb dX8_warmed_74 (lv_at hl 0 rfl) ?_
    refine lv_if_ge (tgt := 83) hx hb dX8_warmed_76 (by decide) (fun c1 => ?_) (fun c1 => ?_)
    · have hf := ite_p hf c1
      refine lv_iload hx hb dX8_warmed_83 (lv_at hl 0 rfl) ?_
      have e0_ := Option.some.inj hf
      exact endRI hx hb hr hlocks rfl e0_ dX8_warmed_85
    · have hf := ite_n hf c1
      refine lv_iconst (v := 0) hx hb dX8_warmed_79 (by decide) ?_
      refine lv_goto (tgt := 85) hx hb dX8_warmed_80 (by decide) ?_
      have e0_ := Option.some.inj hf
      exact endRI hx hb hr hlocks rfl e0_ dX8_warmed_85
  have L55 : ∀ (x2 : Int32) (k0 : Int32) (ls : Array Slot), f_X8_warmed_55 o_cold o_seconds x2 k0 = some r → lv_has ls 7 [(0, .ref q_o), (2, .int x2)] → W p l e ({ frames := 0, cells := 0, slots := 0, locals := 0 } : Room) s m ([.ref q_o, .int p1, .int p2, .int p3, .int p4] : List Value).toArray below meth c s.heap [] 0 0 (MQ below (RI r) ([.ref q_o, .int p1, .int p2, .int p3, .int p4] : List Value).toArray s 0 0 (fun _ => False)) (F0 m 55 ls [.int k0]) := by
    intro x2 k0 ls hf hl
    unfold f_X8_warmed_55 at hf
    refine lv_istore (lv' := [(5, .int k0), (0, .ref q_o), (2, .int x2)]) hx hb dX8_warmed_55 hl (by decide) rfl (fun ls hl => ?_)
    refine lv_iload hx hb dX8_warmed_57 (lv_at hl 0 rfl) ?_
    refine lv_if_eq (tgt := 66) hx hb dX8_warmed_59 (by decide) (fun c2 => ?_) (fun c2 => ?_)
    · have hf := ite_p hf c2
      refine lv_iload_n hx hb dX8_warmed_66 rfl (lv_at hl 2 rfl) ?_
      refine lv_aload_n hx hb dX8_warmed_67 rfl (lv_at hl 1 rfl) ?_
      refine va_get (D := D) (ci := 7) (v := .int o_cold) (C := RX8) (T := TX8) (N := 35) hx hb hts hinX8 hown hK.1 hP 0 rfl rfl 14 (by decide) g53 (fun _ h9 => h9) rfl dX8_warmed_68 ?_
      refine lv_isub hx hb dX8_warmed_71 ?_
      exact L72 (x2 - o_cold) ls hf (lv_sub hl [] rfl)
    · have hf := ite_n hf c2
      refine lv_iload_n hx hb dX8_warmed_62 rfl (lv_at hl 2 rfl) ?_
      refine lv_goto (tgt := 72) hx hb dX8_warmed_63 (by decide) ?_
      exact L72 x2 ls hf (lv_sub hl [] rfl)
  have L54 : ∀ (x2 : Int32) (ls : Array Slot), f_X8_warmed_54 o_cold o_seconds x2 = some r → lv_has ls 7 [(0, .ref q_o), (2, .int x2)] → W p l e ({ frames := 0, cells := 0, slots := 0, locals := 0 } : Room) s m ([.ref q_o, .int p1, .int p2, .int p3, .int p4] : List Value).toArray below meth c s.heap [] 0 0 (MQ below (RI r) ([.ref q_o, .int p1, .int p2, .int p3, .int p4] : List Value).toArray s 0 0 (fun _ => False)) (F0 m 54 ls []) := by
    intro x2 ls hf hl
    unfold f_X8_warmed_54 at hf
    refine lv_iconst (v := 0) hx hb dX8_warmed_54 (by decide) ?_
    exact L55 x2 0 ls hf (lv_sub hl [0, 1] rfl)
  unfold f_X8_warmed at hf
  refine lv_iload_n hx hb dX8_warmed_0 rfl (lv_at hl 2 rfl) ?_
  refine lv_if_ne (tgt := 6) hx hb dX8_warmed_1 (by decide) (fun c3 => ?_) (fun c3 => ?_)
  · have hf := ite_n hf c3
    refine lv_iload_n hx hb dX8_warmed_6 rfl (lv_at hl 1 rfl) ?_
    refine lv_iload_n hx hb dX8_warmed_7 rfl (lv_at hl 3 rfl) ?_
    refine lv_icmp_ne (tgt := 30) hx hb dX8_warmed_8 (by decide) (fun c4 => ?_) (fun c4 => ?_)
    · have hf := ite_n hf c4
      refine lv_iload_n hx hb dX8_warmed_30 rfl (lv_at hl 3 rfl) ?_
      refine lv_bipush (v := (-9)) hx hb dX8_warmed_31 (by decide) ?_
      refine lv_icmp_eq (tgt := 54) hx hb dX8_warmed_33 (by decide) (fun c5 => ?_) (fun c5 => ?_)
      · have hf := ite_p hf c5
        exact L54 p2 ls hf (lv_sub hl [0, 2] rfl)
      · have hf := ite_n hf c5
        refine lv_aload_n hx hb dX8_warmed_36 rfl (lv_at hl 0 rfl) ?_
        refine va_get (D := D) (ci := 7) (v := .ref q_o_seconds) (C := RX8) (T := TX8) (N := 35) hx hb hts hinX8 hown hK.1 hP 0 rfl rfl 11 (by decide) g19 (fun _ h9 => h9) rfl dX8_warmed_37 ?_
        refine lv_iload_n hx hb dX8_warmed_40 rfl (lv_at hl 3 rfl) ?_
        obtain ⟨g6, hf⟩ := ing_some hf
        refine va_iald hx hb hK.1 hP 1 1 rfl rfl g6 dX8_warmed_41 ?_
        refine lv_iload_n hx hb dX8_warmed_42 rfl (lv_at hl 1 rfl) ?_
        refine lv_ishr hx hb dX8_warmed_43 ?_
        refine lv_iconst (v := 1) hx hb dX8_warmed_44 (by decide) ?_
        refine lv_iand hx hb dX8_warmed_45 ?_
        refine lv_iconst (v := 1) hx hb dX8_warmed_46 (by decide) ?_
        refine lv_icmp_ne (tgt := 54) hx hb dX8_warmed_47 (by decide) (fun c7 => ?_) (fun c7 => ?_)
        · have hf := ite_n hf c7
          exact L54 p2 ls hf (lv_sub hl [0, 2] rfl)
        · have hf := ite_p hf c7
          refine lv_iconst (v := 1) hx hb dX8_warmed_50 (by decide) ?_
          refine lv_goto (tgt := 55) hx hb dX8_warmed_51 (by decide) ?_
          exact L55 p2 1 ls hf (lv_sub hl [0, 2] rfl)
    · have hf := ite_p hf c4
      refine lv_iload_n hx hb dX8_warmed_11 rfl (lv_at hl 2 rfl) ?_
      refine lv_iload hx hb dX8_warmed_12 (lv_at hl 4 rfl) ?_
      refine lv_iadd hx hb dX8_warmed_14 ?_
      refine lv_bipush (v := 20) hx hb dX8_warmed_15 (by decide) ?_
      refine lv_icmp_le (tgt := 25) hx hb dX8_warmed_17 (by decide) (fun c8 => ?_) (fun c8 => ?_)
      · have hf := ite_p hf c8
        refine lv_iload_n hx hb dX8_warmed_25 rfl (lv_at hl 2 rfl) ?_
        refine lv_iload hx hb dX8_warmed_26 (lv_at hl 4 rfl) ?_
        refine lv_iadd hx hb dX8_warmed_28 ?_
        have e0_ := Option.some.inj hf
        exact endRI hx hb hr hlocks rfl e0_ dX8_warmed_29
      · have hf := ite_n hf c8
        refine lv_bipush (v := 20) hx hb dX8_warmed_20 (by decide) ?_
        refine lv_goto (tgt := 29) hx hb dX8_warmed_22 (by decide) ?_
        have e0_ := Option.some.inj hf
        exact endRI hx hb hr hlocks rfl e0_ dX8_warmed_29
  · have hf := ite_p hf c3
    refine lv_iconst (v := 0) hx hb dX8_warmed_4 (by decide) ?_
    have e0_ := Option.some.inj hf
    exact endRI hx hb hr hlocks rfl e0_ dX8_warmed_5
def f_X8_passes_2_b (o_members : Int32) (o_cold : Int32) (o_seconds : Nat → Int32) (K2 : Int32 → (Nat → Int32) → (Option ((Nat → Int32)))) (x1 : Int32) (o_s : Nat → Int32) : Option ((Nat → Int32)) :=
  if o_members ≤ x1 then (
    ing 8 10 <|
    ing 8 10 <|
    bnd (upd o_s (8 : Int32).toNatClampNeg ((o_s (8 : Int32).toNatClampNeg) + 1)) fun w4 =>
    some (w4)
  ) else (
    ing x1 10 <|
    ing 6 10 <|
    ing 7 10 <|
    ob1 (f_X8_warmed o_cold o_seconds x1 (o_s x1.toNatClampNeg) (o_s (6 : Int32).toNatClampNeg) (o_s (7 : Int32).toNatClampNeg)) fun r8 =>
    ing x1 10 <|
    bnd (upd o_s x1.toNatClampNeg r8) fun w11 =>
    bnd (x1 + 1) fun y12 =>
    K2 y12 w11
  )
def f_X8_passes_2 (o_members : Int32) (o_cold : Int32) (o_seconds : Nat → Int32) : Nat → Int32 → (Nat → Int32) → (Option ((Nat → Int32)))
  | 0 => fun _ _ => none
  | n + 1 => f_X8_passes_2_b o_members o_cold o_seconds (f_X8_passes_2 o_members o_cold o_seconds n)
def f_X8_passes (o_members : Int32) (o_cold : Int32) (o_seconds : Nat → Int32) (o_s : Nat → Int32) : Option ((Nat → Int32)) :=
  f_X8_passes_2 o_members o_cold o_seconds FU 0 o_s
set_option maxHeartbeats 4000000 in
set_option maxRecDepth 100000 in
theorem c_X8_passes (l : Launch) (D : va_G) (cB cI cZ cM cN : ClassId) (q_o : Nat) (q_o_text : Nat) (q_o_warmth : Nat) (q_o_side : Nat) (q_o_seconds : Nat) (q_o_s : Nat) (q_o_kept : Nat) (q_o_isKept : Nat) (q_o_undos : Nat) (q_o_seenAt : Nat) (q_o_seen : Nat) (q_o_board : Nat) (q_o_pick : Nat) (q_o_worth : Nat) (q_o_best : Nat) (o_thrown : Int32) (o_trace : Int64) (o_typed : Int32) (o_next : Int32) (o_token : Int32) (o_place : Int32) (o_value : Int32) (o_fault : Int32) (o_members : Int32) (o_pairs : Int32) (o_cold : Int32) (o_fur : Int32) (o_coughs : Int32) (o_draftMembers : Int32) (o_draftPairs : Int32) (o_draftCold : Int32) (o_draftFur : Int32) (o_draftCoughs : Int32) (o_undoMany : Int32) (o_seenMany : Int32) (o_chosen : Int32) (o_seconds : Nat → Int32) (o_s : Nat → Int32) (o_s' : Nat → Int32) (sz : Nat) (hf : f_X8_passes o_members o_cold o_seconds o_s = some o_s') : Met l yX8_passes wsX8_passes ({ frames := 1, cells := 0, slots := 0, locals := 26 } : Room) (PM D cB cI cZ cM cN [.ref q_o] [(q_o, .inr (7, [.int o_thrown, .long o_trace, .ref q_o_text, .int o_typed, .int o_next, .int o_token, .int o_place, .int o_value, .int o_fault, .ref q_o_warmth, .ref q_o_side, .ref q_o_seconds, .int o_members, .int o_pairs, .int o_cold, .int o_fur, .int o_coughs, .int o_draftMembers, .int o_draftPairs, .int o_draftCold, .int o_draftFur, .int o_draftCoughs, .ref q_o_s, .ref q_o_kept, .ref q_o_isKept, .ref q_o_undos, .int o_undoMany, .ref q_o_seenAt, .ref q_o_seen, .int o_seenMany, .ref q_o_board, .ref q_o_pick, .ref q_o_worth, .ref q_o_best, .int o_chosen])), (q_o_seconds, .inl (cI, 12, .inl o_seconds)), (q_o_s, .inl (cI, 10, .inl o_s))] sz) (QV D [(q_o, .inr (7, [.int o_thrown, .long o_trace, .ref q_o_text, .int o_typed, .int o_next, .int o_token, .int o_place, .int o_value, .int o_fault, .ref q_o_warmth, .ref q_o_side, .ref q_o_seconds, .int o_members, .int o_pairs, .int o_cold, .int o_fur, .int o_coughs, .int o_draftMembers, .int o_draftPairs, .int o_draftCold, .int o_draftFur, .int o_draftCoughs, .ref q_o_s, .ref q_o_kept, .ref q_o_isKept, .ref q_o_undos, .int o_undoMany, .ref q_o_seenAt, .ref q_o_seen, .int o_seenMany, .ref q_o_board, .ref q_o_pick, .ref q_o_worth, .ref q_o_best, .int o_chosen])), (q_o_seconds, .inl (cI, 12, .inl o_seconds)), (q_o_s, .inl (cI, 10, .inl o_s'))] (va_A [(q_o, .inr (7, [.int o_thrown, .long o_trace, .ref q_o_text, .int o_typed, .int o_next, .int o_token, .int o_place, .int o_value, .int o_fault, .ref q_o_warmth, .ref q_o_side, .ref q_o_seconds, .int o_members, .int o_pairs, .int o_cold, .int o_fur, .int o_coughs, .int o_draftMembers, .int o_draftPairs, .int o_draftCold, .int o_draftFur, .int o_draftCoughs, .ref q_o_s, .ref q_o_kept, .ref q_o_isKept, .ref q_o_undos, .int o_undoMany, .ref q_o_seenAt, .ref q_o_seen, .int o_seenMany, .ref q_o_board, .ref q_o_pick, .ref q_o_worth, .ref q_o_best, .int o_chosen])), (q_o_seconds, .inl (cI, 12, .inl o_seconds)), (q_o_s, .inl (cI, 10, .inl o_s))] sz)) 0 0 (va_A [(q_o, .inr (7, [.int o_thrown, .long o_trace, .ref q_o_text, .int o_typed, .int o_next, .int o_token, .int o_place, .int o_value, .int o_fault, .ref q_o_warmth, .ref q_o_side, .ref q_o_seconds, .int o_members, .int o_pairs, .int o_cold, .int o_fur, .int o_coughs, .int o_draftMembers, .int o_draftPairs, .int o_draftCold, .int o_draftFur, .int o_draftCoughs, .ref q_o_s, .ref q_o_kept, .ref q_o_isKept, .ref q_o_undos, .int o_undoMany, .ref q_o_seenAt, .ref q_o_seen, .int o_seenMany, .ref q_o_board, .ref q_o_pick, .ref q_o_worth, .ref q_o_best, .int o_chosen])), (q_o_seconds, .inl (cI, 12, .inl o_seconds)), (q_o_s, .inl (cI, 10, .inl o_s))] sz) := by
  refine entM (l := l) (y := yX8_passes) (ws := wsX8_passes) (cc := cX8_passes) (av := [.ref q_o]) (wc := [(q_o, .inr (7, [.int o_thrown, .long o_trace, .ref q_o_text, .int o_typed, .int o_next, .int o_token, .int o_place, .int o_value, .int o_fault, .ref q_o_warmth, .ref q_o_side, .ref q_o_seconds, .int o_members, .int o_pairs, .int o_cold, .int o_fur, .int o_coughs, .int o_draftMembers, .int o_draftPairs, .int o_draftCold, .int o_draftFur, .int o_draftCoughs, .ref q_o_s, .ref q_o_kept, .ref q_o_isKept, .ref q_o_undos, .int o_undoMany, .ref q_o_seenAt, .ref q_o_seen, .int o_seenMany, .ref q_o_board, .ref q_o_pick, .ref q_o_worth, .ref q_o_best, .int o_chosen])), (q_o_seconds, .inl (cI, 12, .inl o_seconds)), (q_o_s, .inl (cI, 10, .inl o_s))]) (sz := sz) (Qc := fun A => QV D [(q_o, .inr (7, [.int o_thrown, .long o_trace, .ref q_o_text, .int o_typed, .int o_next, .int o_token, .int o_place, .int o_value, .int o_fault, .ref q_o_warmth, .ref q_o_side, .ref q_o_seconds, .int o_members, .int o_pairs, .int o_cold, .int o_fur, .int o_coughs, .int o_draftMembers, .int o_draftPairs, .int o_draftCold, .int o_draftFur, .int o_draftCoughs, .ref q_o_s, .ref q_o_kept, .ref q_o_isKept, .ref q_o_undos, .int o_undoMany, .ref q_o_seenAt, .ref q_o_seen, .int o_seenMany, .ref q_o_board, .ref q_o_pick, .ref q_o_worth, .ref q_o_best, .int o_chosen])), (q_o_seconds, .inl (cI, 12, .inl o_seconds)), (q_o_s, .inl (cI, 10, .inl o_s'))] A) (by decide +kernel) rfl (Nat.le_of_ble_eq_true rfl) ?_
  intro A p e s m below meth c hx hb hr hml hown hlocks hts hK hA H locs hP hD hS ls hl
  have hown : s.vm.findClass RX8 = some m.cls := hown
  have hl : lv_has ls 2 [(0, .ref q_o)] := hl
  have hfix : CallFix p m c cX8_passes 2 s ([.ref q_o] : List Value).toArray wsX8_passes RX8 := ⟨hx, hb, hml, hown, hts⟩
  have hinX8 : ∀ w ∈ u_ws RX8 TX8 35, w ∈ wsX8_passes := by decide +kernel
  have g145 := hts (.fieldLink RX8 145 "LastCoatModel" "members" "I") (by decide +kernel)
  have g22 := hts (.fieldLink RX8 22 "LastCoatModel" "s" "[I") (by decide +kernel)
  have L2 : ∀ (n2 : Nat) (x1 : Int32) (o_s : Nat → Int32) (H : Heap) (locs : List Loc) (ls : Array Slot), f_X8_passes_2 o_members o_cold o_seconds n2 x1 o_s = some o_s' → va_P D vwCl [(q_o, .inr (7, [.int o_thrown, .long o_trace, .ref q_o_text, .int o_typed, .int o_next, .int o_token, .int o_place, .int o_value, .int o_fault, .ref q_o_warmth, .ref q_o_side, .ref q_o_seconds, .int o_members, .int o_pairs, .int o_cold, .int o_fur, .int o_coughs, .int o_draftMembers, .int o_draftPairs, .int o_draftCold, .int o_draftFur, .int o_draftCoughs, .ref q_o_s, .ref q_o_kept, .ref q_o_isKept, .ref q_o_undos, .int o_undoMany, .ref q_o_seenAt, .ref q_o_seen, .int o_seenMany, .ref q_o_board, .ref q_o_pick, .ref q_o_worth, .ref q_o_best, .int o_chosen])), (q_o_seconds, .inl (cI, 12, .inl o_seconds)), (q_o_s, .inl (cI, 10, .inl o_s))] H → va_D A [(q_o, .inr (7, [.int o_thrown, .long o_trace, .ref q_o_text, .int o_typed, .int o_next, .int o_token, .int o_place, .int o_value, .int o_fault, .ref q_o_warmth, .ref q_o_side, .ref q_o_seconds, .int o_members, .int o_pairs, .int o_cold, .int o_fur, .int o_coughs, .int o_draftMembers, .int o_draftPairs, .int o_draftCold, .int o_draftFur, .int o_draftCoughs, .ref q_o_s, .ref q_o_kept, .ref q_o_isKept, .ref q_o_undos, .int o_undoMany, .ref q_o_seenAt, .ref q_o_seen, .int o_seenMany, .ref q_o_board, .ref q_o_pick, .ref q_o_worth, .ref q_o_best, .int o_chosen])), (q_o_seconds, .inl (cI, 12, .inl o_seconds)), (q_o_s, .inl (cI, 10, .inl o_s))] → va_S A s.heap H locs → lv_has ls 2 [(0, .ref q_o), (1, .int x1)] → W p l e ({ frames := 1, cells := 0, slots := 0, locals := 26 } : Room) s m ([.ref q_o] : List Value).toArray below meth c H locs 0 0 (MQ below (QV D [(q_o, .inr (7, [.int o_thrown, .long o_trace, .ref q_o_text, .int o_typed, .int o_next, .int o_token, .int o_place, .int o_value, .int o_fault, .ref q_o_warmth, .ref q_o_side, .ref q_o_seconds, .int o_members, .int o_pairs, .int o_cold, .int o_fur, .int o_coughs, .int o_draftMembers, .int o_draftPairs, .int o_draftCold, .int o_draftFur, .int o_draftCoughs, .ref q_o_s, .ref q_o_kept, .ref q_o_isKept, .ref q_o_undos, .int o_undoMany, .ref q_o_seenAt, .ref q_o_seen, .int o_seenMany, .ref q_o_board, .ref q_o_pick, .ref q_o_worth, .ref q_o_best, .int o_chosen])), (q_o_seconds, .inl (cI, 12, .inl o_seconds)), (q_o_s, .inl (cI, 10, .inl o_s'))] A) ([.ref q_o] : List Value).toArray s 0 0 A) (F0 m 2 ls []) := by
    intro n2
    induction n2 with
    | zero =>
      intro x1 o_s H locs ls hf hP hD hS hl
      exact noneNe hf
    | succ n2 ih2 =>
      intro x1 o_s H locs ls hf hP hD hS hl
      have hf : f_X8_passes_2_b o_members o_cold o_seconds (f_X8_passes_2 o_members o_cold o_seconds n2) x1 o_s = some o_s' := hf
      unfold f_X8_passes_2_b at hf
      refine lv_iload_n hx hb dX8_passes_2 rfl (lv_at hl 1 rfl) ?_
      refine lv_aload_n hx hb dX8_passes_3 rfl (lv_at hl 0 rfl) ?_
      refine va_get (D := D) (ci := 7) (v := .int o_members) (C := RX8) (T := TX8) (N := 35) hx hb hts hinX8 hown hK.1 hP 0 rfl rfl 12 (by decide) g145 (fun _ h9 => h9) rfl dX8_passes_4 ?_
      refine lv_icmp_ge (tgt := 47) hx hb dX8_passes_7 (by decide) (fun c1 => ?_) (fun c1 => ?_)
      · have hf := ite_p hf c1
        refine lv_aload_n hx hb dX8_passes_47 rfl (lv_at hl 0 rfl) ?_
        refine va_get (D := D) (ci := 7) (v := .ref q_o_s) (C := RX8) (T := TX8) (N := 35) hx hb hts hinX8 hown hK.1 hP 0 rfl rfl 22 (by decide) g22 (fun _ h9 => h9) rfl dX8_passes_48 ?_
        refine lv_bipush (v := 8) hx hb dX8_passes_51 (by decide) ?_
        refine lv_dup2_11 hx hb dX8_passes_53 rfl rfl ?_
        obtain ⟨g2, hf⟩ := ing_some hf
        refine va_iald hx hb hK.1 hP 2 1 rfl rfl g2 dX8_passes_54 ?_
        refine lv_iconst (v := 1) hx hb dX8_passes_55 (by decide) ?_
        refine lv_iadd hx hb dX8_passes_56 ?_
        obtain ⟨g3, hf⟩ := ing_some hf
        refine va_iast hx hb hK.1 hP hD hS 2 1 rfl rfl g3 dX8_passes_57 (fun H locs hP hD hS => ?_)
        obtain ⟨w4, ew4⟩ : ∃ z : Nat → Int32, z = upd o_s (8 : Int32).toNatClampNeg ((o_s (8 : Int32).toNatClampNeg) + 1) := ⟨_, rfl⟩
        have hf := bnd_at hf ew4
        have hP : va_P D vwCl [(q_o, .inr (7, [.int o_thrown, .long o_trace, .ref q_o_text, .int o_typed, .int o_next, .int o_token, .int o_place, .int o_value, .int o_fault, .ref q_o_warmth, .ref q_o_side, .ref q_o_seconds, .int o_members, .int o_pairs, .int o_cold, .int o_fur, .int o_coughs, .int o_draftMembers, .int o_draftPairs, .int o_draftCold, .int o_draftFur, .int o_draftCoughs, .ref q_o_s, .ref q_o_kept, .ref q_o_isKept, .ref q_o_undos, .int o_undoMany, .ref q_o_seenAt, .ref q_o_seen, .int o_seenMany, .ref q_o_board, .ref q_o_pick, .ref q_o_worth, .ref q_o_best, .int o_chosen])), (q_o_seconds, .inl (cI, 12, .inl o_seconds)), (q_o_s, .inl (cI, 10, .inl w4))] H := by rw [ew4]; exact hP
        have hD : va_D A [(q_o, .inr (7, [.int o_thrown, .long o_trace, .ref q_o_text, .int o_typed, .int o_next, .int o_token, .int o_place, .int o_value, .int o_fault, .ref q_o_warmth, .ref q_o_side, .ref q_o_seconds, .int o_members, .int o_pairs, .int o_cold, .int o_fur, .int o_coughs, .int o_draftMembers, .int o_draftPairs, .int o_draftCold, .int o_draftFur, .int o_draftCoughs, .ref q_o_s, .ref q_o_kept, .ref q_o_isKept, .ref q_o_undos, .int o_undoMany, .ref q_o_seenAt, .ref q_o_seen, .int o_seenMany, .ref q_o_board, .ref q_o_pick, .ref q_o_worth, .ref q_o_best, .int o_chosen])), (q_o_seconds, .inl (cI, 12, .inl o_seconds)), (q_o_s, .inl (cI, 10, .inl w4))] := by rw [ew4]; exact hD
        have e0_ := Option.some.inj hf
        have hP : va_P D vwCl [(q_o, .inr (7, [.int o_thrown, .long o_trace, .ref q_o_text, .int o_typed, .int o_next, .int o_token, .int o_place, .int o_value, .int o_fault, .ref q_o_warmth, .ref q_o_side, .ref q_o_seconds, .int o_members, .int o_pairs, .int o_cold, .int o_fur, .int o_coughs, .int o_draftMembers, .int o_draftPairs, .int o_draftCold, .int o_draftFur, .int o_draftCoughs, .ref q_o_s, .ref q_o_kept, .ref q_o_isKept, .ref q_o_undos, .int o_undoMany, .ref q_o_seenAt, .ref q_o_seen, .int o_seenMany, .ref q_o_board, .ref q_o_pick, .ref q_o_worth, .ref q_o_best, .int o_chosen])), (q_o_seconds, .inl (cI, 12, .inl o_seconds)), (q_o_s, .inl (cI, 10, .inl o_s'))] H := by rw [← e0_]; exact hP
        have hD : va_D A [(q_o, .inr (7, [.int o_thrown, .long o_trace, .ref q_o_text, .int o_typed, .int o_next, .int o_token, .int o_place, .int o_value, .int o_fault, .ref q_o_warmth, .ref q_o_side, .ref q_o_seconds, .int o_members, .int o_pairs, .int o_cold, .int o_fur, .int o_coughs, .int o_draftMembers, .int o_draftPairs, .int o_draftCold, .int o_draftFur, .int o_draftCoughs, .ref q_o_s, .ref q_o_kept, .ref q_o_isKept, .ref q_o_undos, .int o_undoMany, .ref q_o_seenAt, .ref q_o_seen, .int o_seenMany, .ref q_o_board, .ref q_o_pick, .ref q_o_worth, .ref q_o_best, .int o_chosen])), (q_o_seconds, .inl (cI, 12, .inl o_seconds)), (q_o_s, .inl (cI, 10, .inl o_s'))] := by rw [← e0_]; exact hD
        exact endMV hx hb hr hlocks hP hD hS dX8_passes_58
      · have hf := ite_n hf c1
        refine lv_aload_n hx hb dX8_passes_10 rfl (lv_at hl 0 rfl) ?_
        refine va_get (D := D) (ci := 7) (v := .ref q_o_s) (C := RX8) (T := TX8) (N := 35) hx hb hts hinX8 hown hK.1 hP 0 rfl rfl 22 (by decide) g22 (fun _ h9 => h9) rfl dX8_passes_11 ?_
        refine lv_iload_n hx hb dX8_passes_14 rfl (lv_at hl 1 rfl) ?_
        refine lv_aload_n hx hb dX8_passes_15 rfl (lv_at hl 0 rfl) ?_
        refine lv_iload_n hx hb dX8_passes_16 rfl (lv_at hl 1 rfl) ?_
        refine lv_aload_n hx hb dX8_passes_17 rfl (lv_at hl 0 rfl) ?_
        refine va_get (D := D) (ci := 7) (v := .ref q_o_s) (C := RX8) (T := TX8) (N := 35) hx hb hts hinX8 hown hK.1 hP 0 rfl rfl 22 (by decide) g22 (fun _ h9 => h9) rfl dX8_passes_18 ?_
        refine lv_iload_n hx hb dX8_passes_21 rfl (lv_at hl 1 rfl) ?_
        obtain ⟨g5, hf⟩ := ing_some hf
        refine va_iald hx hb hK.1 hP 2 1 rfl rfl g5 dX8_passes_22 ?_
        refine lv_aload_n hx hb dX8_passes_23 rfl (lv_at hl 0 rfl) ?_
        refine va_get (D := D) (ci := 7) (v := .ref q_o_s) (C := RX8) (T := TX8) (N := 35) hx hb hts hinX8 hown hK.1 hP 0 rfl rfl 22 (by decide) g22 (fun _ h9 => h9) rfl dX8_passes_24 ?_
        refine lv_bipush (v := 6) hx hb dX8_passes_27 (by decide) ?_
        obtain ⟨g6, hf⟩ := ing_some hf
        refine va_iald hx hb hK.1 hP 2 1 rfl rfl g6 dX8_passes_29 ?_
        refine lv_aload_n hx hb dX8_passes_30 rfl (lv_at hl 0 rfl) ?_
        refine va_get (D := D) (ci := 7) (v := .ref q_o_s) (C := RX8) (T := TX8) (N := 35) hx hb hts hinX8 hown hK.1 hP 0 rfl rfl 22 (by decide) g22 (fun _ h9 => h9) rfl dX8_passes_31 ?_
        refine lv_bipush (v := 7) hx hb dX8_passes_34 (by decide) ?_
        obtain ⟨g7, hf⟩ := ing_some hf
        refine va_iald hx hb hK.1 hP 2 1 rfl rfl g7 dX8_passes_36 ?_
        obtain ⟨r8, h9, hf⟩ := ob1_some hf
        refine roV (c_X8_warmed l D cB cI cZ cM cN q_o q_o_text q_o_warmth q_o_side q_o_seconds q_o_s q_o_kept q_o_isKept q_o_undos q_o_seenAt q_o_seen q_o_board q_o_pick q_o_worth q_o_best o_thrown o_trace o_typed o_next o_token o_place o_value o_fault o_members o_pairs o_cold o_fur o_coughs o_draftMembers o_draftPairs o_draftCold o_draftFur o_draftCoughs o_undoMany o_seenMany o_chosen o_seconds x1 (o_s x1.toNatClampNeg) (o_s (6 : Int32).toNatClampNeg) (o_s (7 : Int32).toNatClampNeg) r8 h9) hfix (cwV 4 hts gX8_passes_X8_warmed rfl rfl rfl (by decide +kernel) ⟨Nat.le_of_ble_eq_true rfl, Nat.le_of_ble_eq_true rfl⟩) (subC hP [0, 1] rfl) hK rfl rfl rfl rfl hl.1 rfl (Nat.le_of_ble_eq_true rfl) dX8_passes_37 ⟨Nat.zero_le _, Nat.zero_le _⟩ ?_
        obtain ⟨g10, hf⟩ := ing_some hf
        refine va_iast hx hb hK.1 hP hD hS 2 1 rfl rfl g10 dX8_passes_40 (fun H locs hP hD hS => ?_)
        obtain ⟨w11, ew11⟩ : ∃ z : Nat → Int32, z = upd o_s x1.toNatClampNeg r8 := ⟨_, rfl⟩
        have hf := bnd_at hf ew11
        have hP : va_P D vwCl [(q_o, .inr (7, [.int o_thrown, .long o_trace, .ref q_o_text, .int o_typed, .int o_next, .int o_token, .int o_place, .int o_value, .int o_fault, .ref q_o_warmth, .ref q_o_side, .ref q_o_seconds, .int o_members, .int o_pairs, .int o_cold, .int o_fur, .int o_coughs, .int o_draftMembers, .int o_draftPairs, .int o_draftCold, .int o_draftFur, .int o_draftCoughs, .ref q_o_s, .ref q_o_kept, .ref q_o_isKept, .ref q_o_undos, .int o_undoMany, .ref q_o_seenAt, .ref q_o_seen, .int o_seenMany, .ref q_o_board, .ref q_o_pick, .ref q_o_worth, .ref q_o_best, .int o_chosen])), (q_o_seconds, .inl (cI, 12, .inl o_seconds)), (q_o_s, .inl (cI, 10, .inl w11))] H := by rw [ew11]; exact hP
        have hD : va_D A [(q_o, .inr (7, [.int o_thrown, .long o_trace, .ref q_o_text, .int o_typed, .int o_next, .int o_token, .int o_place, .int o_value, .int o_fault, .ref q_o_warmth, .ref q_o_side, .ref q_o_seconds, .int o_members, .int o_pairs, .int o_cold, .int o_fur, .int o_coughs, .int o_draftMembers, .int o_draftPairs, .int o_draftCold, .int o_draftFur, .int o_draftCoughs, .ref q_o_s, .ref q_o_kept, .ref q_o_isKept, .ref q_o_undos, .int o_undoMany, .ref q_o_seenAt, .ref q_o_seen, .int o_seenMany, .ref q_o_board, .ref q_o_pick, .ref q_o_worth, .ref q_o_best, .int o_chosen])), (q_o_seconds, .inl (cI, 12, .inl o_seconds)), (q_o_s, .inl (cI, 10, .inl w11))] := by rw [ew11]; exact hD
        obtain ⟨y12, ey12⟩ : ∃ z : Int32, z = x1 + 1 := ⟨_, rfl⟩
        have hf := bnd_at hf ey12
        refine lv_iinc (v := y12) (lv' := [(1, .int y12), (0, .ref q_o)]) hx hb dX8_passes_41 hl (k := 1) rfl (by rw [ey12]; rfl) (by decide) rfl (fun ls hl => ?_)
        refine lv_goto (tgt := 2) hx hb dX8_passes_44 (by decide) ?_
        exact ih2 y12 w11 _ _ ls hf hP hD hS (lv_sub hl [1, 0] rfl)
  unfold f_X8_passes at hf
  refine lv_iconst (v := 0) hx hb dX8_passes_0 (by decide) ?_
  refine lv_istore_n (lv' := [(1, .int 0), (0, .ref q_o)]) hx hb dX8_passes_1 rfl hl (by decide) rfl (fun ls hl => ?_)
  exact L2 FU 0 o_s _ _ ls hf hP hD hS (lv_sub hl [1, 0] rfl)
def f_X8_notes_46_b (o_s : Nat → Int32) (K46 : Int32 → Int32 → (Nat → Int32) → (Option (Int32 × (Nat → Int32)))) (x1 : Int32) (o_undoMany : Int32) (o_undos : Nat → Int32) : Option (Int32 × (Nat → Int32)) :=
  if (9 : Int32) ≤ x1 then (
    bnd (o_undoMany + 1) fun y2 =>
    some (y2, o_undos)
  ) else (
    ing x1 10 <|
    ing ((9 * o_undoMany) + x1) 90 <|
    bnd (upd o_undos ((9 * o_undoMany) + x1).toNatClampNeg (o_s x1.toNatClampNeg)) fun w5 =>
    bnd (x1 + 1) fun y6 =>
    K46 y6 o_undoMany w5
  )
def f_X8_notes_46 (o_s : Nat → Int32) : Nat → Int32 → Int32 → (Nat → Int32) → (Option (Int32 × (Nat → Int32)))
  | 0 => fun _ _ _ => none
  | n + 1 => f_X8_notes_46_b o_s (f_X8_notes_46 o_s n)
def f_X8_notes_44 (o_s : Nat → Int32) (o_undoMany : Int32) (o_undos : Nat → Int32) : Option (Int32 × (Nat → Int32)) :=
  f_X8_notes_46 o_s FU 0 o_undoMany o_undos
def f_X8_notes_11_b (o_s : Nat → Int32) (K11 : Int32 → Int32 → (Nat → Int32) → (Option (Int32 × (Nat → Int32)))) (x1 : Int32) (o_undoMany : Int32) (o_undos : Nat → Int32) : Option (Int32 × (Nat → Int32)) :=
  if (81 : Int32) ≤ x1 then (
    f_X8_notes_44 o_s 9 o_undos
  ) else (
    ing (x1 + 9) 90 <|
    ing x1 90 <|
    bnd (upd o_undos x1.toNatClampNeg (o_undos (x1 + 9).toNatClampNeg)) fun w10 =>
    bnd (x1 + 1) fun y11 =>
    K11 y11 o_undoMany w10
  )
def f_X8_notes_11 (o_s : Nat → Int32) : Nat → Int32 → Int32 → (Nat → Int32) → (Option (Int32 × (Nat → Int32)))
  | 0 => fun _ _ _ => none
  | n + 1 => f_X8_notes_11_b o_s (f_X8_notes_11 o_s n)
def f_X8_notes (o_s : Nat → Int32) (o_undoMany : Int32) (o_undos : Nat → Int32) : Option (Int32 × (Nat → Int32)) :=
  if o_undoMany = 10 then (
    f_X8_notes_11 o_s FU 0 o_undoMany o_undos
  ) else (
    f_X8_notes_44 o_s o_undoMany o_undos
  )
set_option maxHeartbeats 4000000 in
set_option maxRecDepth 100000 in
theorem c_X8_notes (l : Launch) (D : va_G) (cB cI cZ cM cN : ClassId) (q_o : Nat) (q_o_text : Nat) (q_o_warmth : Nat) (q_o_side : Nat) (q_o_seconds : Nat) (q_o_s : Nat) (q_o_kept : Nat) (q_o_isKept : Nat) (q_o_undos : Nat) (q_o_seenAt : Nat) (q_o_seen : Nat) (q_o_board : Nat) (q_o_pick : Nat) (q_o_worth : Nat) (q_o_best : Nat) (o_thrown : Int32) (o_trace : Int64) (o_typed : Int32) (o_next : Int32) (o_token : Int32) (o_place : Int32) (o_value : Int32) (o_fault : Int32) (o_members : Int32) (o_pairs : Int32) (o_cold : Int32) (o_fur : Int32) (o_coughs : Int32) (o_draftMembers : Int32) (o_draftPairs : Int32) (o_draftCold : Int32) (o_draftFur : Int32) (o_draftCoughs : Int32) (o_undoMany : Int32) (o_seenMany : Int32) (o_chosen : Int32) (o_s : Nat → Int32) (o_undos : Nat → Int32) (o_undoMany' : Int32) (o_undos' : Nat → Int32) (sz : Nat) (hf : f_X8_notes o_s o_undoMany o_undos = some (o_undoMany', o_undos')) : Met l yX8_notes wsX8_notes ({ frames := 0, cells := 0, slots := 0, locals := 0 } : Room) (PM D cB cI cZ cM cN [.ref q_o] [(q_o, .inr (7, [.int o_thrown, .long o_trace, .ref q_o_text, .int o_typed, .int o_next, .int o_token, .int o_place, .int o_value, .int o_fault, .ref q_o_warmth, .ref q_o_side, .ref q_o_seconds, .int o_members, .int o_pairs, .int o_cold, .int o_fur, .int o_coughs, .int o_draftMembers, .int o_draftPairs, .int o_draftCold, .int o_draftFur, .int o_draftCoughs, .ref q_o_s, .ref q_o_kept, .ref q_o_isKept, .ref q_o_undos, .int o_undoMany, .ref q_o_seenAt, .ref q_o_seen, .int o_seenMany, .ref q_o_board, .ref q_o_pick, .ref q_o_worth, .ref q_o_best, .int o_chosen])), (q_o_s, .inl (cI, 10, .inl o_s)), (q_o_undos, .inl (cI, 90, .inl o_undos))] sz) (QV D [(q_o, .inr (7, [.int o_thrown, .long o_trace, .ref q_o_text, .int o_typed, .int o_next, .int o_token, .int o_place, .int o_value, .int o_fault, .ref q_o_warmth, .ref q_o_side, .ref q_o_seconds, .int o_members, .int o_pairs, .int o_cold, .int o_fur, .int o_coughs, .int o_draftMembers, .int o_draftPairs, .int o_draftCold, .int o_draftFur, .int o_draftCoughs, .ref q_o_s, .ref q_o_kept, .ref q_o_isKept, .ref q_o_undos, .int o_undoMany', .ref q_o_seenAt, .ref q_o_seen, .int o_seenMany, .ref q_o_board, .ref q_o_pick, .ref q_o_worth, .ref q_o_best, .int o_chosen])), (q_o_s, .inl (cI, 10, .inl o_s)), (q_o_undos, .inl (cI, 90, .inl o_undos'))] (va_A [(q_o, .inr (7, [.int o_thrown, .long o_trace, .ref q_o_text, .int o_typed, .int o_next, .int o_token, .int o_place, .int o_value, .int o_fault, .ref q_o_warmth, .ref q_o_side, .ref q_o_seconds, .int o_members, .int o_pairs, .int o_cold, .int o_fur, .int o_coughs, .int o_draftMembers, .int o_draftPairs, .int o_draftCold, .int o_draftFur, .int o_draftCoughs, .ref q_o_s, .ref q_o_kept, .ref q_o_isKept, .ref q_o_undos, .int o_undoMany, .ref q_o_seenAt, .ref q_o_seen, .int o_seenMany, .ref q_o_board, .ref q_o_pick, .ref q_o_worth, .ref q_o_best, .int o_chosen])), (q_o_s, .inl (cI, 10, .inl o_s)), (q_o_undos, .inl (cI, 90, .inl o_undos))] sz)) 0 0 (va_A [(q_o, .inr (7, [.int o_thrown, .long o_trace, .ref q_o_text, .int o_typed, .int o_next, .int o_token, .int o_place, .int o_value, .int o_fault, .ref q_o_warmth, .ref q_o_side, .ref q_o_seconds, .int o_members, .int o_pairs, .int o_cold, .int o_fur, .int o_coughs, .int o_draftMembers, .int o_draftPairs, .int o_draftCold, .int o_draftFur, .int o_draftCoughs, .ref q_o_s, .ref q_o_kept, .ref q_o_isKept, .ref q_o_undos, .int o_undoMany, .ref q_o_seenAt, .ref q_o_seen, .int o_seenMany, .ref q_o_board, .ref q_o_pick, .ref q_o_worth, .ref q_o_best, .int o_chosen])), (q_o_s, .inl (cI, 10, .inl o_s)), (q_o_undos, .inl (cI, 90, .inl o_undos))] sz) := by
  refine entM (l := l) (y := yX8_notes) (ws := wsX8_notes) (cc := cX8_notes) (av := [.ref q_o]) (wc := [(q_o, .inr (7, [.int o_thrown, .long o_trace, .ref q_o_text, .int o_typed, .int o_next, .int o_token, .int o_place, .int o_value, .int o_fault, .ref q_o_warmth, .ref q_o_side, .ref q_o_seconds, .int o_members, .int o_pairs, .int o_cold, .int o_fur, .int o_coughs, .int o_draftMembers, .int o_draftPairs, .int o_draftCold, .int o_draftFur, .int o_draftCoughs, .ref q_o_s, .ref q_o_kept, .ref q_o_isKept, .ref q_o_undos, .int o_undoMany, .ref q_o_seenAt, .ref q_o_seen, .int o_seenMany, .ref q_o_board, .ref q_o_pick, .ref q_o_worth, .ref q_o_best, .int o_chosen])), (q_o_s, .inl (cI, 10, .inl o_s)), (q_o_undos, .inl (cI, 90, .inl o_undos))]) (sz := sz) (Qc := fun A => QV D [(q_o, .inr (7, [.int o_thrown, .long o_trace, .ref q_o_text, .int o_typed, .int o_next, .int o_token, .int o_place, .int o_value, .int o_fault, .ref q_o_warmth, .ref q_o_side, .ref q_o_seconds, .int o_members, .int o_pairs, .int o_cold, .int o_fur, .int o_coughs, .int o_draftMembers, .int o_draftPairs, .int o_draftCold, .int o_draftFur, .int o_draftCoughs, .ref q_o_s, .ref q_o_kept, .ref q_o_isKept, .ref q_o_undos, .int o_undoMany', .ref q_o_seenAt, .ref q_o_seen, .int o_seenMany, .ref q_o_board, .ref q_o_pick, .ref q_o_worth, .ref q_o_best, .int o_chosen])), (q_o_s, .inl (cI, 10, .inl o_s)), (q_o_undos, .inl (cI, 90, .inl o_undos'))] A) (by decide +kernel) rfl (Nat.le_of_ble_eq_true rfl) ?_
  intro A p e s m below meth c hx hb hr hml hown hlocks hts hK hA H locs hP hD hS ls hl
  have hown : s.vm.findClass RX8 = some m.cls := hown
  have hl : lv_has ls 2 [(0, .ref q_o)] := hl
  have hfix : CallFix p m c cX8_notes 2 s ([.ref q_o] : List Value).toArray wsX8_notes RX8 := ⟨hx, hb, hml, hown, hts⟩
  have hinX8 : ∀ w ∈ u_ws RX8 TX8 35, w ∈ wsX8_notes := by decide +kernel
  have g157 := hts (.fieldLink RX8 157 "LastCoatModel" "undoMany" "I") (by decide +kernel)
  have g32 := hts (.fieldLink RX8 32 "LastCoatModel" "undos" "[I") (by decide +kernel)
  have g22 := hts (.fieldLink RX8 22 "LastCoatModel" "s" "[I") (by decide +kernel)
  have L46 : ∀ (n46 : Nat) (x1 : Int32) (o_undoMany : Int32) (o_undos : Nat → Int32) (H : Heap) (locs : List Loc) (ls : Array Slot), f_X8_notes_46 o_s n46 x1 o_undoMany o_undos = some (o_undoMany', o_undos') → va_P D vwCl [(q_o, .inr (7, [.int o_thrown, .long o_trace, .ref q_o_text, .int o_typed, .int o_next, .int o_token, .int o_place, .int o_value, .int o_fault, .ref q_o_warmth, .ref q_o_side, .ref q_o_seconds, .int o_members, .int o_pairs, .int o_cold, .int o_fur, .int o_coughs, .int o_draftMembers, .int o_draftPairs, .int o_draftCold, .int o_draftFur, .int o_draftCoughs, .ref q_o_s, .ref q_o_kept, .ref q_o_isKept, .ref q_o_undos, .int o_undoMany, .ref q_o_seenAt, .ref q_o_seen, .int o_seenMany, .ref q_o_board, .ref q_o_pick, .ref q_o_worth, .ref q_o_best, .int o_chosen])), (q_o_s, .inl (cI, 10, .inl o_s)), (q_o_undos, .inl (cI, 90, .inl o_undos))] H → va_D A [(q_o, .inr (7, [.int o_thrown, .long o_trace, .ref q_o_text, .int o_typed, .int o_next, .int o_token, .int o_place, .int o_value, .int o_fault, .ref q_o_warmth, .ref q_o_side, .ref q_o_seconds, .int o_members, .int o_pairs, .int o_cold, .int o_fur, .int o_coughs, .int o_draftMembers, .int o_draftPairs, .int o_draftCold, .int o_draftFur, .int o_draftCoughs, .ref q_o_s, .ref q_o_kept, .ref q_o_isKept, .ref q_o_undos, .int o_undoMany, .ref q_o_seenAt, .ref q_o_seen, .int o_seenMany, .ref q_o_board, .ref q_o_pick, .ref q_o_worth, .ref q_o_best, .int o_chosen])), (q_o_s, .inl (cI, 10, .inl o_s)), (q_o_undos, .inl (cI, 90, .inl o_undos))] → va_S A s.heap H locs → lv_has ls 2 [(0, .ref q_o), (1, .int x1)] → W p l e ({ frames := 0, cells := 0, slots := 0, locals := 0 } : Room) s m ([.ref q_o] : List Value).toArray below meth c H locs 0 0 (MQ below (QV D [(q_o, .inr (7, [.int o_thrown, .long o_trace, .ref q_o_text, .int o_typed, .int o_next, .int o_token, .int o_place, .int o_value, .int o_fault, .ref q_o_warmth, .ref q_o_side, .ref q_o_seconds, .int o_members, .int o_pairs, .int o_cold, .int o_fur, .int o_coughs, .int o_draftMembers, .int o_draftPairs, .int o_draftCold, .int o_draftFur, .int o_draftCoughs, .ref q_o_s, .ref q_o_kept, .ref q_o_isKept, .ref q_o_undos, .int o_undoMany', .ref q_o_seenAt, .ref q_o_seen, .int o_seenMany, .ref q_o_board, .ref q_o_pick, .ref q_o_worth, .ref q_o_best, .int o_chosen])), (q_o_s, .inl (cI, 10, .inl o_s)), (q_o_undos, .inl (cI, 90, .inl o_undos'))] A) ([.ref q_o] : List Value).toArray s 0 0 A) (F0 m 46 ls []) := by
    intro n46
    induction n46 with
    | zero =>
      intro x1 o_undoMany o_undos H locs ls hf hP hD hS hl
      exact noneNe hf
    | succ n46 ih46 =>
      intro x1 o_undoMany o_undos H locs ls hf hP hD hS hl
      have hf : f_X8_notes_46_b o_s (f_X8_notes_46 o_s n46) x1 o_undoMany o_undos = some (o_undoMany', o_undos') := hf
      unfold f_X8_notes_46_b at hf
      refine lv_iload_n hx hb dX8_notes_46 rfl (lv_at hl 1 rfl) ?_
      refine lv_bipush (v := 9) hx hb dX8_notes_47 (by decide) ?_
      refine lv_icmp_ge (tgt := 78) hx hb dX8_notes_49 (by decide) (fun c1 => ?_) (fun c1 => ?_)
      · have hf := ite_p hf c1
        refine lv_aload_n hx hb dX8_notes_78 rfl (lv_at hl 0 rfl) ?_
        refine lv_dup hx hb dX8_notes_79 rfl ?_
        refine va_get (D := D) (ci := 7) (v := .int o_undoMany) (C := RX8) (T := TX8) (N := 35) hx hb hts hinX8 hown hK.1 hP 0 rfl rfl 26 (by decide) g157 (fun _ h9 => h9) rfl dX8_notes_80 ?_
        refine lv_iconst (v := 1) hx hb dX8_notes_83 (by decide) ?_
        refine lv_iadd hx hb dX8_notes_84 ?_
        refine lv_topi (fun y2 ey2 => ?_)
        have hf := bnd_at hf ey2
        refine va_put (D := D) (ci := 7) (v := .int y2) (ty := .int) (C := RX8) (T := TX8) (N := 35) hx hb hts hinX8 tyX8 tyX8_ok nmX8 hown hK.1 hP hD hS 0 rfl rfl 26 (by decide) g157 (fun _ h9 => h9) rfl (by decide +kernel) rfl rfl (Nat.le_of_ble_eq_true rfl) dX8_notes_85 (fun H locs hP hD hS => ?_)
        have hP : va_P D vwCl [(q_o, .inr (7, [.int o_thrown, .long o_trace, .ref q_o_text, .int o_typed, .int o_next, .int o_token, .int o_place, .int o_value, .int o_fault, .ref q_o_warmth, .ref q_o_side, .ref q_o_seconds, .int o_members, .int o_pairs, .int o_cold, .int o_fur, .int o_coughs, .int o_draftMembers, .int o_draftPairs, .int o_draftCold, .int o_draftFur, .int o_draftCoughs, .ref q_o_s, .ref q_o_kept, .ref q_o_isKept, .ref q_o_undos, .int y2, .ref q_o_seenAt, .ref q_o_seen, .int o_seenMany, .ref q_o_board, .ref q_o_pick, .ref q_o_worth, .ref q_o_best, .int o_chosen])), (q_o_s, .inl (cI, 10, .inl o_s)), (q_o_undos, .inl (cI, 90, .inl o_undos))] H := hP
        have hD : va_D A [(q_o, .inr (7, [.int o_thrown, .long o_trace, .ref q_o_text, .int o_typed, .int o_next, .int o_token, .int o_place, .int o_value, .int o_fault, .ref q_o_warmth, .ref q_o_side, .ref q_o_seconds, .int o_members, .int o_pairs, .int o_cold, .int o_fur, .int o_coughs, .int o_draftMembers, .int o_draftPairs, .int o_draftCold, .int o_draftFur, .int o_draftCoughs, .ref q_o_s, .ref q_o_kept, .ref q_o_isKept, .ref q_o_undos, .int y2, .ref q_o_seenAt, .ref q_o_seen, .int o_seenMany, .ref q_o_board, .ref q_o_pick, .ref q_o_worth, .ref q_o_best, .int o_chosen])), (q_o_s, .inl (cI, 10, .inl o_s)), (q_o_undos, .inl (cI, 90, .inl o_undos))] := hD
        obtain ⟨e0_, e1_⟩ := tup2 hf
        have hP : va_P D vwCl [(q_o, .inr (7, [.int o_thrown, .long o_trace, .ref q_o_text, .int o_typed, .int o_next, .int o_token, .int o_place, .int o_value, .int o_fault, .ref q_o_warmth, .ref q_o_side, .ref q_o_seconds, .int o_members, .int o_pairs, .int o_cold, .int o_fur, .int o_coughs, .int o_draftMembers, .int o_draftPairs, .int o_draftCold, .int o_draftFur, .int o_draftCoughs, .ref q_o_s, .ref q_o_kept, .ref q_o_isKept, .ref q_o_undos, .int o_undoMany', .ref q_o_seenAt, .ref q_o_seen, .int o_seenMany, .ref q_o_board, .ref q_o_pick, .ref q_o_worth, .ref q_o_best, .int o_chosen])), (q_o_s, .inl (cI, 10, .inl o_s)), (q_o_undos, .inl (cI, 90, .inl o_undos'))] H := by rw [← e0_, ← e1_]; exact hP
        have hD : va_D A [(q_o, .inr (7, [.int o_thrown, .long o_trace, .ref q_o_text, .int o_typed, .int o_next, .int o_token, .int o_place, .int o_value, .int o_fault, .ref q_o_warmth, .ref q_o_side, .ref q_o_seconds, .int o_members, .int o_pairs, .int o_cold, .int o_fur, .int o_coughs, .int o_draftMembers, .int o_draftPairs, .int o_draftCold, .int o_draftFur, .int o_draftCoughs, .ref q_o_s, .ref q_o_kept, .ref q_o_isKept, .ref q_o_undos, .int o_undoMany', .ref q_o_seenAt, .ref q_o_seen, .int o_seenMany, .ref q_o_board, .ref q_o_pick, .ref q_o_worth, .ref q_o_best, .int o_chosen])), (q_o_s, .inl (cI, 10, .inl o_s)), (q_o_undos, .inl (cI, 90, .inl o_undos'))] := by rw [← e0_, ← e1_]; exact hD
        exact endMV hx hb hr hlocks hP hD hS dX8_notes_88
      · have hf := ite_n hf c1
        refine lv_aload_n hx hb dX8_notes_52 rfl (lv_at hl 0 rfl) ?_
        refine va_get (D := D) (ci := 7) (v := .ref q_o_undos) (C := RX8) (T := TX8) (N := 35) hx hb hts hinX8 hown hK.1 hP 0 rfl rfl 25 (by decide) g32 (fun _ h9 => h9) rfl dX8_notes_53 ?_
        refine lv_bipush (v := 9) hx hb dX8_notes_56 (by decide) ?_
        refine lv_aload_n hx hb dX8_notes_58 rfl (lv_at hl 0 rfl) ?_
        refine va_get (D := D) (ci := 7) (v := .int o_undoMany) (C := RX8) (T := TX8) (N := 35) hx hb hts hinX8 hown hK.1 hP 0 rfl rfl 26 (by decide) g157 (fun _ h9 => h9) rfl dX8_notes_59 ?_
        refine lv_imul hx hb dX8_notes_62 ?_
        refine lv_iload_n hx hb dX8_notes_63 rfl (lv_at hl 1 rfl) ?_
        refine lv_iadd hx hb dX8_notes_64 ?_
        refine lv_aload_n hx hb dX8_notes_65 rfl (lv_at hl 0 rfl) ?_
        refine va_get (D := D) (ci := 7) (v := .ref q_o_s) (C := RX8) (T := TX8) (N := 35) hx hb hts hinX8 hown hK.1 hP 0 rfl rfl 22 (by decide) g22 (fun _ h9 => h9) rfl dX8_notes_66 ?_
        refine lv_iload_n hx hb dX8_notes_69 rfl (lv_at hl 1 rfl) ?_
        obtain ⟨g3, hf⟩ := ing_some hf
        refine va_iald hx hb hK.1 hP 1 1 rfl rfl g3 dX8_notes_70 ?_
        obtain ⟨g4, hf⟩ := ing_some hf
        refine va_iast hx hb hK.1 hP hD hS 2 1 rfl rfl g4 dX8_notes_71 (fun H locs hP hD hS => ?_)
        obtain ⟨w5, ew5⟩ : ∃ z : Nat → Int32, z = upd o_undos ((9 * o_undoMany) + x1).toNatClampNeg (o_s x1.toNatClampNeg) := ⟨_, rfl⟩
        have hf := bnd_at hf ew5
        have hP : va_P D vwCl [(q_o, .inr (7, [.int o_thrown, .long o_trace, .ref q_o_text, .int o_typed, .int o_next, .int o_token, .int o_place, .int o_value, .int o_fault, .ref q_o_warmth, .ref q_o_side, .ref q_o_seconds, .int o_members, .int o_pairs, .int o_cold, .int o_fur, .int o_coughs, .int o_draftMembers, .int o_draftPairs, .int o_draftCold, .int o_draftFur, .int o_draftCoughs, .ref q_o_s, .ref q_o_kept, .ref q_o_isKept, .ref q_o_undos, .int o_undoMany, .ref q_o_seenAt, .ref q_o_seen, .int o_seenMany, .ref q_o_board, .ref q_o_pick, .ref q_o_worth, .ref q_o_best, .int o_chosen])), (q_o_s, .inl (cI, 10, .inl o_s)), (q_o_undos, .inl (cI, 90, .inl w5))] H := by rw [ew5]; exact hP
        have hD : va_D A [(q_o, .inr (7, [.int o_thrown, .long o_trace, .ref q_o_text, .int o_typed, .int o_next, .int o_token, .int o_place, .int o_value, .int o_fault, .ref q_o_warmth, .ref q_o_side, .ref q_o_seconds, .int o_members, .int o_pairs, .int o_cold, .int o_fur, .int o_coughs, .int o_draftMembers, .int o_draftPairs, .int o_draftCold, .int o_draftFur, .int o_draftCoughs, .ref q_o_s, .ref q_o_kept, .ref q_o_isKept, .ref q_o_undos, .int o_undoMany, .ref q_o_seenAt, .ref q_o_seen, .int o_seenMany, .ref q_o_board, .ref q_o_pick, .ref q_o_worth, .ref q_o_best, .int o_chosen])), (q_o_s, .inl (cI, 10, .inl o_s)), (q_o_undos, .inl (cI, 90, .inl w5))] := by rw [ew5]; exact hD
        obtain ⟨y6, ey6⟩ : ∃ z : Int32, z = x1 + 1 := ⟨_, rfl⟩
        have hf := bnd_at hf ey6
        refine lv_iinc (v := y6) (lv' := [(1, .int y6), (0, .ref q_o)]) hx hb dX8_notes_72 hl (k := 1) rfl (by rw [ey6]; rfl) (by decide) rfl (fun ls hl => ?_)
        refine lv_goto (tgt := 46) hx hb dX8_notes_75 (by decide) ?_
        exact ih46 y6 o_undoMany w5 _ _ ls hf hP hD hS (lv_sub hl [1, 0] rfl)
  have L44 : ∀ (o_undoMany : Int32) (o_undos : Nat → Int32) (H : Heap) (locs : List Loc) (ls : Array Slot), f_X8_notes_44 o_s o_undoMany o_undos = some (o_undoMany', o_undos') → va_P D vwCl [(q_o, .inr (7, [.int o_thrown, .long o_trace, .ref q_o_text, .int o_typed, .int o_next, .int o_token, .int o_place, .int o_value, .int o_fault, .ref q_o_warmth, .ref q_o_side, .ref q_o_seconds, .int o_members, .int o_pairs, .int o_cold, .int o_fur, .int o_coughs, .int o_draftMembers, .int o_draftPairs, .int o_draftCold, .int o_draftFur, .int o_draftCoughs, .ref q_o_s, .ref q_o_kept, .ref q_o_isKept, .ref q_o_undos, .int o_undoMany, .ref q_o_seenAt, .ref q_o_seen, .int o_seenMany, .ref q_o_board, .ref q_o_pick, .ref q_o_worth, .ref q_o_best, .int o_chosen])), (q_o_s, .inl (cI, 10, .inl o_s)), (q_o_undos, .inl (cI, 90, .inl o_undos))] H → va_D A [(q_o, .inr (7, [.int o_thrown, .long o_trace, .ref q_o_text, .int o_typed, .int o_next, .int o_token, .int o_place, .int o_value, .int o_fault, .ref q_o_warmth, .ref q_o_side, .ref q_o_seconds, .int o_members, .int o_pairs, .int o_cold, .int o_fur, .int o_coughs, .int o_draftMembers, .int o_draftPairs, .int o_draftCold, .int o_draftFur, .int o_draftCoughs, .ref q_o_s, .ref q_o_kept, .ref q_o_isKept, .ref q_o_undos, .int o_undoMany, .ref q_o_seenAt, .ref q_o_seen, .int o_seenMany, .ref q_o_board, .ref q_o_pick, .ref q_o_worth, .ref q_o_best, .int o_chosen])), (q_o_s, .inl (cI, 10, .inl o_s)), (q_o_undos, .inl (cI, 90, .inl o_undos))] → va_S A s.heap H locs → lv_has ls 2 [(0, .ref q_o)] → W p l e ({ frames := 0, cells := 0, slots := 0, locals := 0 } : Room) s m ([.ref q_o] : List Value).toArray below meth c H locs 0 0 (MQ below (QV D [(q_o, .inr (7, [.int o_thrown, .long o_trace, .ref q_o_text, .int o_typed, .int o_next, .int o_token, .int o_place, .int o_value, .int o_fault, .ref q_o_warmth, .ref q_o_side, .ref q_o_seconds, .int o_members, .int o_pairs, .int o_cold, .int o_fur, .int o_coughs, .int o_draftMembers, .int o_draftPairs, .int o_draftCold, .int o_draftFur, .int o_draftCoughs, .ref q_o_s, .ref q_o_kept, .ref q_o_isKept, .ref q_o_undos, .int o_undoMany', .ref q_o_seenAt, .ref q_o_seen, .int o_seenMany, .ref q_o_board, .ref q_o_pick, .ref q_o_worth, .ref q_o_best, .int o_chosen])), (q_o_s, .inl (cI, 10, .inl o_s)), (q_o_undos, .inl (cI, 90, .inl o_undos'))] A) ([.ref q_o] : List Value).toArray s 0 0 A) (F0 m 44 ls []) := by
    intro o_undoMany o_undos H locs ls hf hP hD hS hl
    unfold f_X8_notes_44 at hf
    refine lv_iconst (v := 0) hx hb dX8_notes_44 (by decide) ?_
    refine lv_istore_n (lv' := [(1, .int 0), (0, .ref q_o)]) hx hb dX8_notes_45 rfl hl (by decide) rfl (fun ls hl => ?_)
    exact L46 FU 0 o_undoMany o_undos _ _ ls hf hP hD hS (lv_sub hl [1, 0] rfl)
  have L11 : ∀ (n11 : Nat) (x1 : Int32) (o_undoMany : Int32) (o_undos : Nat → Int32) (H : Heap) (locs : List Loc) (ls : Array Slot), f_X8_notes_11 o_s n11 x1 o_undoMany o_undos = some (o_undoMany', o_undos') → va_P D vwCl [(q_o, .inr (7, [.int o_thrown, .long o_trace, .ref q_o_text, .int o_typed, .int o_next, .int o_token, .int o_place, .int o_value, .int o_fault, .ref q_o_warmth, .ref q_o_side, .ref q_o_seconds, .int o_members, .int o_pairs, .int o_cold, .int o_fur, .int o_coughs, .int o_draftMembers, .int o_draftPairs, .int o_draftCold, .int o_draftFur, .int o_draftCoughs, .ref q_o_s, .ref q_o_kept, .ref q_o_isKept, .ref q_o_undos, .int o_undoMany, .ref q_o_seenAt, .ref q_o_seen, .int o_seenMany, .ref q_o_board, .ref q_o_pick, .ref q_o_worth, .ref q_o_best, .int o_chosen])), (q_o_s, .inl (cI, 10, .inl o_s)), (q_o_undos, .inl (cI, 90, .inl o_undos))] H → va_D A [(q_o, .inr (7, [.int o_thrown, .long o_trace, .ref q_o_text, .int o_typed, .int o_next, .int o_token, .int o_place, .int o_value, .int o_fault, .ref q_o_warmth, .ref q_o_side, .ref q_o_seconds, .int o_members, .int o_pairs, .int o_cold, .int o_fur, .int o_coughs, .int o_draftMembers, .int o_draftPairs, .int o_draftCold, .int o_draftFur, .int o_draftCoughs, .ref q_o_s, .ref q_o_kept, .ref q_o_isKept, .ref q_o_undos, .int o_undoMany, .ref q_o_seenAt, .ref q_o_seen, .int o_seenMany, .ref q_o_board, .ref q_o_pick, .ref q_o_worth, .ref q_o_best, .int o_chosen])), (q_o_s, .inl (cI, 10, .inl o_s)), (q_o_undos, .inl (cI, 90, .inl o_undos))] → va_S A s.heap H locs → lv_has ls 2 [(0, .ref q_o), (1, .int x1)] → W p l e ({ frames := 0, cells := 0, slots := 0, locals := 0 } : Room) s m ([.ref q_o] : List Value).toArray below meth c H locs 0 0 (MQ below (QV D [(q_o, .inr (7, [.int o_thrown, .long o_trace, .ref q_o_text, .int o_typed, .int o_next, .int o_token, .int o_place, .int o_value, .int o_fault, .ref q_o_warmth, .ref q_o_side, .ref q_o_seconds, .int o_members, .int o_pairs, .int o_cold, .int o_fur, .int o_coughs, .int o_draftMembers, .int o_draftPairs, .int o_draftCold, .int o_draftFur, .int o_draftCoughs, .ref q_o_s, .ref q_o_kept, .ref q_o_isKept, .ref q_o_undos, .int o_undoMany', .ref q_o_seenAt, .ref q_o_seen, .int o_seenMany, .ref q_o_board, .ref q_o_pick, .ref q_o_worth, .ref q_o_best, .int o_chosen])), (q_o_s, .inl (cI, 10, .inl o_s)), (q_o_undos, .inl (cI, 90, .inl o_undos'))] A) ([.ref q_o] : List Value).toArray s 0 0 A) (F0 m 11 ls []) := by
    intro n11
    induction n11 with
    | zero =>
      intro x1 o_undoMany o_undos H locs ls hf hP hD hS hl
      exact noneNe hf
    | succ n11 ih11 =>
      intro x1 o_undoMany o_undos H locs ls hf hP hD hS hl
      have hf : f_X8_notes_11_b o_s (f_X8_notes_11 o_s n11) x1 o_undoMany o_undos = some (o_undoMany', o_undos') := hf
      unfold f_X8_notes_11_b at hf
      refine lv_iload_n hx hb dX8_notes_11 rfl (lv_at hl 1 rfl) ?_
      refine lv_bipush (v := 81) hx hb dX8_notes_12 (by decide) ?_
      refine lv_icmp_ge (tgt := 38) hx hb dX8_notes_14 (by decide) (fun c7 => ?_) (fun c7 => ?_)
      · have hf := ite_p hf c7
        refine lv_aload_n hx hb dX8_notes_38 rfl (lv_at hl 0 rfl) ?_
        refine lv_bipush (v := 9) hx hb dX8_notes_39 (by decide) ?_
        refine va_put (D := D) (ci := 7) (v := .int 9) (ty := .int) (C := RX8) (T := TX8) (N := 35) hx hb hts hinX8 tyX8 tyX8_ok nmX8 hown hK.1 hP hD hS 0 rfl rfl 26 (by decide) g157 (fun _ h9 => h9) rfl (by decide +kernel) rfl rfl (Nat.le_of_ble_eq_true rfl) dX8_notes_41 (fun H locs hP hD hS => ?_)
        have hP : va_P D vwCl [(q_o, .inr (7, [.int o_thrown, .long o_trace, .ref q_o_text, .int o_typed, .int o_next, .int o_token, .int o_place, .int o_value, .int o_fault, .ref q_o_warmth, .ref q_o_side, .ref q_o_seconds, .int o_members, .int o_pairs, .int o_cold, .int o_fur, .int o_coughs, .int o_draftMembers, .int o_draftPairs, .int o_draftCold, .int o_draftFur, .int o_draftCoughs, .ref q_o_s, .ref q_o_kept, .ref q_o_isKept, .ref q_o_undos, .int 9, .ref q_o_seenAt, .ref q_o_seen, .int o_seenMany, .ref q_o_board, .ref q_o_pick, .ref q_o_worth, .ref q_o_best, .int o_chosen])), (q_o_s, .inl (cI, 10, .inl o_s)), (q_o_undos, .inl (cI, 90, .inl o_undos))] H := hP
        have hD : va_D A [(q_o, .inr (7, [.int o_thrown, .long o_trace, .ref q_o_text, .int o_typed, .int o_next, .int o_token, .int o_place, .int o_value, .int o_fault, .ref q_o_warmth, .ref q_o_side, .ref q_o_seconds, .int o_members, .int o_pairs, .int o_cold, .int o_fur, .int o_coughs, .int o_draftMembers, .int o_draftPairs, .int o_draftCold, .int o_draftFur, .int o_draftCoughs, .ref q_o_s, .ref q_o_kept, .ref q_o_isKept, .ref q_o_undos, .int 9, .ref q_o_seenAt, .ref q_o_seen, .int o_seenMany, .ref q_o_board, .ref q_o_pick, .ref q_o_worth, .ref q_o_best, .int o_chosen])), (q_o_s, .inl (cI, 10, .inl o_s)), (q_o_undos, .inl (cI, 90, .inl o_undos))] := hD
        exact L44 9 o_undos _ _ ls hf hP hD hS (lv_sub hl [0] rfl)
      · have hf := ite_n hf c7
        refine lv_aload_n hx hb dX8_notes_17 rfl (lv_at hl 0 rfl) ?_
        refine va_get (D := D) (ci := 7) (v := .ref q_o_undos) (C := RX8) (T := TX8) (N := 35) hx hb hts hinX8 hown hK.1 hP 0 rfl rfl 25 (by decide) g32 (fun _ h9 => h9) rfl dX8_notes_18 ?_
        refine lv_iload_n hx hb dX8_notes_21 rfl (lv_at hl 1 rfl) ?_
        refine lv_aload_n hx hb dX8_notes_22 rfl (lv_at hl 0 rfl) ?_
        refine va_get (D := D) (ci := 7) (v := .ref q_o_undos) (C := RX8) (T := TX8) (N := 35) hx hb hts hinX8 hown hK.1 hP 0 rfl rfl 25 (by decide) g32 (fun _ h9 => h9) rfl dX8_notes_23 ?_
        refine lv_iload_n hx hb dX8_notes_26 rfl (lv_at hl 1 rfl) ?_
        refine lv_bipush (v := 9) hx hb dX8_notes_27 (by decide) ?_
        refine lv_iadd hx hb dX8_notes_29 ?_
        obtain ⟨g8, hf⟩ := ing_some hf
        refine va_iald hx hb hK.1 hP 2 1 rfl rfl g8 dX8_notes_30 ?_
        obtain ⟨g9, hf⟩ := ing_some hf
        refine va_iast hx hb hK.1 hP hD hS 2 1 rfl rfl g9 dX8_notes_31 (fun H locs hP hD hS => ?_)
        obtain ⟨w10, ew10⟩ : ∃ z : Nat → Int32, z = upd o_undos x1.toNatClampNeg (o_undos (x1 + 9).toNatClampNeg) := ⟨_, rfl⟩
        have hf := bnd_at hf ew10
        have hP : va_P D vwCl [(q_o, .inr (7, [.int o_thrown, .long o_trace, .ref q_o_text, .int o_typed, .int o_next, .int o_token, .int o_place, .int o_value, .int o_fault, .ref q_o_warmth, .ref q_o_side, .ref q_o_seconds, .int o_members, .int o_pairs, .int o_cold, .int o_fur, .int o_coughs, .int o_draftMembers, .int o_draftPairs, .int o_draftCold, .int o_draftFur, .int o_draftCoughs, .ref q_o_s, .ref q_o_kept, .ref q_o_isKept, .ref q_o_undos, .int o_undoMany, .ref q_o_seenAt, .ref q_o_seen, .int o_seenMany, .ref q_o_board, .ref q_o_pick, .ref q_o_worth, .ref q_o_best, .int o_chosen])), (q_o_s, .inl (cI, 10, .inl o_s)), (q_o_undos, .inl (cI, 90, .inl w10))] H := by rw [ew10]; exact hP
        have hD : va_D A [(q_o, .inr (7, [.int o_thrown, .long o_trace, .ref q_o_text, .int o_typed, .int o_next, .int o_token, .int o_place, .int o_value, .int o_fault, .ref q_o_warmth, .ref q_o_side, .ref q_o_seconds, .int o_members, .int o_pairs, .int o_cold, .int o_fur, .int o_coughs, .int o_draftMembers, .int o_draftPairs, .int o_draftCold, .int o_draftFur, .int o_draftCoughs, .ref q_o_s, .ref q_o_kept, .ref q_o_isKept, .ref q_o_undos, .int o_undoMany, .ref q_o_seenAt, .ref q_o_seen, .int o_seenMany, .ref q_o_board, .ref q_o_pick, .ref q_o_worth, .ref q_o_best, .int o_chosen])), (q_o_s, .inl (cI, 10, .inl o_s)), (q_o_undos, .inl (cI, 90, .inl w10))] := by rw [ew10]; exact hD
        obtain ⟨y11, ey11⟩ : ∃ z : Int32, z = x1 + 1 := ⟨_, rfl⟩
        have hf := bnd_at hf ey11
        refine lv_iinc (v := y11) (lv' := [(1, .int y11), (0, .ref q_o)]) hx hb dX8_notes_32 hl (k := 1) rfl (by rw [ey11]; rfl) (by decide) rfl (fun ls hl => ?_)
        refine lv_goto (tgt := 11) hx hb dX8_notes_35 (by decide) ?_
        exact ih11 y11 o_undoMany w10 _ _ ls hf hP hD hS (lv_sub hl [1, 0] rfl)
  unfold f_X8_notes at hf
  refine lv_aload_n hx hb dX8_notes_0 rfl (lv_at hl 0 rfl) ?_
  refine va_get (D := D) (ci := 7) (v := .int o_undoMany) (C := RX8) (T := TX8) (N := 35) hx hb hts hinX8 hown hK.1 hP 0 rfl rfl 26 (by decide) g157 (fun _ h9 => h9) rfl dX8_notes_1 ?_
  refine lv_bipush (v := 10) hx hb dX8_notes_4 (by decide) ?_
  refine lv_icmp_ne (tgt := 44) hx hb dX8_notes_6 (by decide) (fun c12 => ?_) (fun c12 => ?_)
  · have hf := ite_n hf c12
    exact L44 o_undoMany o_undos _ _ ls hf hP hD hS (lv_sub hl [0] rfl)
  · have hf := ite_p hf c12
    refine lv_iconst (v := 0) hx hb dX8_notes_9 (by decide) ?_
    refine lv_istore_n (lv' := [(1, .int 0), (0, .ref q_o)]) hx hb dX8_notes_10 rfl hl (by decide) rfl (fun ls hl => ?_)
    exact L11 FU 0 o_undoMany o_undos _ _ ls hf hP hD hS (lv_sub hl [1, 0] rfl)
def f_X8_speaks_119 (o_members : Int32) (o_cold : Int32) (o_coughs : Int32) (o_seconds : Nat → Int32) (K54 : Int32 → Int32 → Int32 → Int32 → Int32 → (Nat → Int32) → (Nat → Int32) → (Option (Int32 × Int32 × Int32 × (Nat → Int32) × (Nat → Int32)))) (x2 : Int32) (x3 : Int32) (x4 : Int32) (o_thrown : Int32) (o_undoMany : Int32) (o_s : Nat → Int32) (o_undos : Nat → Int32) : Option (Int32 × Int32 × Int32 × (Nat → Int32) × (Nat → Int32)) :=
  if x4 = 0 then (
    K54 x2 x3 x4 o_thrown o_undoMany o_s o_undos
  ) else (
    ob1 (f_X8_passes o_members o_cold o_seconds o_s) fun m2 =>
    bnd (x3 + 1) fun y4 =>
    K54 x2 y4 x4 o_thrown o_undoMany m2 o_undos
  )
def f_X8_speaks_117 (o_members : Int32) (o_cold : Int32) (o_coughs : Int32) (o_seconds : Nat → Int32) (K54 : Int32 → Int32 → Int32 → Int32 → Int32 → (Nat → Int32) → (Nat → Int32) → (Option (Int32 × Int32 × Int32 × (Nat → Int32) × (Nat → Int32)))) (x2 : Int32) (x3 : Int32) (k0 : Int32) (o_thrown : Int32) (o_undoMany : Int32) (o_s : Nat → Int32) (o_undos : Nat → Int32) : Option (Int32 × Int32 × Int32 × (Nat → Int32) × (Nat → Int32)) :=
  f_X8_speaks_119 o_members o_cold o_coughs o_seconds K54 x2 x3 k0 o_thrown o_undoMany o_s o_undos
def f_X8_speaks_54_b (o_members : Int32) (o_cold : Int32) (o_coughs : Int32) (o_seconds : Nat → Int32) (K54 : Int32 → Int32 → Int32 → Int32 → Int32 → (Nat → Int32) → (Nat → Int32) → (Option (Int32 × Int32 × Int32 × (Nat → Int32) × (Nat → Int32)))) (x2 : Int32) (x3 : Int32) (x4 : Int32) (o_thrown : Int32) (o_undoMany : Int32) (o_s : Nat → Int32) (o_undos : Nat → Int32) : Option (Int32 × Int32 × Int32 × (Nat → Int32) × (Nat → Int32)) :=
  if x2 ≤ x3 then (
    some (x3, o_thrown, o_undoMany, o_s, o_undos)
  ) else (
    if x4 = 0 then (
      some (x3, o_thrown, o_undoMany, o_s, o_undos)
    ) else (
      if x3 ≤ 0 then (
        f_X8_speaks_119 o_members o_cold o_coughs o_seconds K54 x2 x3 x4 o_thrown o_undoMany o_s o_undos
      ) else (
        ing 9 10 <|
        ing 9 10 <|
        bnd (upd o_s (9 : Int32).toNatClampNeg (((o_s (9 : Int32).toNatClampNeg) * 1103515245) + 12345)) fun w10 =>
        ing 9 10 <|
        if ((((w10 (9 : Int32).toNatClampNeg) >>> ((16 : Int32) &&& 31)) &&& 65535) - (((w10 (9 : Int32).toNatClampNeg) >>> ((16 : Int32) &&& 31)) &&& 65535) / 10 * 10) < o_coughs then (
          f_X8_speaks_117 o_members o_cold o_coughs o_seconds K54 x2 x3 0 o_thrown o_undoMany w10 o_undos
        ) else (
          f_X8_speaks_117 o_members o_cold o_coughs o_seconds K54 x2 x3 1 o_thrown o_undoMany w10 o_undos
        )
      )
    )
  )
def f_X8_speaks_54 (o_members : Int32) (o_cold : Int32) (o_coughs : Int32) (o_seconds : Nat → Int32) : Nat → Int32 → Int32 → Int32 → Int32 → Int32 → (Nat → Int32) → (Nat → Int32) → (Option (Int32 × Int32 × Int32 × (Nat → Int32) × (Nat → Int32)))
  | 0 => fun _ _ _ _ _ _ _ => none
  | n + 1 => f_X8_speaks_54_b o_members o_cold o_coughs o_seconds (f_X8_speaks_54 o_members o_cold o_coughs o_seconds n)
def f_X8_speaks (o_members : Int32) (o_cold : Int32) (o_coughs : Int32) (o_seconds : Nat → Int32) (o_thrown : Int32) (o_undoMany : Int32) (o_s : Nat → Int32) (o_undos : Nat → Int32) (p1 : Int32) (p2 : Int32) : Option (Int32 × Int32 × Int32 × (Nat → Int32) × (Nat → Int32)) :=
  ob1 (f_X8_isMember o_members p1) fun r13 =>
  if r13 = 0 then (
    some ((-1), 0, o_undoMany, o_s, o_undos)
  ) else (
    ob1 (f_X8_in p2 1 9) fun r16 =>
    if r16 = 0 then (
      some ((-1), 0, o_undoMany, o_s, o_undos)
    ) else (
      ing p1 10 <|
      if (o_s p1.toNatClampNeg) = 0 then (
        some ((-2), 0, o_undoMany, o_s, o_undos)
      ) else (
        ob2 (f_X8_notes o_s o_undoMany o_undos) fun m21 m22 =>
        ing 6 10 <|
        bnd (upd o_s (6 : Int32).toNatClampNeg p1) fun w25 =>
        f_X8_speaks_54 o_members o_cold o_coughs o_seconds FU p2 0 1 0 m21 w25 m22
      )
    )
  )
set_option maxHeartbeats 4000000 in
set_option maxRecDepth 100000 in
theorem c_X8_speaks (l : Launch) (D : va_G) (cB cI cZ cM cN : ClassId) (q_o : Nat) (q_o_text : Nat) (q_o_warmth : Nat) (q_o_side : Nat) (q_o_seconds : Nat) (q_o_s : Nat) (q_o_kept : Nat) (q_o_isKept : Nat) (q_o_undos : Nat) (q_o_seenAt : Nat) (q_o_seen : Nat) (q_o_board : Nat) (q_o_pick : Nat) (q_o_worth : Nat) (q_o_best : Nat) (o_thrown : Int32) (o_trace : Int64) (o_typed : Int32) (o_next : Int32) (o_token : Int32) (o_place : Int32) (o_value : Int32) (o_fault : Int32) (o_members : Int32) (o_pairs : Int32) (o_cold : Int32) (o_fur : Int32) (o_coughs : Int32) (o_draftMembers : Int32) (o_draftPairs : Int32) (o_draftCold : Int32) (o_draftFur : Int32) (o_draftCoughs : Int32) (o_undoMany : Int32) (o_seenMany : Int32) (o_chosen : Int32) (o_seconds : Nat → Int32) (o_s : Nat → Int32) (o_undos : Nat → Int32) (p1 : Int32) (p2 : Int32) (r : Int32) (o_thrown' : Int32) (o_undoMany' : Int32) (o_s' : Nat → Int32) (o_undos' : Nat → Int32) (sz : Nat) (hf : f_X8_speaks o_members o_cold o_coughs o_seconds o_thrown o_undoMany o_s o_undos p1 p2 = some (r, o_thrown', o_undoMany', o_s', o_undos')) : Met l yX8_speaks wsX8_speaks ({ frames := 2, cells := 0, slots := 0, locals := 47 } : Room) (PM D cB cI cZ cM cN [.ref q_o, .int p1, .int p2] [(q_o, .inr (7, [.int o_thrown, .long o_trace, .ref q_o_text, .int o_typed, .int o_next, .int o_token, .int o_place, .int o_value, .int o_fault, .ref q_o_warmth, .ref q_o_side, .ref q_o_seconds, .int o_members, .int o_pairs, .int o_cold, .int o_fur, .int o_coughs, .int o_draftMembers, .int o_draftPairs, .int o_draftCold, .int o_draftFur, .int o_draftCoughs, .ref q_o_s, .ref q_o_kept, .ref q_o_isKept, .ref q_o_undos, .int o_undoMany, .ref q_o_seenAt, .ref q_o_seen, .int o_seenMany, .ref q_o_board, .ref q_o_pick, .ref q_o_worth, .ref q_o_best, .int o_chosen])), (q_o_seconds, .inl (cI, 12, .inl o_seconds)), (q_o_s, .inl (cI, 10, .inl o_s)), (q_o_undos, .inl (cI, 90, .inl o_undos))] sz) (QI D [(q_o, .inr (7, [.int o_thrown', .long o_trace, .ref q_o_text, .int o_typed, .int o_next, .int o_token, .int o_place, .int o_value, .int o_fault, .ref q_o_warmth, .ref q_o_side, .ref q_o_seconds, .int o_members, .int o_pairs, .int o_cold, .int o_fur, .int o_coughs, .int o_draftMembers, .int o_draftPairs, .int o_draftCold, .int o_draftFur, .int o_draftCoughs, .ref q_o_s, .ref q_o_kept, .ref q_o_isKept, .ref q_o_undos, .int o_undoMany', .ref q_o_seenAt, .ref q_o_seen, .int o_seenMany, .ref q_o_board, .ref q_o_pick, .ref q_o_worth, .ref q_o_best, .int o_chosen])), (q_o_seconds, .inl (cI, 12, .inl o_seconds)), (q_o_s, .inl (cI, 10, .inl o_s')), (q_o_undos, .inl (cI, 90, .inl o_undos'))] r (va_A [(q_o, .inr (7, [.int o_thrown, .long o_trace, .ref q_o_text, .int o_typed, .int o_next, .int o_token, .int o_place, .int o_value, .int o_fault, .ref q_o_warmth, .ref q_o_side, .ref q_o_seconds, .int o_members, .int o_pairs, .int o_cold, .int o_fur, .int o_coughs, .int o_draftMembers, .int o_draftPairs, .int o_draftCold, .int o_draftFur, .int o_draftCoughs, .ref q_o_s, .ref q_o_kept, .ref q_o_isKept, .ref q_o_undos, .int o_undoMany, .ref q_o_seenAt, .ref q_o_seen, .int o_seenMany, .ref q_o_board, .ref q_o_pick, .ref q_o_worth, .ref q_o_best, .int o_chosen])), (q_o_seconds, .inl (cI, 12, .inl o_seconds)), (q_o_s, .inl (cI, 10, .inl o_s)), (q_o_undos, .inl (cI, 90, .inl o_undos))] sz)) 0 0 (va_A [(q_o, .inr (7, [.int o_thrown, .long o_trace, .ref q_o_text, .int o_typed, .int o_next, .int o_token, .int o_place, .int o_value, .int o_fault, .ref q_o_warmth, .ref q_o_side, .ref q_o_seconds, .int o_members, .int o_pairs, .int o_cold, .int o_fur, .int o_coughs, .int o_draftMembers, .int o_draftPairs, .int o_draftCold, .int o_draftFur, .int o_draftCoughs, .ref q_o_s, .ref q_o_kept, .ref q_o_isKept, .ref q_o_undos, .int o_undoMany, .ref q_o_seenAt, .ref q_o_seen, .int o_seenMany, .ref q_o_board, .ref q_o_pick, .ref q_o_worth, .ref q_o_best, .int o_chosen])), (q_o_seconds, .inl (cI, 12, .inl o_seconds)), (q_o_s, .inl (cI, 10, .inl o_s)), (q_o_undos, .inl (cI, 90, .inl o_undos))] sz) := by
  refine entM (l := l) (y := yX8_speaks) (ws := wsX8_speaks) (cc := cX8_speaks) (av := [.ref q_o, .int p1, .int p2]) (wc := [(q_o, .inr (7, [.int o_thrown, .long o_trace, .ref q_o_text, .int o_typed, .int o_next, .int o_token, .int o_place, .int o_value, .int o_fault, .ref q_o_warmth, .ref q_o_side, .ref q_o_seconds, .int o_members, .int o_pairs, .int o_cold, .int o_fur, .int o_coughs, .int o_draftMembers, .int o_draftPairs, .int o_draftCold, .int o_draftFur, .int o_draftCoughs, .ref q_o_s, .ref q_o_kept, .ref q_o_isKept, .ref q_o_undos, .int o_undoMany, .ref q_o_seenAt, .ref q_o_seen, .int o_seenMany, .ref q_o_board, .ref q_o_pick, .ref q_o_worth, .ref q_o_best, .int o_chosen])), (q_o_seconds, .inl (cI, 12, .inl o_seconds)), (q_o_s, .inl (cI, 10, .inl o_s)), (q_o_undos, .inl (cI, 90, .inl o_undos))]) (sz := sz) (Qc := fun A => QI D [(q_o, .inr (7, [.int o_thrown', .long o_trace, .ref q_o_text, .int o_typed, .int o_next, .int o_token, .int o_place, .int o_value, .int o_fault, .ref q_o_warmth, .ref q_o_side, .ref q_o_seconds, .int o_members, .int o_pairs, .int o_cold, .int o_fur, .int o_coughs, .int o_draftMembers, .int o_draftPairs, .int o_draftCold, .int o_draftFur, .int o_draftCoughs, .ref q_o_s, .ref q_o_kept, .ref q_o_isKept, .ref q_o_undos, .int o_undoMany', .ref q_o_seenAt, .ref q_o_seen, .int o_seenMany, .ref q_o_board, .ref q_o_pick, .ref q_o_worth, .ref q_o_best, .int o_chosen])), (q_o_seconds, .inl (cI, 12, .inl o_seconds)), (q_o_s, .inl (cI, 10, .inl o_s')), (q_o_undos, .inl (cI, 90, .inl o_undos'))] r A) (by decide +kernel) rfl (Nat.le_of_ble_eq_true rfl) ?_
  intro A p e s m below meth c hx hb hr hml hown hlocks hts hK hA H locs hP hD hS ls hl
  have hown : s.vm.findClass RX8 = some m.cls := hown
  have hl : lv_has ls 5 [(0, .ref q_o), (1, .int p1), (2, .int p2)] := hl
  have hfix : CallFix p m c cX8_speaks 5 s ([.ref q_o, .int p1, .int p2] : List Value).toArray wsX8_speaks RX8 := ⟨hx, hb, hml, hown, hts⟩
  have hinX8 : ∀ w ∈ u_ws RX8 TX8 35, w ∈ wsX8_speaks := by decide +kernel
  have g22 := hts (.fieldLink RX8 22 "LastCoatModel" "s" "[I") (by decide +kernel)
  have g178 := hts (.constant RX8 178 (1103515245)) (by decide +kernel)
  have g179 := hts (.constant RX8 179 (65535)) (by decide +kernel)
  have g151 := hts (.fieldLink RX8 151 "LastCoatModel" "coughs" "I") (by decide +kernel)
  have g63 := hts (.fieldLink RX8 63 "LastCoatModel" "thrown" "I") (by decide +kernel)
  have L54 : ∀ (n54 : Nat) (x2 : Int32) (x3 : Int32) (x4 : Int32) (o_thrown : Int32) (o_undoMany : Int32) (o_s : Nat → Int32) (o_undos : Nat → Int32) (H : Heap) (locs : List Loc) (ls : Array Slot), f_X8_speaks_54 o_members o_cold o_coughs o_seconds n54 x2 x3 x4 o_thrown o_undoMany o_s o_undos = some (r, o_thrown', o_undoMany', o_s', o_undos') → va_P D vwCl [(q_o, .inr (7, [.int o_thrown, .long o_trace, .ref q_o_text, .int o_typed, .int o_next, .int o_token, .int o_place, .int o_value, .int o_fault, .ref q_o_warmth, .ref q_o_side, .ref q_o_seconds, .int o_members, .int o_pairs, .int o_cold, .int o_fur, .int o_coughs, .int o_draftMembers, .int o_draftPairs, .int o_draftCold, .int o_draftFur, .int o_draftCoughs, .ref q_o_s, .ref q_o_kept, .ref q_o_isKept, .ref q_o_undos, .int o_undoMany, .ref q_o_seenAt, .ref q_o_seen, .int o_seenMany, .ref q_o_board, .ref q_o_pick, .ref q_o_worth, .ref q_o_best, .int o_chosen])), (q_o_seconds, .inl (cI, 12, .inl o_seconds)), (q_o_s, .inl (cI, 10, .inl o_s)), (q_o_undos, .inl (cI, 90, .inl o_undos))] H → va_D A [(q_o, .inr (7, [.int o_thrown, .long o_trace, .ref q_o_text, .int o_typed, .int o_next, .int o_token, .int o_place, .int o_value, .int o_fault, .ref q_o_warmth, .ref q_o_side, .ref q_o_seconds, .int o_members, .int o_pairs, .int o_cold, .int o_fur, .int o_coughs, .int o_draftMembers, .int o_draftPairs, .int o_draftCold, .int o_draftFur, .int o_draftCoughs, .ref q_o_s, .ref q_o_kept, .ref q_o_isKept, .ref q_o_undos, .int o_undoMany, .ref q_o_seenAt, .ref q_o_seen, .int o_seenMany, .ref q_o_board, .ref q_o_pick, .ref q_o_worth, .ref q_o_best, .int o_chosen])), (q_o_seconds, .inl (cI, 12, .inl o_seconds)), (q_o_s, .inl (cI, 10, .inl o_s)), (q_o_undos, .inl (cI, 90, .inl o_undos))] → va_S A s.heap H locs → lv_has ls 5 [(0, .ref q_o), (2, .int x2), (3, .int x3), (4, .int x4)] → W p l e ({ frames := 2, cells := 0, slots := 0, locals := 47 } : Room) s m ([.ref q_o, .int p1, .int p2] : List Value).toArray below meth c H locs 0 0 (MQ below (QI D [(q_o, .inr (7, [.int o_thrown', .long o_trace, .ref q_o_text, .int o_typed, .int o_next, .int o_token, .int o_place, .int o_value, .int o_fault, .ref q_o_warmth, .ref q_o_side, .ref q_o_seconds, .int o_members, .int o_pairs, .int o_cold, .int o_fur, .int o_coughs, .int o_draftMembers, .int o_draftPairs, .int o_draftCold, .int o_draftFur, .int o_draftCoughs, .ref q_o_s, .ref q_o_kept, .ref q_o_isKept, .ref q_o_undos, .int o_undoMany', .ref q_o_seenAt, .ref q_o_seen, .int o_seenMany, .ref q_o_board, .ref q_o_pick, .ref q_o_worth, .ref q_o_best, .int o_chosen])), (q_o_seconds, .inl (cI, 12, .inl o_seconds)), (q_o_s, .inl (cI, 10, .inl o_s')), (q_o_undos, .inl (cI, 90, .inl o_undos'))] r A) ([.ref q_o, .int p1, .int p2] : List Value).toArray s 0 0 A) (F0 m 54 ls []) := by
    intro n54
    induction n54 with
    | zero =>
      intro x2 x3 x4 o_thrown o_undoMany o_s o_undos H locs ls hf hP hD hS hl
      exact noneNe hf
    | succ n54 ih54 =>
      have L119 : ∀ (x2 : Int32) (x3 : Int32) (x4 : Int32) (o_thrown : Int32) (o_undoMany : Int32) (o_s : Nat → Int32) (o_undos : Nat → Int32) (H : Heap) (locs : List Loc) (ls : Array Slot), f_X8_speaks_119 o_members o_cold o_coughs o_seconds (f_X8_speaks_54 o_members o_cold o_coughs o_seconds n54) x2 x3 x4 o_thrown o_undoMany o_s o_undos = some (r, o_thrown', o_undoMany', o_s', o_undos') → va_P D vwCl [(q_o, .inr (7, [.int o_thrown, .long o_trace, .ref q_o_text, .int o_typed, .int o_next, .int o_token, .int o_place, .int o_value, .int o_fault, .ref q_o_warmth, .ref q_o_side, .ref q_o_seconds, .int o_members, .int o_pairs, .int o_cold, .int o_fur, .int o_coughs, .int o_draftMembers, .int o_draftPairs, .int o_draftCold, .int o_draftFur, .int o_draftCoughs, .ref q_o_s, .ref q_o_kept, .ref q_o_isKept, .ref q_o_undos, .int o_undoMany, .ref q_o_seenAt, .ref q_o_seen, .int o_seenMany, .ref q_o_board, .ref q_o_pick, .ref q_o_worth, .ref q_o_best, .int o_chosen])), (q_o_seconds, .inl (cI, 12, .inl o_seconds)), (q_o_s, .inl (cI, 10, .inl o_s)), (q_o_undos, .inl (cI, 90, .inl o_undos))] H → va_D A [(q_o, .inr (7, [.int o_thrown, .long o_trace, .ref q_o_text, .int o_typed, .int o_next, .int o_token, .int o_place, .int o_value, .int o_fault, .ref q_o_warmth, .ref q_o_side, .ref q_o_seconds, .int o_members, .int o_pairs, .int o_cold, .int o_fur, .int o_coughs, .int o_draftMembers, .int o_draftPairs, .int o_draftCold, .int o_draftFur, .int o_draftCoughs, .ref q_o_s, .ref q_o_kept, .ref q_o_isKept, .ref q_o_undos, .int o_undoMany, .ref q_o_seenAt, .ref q_o_seen, .int o_seenMany, .ref q_o_board, .ref q_o_pick, .ref q_o_worth, .ref q_o_best, .int o_chosen])), (q_o_seconds, .inl (cI, 12, .inl o_seconds)), (q_o_s, .inl (cI, 10, .inl o_s)), (q_o_undos, .inl (cI, 90, .inl o_undos))] → va_S A s.heap H locs → lv_has ls 5 [(0, .ref q_o), (2, .int x2), (3, .int x3), (4, .int x4)] → W p l e ({ frames := 2, cells := 0, slots := 0, locals := 47 } : Room) s m ([.ref q_o, .int p1, .int p2] : List Value).toArray below meth c H locs 0 0 (MQ below (QI D [(q_o, .inr (7, [.int o_thrown', .long o_trace, .ref q_o_text, .int o_typed, .int o_next, .int o_token, .int o_place, .int o_value, .int o_fault, .ref q_o_warmth, .ref q_o_side, .ref q_o_seconds, .int o_members, .int o_pairs, .int o_cold, .int o_fur, .int o_coughs, .int o_draftMembers, .int o_draftPairs, .int o_draftCold, .int o_draftFur, .int o_draftCoughs, .ref q_o_s, .ref q_o_kept, .ref q_o_isKept, .ref q_o_undos, .int o_undoMany', .ref q_o_seenAt, .ref q_o_seen, .int o_seenMany, .ref q_o_board, .ref q_o_pick, .ref q_o_worth, .ref q_o_best, .int o_chosen])), (q_o_seconds, .inl (cI, 12, .inl o_seconds)), (q_o_s, .inl (cI, 10, .inl o_s')), (q_o_undos, .inl (cI, 90, .inl o_undos'))] r A) ([.ref q_o, .int p1, .int p2] : List Value).toArray s 0 0 A) (F0 m 119 ls []) := by
        intro x2 x3 x4 o_thrown o_undoMany o_s o_undos H locs ls hf hP hD hS hl
        unfold f_X8_speaks_119 at hf
        refine lv_iload hx hb dX8_speaks_119 (lv_at hl 3 rfl) ?_
        refine lv_if_eq (tgt := 54) hx hb dX8_speaks_121 (by decide) (fun c1 => ?_) (fun c1 => ?_)
        · have hf := ite_p hf c1
          exact ih54 x2 x3 x4 o_thrown o_undoMany o_s o_undos _ _ ls hf hP hD hS (lv_sub hl [0, 1, 2, 3] rfl)
        · have hf := ite_n hf c1
          refine lv_aload_n hx hb dX8_speaks_124 rfl (lv_at hl 0 rfl) ?_
          obtain ⟨m2, h3, hf⟩ := ob1_some hf
          refine muVv (wr := [(q_o_undos, .inl (cI, 90, .inl o_undos))]) (ws1 := [(q_o, .inr (7, [.int o_thrown, .long o_trace, .ref q_o_text, .int o_typed, .int o_next, .int o_token, .int o_place, .int o_value, .int o_fault, .ref q_o_warmth, .ref q_o_side, .ref q_o_seconds, .int o_members, .int o_pairs, .int o_cold, .int o_fur, .int o_coughs, .int o_draftMembers, .int o_draftPairs, .int o_draftCold, .int o_draftFur, .int o_draftCoughs, .ref q_o_s, .ref q_o_kept, .ref q_o_isKept, .ref q_o_undos, .int o_undoMany, .ref q_o_seenAt, .ref q_o_seen, .int o_seenMany, .ref q_o_board, .ref q_o_pick, .ref q_o_worth, .ref q_o_best, .int o_chosen])), (q_o_seconds, .inl (cI, 12, .inl o_seconds)), (q_o_s, .inl (cI, 10, .inl m2)), (q_o_undos, .inl (cI, 90, .inl o_undos))]) (c_X8_passes l D cB cI cZ cM cN q_o q_o_text q_o_warmth q_o_side q_o_seconds q_o_s q_o_kept q_o_isKept q_o_undos q_o_seenAt q_o_seen q_o_board q_o_pick q_o_worth q_o_best o_thrown o_trace o_typed o_next o_token o_place o_value o_fault o_members o_pairs o_cold o_fur o_coughs o_draftMembers o_draftPairs o_draftCold o_draftFur o_draftCoughs o_undoMany o_seenMany o_chosen o_seconds o_s m2 H.size h3) hfix (cwV 0 hts gX8_speaks_X8_passes rfl rfl rfl (by decide +kernel) ⟨Nat.le_of_ble_eq_true rfl, Nat.le_of_ble_eq_true rfl⟩) hP hK hD hA hS [0, 1, 2] [3] [1, 2, 3, 0] rfl rfl rfl rfl (by decide) rfl rfl rfl rfl rfl rfl hl.1 rfl (Nat.le_of_ble_eq_true rfl) dX8_speaks_125 ⟨Nat.zero_le _, Nat.zero_le _⟩ (fun H locs hP hD hS => ?_)
          obtain ⟨y4, ey4⟩ : ∃ z : Int32, z = x3 + 1 := ⟨_, rfl⟩
          have hf := bnd_at hf ey4
          refine lv_iinc (v := y4) (lv' := [(3, .int y4), (0, .ref q_o), (2, .int x2), (4, .int x4)]) hx hb dX8_speaks_128 hl (k := 2) rfl (by rw [ey4]; rfl) (by decide) rfl (fun ls hl => ?_)
          refine lv_goto (tgt := 54) hx hb dX8_speaks_131 (by decide) ?_
          exact ih54 x2 y4 x4 o_thrown o_undoMany m2 o_undos _ _ ls hf hP hD hS (lv_sub hl [1, 2, 0, 3] rfl)
      have L117 : ∀ (x2 : Int32) (x3 : Int32) (k0 : Int32) (o_thrown : Int32) (o_undoMany : Int32) (o_s : Nat → Int32) (o_undos : Nat → Int32) (H : Heap) (locs : List Loc) (ls : Array Slot), f_X8_speaks_117 o_members o_cold o_coughs o_seconds (f_X8_speaks_54 o_members o_cold o_coughs o_seconds n54) x2 x3 k0 o_thrown o_undoMany o_s o_undos = some (r, o_thrown', o_undoMany', o_s', o_undos') → va_P D vwCl [(q_o, .inr (7, [.int o_thrown, .long o_trace, .ref q_o_text, .int o_typed, .int o_next, .int o_token, .int o_place, .int o_value, .int o_fault, .ref q_o_warmth, .ref q_o_side, .ref q_o_seconds, .int o_members, .int o_pairs, .int o_cold, .int o_fur, .int o_coughs, .int o_draftMembers, .int o_draftPairs, .int o_draftCold, .int o_draftFur, .int o_draftCoughs, .ref q_o_s, .ref q_o_kept, .ref q_o_isKept, .ref q_o_undos, .int o_undoMany, .ref q_o_seenAt, .ref q_o_seen, .int o_seenMany, .ref q_o_board, .ref q_o_pick, .ref q_o_worth, .ref q_o_best, .int o_chosen])), (q_o_seconds, .inl (cI, 12, .inl o_seconds)), (q_o_s, .inl (cI, 10, .inl o_s)), (q_o_undos, .inl (cI, 90, .inl o_undos))] H → va_D A [(q_o, .inr (7, [.int o_thrown, .long o_trace, .ref q_o_text, .int o_typed, .int o_next, .int o_token, .int o_place, .int o_value, .int o_fault, .ref q_o_warmth, .ref q_o_side, .ref q_o_seconds, .int o_members, .int o_pairs, .int o_cold, .int o_fur, .int o_coughs, .int o_draftMembers, .int o_draftPairs, .int o_draftCold, .int o_draftFur, .int o_draftCoughs, .ref q_o_s, .ref q_o_kept, .ref q_o_isKept, .ref q_o_undos, .int o_undoMany, .ref q_o_seenAt, .ref q_o_seen, .int o_seenMany, .ref q_o_board, .ref q_o_pick, .ref q_o_worth, .ref q_o_best, .int o_chosen])), (q_o_seconds, .inl (cI, 12, .inl o_seconds)), (q_o_s, .inl (cI, 10, .inl o_s)), (q_o_undos, .inl (cI, 90, .inl o_undos))] → va_S A s.heap H locs → lv_has ls 5 [(0, .ref q_o), (2, .int x2), (3, .int x3)] → W p l e ({ frames := 2, cells := 0, slots := 0, locals := 47 } : Room) s m ([.ref q_o, .int p1, .int p2] : List Value).toArray below meth c H locs 0 0 (MQ below (QI D [(q_o, .inr (7, [.int o_thrown', .long o_trace, .ref q_o_text, .int o_typed, .int o_next, .int o_token, .int o_place, .int o_value, .int o_fault, .ref q_o_warmth, .ref q_o_side, .ref q_o_seconds, .int o_members, .int o_pairs, .int o_cold, .int o_fur, .int o_coughs, .int o_draftMembers, .int o_draftPairs, .int o_draftCold, .int o_draftFur, .int o_draftCoughs, .ref q_o_s, .ref q_o_kept, .ref q_o_isKept, .ref q_o_undos, .int o_undoMany', .ref q_o_seenAt, .ref q_o_seen, .int o_seenMany, .ref q_o_board, .ref q_o_pick, .ref q_o_worth, .ref q_o_best, .int o_chosen])), (q_o_seconds, .inl (cI, 12, .inl o_seconds)), (q_o_s, .inl (cI, 10, .inl o_s')), (q_o_undos, .inl (cI, 90, .inl o_undos'))] r A) ([.ref q_o, .int p1, .int p2] : List Value).toArray s 0 0 A) (F0 m 117 ls [.int k0]) := by
        intro x2 x3 k0 o_thrown o_undoMany o_s o_undos H locs ls hf hP hD hS hl
        unfold f_X8_speaks_117 at hf
        refine lv_istore (lv' := [(4, .int k0), (0, .ref q_o), (2, .int x2), (3, .int x3)]) hx hb dX8_speaks_117 hl (by decide) rfl (fun ls hl => ?_)
        exact L119 x2 x3 k0 o_thrown o_undoMany o_s o_undos _ _ ls hf hP hD hS (lv_sub hl [1, 2, 3, 0] rfl)
      intro x2 x3 x4 o_thrown o_undoMany o_s o_undos H locs ls hf hP hD hS hl
      have hf : f_X8_speaks_54_b o_members o_cold o_coughs o_seconds (f_X8_speaks_54 o_members o_cold o_coughs o_seconds n54) x2 x3 x4 o_thrown o_undoMany o_s o_undos = some (r, o_thrown', o_undoMany', o_s', o_undos') := hf
      unfold f_X8_speaks_54_b at hf
      refine lv_iload_n hx hb dX8_speaks_54 rfl (lv_at hl 2 rfl) ?_
      refine lv_iload_n hx hb dX8_speaks_55 rfl (lv_at hl 1 rfl) ?_
      refine lv_icmp_ge (tgt := 134) hx hb dX8_speaks_56 (by decide) (fun c5 => ?_) (fun c5 => ?_)
      · have hf := ite_p hf c5
        refine lv_iload_n hx hb dX8_speaks_134 rfl (lv_at hl 2 rfl) ?_
        obtain ⟨e0_, e1_, e2_, e3_, e4_⟩ := tup5 hf
        have hP : va_P D vwCl [(q_o, .inr (7, [.int o_thrown', .long o_trace, .ref q_o_text, .int o_typed, .int o_next, .int o_token, .int o_place, .int o_value, .int o_fault, .ref q_o_warmth, .ref q_o_side, .ref q_o_seconds, .int o_members, .int o_pairs, .int o_cold, .int o_fur, .int o_coughs, .int o_draftMembers, .int o_draftPairs, .int o_draftCold, .int o_draftFur, .int o_draftCoughs, .ref q_o_s, .ref q_o_kept, .ref q_o_isKept, .ref q_o_undos, .int o_undoMany', .ref q_o_seenAt, .ref q_o_seen, .int o_seenMany, .ref q_o_board, .ref q_o_pick, .ref q_o_worth, .ref q_o_best, .int o_chosen])), (q_o_seconds, .inl (cI, 12, .inl o_seconds)), (q_o_s, .inl (cI, 10, .inl o_s')), (q_o_undos, .inl (cI, 90, .inl o_undos'))] H := by rw [← e1_, ← e2_, ← e3_, ← e4_]; exact hP
        have hD : va_D A [(q_o, .inr (7, [.int o_thrown', .long o_trace, .ref q_o_text, .int o_typed, .int o_next, .int o_token, .int o_place, .int o_value, .int o_fault, .ref q_o_warmth, .ref q_o_side, .ref q_o_seconds, .int o_members, .int o_pairs, .int o_cold, .int o_fur, .int o_coughs, .int o_draftMembers, .int o_draftPairs, .int o_draftCold, .int o_draftFur, .int o_draftCoughs, .ref q_o_s, .ref q_o_kept, .ref q_o_isKept, .ref q_o_undos, .int o_undoMany', .ref q_o_seenAt, .ref q_o_seen, .int o_seenMany, .ref q_o_board, .ref q_o_pick, .ref q_o_worth, .ref q_o_best, .int o_chosen])), (q_o_seconds, .inl (cI, 12, .inl o_seconds)), (q_o_s, .inl (cI, 10, .inl o_s')), (q_o_undos, .inl (cI, 90, .inl o_undos'))] := by rw [← e1_, ← e2_, ← e3_, ← e4_]; exact hD
        exact endMI hx hb hr hlocks rfl hP hD hS e0_ dX8_speaks_135
      · have hf := ite_n hf c5
        refine lv_iload hx hb dX8_speaks_59 (lv_at hl 3 rfl) ?_
        refine lv_if_eq (tgt := 134) hx hb dX8_speaks_61 (by decide) (fun c6 => ?_) (fun c6 => ?_)
        · have hf := ite_p hf c6
          refine lv_iload_n hx hb dX8_speaks_134 rfl (lv_at hl 2 rfl) ?_
          obtain ⟨e0_, e1_, e2_, e3_, e4_⟩ := tup5 hf
          have hP : va_P D vwCl [(q_o, .inr (7, [.int o_thrown', .long o_trace, .ref q_o_text, .int o_typed, .int o_next, .int o_token, .int o_place, .int o_value, .int o_fault, .ref q_o_warmth, .ref q_o_side, .ref q_o_seconds, .int o_members, .int o_pairs, .int o_cold, .int o_fur, .int o_coughs, .int o_draftMembers, .int o_draftPairs, .int o_draftCold, .int o_draftFur, .int o_draftCoughs, .ref q_o_s, .ref q_o_kept, .ref q_o_isKept, .ref q_o_undos, .int o_undoMany', .ref q_o_seenAt, .ref q_o_seen, .int o_seenMany, .ref q_o_board, .ref q_o_pick, .ref q_o_worth, .ref q_o_best, .int o_chosen])), (q_o_seconds, .inl (cI, 12, .inl o_seconds)), (q_o_s, .inl (cI, 10, .inl o_s')), (q_o_undos, .inl (cI, 90, .inl o_undos'))] H := by rw [← e1_, ← e2_, ← e3_, ← e4_]; exact hP
          have hD : va_D A [(q_o, .inr (7, [.int o_thrown', .long o_trace, .ref q_o_text, .int o_typed, .int o_next, .int o_token, .int o_place, .int o_value, .int o_fault, .ref q_o_warmth, .ref q_o_side, .ref q_o_seconds, .int o_members, .int o_pairs, .int o_cold, .int o_fur, .int o_coughs, .int o_draftMembers, .int o_draftPairs, .int o_draftCold, .int o_draftFur, .int o_draftCoughs, .ref q_o_s, .ref q_o_kept, .ref q_o_isKept, .ref q_o_undos, .int o_undoMany', .ref q_o_seenAt, .ref q_o_seen, .int o_seenMany, .ref q_o_board, .ref q_o_pick, .ref q_o_worth, .ref q_o_best, .int o_chosen])), (q_o_seconds, .inl (cI, 12, .inl o_seconds)), (q_o_s, .inl (cI, 10, .inl o_s')), (q_o_undos, .inl (cI, 90, .inl o_undos'))] := by rw [← e1_, ← e2_, ← e3_, ← e4_]; exact hD
          exact endMI hx hb hr hlocks rfl hP hD hS e0_ dX8_speaks_135
        · have hf := ite_n hf c6
          refine lv_iload_n hx hb dX8_speaks_64 rfl (lv_at hl 2 rfl) ?_
          refine lv_if_le (tgt := 119) hx hb dX8_speaks_65 (by decide) (fun c7 => ?_) (fun c7 => ?_)
          · have hf := ite_p hf c7
            exact L119 x2 x3 x4 o_thrown o_undoMany o_s o_undos _ _ ls hf hP hD hS (lv_sub hl [0, 1, 2, 3] rfl)
          · have hf := ite_n hf c7
            refine lv_aload_n hx hb dX8_speaks_68 rfl (lv_at hl 0 rfl) ?_
            refine va_get (D := D) (ci := 7) (v := .ref q_o_s) (C := RX8) (T := TX8) (N := 35) hx hb hts hinX8 hown hK.1 hP 0 rfl rfl 22 (by decide) g22 (fun _ h9 => h9) rfl dX8_speaks_69 ?_
            refine lv_bipush (v := 9) hx hb dX8_speaks_72 (by decide) ?_
            refine lv_aload_n hx hb dX8_speaks_74 rfl (lv_at hl 0 rfl) ?_
            refine va_get (D := D) (ci := 7) (v := .ref q_o_s) (C := RX8) (T := TX8) (N := 35) hx hb hts hinX8 hown hK.1 hP 0 rfl rfl 22 (by decide) g22 (fun _ h9 => h9) rfl dX8_speaks_75 ?_
            refine lv_bipush (v := 9) hx hb dX8_speaks_78 (by decide) ?_
            obtain ⟨g8, hf⟩ := ing_some hf
            refine va_iald hx hb hK.1 hP 2 1 rfl rfl g8 dX8_speaks_80 ?_
            refine lv_ldc (v := 1103515245) hx hb hown g178 dX8_speaks_81 ?_
            refine lv_imul hx hb dX8_speaks_83 ?_
            refine lv_sipush (v := 12345) hx hb dX8_speaks_84 (by decide) ?_
            refine lv_iadd hx hb dX8_speaks_87 ?_
            obtain ⟨g9, hf⟩ := ing_some hf
            refine va_iast hx hb hK.1 hP hD hS 2 1 rfl rfl g9 dX8_speaks_88 (fun H locs hP hD hS => ?_)
            obtain ⟨w10, ew10⟩ : ∃ z : Nat → Int32, z = upd o_s (9 : Int32).toNatClampNeg (((o_s (9 : Int32).toNatClampNeg) * 1103515245) + 12345) := ⟨_, rfl⟩
            have hf := bnd_at hf ew10
            have hP : va_P D vwCl [(q_o, .inr (7, [.int o_thrown, .long o_trace, .ref q_o_text, .int o_typed, .int o_next, .int o_token, .int o_place, .int o_value, .int o_fault, .ref q_o_warmth, .ref q_o_side, .ref q_o_seconds, .int o_members, .int o_pairs, .int o_cold, .int o_fur, .int o_coughs, .int o_draftMembers, .int o_draftPairs, .int o_draftCold, .int o_draftFur, .int o_draftCoughs, .ref q_o_s, .ref q_o_kept, .ref q_o_isKept, .ref q_o_undos, .int o_undoMany, .ref q_o_seenAt, .ref q_o_seen, .int o_seenMany, .ref q_o_board, .ref q_o_pick, .ref q_o_worth, .ref q_o_best, .int o_chosen])), (q_o_seconds, .inl (cI, 12, .inl o_seconds)), (q_o_s, .inl (cI, 10, .inl w10)), (q_o_undos, .inl (cI, 90, .inl o_undos))] H := by rw [ew10]; exact hP
            have hD : va_D A [(q_o, .inr (7, [.int o_thrown, .long o_trace, .ref q_o_text, .int o_typed, .int o_next, .int o_token, .int o_place, .int o_value, .int o_fault, .ref q_o_warmth, .ref q_o_side, .ref q_o_seconds, .int o_members, .int o_pairs, .int o_cold, .int o_fur, .int o_coughs, .int o_draftMembers, .int o_draftPairs, .int o_draftCold, .int o_draftFur, .int o_draftCoughs, .ref q_o_s, .ref q_o_kept, .ref q_o_isKept, .ref q_o_undos, .int o_undoMany, .ref q_o_seenAt, .ref q_o_seen, .int o_seenMany, .ref q_o_board, .ref q_o_pick, .ref q_o_worth, .ref q_o_best, .int o_chosen])), (q_o_seconds, .inl (cI, 12, .inl o_seconds)), (q_o_s, .inl (cI, 10, .inl w10)), (q_o_undos, .inl (cI, 90, .inl o_undos))] := by rw [ew10]; exact hD
            refine lv_aload_n hx hb dX8_speaks_89 rfl (lv_at hl 0 rfl) ?_
            refine va_get (D := D) (ci := 7) (v := .ref q_o_s) (C := RX8) (T := TX8) (N := 35) hx hb hts hinX8 hown hK.1 hP 0 rfl rfl 22 (by decide) g22 (fun _ h9 => h9) rfl dX8_speaks_90 ?_
            refine lv_bipush (v := 9) hx hb dX8_speaks_93 (by decide) ?_
            obtain ⟨g11, hf⟩ := ing_some hf
            refine va_iald hx hb hK.1 hP 2 1 rfl rfl g11 dX8_speaks_95 ?_
            refine lv_bipush (v := 16) hx hb dX8_speaks_96 (by decide) ?_
            refine lv_ishr hx hb dX8_speaks_98 ?_
            refine lv_ldc (v := 65535) hx hb hown g179 dX8_speaks_99 ?_
            refine lv_iand hx hb dX8_speaks_101 ?_
            refine lv_bipush (v := 10) hx hb dX8_speaks_102 (by decide) ?_
            refine lv_irem hx hb dX8_speaks_104 (by decide) ?_
            refine lv_aload_n hx hb dX8_speaks_105 rfl (lv_at hl 0 rfl) ?_
            refine va_get (D := D) (ci := 7) (v := .int o_coughs) (C := RX8) (T := TX8) (N := 35) hx hb hts hinX8 hown hK.1 hP 0 rfl rfl 16 (by decide) g151 (fun _ h9 => h9) rfl dX8_speaks_106 ?_
            refine lv_icmp_lt (tgt := 116) hx hb dX8_speaks_109 (by decide) (fun c12 => ?_) (fun c12 => ?_)
            · have hf := ite_p hf c12
              refine lv_iconst (v := 0) hx hb dX8_speaks_116 (by decide) ?_
              exact L117 x2 x3 0 o_thrown o_undoMany w10 o_undos _ _ ls hf hP hD hS (lv_sub hl [0, 1, 2] rfl)
            · have hf := ite_n hf c12
              refine lv_iconst (v := 1) hx hb dX8_speaks_112 (by decide) ?_
              refine lv_goto (tgt := 117) hx hb dX8_speaks_113 (by decide) ?_
              exact L117 x2 x3 1 o_thrown o_undoMany w10 o_undos _ _ ls hf hP hD hS (lv_sub hl [0, 1, 2] rfl)
  unfold f_X8_speaks at hf
  refine lv_aload_n hx hb dX8_speaks_0 rfl (lv_at hl 0 rfl) ?_
  refine lv_iconst (v := 0) hx hb dX8_speaks_1 (by decide) ?_
  refine va_put (D := D) (ci := 7) (v := .int 0) (ty := .int) (C := RX8) (T := TX8) (N := 35) hx hb hts hinX8 tyX8 tyX8_ok nmX8 hown hK.1 hP hD hS 0 rfl rfl 0 (by decide) g63 (fun _ h9 => h9) rfl (by decide +kernel) rfl rfl (Nat.le_of_ble_eq_true rfl) dX8_speaks_2 (fun H locs hP hD hS => ?_)
  have hP : va_P D vwCl [(q_o, .inr (7, [.int 0, .long o_trace, .ref q_o_text, .int o_typed, .int o_next, .int o_token, .int o_place, .int o_value, .int o_fault, .ref q_o_warmth, .ref q_o_side, .ref q_o_seconds, .int o_members, .int o_pairs, .int o_cold, .int o_fur, .int o_coughs, .int o_draftMembers, .int o_draftPairs, .int o_draftCold, .int o_draftFur, .int o_draftCoughs, .ref q_o_s, .ref q_o_kept, .ref q_o_isKept, .ref q_o_undos, .int o_undoMany, .ref q_o_seenAt, .ref q_o_seen, .int o_seenMany, .ref q_o_board, .ref q_o_pick, .ref q_o_worth, .ref q_o_best, .int o_chosen])), (q_o_seconds, .inl (cI, 12, .inl o_seconds)), (q_o_s, .inl (cI, 10, .inl o_s)), (q_o_undos, .inl (cI, 90, .inl o_undos))] H := hP
  have hD : va_D A [(q_o, .inr (7, [.int 0, .long o_trace, .ref q_o_text, .int o_typed, .int o_next, .int o_token, .int o_place, .int o_value, .int o_fault, .ref q_o_warmth, .ref q_o_side, .ref q_o_seconds, .int o_members, .int o_pairs, .int o_cold, .int o_fur, .int o_coughs, .int o_draftMembers, .int o_draftPairs, .int o_draftCold, .int o_draftFur, .int o_draftCoughs, .ref q_o_s, .ref q_o_kept, .ref q_o_isKept, .ref q_o_undos, .int o_undoMany, .ref q_o_seenAt, .ref q_o_seen, .int o_seenMany, .ref q_o_board, .ref q_o_pick, .ref q_o_worth, .ref q_o_best, .int o_chosen])), (q_o_seconds, .inl (cI, 12, .inl o_seconds)), (q_o_s, .inl (cI, 10, .inl o_s)), (q_o_undos, .inl (cI, 90, .inl o_undos))] := hD
  refine lv_aload_n hx hb dX8_speaks_5 rfl (lv_at hl 0 rfl) ?_
  refine lv_iload_n hx hb dX8_speaks_6 rfl (lv_at hl 1 rfl) ?_
  obtain ⟨r13, h14, hf⟩ := ob1_some hf
  refine roV (c_X8_isMember l D cB cI cZ cM cN q_o q_o_text q_o_warmth q_o_side q_o_seconds q_o_s q_o_kept q_o_isKept q_o_undos q_o_seenAt q_o_seen q_o_board q_o_pick q_o_worth q_o_best 0 o_trace o_typed o_next o_token o_place o_value o_fault o_members o_pairs o_cold o_fur o_coughs o_draftMembers o_draftPairs o_draftCold o_draftFur o_draftCoughs o_undoMany o_seenMany o_chosen p1 r13 h14) hfix (cwV 1 hts gX8_speaks_X8_isMember rfl rfl rfl (by decide +kernel) ⟨Nat.le_of_ble_eq_true rfl, Nat.le_of_ble_eq_true rfl⟩) (subC hP [0] rfl) hK rfl rfl rfl rfl hl.1 rfl (Nat.le_of_ble_eq_true rfl) dX8_speaks_7 ⟨Nat.zero_le _, Nat.zero_le _⟩ ?_
  refine lv_if_eq (tgt := 23) hx hb dX8_speaks_10 (by decide) (fun c15 => ?_) (fun c15 => ?_)
  · have hf := ite_p hf c15
    refine lv_iconst (v := (-1)) hx hb dX8_speaks_23 (by decide) ?_
    obtain ⟨e0_, e1_, e2_, e3_, e4_⟩ := tup5 hf
    have hP : va_P D vwCl [(q_o, .inr (7, [.int o_thrown', .long o_trace, .ref q_o_text, .int o_typed, .int o_next, .int o_token, .int o_place, .int o_value, .int o_fault, .ref q_o_warmth, .ref q_o_side, .ref q_o_seconds, .int o_members, .int o_pairs, .int o_cold, .int o_fur, .int o_coughs, .int o_draftMembers, .int o_draftPairs, .int o_draftCold, .int o_draftFur, .int o_draftCoughs, .ref q_o_s, .ref q_o_kept, .ref q_o_isKept, .ref q_o_undos, .int o_undoMany', .ref q_o_seenAt, .ref q_o_seen, .int o_seenMany, .ref q_o_board, .ref q_o_pick, .ref q_o_worth, .ref q_o_best, .int o_chosen])), (q_o_seconds, .inl (cI, 12, .inl o_seconds)), (q_o_s, .inl (cI, 10, .inl o_s')), (q_o_undos, .inl (cI, 90, .inl o_undos'))] H := by rw [← e1_, ← e2_, ← e3_, ← e4_]; exact hP
    have hD : va_D A [(q_o, .inr (7, [.int o_thrown', .long o_trace, .ref q_o_text, .int o_typed, .int o_next, .int o_token, .int o_place, .int o_value, .int o_fault, .ref q_o_warmth, .ref q_o_side, .ref q_o_seconds, .int o_members, .int o_pairs, .int o_cold, .int o_fur, .int o_coughs, .int o_draftMembers, .int o_draftPairs, .int o_draftCold, .int o_draftFur, .int o_draftCoughs, .ref q_o_s, .ref q_o_kept, .ref q_o_isKept, .ref q_o_undos, .int o_undoMany', .ref q_o_seenAt, .ref q_o_seen, .int o_seenMany, .ref q_o_board, .ref q_o_pick, .ref q_o_worth, .ref q_o_best, .int o_chosen])), (q_o_seconds, .inl (cI, 12, .inl o_seconds)), (q_o_s, .inl (cI, 10, .inl o_s')), (q_o_undos, .inl (cI, 90, .inl o_undos'))] := by rw [← e1_, ← e2_, ← e3_, ← e4_]; exact hD
    exact endMI hx hb hr hlocks rfl hP hD hS e0_ dX8_speaks_24
  · have hf := ite_n hf c15
    refine lv_iload_n hx hb dX8_speaks_13 rfl (lv_at hl 2 rfl) ?_
    refine lv_iconst (v := 1) hx hb dX8_speaks_14 (by decide) ?_
    refine lv_bipush (v := 9) hx hb dX8_speaks_15 (by decide) ?_
    obtain ⟨r16, h17, hf⟩ := ob1_some hf
    refine roS (c_X8_in l D cB cI cZ cM cN p2 1 9 r16 h17) hfix (va_cwS 3 hts gX8_speaks_X8_in rfl rfl rfl (by decide +kernel) ⟨Nat.le_of_ble_eq_true rfl, Nat.le_of_ble_eq_true rfl⟩) (subC hP [] rfl) hK rfl hl.1 rfl (Nat.le_of_ble_eq_true rfl) dX8_speaks_17 ⟨Nat.zero_le _, Nat.zero_le _⟩ ?_
    refine lv_if_ne (tgt := 25) hx hb dX8_speaks_20 (by decide) (fun c18 => ?_) (fun c18 => ?_)
    · have hf := ite_n hf c18
      refine lv_aload_n hx hb dX8_speaks_25 rfl (lv_at hl 0 rfl) ?_
      refine va_get (D := D) (ci := 7) (v := .ref q_o_s) (C := RX8) (T := TX8) (N := 35) hx hb hts hinX8 hown hK.1 hP 0 rfl rfl 22 (by decide) g22 (fun _ h9 => h9) rfl dX8_speaks_26 ?_
      refine lv_iload_n hx hb dX8_speaks_29 rfl (lv_at hl 1 rfl) ?_
      obtain ⟨g19, hf⟩ := ing_some hf
      refine va_iald hx hb hK.1 hP 2 1 rfl rfl g19 dX8_speaks_30 ?_
      refine lv_if_ne (tgt := 37) hx hb dX8_speaks_31 (by decide) (fun c20 => ?_) (fun c20 => ?_)
      · have hf := ite_n hf c20
        refine lv_aload_n hx hb dX8_speaks_37 rfl (lv_at hl 0 rfl) ?_
        obtain ⟨m21, m22, h23, hf⟩ := ob2_some hf
        refine muVv (wr := [(q_o_seconds, .inl (cI, 12, .inl o_seconds))]) (ws1 := [(q_o, .inr (7, [.int 0, .long o_trace, .ref q_o_text, .int o_typed, .int o_next, .int o_token, .int o_place, .int o_value, .int o_fault, .ref q_o_warmth, .ref q_o_side, .ref q_o_seconds, .int o_members, .int o_pairs, .int o_cold, .int o_fur, .int o_coughs, .int o_draftMembers, .int o_draftPairs, .int o_draftCold, .int o_draftFur, .int o_draftCoughs, .ref q_o_s, .ref q_o_kept, .ref q_o_isKept, .ref q_o_undos, .int m21, .ref q_o_seenAt, .ref q_o_seen, .int o_seenMany, .ref q_o_board, .ref q_o_pick, .ref q_o_worth, .ref q_o_best, .int o_chosen])), (q_o_seconds, .inl (cI, 12, .inl o_seconds)), (q_o_s, .inl (cI, 10, .inl o_s)), (q_o_undos, .inl (cI, 90, .inl m22))]) (c_X8_notes l D cB cI cZ cM cN q_o q_o_text q_o_warmth q_o_side q_o_seconds q_o_s q_o_kept q_o_isKept q_o_undos q_o_seenAt q_o_seen q_o_board q_o_pick q_o_worth q_o_best 0 o_trace o_typed o_next o_token o_place o_value o_fault o_members o_pairs o_cold o_fur o_coughs o_draftMembers o_draftPairs o_draftCold o_draftFur o_draftCoughs o_undoMany o_seenMany o_chosen o_s o_undos m21 m22 H.size h23) hfix (cwV 0 hts gX8_speaks_X8_notes rfl rfl rfl (by decide +kernel) ⟨Nat.le_of_ble_eq_true rfl, Nat.le_of_ble_eq_true rfl⟩) hP hK hD hA hS [0, 2, 3] [1] [1, 0, 2, 3] rfl rfl rfl rfl (by decide) rfl rfl rfl rfl rfl rfl hl.1 rfl (Nat.le_of_ble_eq_true rfl) dX8_speaks_38 ⟨Nat.zero_le _, Nat.zero_le _⟩ (fun H locs hP hD hS => ?_)
        refine lv_aload_n hx hb dX8_speaks_41 rfl (lv_at hl 0 rfl) ?_
        refine va_get (D := D) (ci := 7) (v := .ref q_o_s) (C := RX8) (T := TX8) (N := 35) hx hb hts hinX8 hown hK.1 hP 0 rfl rfl 22 (by decide) g22 (fun _ h9 => h9) rfl dX8_speaks_42 ?_
        refine lv_bipush (v := 6) hx hb dX8_speaks_45 (by decide) ?_
        refine lv_iload_n hx hb dX8_speaks_47 rfl (lv_at hl 1 rfl) ?_
        obtain ⟨g24, hf⟩ := ing_some hf
        refine va_iast hx hb hK.1 hP hD hS 2 1 rfl rfl g24 dX8_speaks_48 (fun H locs hP hD hS => ?_)
        obtain ⟨w25, ew25⟩ : ∃ z : Nat → Int32, z = upd o_s (6 : Int32).toNatClampNeg p1 := ⟨_, rfl⟩
        have hf := bnd_at hf ew25
        have hP : va_P D vwCl [(q_o, .inr (7, [.int 0, .long o_trace, .ref q_o_text, .int o_typed, .int o_next, .int o_token, .int o_place, .int o_value, .int o_fault, .ref q_o_warmth, .ref q_o_side, .ref q_o_seconds, .int o_members, .int o_pairs, .int o_cold, .int o_fur, .int o_coughs, .int o_draftMembers, .int o_draftPairs, .int o_draftCold, .int o_draftFur, .int o_draftCoughs, .ref q_o_s, .ref q_o_kept, .ref q_o_isKept, .ref q_o_undos, .int m21, .ref q_o_seenAt, .ref q_o_seen, .int o_seenMany, .ref q_o_board, .ref q_o_pick, .ref q_o_worth, .ref q_o_best, .int o_chosen])), (q_o_seconds, .inl (cI, 12, .inl o_seconds)), (q_o_s, .inl (cI, 10, .inl w25)), (q_o_undos, .inl (cI, 90, .inl m22))] H := by rw [ew25]; exact hP
        have hD : va_D A [(q_o, .inr (7, [.int 0, .long o_trace, .ref q_o_text, .int o_typed, .int o_next, .int o_token, .int o_place, .int o_value, .int o_fault, .ref q_o_warmth, .ref q_o_side, .ref q_o_seconds, .int o_members, .int o_pairs, .int o_cold, .int o_fur, .int o_coughs, .int o_draftMembers, .int o_draftPairs, .int o_draftCold, .int o_draftFur, .int o_draftCoughs, .ref q_o_s, .ref q_o_kept, .ref q_o_isKept, .ref q_o_undos, .int m21, .ref q_o_seenAt, .ref q_o_seen, .int o_seenMany, .ref q_o_board, .ref q_o_pick, .ref q_o_worth, .ref q_o_best, .int o_chosen])), (q_o_seconds, .inl (cI, 12, .inl o_seconds)), (q_o_s, .inl (cI, 10, .inl w25)), (q_o_undos, .inl (cI, 90, .inl m22))] := by rw [ew25]; exact hD
        refine lv_iconst (v := 0) hx hb dX8_speaks_49 (by decide) ?_
        refine lv_istore_n (lv' := [(3, .int 0), (0, .ref q_o), (1, .int p1), (2, .int p2)]) hx hb dX8_speaks_50 rfl hl (by decide) rfl (fun ls hl => ?_)
        refine lv_iconst (v := 1) hx hb dX8_speaks_51 (by decide) ?_
        refine lv_istore (lv' := [(4, .int 1), (3, .int 0), (0, .ref q_o), (1, .int p1), (2, .int p2)]) hx hb dX8_speaks_52 hl (by decide) rfl (fun ls hl => ?_)
        exact L54 FU p2 0 1 0 m21 w25 m22 _ _ ls hf hP hD hS (lv_sub hl [2, 4, 1, 0] rfl)
      · have hf := ite_p hf c20
        refine lv_bipush (v := (-2)) hx hb dX8_speaks_34 (by decide) ?_
        obtain ⟨e0_, e1_, e2_, e3_, e4_⟩ := tup5 hf
        have hP : va_P D vwCl [(q_o, .inr (7, [.int o_thrown', .long o_trace, .ref q_o_text, .int o_typed, .int o_next, .int o_token, .int o_place, .int o_value, .int o_fault, .ref q_o_warmth, .ref q_o_side, .ref q_o_seconds, .int o_members, .int o_pairs, .int o_cold, .int o_fur, .int o_coughs, .int o_draftMembers, .int o_draftPairs, .int o_draftCold, .int o_draftFur, .int o_draftCoughs, .ref q_o_s, .ref q_o_kept, .ref q_o_isKept, .ref q_o_undos, .int o_undoMany', .ref q_o_seenAt, .ref q_o_seen, .int o_seenMany, .ref q_o_board, .ref q_o_pick, .ref q_o_worth, .ref q_o_best, .int o_chosen])), (q_o_seconds, .inl (cI, 12, .inl o_seconds)), (q_o_s, .inl (cI, 10, .inl o_s')), (q_o_undos, .inl (cI, 90, .inl o_undos'))] H := by rw [← e1_, ← e2_, ← e3_, ← e4_]; exact hP
        have hD : va_D A [(q_o, .inr (7, [.int o_thrown', .long o_trace, .ref q_o_text, .int o_typed, .int o_next, .int o_token, .int o_place, .int o_value, .int o_fault, .ref q_o_warmth, .ref q_o_side, .ref q_o_seconds, .int o_members, .int o_pairs, .int o_cold, .int o_fur, .int o_coughs, .int o_draftMembers, .int o_draftPairs, .int o_draftCold, .int o_draftFur, .int o_draftCoughs, .ref q_o_s, .ref q_o_kept, .ref q_o_isKept, .ref q_o_undos, .int o_undoMany', .ref q_o_seenAt, .ref q_o_seen, .int o_seenMany, .ref q_o_board, .ref q_o_pick, .ref q_o_worth, .ref q_o_best, .int o_chosen])), (q_o_seconds, .inl (cI, 12, .inl o_seconds)), (q_o_s, .inl (cI, 10, .inl o_s')), (q_o_undos, .inl (cI, 90, .inl o_undos'))] := by rw [← e1_, ← e2_, ← e3_, ← e4_]; exact hD
        exact endMI hx hb hr hlocks rfl hP hD hS e0_ dX8_speaks_36
    · have hf := ite_p hf c18
      refine lv_iconst (v := (-1)) hx hb dX8_speaks_23 (by decide) ?_
      obtain ⟨e0_, e1_, e2_, e3_, e4_⟩ := tup5 hf
      have hP : va_P D vwCl [(q_o, .inr (7, [.int o_thrown', .long o_trace, .ref q_o_text, .int o_typed, .int o_next, .int o_token, .int o_place, .int o_value, .int o_fault, .ref q_o_warmth, .ref q_o_side, .ref q_o_seconds, .int o_members, .int o_pairs, .int o_cold, .int o_fur, .int o_coughs, .int o_draftMembers, .int o_draftPairs, .int o_draftCold, .int o_draftFur, .int o_draftCoughs, .ref q_o_s, .ref q_o_kept, .ref q_o_isKept, .ref q_o_undos, .int o_undoMany', .ref q_o_seenAt, .ref q_o_seen, .int o_seenMany, .ref q_o_board, .ref q_o_pick, .ref q_o_worth, .ref q_o_best, .int o_chosen])), (q_o_seconds, .inl (cI, 12, .inl o_seconds)), (q_o_s, .inl (cI, 10, .inl o_s')), (q_o_undos, .inl (cI, 90, .inl o_undos'))] H := by rw [← e1_, ← e2_, ← e3_, ← e4_]; exact hP
      have hD : va_D A [(q_o, .inr (7, [.int o_thrown', .long o_trace, .ref q_o_text, .int o_typed, .int o_next, .int o_token, .int o_place, .int o_value, .int o_fault, .ref q_o_warmth, .ref q_o_side, .ref q_o_seconds, .int o_members, .int o_pairs, .int o_cold, .int o_fur, .int o_coughs, .int o_draftMembers, .int o_draftPairs, .int o_draftCold, .int o_draftFur, .int o_draftCoughs, .ref q_o_s, .ref q_o_kept, .ref q_o_isKept, .ref q_o_undos, .int o_undoMany', .ref q_o_seenAt, .ref q_o_seen, .int o_seenMany, .ref q_o_board, .ref q_o_pick, .ref q_o_worth, .ref q_o_best, .int o_chosen])), (q_o_seconds, .inl (cI, 12, .inl o_seconds)), (q_o_s, .inl (cI, 10, .inl o_s')), (q_o_undos, .inl (cI, 90, .inl o_undos'))] := by rw [← e1_, ← e2_, ← e3_, ← e4_]; exact hD
      exact endMI hx hb hr hlocks rfl hP hD hS e0_ dX8_speaks_24
def f_X8_pause_23_b (o_members : Int32) (o_cold : Int32) (o_seconds : Nat → Int32) (K23 : Int32 → Int32 → Int32 → Int32 → (Nat → Int32) → (Nat → Int32) → (Option (Int32 × Int32 × Int32 × (Nat → Int32) × (Nat → Int32)))) (x1 : Int32) (x2 : Int32) (o_thrown : Int32) (o_undoMany : Int32) (o_s : Nat → Int32) (o_undos : Nat → Int32) : Option (Int32 × Int32 × Int32 × (Nat → Int32) × (Nat → Int32)) :=
  if x1 ≤ x2 then (
    ob1 (f_X8_frozenNow o_members o_s) fun r2 =>
    ob1 (f_X8_ones r2) fun r4 =>
    some (r4, o_thrown, o_undoMany, o_s, o_undos)
  ) else (
    ob1 (f_X8_passes o_members o_cold o_seconds o_s) fun m6 =>
    bnd (x2 + 1) fun y8 =>
    K23 x1 y8 o_thrown o_undoMany m6 o_undos
  )
def f_X8_pause_23 (o_members : Int32) (o_cold : Int32) (o_seconds : Nat → Int32) : Nat → Int32 → Int32 → Int32 → Int32 → (Nat → Int32) → (Nat → Int32) → (Option (Int32 × Int32 × Int32 × (Nat → Int32) × (Nat → Int32)))
  | 0 => fun _ _ _ _ _ _ => none
  | n + 1 => f_X8_pause_23_b o_members o_cold o_seconds (f_X8_pause_23 o_members o_cold o_seconds n)
def f_X8_pause (o_members : Int32) (o_cold : Int32) (o_seconds : Nat → Int32) (o_thrown : Int32) (o_undoMany : Int32) (o_s : Nat → Int32) (o_undos : Nat → Int32) (p1 : Int32) : Option (Int32 × Int32 × Int32 × (Nat → Int32) × (Nat → Int32)) :=
  ob1 (f_X8_in p1 1 9) fun r9 =>
  if r9 = 0 then (
    some ((-1), 0, o_undoMany, o_s, o_undos)
  ) else (
    ob2 (f_X8_notes o_s o_undoMany o_undos) fun m12 m13 =>
    f_X8_pause_23 o_members o_cold o_seconds FU p1 0 0 m12 o_s m13
  )
set_option maxHeartbeats 4000000 in
set_option maxRecDepth 100000 in
theorem c_X8_pause (l : Launch) (D : va_G) (cB cI cZ cM cN : ClassId) (q_o : Nat) (q_o_text : Nat) (q_o_warmth : Nat) (q_o_side : Nat) (q_o_seconds : Nat) (q_o_s : Nat) (q_o_kept : Nat) (q_o_isKept : Nat) (q_o_undos : Nat) (q_o_seenAt : Nat) (q_o_seen : Nat) (q_o_board : Nat) (q_o_pick : Nat) (q_o_worth : Nat) (q_o_best : Nat) (o_thrown : Int32) (o_trace : Int64) (o_typed : Int32) (o_next : Int32) (o_token : Int32) (o_place : Int32) (o_value : Int32) (o_fault : Int32) (o_members : Int32) (o_pairs : Int32) (o_cold : Int32) (o_fur : Int32) (o_coughs : Int32) (o_draftMembers : Int32) (o_draftPairs : Int32) (o_draftCold : Int32) (o_draftFur : Int32) (o_draftCoughs : Int32) (o_undoMany : Int32) (o_seenMany : Int32) (o_chosen : Int32) (o_seconds : Nat → Int32) (o_s : Nat → Int32) (o_undos : Nat → Int32) (p1 : Int32) (r : Int32) (o_thrown' : Int32) (o_undoMany' : Int32) (o_s' : Nat → Int32) (o_undos' : Nat → Int32) (sz : Nat) (hf : f_X8_pause o_members o_cold o_seconds o_thrown o_undoMany o_s o_undos p1 = some (r, o_thrown', o_undoMany', o_s', o_undos')) : Met l yX8_pause wsX8_pause ({ frames := 2, cells := 0, slots := 0, locals := 47 } : Room) (PM D cB cI cZ cM cN [.ref q_o, .int p1] [(q_o, .inr (7, [.int o_thrown, .long o_trace, .ref q_o_text, .int o_typed, .int o_next, .int o_token, .int o_place, .int o_value, .int o_fault, .ref q_o_warmth, .ref q_o_side, .ref q_o_seconds, .int o_members, .int o_pairs, .int o_cold, .int o_fur, .int o_coughs, .int o_draftMembers, .int o_draftPairs, .int o_draftCold, .int o_draftFur, .int o_draftCoughs, .ref q_o_s, .ref q_o_kept, .ref q_o_isKept, .ref q_o_undos, .int o_undoMany, .ref q_o_seenAt, .ref q_o_seen, .int o_seenMany, .ref q_o_board, .ref q_o_pick, .ref q_o_worth, .ref q_o_best, .int o_chosen])), (q_o_seconds, .inl (cI, 12, .inl o_seconds)), (q_o_s, .inl (cI, 10, .inl o_s)), (q_o_undos, .inl (cI, 90, .inl o_undos))] sz) (QI D [(q_o, .inr (7, [.int o_thrown', .long o_trace, .ref q_o_text, .int o_typed, .int o_next, .int o_token, .int o_place, .int o_value, .int o_fault, .ref q_o_warmth, .ref q_o_side, .ref q_o_seconds, .int o_members, .int o_pairs, .int o_cold, .int o_fur, .int o_coughs, .int o_draftMembers, .int o_draftPairs, .int o_draftCold, .int o_draftFur, .int o_draftCoughs, .ref q_o_s, .ref q_o_kept, .ref q_o_isKept, .ref q_o_undos, .int o_undoMany', .ref q_o_seenAt, .ref q_o_seen, .int o_seenMany, .ref q_o_board, .ref q_o_pick, .ref q_o_worth, .ref q_o_best, .int o_chosen])), (q_o_seconds, .inl (cI, 12, .inl o_seconds)), (q_o_s, .inl (cI, 10, .inl o_s')), (q_o_undos, .inl (cI, 90, .inl o_undos'))] r (va_A [(q_o, .inr (7, [.int o_thrown, .long o_trace, .ref q_o_text, .int o_typed, .int o_next, .int o_token, .int o_place, .int o_value, .int o_fault, .ref q_o_warmth, .ref q_o_side, .ref q_o_seconds, .int o_members, .int o_pairs, .int o_cold, .int o_fur, .int o_coughs, .int o_draftMembers, .int o_draftPairs, .int o_draftCold, .int o_draftFur, .int o_draftCoughs, .ref q_o_s, .ref q_o_kept, .ref q_o_isKept, .ref q_o_undos, .int o_undoMany, .ref q_o_seenAt, .ref q_o_seen, .int o_seenMany, .ref q_o_board, .ref q_o_pick, .ref q_o_worth, .ref q_o_best, .int o_chosen])), (q_o_seconds, .inl (cI, 12, .inl o_seconds)), (q_o_s, .inl (cI, 10, .inl o_s)), (q_o_undos, .inl (cI, 90, .inl o_undos))] sz)) 0 0 (va_A [(q_o, .inr (7, [.int o_thrown, .long o_trace, .ref q_o_text, .int o_typed, .int o_next, .int o_token, .int o_place, .int o_value, .int o_fault, .ref q_o_warmth, .ref q_o_side, .ref q_o_seconds, .int o_members, .int o_pairs, .int o_cold, .int o_fur, .int o_coughs, .int o_draftMembers, .int o_draftPairs, .int o_draftCold, .int o_draftFur, .int o_draftCoughs, .ref q_o_s, .ref q_o_kept, .ref q_o_isKept, .ref q_o_undos, .int o_undoMany, .ref q_o_seenAt, .ref q_o_seen, .int o_seenMany, .ref q_o_board, .ref q_o_pick, .ref q_o_worth, .ref q_o_best, .int o_chosen])), (q_o_seconds, .inl (cI, 12, .inl o_seconds)), (q_o_s, .inl (cI, 10, .inl o_s)), (q_o_undos, .inl (cI, 90, .inl o_undos))] sz) := by
  refine entM (l := l) (y := yX8_pause) (ws := wsX8_pause) (cc := cX8_pause) (av := [.ref q_o, .int p1]) (wc := [(q_o, .inr (7, [.int o_thrown, .long o_trace, .ref q_o_text, .int o_typed, .int o_next, .int o_token, .int o_place, .int o_value, .int o_fault, .ref q_o_warmth, .ref q_o_side, .ref q_o_seconds, .int o_members, .int o_pairs, .int o_cold, .int o_fur, .int o_coughs, .int o_draftMembers, .int o_draftPairs, .int o_draftCold, .int o_draftFur, .int o_draftCoughs, .ref q_o_s, .ref q_o_kept, .ref q_o_isKept, .ref q_o_undos, .int o_undoMany, .ref q_o_seenAt, .ref q_o_seen, .int o_seenMany, .ref q_o_board, .ref q_o_pick, .ref q_o_worth, .ref q_o_best, .int o_chosen])), (q_o_seconds, .inl (cI, 12, .inl o_seconds)), (q_o_s, .inl (cI, 10, .inl o_s)), (q_o_undos, .inl (cI, 90, .inl o_undos))]) (sz := sz) (Qc := fun A => QI D [(q_o, .inr (7, [.int o_thrown', .long o_trace, .ref q_o_text, .int o_typed, .int o_next, .int o_token, .int o_place, .int o_value, .int o_fault, .ref q_o_warmth, .ref q_o_side, .ref q_o_seconds, .int o_members, .int o_pairs, .int o_cold, .int o_fur, .int o_coughs, .int o_draftMembers, .int o_draftPairs, .int o_draftCold, .int o_draftFur, .int o_draftCoughs, .ref q_o_s, .ref q_o_kept, .ref q_o_isKept, .ref q_o_undos, .int o_undoMany', .ref q_o_seenAt, .ref q_o_seen, .int o_seenMany, .ref q_o_board, .ref q_o_pick, .ref q_o_worth, .ref q_o_best, .int o_chosen])), (q_o_seconds, .inl (cI, 12, .inl o_seconds)), (q_o_s, .inl (cI, 10, .inl o_s')), (q_o_undos, .inl (cI, 90, .inl o_undos'))] r A) (by decide +kernel) rfl (Nat.le_of_ble_eq_true rfl) ?_
  intro A p e s m below meth c hx hb hr hml hown hlocks hts hK hA H locs hP hD hS ls hl
  have hown : s.vm.findClass RX8 = some m.cls := hown
  have hl : lv_has ls 3 [(0, .ref q_o), (1, .int p1)] := hl
  have hfix : CallFix p m c cX8_pause 3 s ([.ref q_o, .int p1] : List Value).toArray wsX8_pause RX8 := ⟨hx, hb, hml, hown, hts⟩
  have hinX8 : ∀ w ∈ u_ws RX8 TX8 35, w ∈ wsX8_pause := by decide +kernel
  have g63 := hts (.fieldLink RX8 63 "LastCoatModel" "thrown" "I") (by decide +kernel)
  have L23 : ∀ (n23 : Nat) (x1 : Int32) (x2 : Int32) (o_thrown : Int32) (o_undoMany : Int32) (o_s : Nat → Int32) (o_undos : Nat → Int32) (H : Heap) (locs : List Loc) (ls : Array Slot), f_X8_pause_23 o_members o_cold o_seconds n23 x1 x2 o_thrown o_undoMany o_s o_undos = some (r, o_thrown', o_undoMany', o_s', o_undos') → va_P D vwCl [(q_o, .inr (7, [.int o_thrown, .long o_trace, .ref q_o_text, .int o_typed, .int o_next, .int o_token, .int o_place, .int o_value, .int o_fault, .ref q_o_warmth, .ref q_o_side, .ref q_o_seconds, .int o_members, .int o_pairs, .int o_cold, .int o_fur, .int o_coughs, .int o_draftMembers, .int o_draftPairs, .int o_draftCold, .int o_draftFur, .int o_draftCoughs, .ref q_o_s, .ref q_o_kept, .ref q_o_isKept, .ref q_o_undos, .int o_undoMany, .ref q_o_seenAt, .ref q_o_seen, .int o_seenMany, .ref q_o_board, .ref q_o_pick, .ref q_o_worth, .ref q_o_best, .int o_chosen])), (q_o_seconds, .inl (cI, 12, .inl o_seconds)), (q_o_s, .inl (cI, 10, .inl o_s)), (q_o_undos, .inl (cI, 90, .inl o_undos))] H → va_D A [(q_o, .inr (7, [.int o_thrown, .long o_trace, .ref q_o_text, .int o_typed, .int o_next, .int o_token, .int o_place, .int o_value, .int o_fault, .ref q_o_warmth, .ref q_o_side, .ref q_o_seconds, .int o_members, .int o_pairs, .int o_cold, .int o_fur, .int o_coughs, .int o_draftMembers, .int o_draftPairs, .int o_draftCold, .int o_draftFur, .int o_draftCoughs, .ref q_o_s, .ref q_o_kept, .ref q_o_isKept, .ref q_o_undos, .int o_undoMany, .ref q_o_seenAt, .ref q_o_seen, .int o_seenMany, .ref q_o_board, .ref q_o_pick, .ref q_o_worth, .ref q_o_best, .int o_chosen])), (q_o_seconds, .inl (cI, 12, .inl o_seconds)), (q_o_s, .inl (cI, 10, .inl o_s)), (q_o_undos, .inl (cI, 90, .inl o_undos))] → va_S A s.heap H locs → lv_has ls 3 [(0, .ref q_o), (1, .int x1), (2, .int x2)] → W p l e ({ frames := 2, cells := 0, slots := 0, locals := 47 } : Room) s m ([.ref q_o, .int p1] : List Value).toArray below meth c H locs 0 0 (MQ below (QI D [(q_o, .inr (7, [.int o_thrown', .long o_trace, .ref q_o_text, .int o_typed, .int o_next, .int o_token, .int o_place, .int o_value, .int o_fault, .ref q_o_warmth, .ref q_o_side, .ref q_o_seconds, .int o_members, .int o_pairs, .int o_cold, .int o_fur, .int o_coughs, .int o_draftMembers, .int o_draftPairs, .int o_draftCold, .int o_draftFur, .int o_draftCoughs, .ref q_o_s, .ref q_o_kept, .ref q_o_isKept, .ref q_o_undos, .int o_undoMany', .ref q_o_seenAt, .ref q_o_seen, .int o_seenMany, .ref q_o_board, .ref q_o_pick, .ref q_o_worth, .ref q_o_best, .int o_chosen])), (q_o_seconds, .inl (cI, 12, .inl o_seconds)), (q_o_s, .inl (cI, 10, .inl o_s')), (q_o_undos, .inl (cI, 90, .inl o_undos'))] r A) ([.ref q_o, .int p1] : List Value).toArray s 0 0 A) (F0 m 23 ls []) := by
    intro n23
    induction n23 with
    | zero =>
      intro x1 x2 o_thrown o_undoMany o_s o_undos H locs ls hf hP hD hS hl
      exact noneNe hf
    | succ n23 ih23 =>
      intro x1 x2 o_thrown o_undoMany o_s o_undos H locs ls hf hP hD hS hl
      have hf : f_X8_pause_23_b o_members o_cold o_seconds (f_X8_pause_23 o_members o_cold o_seconds n23) x1 x2 o_thrown o_undoMany o_s o_undos = some (r, o_thrown', o_undoMany', o_s', o_undos') := hf
      unfold f_X8_pause_23_b at hf
      refine lv_iload_n hx hb dX8_pause_23 rfl (lv_at hl 2 rfl) ?_
      refine lv_iload_n hx hb dX8_pause_24 rfl (lv_at hl 1 rfl) ?_
      refine lv_icmp_ge (tgt := 38) hx hb dX8_pause_25 (by decide) (fun c1 => ?_) (fun c1 => ?_)
      · have hf := ite_p hf c1
        refine lv_aload_n hx hb dX8_pause_38 rfl (lv_at hl 0 rfl) ?_
        obtain ⟨r2, h3, hf⟩ := ob1_some hf
        refine roV (c_X8_frozenNow l D cB cI cZ cM cN q_o q_o_text q_o_warmth q_o_side q_o_seconds q_o_s q_o_kept q_o_isKept q_o_undos q_o_seenAt q_o_seen q_o_board q_o_pick q_o_worth q_o_best o_thrown o_trace o_typed o_next o_token o_place o_value o_fault o_members o_pairs o_cold o_fur o_coughs o_draftMembers o_draftPairs o_draftCold o_draftFur o_draftCoughs o_undoMany o_seenMany o_chosen o_s r2 h3) hfix (cwV 0 hts gX8_pause_X8_frozenNow rfl rfl rfl (by decide +kernel) ⟨Nat.le_of_ble_eq_true rfl, Nat.le_of_ble_eq_true rfl⟩) (subC hP [0, 2] rfl) hK rfl rfl rfl rfl hl.1 rfl (Nat.le_of_ble_eq_true rfl) dX8_pause_39 ⟨Nat.zero_le _, Nat.zero_le _⟩ ?_
        obtain ⟨r4, h5, hf⟩ := ob1_some hf
        refine roS (c_X8_ones l D cB cI cZ cM cN r2 r4 h5) hfix (va_cwS 1 hts gX8_pause_X8_ones rfl rfl rfl (by decide +kernel) ⟨Nat.le_of_ble_eq_true rfl, Nat.le_of_ble_eq_true rfl⟩) (subC hP [] rfl) hK rfl hl.1 rfl (Nat.le_of_ble_eq_true rfl) dX8_pause_42 ⟨Nat.zero_le _, Nat.zero_le _⟩ ?_
        obtain ⟨e0_, e1_, e2_, e3_, e4_⟩ := tup5 hf
        have hP : va_P D vwCl [(q_o, .inr (7, [.int o_thrown', .long o_trace, .ref q_o_text, .int o_typed, .int o_next, .int o_token, .int o_place, .int o_value, .int o_fault, .ref q_o_warmth, .ref q_o_side, .ref q_o_seconds, .int o_members, .int o_pairs, .int o_cold, .int o_fur, .int o_coughs, .int o_draftMembers, .int o_draftPairs, .int o_draftCold, .int o_draftFur, .int o_draftCoughs, .ref q_o_s, .ref q_o_kept, .ref q_o_isKept, .ref q_o_undos, .int o_undoMany', .ref q_o_seenAt, .ref q_o_seen, .int o_seenMany, .ref q_o_board, .ref q_o_pick, .ref q_o_worth, .ref q_o_best, .int o_chosen])), (q_o_seconds, .inl (cI, 12, .inl o_seconds)), (q_o_s, .inl (cI, 10, .inl o_s')), (q_o_undos, .inl (cI, 90, .inl o_undos'))] H := by rw [← e1_, ← e2_, ← e3_, ← e4_]; exact hP
        have hD : va_D A [(q_o, .inr (7, [.int o_thrown', .long o_trace, .ref q_o_text, .int o_typed, .int o_next, .int o_token, .int o_place, .int o_value, .int o_fault, .ref q_o_warmth, .ref q_o_side, .ref q_o_seconds, .int o_members, .int o_pairs, .int o_cold, .int o_fur, .int o_coughs, .int o_draftMembers, .int o_draftPairs, .int o_draftCold, .int o_draftFur, .int o_draftCoughs, .ref q_o_s, .ref q_o_kept, .ref q_o_isKept, .ref q_o_undos, .int o_undoMany', .ref q_o_seenAt, .ref q_o_seen, .int o_seenMany, .ref q_o_board, .ref q_o_pick, .ref q_o_worth, .ref q_o_best, .int o_chosen])), (q_o_seconds, .inl (cI, 12, .inl o_seconds)), (q_o_s, .inl (cI, 10, .inl o_s')), (q_o_undos, .inl (cI, 90, .inl o_undos'))] := by rw [← e1_, ← e2_, ← e3_, ← e4_]; exact hD
        exact endMI hx hb hr hlocks rfl hP hD hS e0_ dX8_pause_45
      · have hf := ite_n hf c1
        refine lv_aload_n hx hb dX8_pause_28 rfl (lv_at hl 0 rfl) ?_
        obtain ⟨m6, h7, hf⟩ := ob1_some hf
        refine muVv (wr := [(q_o_undos, .inl (cI, 90, .inl o_undos))]) (ws1 := [(q_o, .inr (7, [.int o_thrown, .long o_trace, .ref q_o_text, .int o_typed, .int o_next, .int o_token, .int o_place, .int o_value, .int o_fault, .ref q_o_warmth, .ref q_o_side, .ref q_o_seconds, .int o_members, .int o_pairs, .int o_cold, .int o_fur, .int o_coughs, .int o_draftMembers, .int o_draftPairs, .int o_draftCold, .int o_draftFur, .int o_draftCoughs, .ref q_o_s, .ref q_o_kept, .ref q_o_isKept, .ref q_o_undos, .int o_undoMany, .ref q_o_seenAt, .ref q_o_seen, .int o_seenMany, .ref q_o_board, .ref q_o_pick, .ref q_o_worth, .ref q_o_best, .int o_chosen])), (q_o_seconds, .inl (cI, 12, .inl o_seconds)), (q_o_s, .inl (cI, 10, .inl m6)), (q_o_undos, .inl (cI, 90, .inl o_undos))]) (c_X8_passes l D cB cI cZ cM cN q_o q_o_text q_o_warmth q_o_side q_o_seconds q_o_s q_o_kept q_o_isKept q_o_undos q_o_seenAt q_o_seen q_o_board q_o_pick q_o_worth q_o_best o_thrown o_trace o_typed o_next o_token o_place o_value o_fault o_members o_pairs o_cold o_fur o_coughs o_draftMembers o_draftPairs o_draftCold o_draftFur o_draftCoughs o_undoMany o_seenMany o_chosen o_seconds o_s m6 H.size h7) hfix (cwV 0 hts gX8_pause_X8_passes rfl rfl rfl (by decide +kernel) ⟨Nat.le_of_ble_eq_true rfl, Nat.le_of_ble_eq_true rfl⟩) hP hK hD hA hS [0, 1, 2] [3] [1, 2, 3, 0] rfl rfl rfl rfl (by decide) rfl rfl rfl rfl rfl rfl hl.1 rfl (Nat.le_of_ble_eq_true rfl) dX8_pause_29 ⟨Nat.zero_le _, Nat.zero_le _⟩ (fun H locs hP hD hS => ?_)
        obtain ⟨y8, ey8⟩ : ∃ z : Int32, z = x2 + 1 := ⟨_, rfl⟩
        have hf := bnd_at hf ey8
        refine lv_iinc (v := y8) (lv' := [(2, .int y8), (0, .ref q_o), (1, .int x1)]) hx hb dX8_pause_32 hl (k := 2) rfl (by rw [ey8]; rfl) (by decide) rfl (fun ls hl => ?_)
        refine lv_goto (tgt := 23) hx hb dX8_pause_35 (by decide) ?_
        exact ih23 x1 y8 o_thrown o_undoMany m6 o_undos _ _ ls hf hP hD hS (lv_sub hl [1, 2, 0] rfl)
  unfold f_X8_pause at hf
  refine lv_aload_n hx hb dX8_pause_0 rfl (lv_at hl 0 rfl) ?_
  refine lv_iconst (v := 0) hx hb dX8_pause_1 (by decide) ?_
  refine va_put (D := D) (ci := 7) (v := .int 0) (ty := .int) (C := RX8) (T := TX8) (N := 35) hx hb hts hinX8 tyX8 tyX8_ok nmX8 hown hK.1 hP hD hS 0 rfl rfl 0 (by decide) g63 (fun _ h9 => h9) rfl (by decide +kernel) rfl rfl (Nat.le_of_ble_eq_true rfl) dX8_pause_2 (fun H locs hP hD hS => ?_)
  have hP : va_P D vwCl [(q_o, .inr (7, [.int 0, .long o_trace, .ref q_o_text, .int o_typed, .int o_next, .int o_token, .int o_place, .int o_value, .int o_fault, .ref q_o_warmth, .ref q_o_side, .ref q_o_seconds, .int o_members, .int o_pairs, .int o_cold, .int o_fur, .int o_coughs, .int o_draftMembers, .int o_draftPairs, .int o_draftCold, .int o_draftFur, .int o_draftCoughs, .ref q_o_s, .ref q_o_kept, .ref q_o_isKept, .ref q_o_undos, .int o_undoMany, .ref q_o_seenAt, .ref q_o_seen, .int o_seenMany, .ref q_o_board, .ref q_o_pick, .ref q_o_worth, .ref q_o_best, .int o_chosen])), (q_o_seconds, .inl (cI, 12, .inl o_seconds)), (q_o_s, .inl (cI, 10, .inl o_s)), (q_o_undos, .inl (cI, 90, .inl o_undos))] H := hP
  have hD : va_D A [(q_o, .inr (7, [.int 0, .long o_trace, .ref q_o_text, .int o_typed, .int o_next, .int o_token, .int o_place, .int o_value, .int o_fault, .ref q_o_warmth, .ref q_o_side, .ref q_o_seconds, .int o_members, .int o_pairs, .int o_cold, .int o_fur, .int o_coughs, .int o_draftMembers, .int o_draftPairs, .int o_draftCold, .int o_draftFur, .int o_draftCoughs, .ref q_o_s, .ref q_o_kept, .ref q_o_isKept, .ref q_o_undos, .int o_undoMany, .ref q_o_seenAt, .ref q_o_seen, .int o_seenMany, .ref q_o_board, .ref q_o_pick, .ref q_o_worth, .ref q_o_best, .int o_chosen])), (q_o_seconds, .inl (cI, 12, .inl o_seconds)), (q_o_s, .inl (cI, 10, .inl o_s)), (q_o_undos, .inl (cI, 90, .inl o_undos))] := hD
  refine lv_iload_n hx hb dX8_pause_5 rfl (lv_at hl 1 rfl) ?_
  refine lv_iconst (v := 1) hx hb dX8_pause_6 (by decide) ?_
  refine lv_bipush (v := 9) hx hb dX8_pause_7 (by decide) ?_
  obtain ⟨r9, h10, hf⟩ := ob1_some hf
  refine roS (c_X8_in l D cB cI cZ cM cN p1 1 9 r9 h10) hfix (va_cwS 3 hts gX8_pause_X8_in rfl rfl rfl (by decide +kernel) ⟨Nat.le_of_ble_eq_true rfl, Nat.le_of_ble_eq_true rfl⟩) (subC hP [] rfl) hK rfl hl.1 rfl (Nat.le_of_ble_eq_true rfl) dX8_pause_9 ⟨Nat.zero_le _, Nat.zero_le _⟩ ?_
  refine lv_if_ne (tgt := 17) hx hb dX8_pause_12 (by decide) (fun c11 => ?_) (fun c11 => ?_)
  · have hf := ite_n hf c11
    refine lv_aload_n hx hb dX8_pause_17 rfl (lv_at hl 0 rfl) ?_
    obtain ⟨m12, m13, h14, hf⟩ := ob2_some hf
    refine muVv (wr := [(q_o_seconds, .inl (cI, 12, .inl o_seconds))]) (ws1 := [(q_o, .inr (7, [.int 0, .long o_trace, .ref q_o_text, .int o_typed, .int o_next, .int o_token, .int o_place, .int o_value, .int o_fault, .ref q_o_warmth, .ref q_o_side, .ref q_o_seconds, .int o_members, .int o_pairs, .int o_cold, .int o_fur, .int o_coughs, .int o_draftMembers, .int o_draftPairs, .int o_draftCold, .int o_draftFur, .int o_draftCoughs, .ref q_o_s, .ref q_o_kept, .ref q_o_isKept, .ref q_o_undos, .int m12, .ref q_o_seenAt, .ref q_o_seen, .int o_seenMany, .ref q_o_board, .ref q_o_pick, .ref q_o_worth, .ref q_o_best, .int o_chosen])), (q_o_seconds, .inl (cI, 12, .inl o_seconds)), (q_o_s, .inl (cI, 10, .inl o_s)), (q_o_undos, .inl (cI, 90, .inl m13))]) (c_X8_notes l D cB cI cZ cM cN q_o q_o_text q_o_warmth q_o_side q_o_seconds q_o_s q_o_kept q_o_isKept q_o_undos q_o_seenAt q_o_seen q_o_board q_o_pick q_o_worth q_o_best 0 o_trace o_typed o_next o_token o_place o_value o_fault o_members o_pairs o_cold o_fur o_coughs o_draftMembers o_draftPairs o_draftCold o_draftFur o_draftCoughs o_undoMany o_seenMany o_chosen o_s o_undos m12 m13 H.size h14) hfix (cwV 0 hts gX8_pause_X8_notes rfl rfl rfl (by decide +kernel) ⟨Nat.le_of_ble_eq_true rfl, Nat.le_of_ble_eq_true rfl⟩) hP hK hD hA hS [0, 2, 3] [1] [1, 0, 2, 3] rfl rfl rfl rfl (by decide) rfl rfl rfl rfl rfl rfl hl.1 rfl (Nat.le_of_ble_eq_true rfl) dX8_pause_18 ⟨Nat.zero_le _, Nat.zero_le _⟩ (fun H locs hP hD hS => ?_)
    refine lv_iconst (v := 0) hx hb dX8_pause_21 (by decide) ?_
    refine lv_istore_n (lv' := [(2, .int 0), (0, .ref q_o), (1, .int p1)]) hx hb dX8_pause_22 rfl hl (by decide) rfl (fun ls hl => ?_)
    exact L23 FU p1 0 0 m12 o_s m13 _ _ ls hf hP hD hS (lv_sub hl [1, 2, 0] rfl)
  · have hf := ite_p hf c11
    refine lv_iconst (v := (-1)) hx hb dX8_pause_15 (by decide) ?_
    obtain ⟨e0_, e1_, e2_, e3_, e4_⟩ := tup5 hf
    have hP : va_P D vwCl [(q_o, .inr (7, [.int o_thrown', .long o_trace, .ref q_o_text, .int o_typed, .int o_next, .int o_token, .int o_place, .int o_value, .int o_fault, .ref q_o_warmth, .ref q_o_side, .ref q_o_seconds, .int o_members, .int o_pairs, .int o_cold, .int o_fur, .int o_coughs, .int o_draftMembers, .int o_draftPairs, .int o_draftCold, .int o_draftFur, .int o_draftCoughs, .ref q_o_s, .ref q_o_kept, .ref q_o_isKept, .ref q_o_undos, .int o_undoMany', .ref q_o_seenAt, .ref q_o_seen, .int o_seenMany, .ref q_o_board, .ref q_o_pick, .ref q_o_worth, .ref q_o_best, .int o_chosen])), (q_o_seconds, .inl (cI, 12, .inl o_seconds)), (q_o_s, .inl (cI, 10, .inl o_s')), (q_o_undos, .inl (cI, 90, .inl o_undos'))] H := by rw [← e1_, ← e2_, ← e3_, ← e4_]; exact hP
    have hD : va_D A [(q_o, .inr (7, [.int o_thrown', .long o_trace, .ref q_o_text, .int o_typed, .int o_next, .int o_token, .int o_place, .int o_value, .int o_fault, .ref q_o_warmth, .ref q_o_side, .ref q_o_seconds, .int o_members, .int o_pairs, .int o_cold, .int o_fur, .int o_coughs, .int o_draftMembers, .int o_draftPairs, .int o_draftCold, .int o_draftFur, .int o_draftCoughs, .ref q_o_s, .ref q_o_kept, .ref q_o_isKept, .ref q_o_undos, .int o_undoMany', .ref q_o_seenAt, .ref q_o_seen, .int o_seenMany, .ref q_o_board, .ref q_o_pick, .ref q_o_worth, .ref q_o_best, .int o_chosen])), (q_o_seconds, .inl (cI, 12, .inl o_seconds)), (q_o_s, .inl (cI, 10, .inl o_s')), (q_o_undos, .inl (cI, 90, .inl o_undos'))] := by rw [← e1_, ← e2_, ← e3_, ← e4_]; exact hD
    exact endMI hx hb hr hlocks rfl hP hD hS e0_ dX8_pause_16
def f_X8_lining (o_thrown : Int32) (o_undoMany : Int32) (o_s : Nat → Int32) (o_undos : Nat → Int32) : Option (Int32 × Int32 × Int32 × (Nat → Int32) × (Nat → Int32)) :=
  ing 7 10 <|
  if (o_s (7 : Int32).toNatClampNeg) = 5 then (
    some ((-2), 0, o_undoMany, o_s, o_undos)
  ) else (
    ob2 (f_X8_notes o_s o_undoMany o_undos) fun m3 m4 =>
    ing 7 10 <|
    ing 7 10 <|
    bnd (upd o_s (7 : Int32).toNatClampNeg ((o_s (7 : Int32).toNatClampNeg) + 1)) fun w8 =>
    ing 7 10 <|
    some (w8 (7 : Int32).toNatClampNeg, 0, m3, w8, m4)
  )
set_option maxHeartbeats 4000000 in
set_option maxRecDepth 100000 in
theorem c_X8_lining (l : Launch) (D : va_G) (cB cI cZ cM cN : ClassId) (q_o : Nat) (q_o_text : Nat) (q_o_warmth : Nat) (q_o_side : Nat) (q_o_seconds : Nat) (q_o_s : Nat) (q_o_kept : Nat) (q_o_isKept : Nat) (q_o_undos : Nat) (q_o_seenAt : Nat) (q_o_seen : Nat) (q_o_board : Nat) (q_o_pick : Nat) (q_o_worth : Nat) (q_o_best : Nat) (o_thrown : Int32) (o_trace : Int64) (o_typed : Int32) (o_next : Int32) (o_token : Int32) (o_place : Int32) (o_value : Int32) (o_fault : Int32) (o_members : Int32) (o_pairs : Int32) (o_cold : Int32) (o_fur : Int32) (o_coughs : Int32) (o_draftMembers : Int32) (o_draftPairs : Int32) (o_draftCold : Int32) (o_draftFur : Int32) (o_draftCoughs : Int32) (o_undoMany : Int32) (o_seenMany : Int32) (o_chosen : Int32) (o_s : Nat → Int32) (o_undos : Nat → Int32) (r : Int32) (o_thrown' : Int32) (o_undoMany' : Int32) (o_s' : Nat → Int32) (o_undos' : Nat → Int32) (sz : Nat) (hf : f_X8_lining o_thrown o_undoMany o_s o_undos = some (r, o_thrown', o_undoMany', o_s', o_undos')) : Met l yX8_lining wsX8_lining ({ frames := 1, cells := 0, slots := 0, locals := 21 } : Room) (PM D cB cI cZ cM cN [.ref q_o] [(q_o, .inr (7, [.int o_thrown, .long o_trace, .ref q_o_text, .int o_typed, .int o_next, .int o_token, .int o_place, .int o_value, .int o_fault, .ref q_o_warmth, .ref q_o_side, .ref q_o_seconds, .int o_members, .int o_pairs, .int o_cold, .int o_fur, .int o_coughs, .int o_draftMembers, .int o_draftPairs, .int o_draftCold, .int o_draftFur, .int o_draftCoughs, .ref q_o_s, .ref q_o_kept, .ref q_o_isKept, .ref q_o_undos, .int o_undoMany, .ref q_o_seenAt, .ref q_o_seen, .int o_seenMany, .ref q_o_board, .ref q_o_pick, .ref q_o_worth, .ref q_o_best, .int o_chosen])), (q_o_s, .inl (cI, 10, .inl o_s)), (q_o_undos, .inl (cI, 90, .inl o_undos))] sz) (QI D [(q_o, .inr (7, [.int o_thrown', .long o_trace, .ref q_o_text, .int o_typed, .int o_next, .int o_token, .int o_place, .int o_value, .int o_fault, .ref q_o_warmth, .ref q_o_side, .ref q_o_seconds, .int o_members, .int o_pairs, .int o_cold, .int o_fur, .int o_coughs, .int o_draftMembers, .int o_draftPairs, .int o_draftCold, .int o_draftFur, .int o_draftCoughs, .ref q_o_s, .ref q_o_kept, .ref q_o_isKept, .ref q_o_undos, .int o_undoMany', .ref q_o_seenAt, .ref q_o_seen, .int o_seenMany, .ref q_o_board, .ref q_o_pick, .ref q_o_worth, .ref q_o_best, .int o_chosen])), (q_o_s, .inl (cI, 10, .inl o_s')), (q_o_undos, .inl (cI, 90, .inl o_undos'))] r (va_A [(q_o, .inr (7, [.int o_thrown, .long o_trace, .ref q_o_text, .int o_typed, .int o_next, .int o_token, .int o_place, .int o_value, .int o_fault, .ref q_o_warmth, .ref q_o_side, .ref q_o_seconds, .int o_members, .int o_pairs, .int o_cold, .int o_fur, .int o_coughs, .int o_draftMembers, .int o_draftPairs, .int o_draftCold, .int o_draftFur, .int o_draftCoughs, .ref q_o_s, .ref q_o_kept, .ref q_o_isKept, .ref q_o_undos, .int o_undoMany, .ref q_o_seenAt, .ref q_o_seen, .int o_seenMany, .ref q_o_board, .ref q_o_pick, .ref q_o_worth, .ref q_o_best, .int o_chosen])), (q_o_s, .inl (cI, 10, .inl o_s)), (q_o_undos, .inl (cI, 90, .inl o_undos))] sz)) 0 0 (va_A [(q_o, .inr (7, [.int o_thrown, .long o_trace, .ref q_o_text, .int o_typed, .int o_next, .int o_token, .int o_place, .int o_value, .int o_fault, .ref q_o_warmth, .ref q_o_side, .ref q_o_seconds, .int o_members, .int o_pairs, .int o_cold, .int o_fur, .int o_coughs, .int o_draftMembers, .int o_draftPairs, .int o_draftCold, .int o_draftFur, .int o_draftCoughs, .ref q_o_s, .ref q_o_kept, .ref q_o_isKept, .ref q_o_undos, .int o_undoMany, .ref q_o_seenAt, .ref q_o_seen, .int o_seenMany, .ref q_o_board, .ref q_o_pick, .ref q_o_worth, .ref q_o_best, .int o_chosen])), (q_o_s, .inl (cI, 10, .inl o_s)), (q_o_undos, .inl (cI, 90, .inl o_undos))] sz) := by
  refine entM (l := l) (y := yX8_lining) (ws := wsX8_lining) (cc := cX8_lining) (av := [.ref q_o]) (wc := [(q_o, .inr (7, [.int o_thrown, .long o_trace, .ref q_o_text, .int o_typed, .int o_next, .int o_token, .int o_place, .int o_value, .int o_fault, .ref q_o_warmth, .ref q_o_side, .ref q_o_seconds, .int o_members, .int o_pairs, .int o_cold, .int o_fur, .int o_coughs, .int o_draftMembers, .int o_draftPairs, .int o_draftCold, .int o_draftFur, .int o_draftCoughs, .ref q_o_s, .ref q_o_kept, .ref q_o_isKept, .ref q_o_undos, .int o_undoMany, .ref q_o_seenAt, .ref q_o_seen, .int o_seenMany, .ref q_o_board, .ref q_o_pick, .ref q_o_worth, .ref q_o_best, .int o_chosen])), (q_o_s, .inl (cI, 10, .inl o_s)), (q_o_undos, .inl (cI, 90, .inl o_undos))]) (sz := sz) (Qc := fun A => QI D [(q_o, .inr (7, [.int o_thrown', .long o_trace, .ref q_o_text, .int o_typed, .int o_next, .int o_token, .int o_place, .int o_value, .int o_fault, .ref q_o_warmth, .ref q_o_side, .ref q_o_seconds, .int o_members, .int o_pairs, .int o_cold, .int o_fur, .int o_coughs, .int o_draftMembers, .int o_draftPairs, .int o_draftCold, .int o_draftFur, .int o_draftCoughs, .ref q_o_s, .ref q_o_kept, .ref q_o_isKept, .ref q_o_undos, .int o_undoMany', .ref q_o_seenAt, .ref q_o_seen, .int o_seenMany, .ref q_o_board, .ref q_o_pick, .ref q_o_worth, .ref q_o_best, .int o_chosen])), (q_o_s, .inl (cI, 10, .inl o_s')), (q_o_undos, .inl (cI, 90, .inl o_undos'))] r A) (by decide +kernel) rfl (Nat.le_of_ble_eq_true rfl) ?_
  intro A p e s m below meth c hx hb hr hml hown hlocks hts hK hA H locs hP hD hS ls hl
  have hown : s.vm.findClass RX8 = some m.cls := hown
  have hl : lv_has ls 1 [(0, .ref q_o)] := hl
  have hfix : CallFix p m c cX8_lining 1 s ([.ref q_o] : List Value).toArray wsX8_lining RX8 := ⟨hx, hb, hml, hown, hts⟩
  have hinX8 : ∀ w ∈ u_ws RX8 TX8 35, w ∈ wsX8_lining := by decide +kernel
  have g63 := hts (.fieldLink RX8 63 "LastCoatModel" "thrown" "I") (by decide +kernel)
  have g22 := hts (.fieldLink RX8 22 "LastCoatModel" "s" "[I") (by decide +kernel)
  unfold f_X8_lining at hf
  refine lv_aload_n hx hb dX8_lining_0 rfl (lv_at hl 0 rfl) ?_
  refine lv_iconst (v := 0) hx hb dX8_lining_1 (by decide) ?_
  refine va_put (D := D) (ci := 7) (v := .int 0) (ty := .int) (C := RX8) (T := TX8) (N := 35) hx hb hts hinX8 tyX8 tyX8_ok nmX8 hown hK.1 hP hD hS 0 rfl rfl 0 (by decide) g63 (fun _ h9 => h9) rfl (by decide +kernel) rfl rfl (Nat.le_of_ble_eq_true rfl) dX8_lining_2 (fun H locs hP hD hS => ?_)
  have hP : va_P D vwCl [(q_o, .inr (7, [.int 0, .long o_trace, .ref q_o_text, .int o_typed, .int o_next, .int o_token, .int o_place, .int o_value, .int o_fault, .ref q_o_warmth, .ref q_o_side, .ref q_o_seconds, .int o_members, .int o_pairs, .int o_cold, .int o_fur, .int o_coughs, .int o_draftMembers, .int o_draftPairs, .int o_draftCold, .int o_draftFur, .int o_draftCoughs, .ref q_o_s, .ref q_o_kept, .ref q_o_isKept, .ref q_o_undos, .int o_undoMany, .ref q_o_seenAt, .ref q_o_seen, .int o_seenMany, .ref q_o_board, .ref q_o_pick, .ref q_o_worth, .ref q_o_best, .int o_chosen])), (q_o_s, .inl (cI, 10, .inl o_s)), (q_o_undos, .inl (cI, 90, .inl o_undos))] H := hP
  have hD : va_D A [(q_o, .inr (7, [.int 0, .long o_trace, .ref q_o_text, .int o_typed, .int o_next, .int o_token, .int o_place, .int o_value, .int o_fault, .ref q_o_warmth, .ref q_o_side, .ref q_o_seconds, .int o_members, .int o_pairs, .int o_cold, .int o_fur, .int o_coughs, .int o_draftMembers, .int o_draftPairs, .int o_draftCold, .int o_draftFur, .int o_draftCoughs, .ref q_o_s, .ref q_o_kept, .ref q_o_isKept, .ref q_o_undos, .int o_undoMany, .ref q_o_seenAt, .ref q_o_seen, .int o_seenMany, .ref q_o_board, .ref q_o_pick, .ref q_o_worth, .ref q_o_best, .int o_chosen])), (q_o_s, .inl (cI, 10, .inl o_s)), (q_o_undos, .inl (cI, 90, .inl o_undos))] := hD
  refine lv_aload_n hx hb dX8_lining_5 rfl (lv_at hl 0 rfl) ?_
  refine va_get (D := D) (ci := 7) (v := .ref q_o_s) (C := RX8) (T := TX8) (N := 35) hx hb hts hinX8 hown hK.1 hP 0 rfl rfl 22 (by decide) g22 (fun _ h9 => h9) rfl dX8_lining_6 ?_
  refine lv_bipush (v := 7) hx hb dX8_lining_9 (by decide) ?_
  obtain ⟨g1, hf⟩ := ing_some hf
  refine va_iald hx hb hK.1 hP 1 1 rfl rfl g1 dX8_lining_11 ?_
  refine lv_iconst (v := 5) hx hb dX8_lining_12 (by decide) ?_
  refine lv_icmp_ne (tgt := 19) hx hb dX8_lining_13 (by decide) (fun c2 => ?_) (fun c2 => ?_)
  · have hf := ite_n hf c2
    refine lv_aload_n hx hb dX8_lining_19 rfl (lv_at hl 0 rfl) ?_
    obtain ⟨m3, m4, h5, hf⟩ := ob2_some hf
    refine muVv (wr := []) (ws1 := [(q_o, .inr (7, [.int 0, .long o_trace, .ref q_o_text, .int o_typed, .int o_next, .int o_token, .int o_place, .int o_value, .int o_fault, .ref q_o_warmth, .ref q_o_side, .ref q_o_seconds, .int o_members, .int o_pairs, .int o_cold, .int o_fur, .int o_coughs, .int o_draftMembers, .int o_draftPairs, .int o_draftCold, .int o_draftFur, .int o_draftCoughs, .ref q_o_s, .ref q_o_kept, .ref q_o_isKept, .ref q_o_undos, .int m3, .ref q_o_seenAt, .ref q_o_seen, .int o_seenMany, .ref q_o_board, .ref q_o_pick, .ref q_o_worth, .ref q_o_best, .int o_chosen])), (q_o_s, .inl (cI, 10, .inl o_s)), (q_o_undos, .inl (cI, 90, .inl m4))]) (c_X8_notes l D cB cI cZ cM cN q_o q_o_text q_o_warmth q_o_side q_o_seconds q_o_s q_o_kept q_o_isKept q_o_undos q_o_seenAt q_o_seen q_o_board q_o_pick q_o_worth q_o_best 0 o_trace o_typed o_next o_token o_place o_value o_fault o_members o_pairs o_cold o_fur o_coughs o_draftMembers o_draftPairs o_draftCold o_draftFur o_draftCoughs o_undoMany o_seenMany o_chosen o_s o_undos m3 m4 H.size h5) hfix (cwV 0 hts gX8_lining_X8_notes rfl rfl rfl (by decide +kernel) ⟨Nat.le_of_ble_eq_true rfl, Nat.le_of_ble_eq_true rfl⟩) hP hK hD hA hS [0, 1, 2] [] [0, 1, 2] rfl rfl rfl rfl (by decide) rfl rfl rfl rfl rfl rfl hl.1 rfl (Nat.le_of_ble_eq_true rfl) dX8_lining_20 ⟨Nat.zero_le _, Nat.zero_le _⟩ (fun H locs hP hD hS => ?_)
    refine lv_aload_n hx hb dX8_lining_23 rfl (lv_at hl 0 rfl) ?_
    refine va_get (D := D) (ci := 7) (v := .ref q_o_s) (C := RX8) (T := TX8) (N := 35) hx hb hts hinX8 hown hK.1 hP 0 rfl rfl 22 (by decide) g22 (fun _ h9 => h9) rfl dX8_lining_24 ?_
    refine lv_bipush (v := 7) hx hb dX8_lining_27 (by decide) ?_
    refine lv_dup2_11 hx hb dX8_lining_29 rfl rfl ?_
    obtain ⟨g6, hf⟩ := ing_some hf
    refine va_iald hx hb hK.1 hP 1 1 rfl rfl g6 dX8_lining_30 ?_
    refine lv_iconst (v := 1) hx hb dX8_lining_31 (by decide) ?_
    refine lv_iadd hx hb dX8_lining_32 ?_
    obtain ⟨g7, hf⟩ := ing_some hf
    refine va_iast hx hb hK.1 hP hD hS 1 1 rfl rfl g7 dX8_lining_33 (fun H locs hP hD hS => ?_)
    obtain ⟨w8, ew8⟩ : ∃ z : Nat → Int32, z = upd o_s (7 : Int32).toNatClampNeg ((o_s (7 : Int32).toNatClampNeg) + 1) := ⟨_, rfl⟩
    have hf := bnd_at hf ew8
    have hP : va_P D vwCl [(q_o, .inr (7, [.int 0, .long o_trace, .ref q_o_text, .int o_typed, .int o_next, .int o_token, .int o_place, .int o_value, .int o_fault, .ref q_o_warmth, .ref q_o_side, .ref q_o_seconds, .int o_members, .int o_pairs, .int o_cold, .int o_fur, .int o_coughs, .int o_draftMembers, .int o_draftPairs, .int o_draftCold, .int o_draftFur, .int o_draftCoughs, .ref q_o_s, .ref q_o_kept, .ref q_o_isKept, .ref q_o_undos, .int m3, .ref q_o_seenAt, .ref q_o_seen, .int o_seenMany, .ref q_o_board, .ref q_o_pick, .ref q_o_worth, .ref q_o_best, .int o_chosen])), (q_o_s, .inl (cI, 10, .inl w8)), (q_o_undos, .inl (cI, 90, .inl m4))] H := by rw [ew8]; exact hP
    have hD : va_D A [(q_o, .inr (7, [.int 0, .long o_trace, .ref q_o_text, .int o_typed, .int o_next, .int o_token, .int o_place, .int o_value, .int o_fault, .ref q_o_warmth, .ref q_o_side, .ref q_o_seconds, .int o_members, .int o_pairs, .int o_cold, .int o_fur, .int o_coughs, .int o_draftMembers, .int o_draftPairs, .int o_draftCold, .int o_draftFur, .int o_draftCoughs, .ref q_o_s, .ref q_o_kept, .ref q_o_isKept, .ref q_o_undos, .int m3, .ref q_o_seenAt, .ref q_o_seen, .int o_seenMany, .ref q_o_board, .ref q_o_pick, .ref q_o_worth, .ref q_o_best, .int o_chosen])), (q_o_s, .inl (cI, 10, .inl w8)), (q_o_undos, .inl (cI, 90, .inl m4))] := by rw [ew8]; exact hD
    refine lv_aload_n hx hb dX8_lining_34 rfl (lv_at hl 0 rfl) ?_
    refine va_get (D := D) (ci := 7) (v := .ref q_o_s) (C := RX8) (T := TX8) (N := 35) hx hb hts hinX8 hown hK.1 hP 0 rfl rfl 22 (by decide) g22 (fun _ h9 => h9) rfl dX8_lining_35 ?_
    refine lv_bipush (v := 7) hx hb dX8_lining_38 (by decide) ?_
    obtain ⟨g9, hf⟩ := ing_some hf
    refine va_iald hx hb hK.1 hP 1 1 rfl rfl g9 dX8_lining_40 ?_
    obtain ⟨e0_, e1_, e2_, e3_, e4_⟩ := tup5 hf
    have hP : va_P D vwCl [(q_o, .inr (7, [.int o_thrown', .long o_trace, .ref q_o_text, .int o_typed, .int o_next, .int o_token, .int o_place, .int o_value, .int o_fault, .ref q_o_warmth, .ref q_o_side, .ref q_o_seconds, .int o_members, .int o_pairs, .int o_cold, .int o_fur, .int o_coughs, .int o_draftMembers, .int o_draftPairs, .int o_draftCold, .int o_draftFur, .int o_draftCoughs, .ref q_o_s, .ref q_o_kept, .ref q_o_isKept, .ref q_o_undos, .int o_undoMany', .ref q_o_seenAt, .ref q_o_seen, .int o_seenMany, .ref q_o_board, .ref q_o_pick, .ref q_o_worth, .ref q_o_best, .int o_chosen])), (q_o_s, .inl (cI, 10, .inl o_s')), (q_o_undos, .inl (cI, 90, .inl o_undos'))] H := by rw [← e1_, ← e2_, ← e3_, ← e4_]; exact hP
    have hD : va_D A [(q_o, .inr (7, [.int o_thrown', .long o_trace, .ref q_o_text, .int o_typed, .int o_next, .int o_token, .int o_place, .int o_value, .int o_fault, .ref q_o_warmth, .ref q_o_side, .ref q_o_seconds, .int o_members, .int o_pairs, .int o_cold, .int o_fur, .int o_coughs, .int o_draftMembers, .int o_draftPairs, .int o_draftCold, .int o_draftFur, .int o_draftCoughs, .ref q_o_s, .ref q_o_kept, .ref q_o_isKept, .ref q_o_undos, .int o_undoMany', .ref q_o_seenAt, .ref q_o_seen, .int o_seenMany, .ref q_o_board, .ref q_o_pick, .ref q_o_worth, .ref q_o_best, .int o_chosen])), (q_o_s, .inl (cI, 10, .inl o_s')), (q_o_undos, .inl (cI, 90, .inl o_undos'))] := by rw [← e1_, ← e2_, ← e3_, ← e4_]; exact hD
    exact endMI hx hb hr hlocks rfl hP hD hS e0_ dX8_lining_41
  · have hf := ite_p hf c2
    refine lv_bipush (v := (-2)) hx hb dX8_lining_16 (by decide) ?_
    obtain ⟨e0_, e1_, e2_, e3_, e4_⟩ := tup5 hf
    have hP : va_P D vwCl [(q_o, .inr (7, [.int o_thrown', .long o_trace, .ref q_o_text, .int o_typed, .int o_next, .int o_token, .int o_place, .int o_value, .int o_fault, .ref q_o_warmth, .ref q_o_side, .ref q_o_seconds, .int o_members, .int o_pairs, .int o_cold, .int o_fur, .int o_coughs, .int o_draftMembers, .int o_draftPairs, .int o_draftCold, .int o_draftFur, .int o_draftCoughs, .ref q_o_s, .ref q_o_kept, .ref q_o_isKept, .ref q_o_undos, .int o_undoMany', .ref q_o_seenAt, .ref q_o_seen, .int o_seenMany, .ref q_o_board, .ref q_o_pick, .ref q_o_worth, .ref q_o_best, .int o_chosen])), (q_o_s, .inl (cI, 10, .inl o_s')), (q_o_undos, .inl (cI, 90, .inl o_undos'))] H := by rw [← e1_, ← e2_, ← e3_, ← e4_]; exact hP
    have hD : va_D A [(q_o, .inr (7, [.int o_thrown', .long o_trace, .ref q_o_text, .int o_typed, .int o_next, .int o_token, .int o_place, .int o_value, .int o_fault, .ref q_o_warmth, .ref q_o_side, .ref q_o_seconds, .int o_members, .int o_pairs, .int o_cold, .int o_fur, .int o_coughs, .int o_draftMembers, .int o_draftPairs, .int o_draftCold, .int o_draftFur, .int o_draftCoughs, .ref q_o_s, .ref q_o_kept, .ref q_o_isKept, .ref q_o_undos, .int o_undoMany', .ref q_o_seenAt, .ref q_o_seen, .int o_seenMany, .ref q_o_board, .ref q_o_pick, .ref q_o_worth, .ref q_o_best, .int o_chosen])), (q_o_s, .inl (cI, 10, .inl o_s')), (q_o_undos, .inl (cI, 90, .inl o_undos'))] := by rw [← e1_, ← e2_, ← e3_, ← e4_]; exact hD
    exact endMI hx hb hr hlocks rfl hP hD hS e0_ dX8_lining_18
def f_X8_undo_27_b (o_undos : Nat → Int32) (K27 : Int32 → Int32 → Int32 → (Nat → Int32) → (Option (Int32 × Int32 × Int32 × (Nat → Int32)))) (x1 : Int32) (o_thrown : Int32) (o_undoMany : Int32) (o_s : Nat → Int32) : Option (Int32 × Int32 × Int32 × (Nat → Int32)) :=
  if (9 : Int32) ≤ x1 then (
    some (o_undoMany, o_thrown, o_undoMany, o_s)
  ) else (
    ing ((9 * o_undoMany) + x1) 90 <|
    ing x1 10 <|
    bnd (upd o_s x1.toNatClampNeg (o_undos ((9 * o_undoMany) + x1).toNatClampNeg)) fun w4 =>
    bnd (x1 + 1) fun y5 =>
    K27 y5 o_thrown o_undoMany w4
  )
def f_X8_undo_27 (o_undos : Nat → Int32) : Nat → Int32 → Int32 → Int32 → (Nat → Int32) → (Option (Int32 × Int32 × Int32 × (Nat → Int32)))
  | 0 => fun _ _ _ _ => none
  | n + 1 => f_X8_undo_27_b o_undos (f_X8_undo_27 o_undos n)
def f_X8_undo (o_undos : Nat → Int32) (o_thrown : Int32) (o_undoMany : Int32) (o_s : Nat → Int32) : Option (Int32 × Int32 × Int32 × (Nat → Int32)) :=
  if o_undoMany = 0 then (
    some ((-2), 0, o_undoMany, o_s)
  ) else (
    bnd (o_undoMany - 1) fun y7 =>
    f_X8_undo_27 o_undos FU 0 0 y7 o_s
  )
set_option maxHeartbeats 4000000 in
set_option maxRecDepth 100000 in
theorem c_X8_undo (l : Launch) (D : va_G) (cB cI cZ cM cN : ClassId) (q_o : Nat) (q_o_text : Nat) (q_o_warmth : Nat) (q_o_side : Nat) (q_o_seconds : Nat) (q_o_s : Nat) (q_o_kept : Nat) (q_o_isKept : Nat) (q_o_undos : Nat) (q_o_seenAt : Nat) (q_o_seen : Nat) (q_o_board : Nat) (q_o_pick : Nat) (q_o_worth : Nat) (q_o_best : Nat) (o_thrown : Int32) (o_trace : Int64) (o_typed : Int32) (o_next : Int32) (o_token : Int32) (o_place : Int32) (o_value : Int32) (o_fault : Int32) (o_members : Int32) (o_pairs : Int32) (o_cold : Int32) (o_fur : Int32) (o_coughs : Int32) (o_draftMembers : Int32) (o_draftPairs : Int32) (o_draftCold : Int32) (o_draftFur : Int32) (o_draftCoughs : Int32) (o_undoMany : Int32) (o_seenMany : Int32) (o_chosen : Int32) (o_s : Nat → Int32) (o_undos : Nat → Int32) (r : Int32) (o_thrown' : Int32) (o_undoMany' : Int32) (o_s' : Nat → Int32) (sz : Nat) (hf : f_X8_undo o_undos o_thrown o_undoMany o_s = some (r, o_thrown', o_undoMany', o_s')) : Met l yX8_undo wsX8_undo ({ frames := 0, cells := 0, slots := 0, locals := 0 } : Room) (PM D cB cI cZ cM cN [.ref q_o] [(q_o, .inr (7, [.int o_thrown, .long o_trace, .ref q_o_text, .int o_typed, .int o_next, .int o_token, .int o_place, .int o_value, .int o_fault, .ref q_o_warmth, .ref q_o_side, .ref q_o_seconds, .int o_members, .int o_pairs, .int o_cold, .int o_fur, .int o_coughs, .int o_draftMembers, .int o_draftPairs, .int o_draftCold, .int o_draftFur, .int o_draftCoughs, .ref q_o_s, .ref q_o_kept, .ref q_o_isKept, .ref q_o_undos, .int o_undoMany, .ref q_o_seenAt, .ref q_o_seen, .int o_seenMany, .ref q_o_board, .ref q_o_pick, .ref q_o_worth, .ref q_o_best, .int o_chosen])), (q_o_s, .inl (cI, 10, .inl o_s)), (q_o_undos, .inl (cI, 90, .inl o_undos))] sz) (QI D [(q_o, .inr (7, [.int o_thrown', .long o_trace, .ref q_o_text, .int o_typed, .int o_next, .int o_token, .int o_place, .int o_value, .int o_fault, .ref q_o_warmth, .ref q_o_side, .ref q_o_seconds, .int o_members, .int o_pairs, .int o_cold, .int o_fur, .int o_coughs, .int o_draftMembers, .int o_draftPairs, .int o_draftCold, .int o_draftFur, .int o_draftCoughs, .ref q_o_s, .ref q_o_kept, .ref q_o_isKept, .ref q_o_undos, .int o_undoMany', .ref q_o_seenAt, .ref q_o_seen, .int o_seenMany, .ref q_o_board, .ref q_o_pick, .ref q_o_worth, .ref q_o_best, .int o_chosen])), (q_o_s, .inl (cI, 10, .inl o_s')), (q_o_undos, .inl (cI, 90, .inl o_undos))] r (va_A [(q_o, .inr (7, [.int o_thrown, .long o_trace, .ref q_o_text, .int o_typed, .int o_next, .int o_token, .int o_place, .int o_value, .int o_fault, .ref q_o_warmth, .ref q_o_side, .ref q_o_seconds, .int o_members, .int o_pairs, .int o_cold, .int o_fur, .int o_coughs, .int o_draftMembers, .int o_draftPairs, .int o_draftCold, .int o_draftFur, .int o_draftCoughs, .ref q_o_s, .ref q_o_kept, .ref q_o_isKept, .ref q_o_undos, .int o_undoMany, .ref q_o_seenAt, .ref q_o_seen, .int o_seenMany, .ref q_o_board, .ref q_o_pick, .ref q_o_worth, .ref q_o_best, .int o_chosen])), (q_o_s, .inl (cI, 10, .inl o_s)), (q_o_undos, .inl (cI, 90, .inl o_undos))] sz)) 0 0 (va_A [(q_o, .inr (7, [.int o_thrown, .long o_trace, .ref q_o_text, .int o_typed, .int o_next, .int o_token, .int o_place, .int o_value, .int o_fault, .ref q_o_warmth, .ref q_o_side, .ref q_o_seconds, .int o_members, .int o_pairs, .int o_cold, .int o_fur, .int o_coughs, .int o_draftMembers, .int o_draftPairs, .int o_draftCold, .int o_draftFur, .int o_draftCoughs, .ref q_o_s, .ref q_o_kept, .ref q_o_isKept, .ref q_o_undos, .int o_undoMany, .ref q_o_seenAt, .ref q_o_seen, .int o_seenMany, .ref q_o_board, .ref q_o_pick, .ref q_o_worth, .ref q_o_best, .int o_chosen])), (q_o_s, .inl (cI, 10, .inl o_s)), (q_o_undos, .inl (cI, 90, .inl o_undos))] sz) := by
  refine entM (l := l) (y := yX8_undo) (ws := wsX8_undo) (cc := cX8_undo) (av := [.ref q_o]) (wc := [(q_o, .inr (7, [.int o_thrown, .long o_trace, .ref q_o_text, .int o_typed, .int o_next, .int o_token, .int o_place, .int o_value, .int o_fault, .ref q_o_warmth, .ref q_o_side, .ref q_o_seconds, .int o_members, .int o_pairs, .int o_cold, .int o_fur, .int o_coughs, .int o_draftMembers, .int o_draftPairs, .int o_draftCold, .int o_draftFur, .int o_draftCoughs, .ref q_o_s, .ref q_o_kept, .ref q_o_isKept, .ref q_o_undos, .int o_undoMany, .ref q_o_seenAt, .ref q_o_seen, .int o_seenMany, .ref q_o_board, .ref q_o_pick, .ref q_o_worth, .ref q_o_best, .int o_chosen])), (q_o_s, .inl (cI, 10, .inl o_s)), (q_o_undos, .inl (cI, 90, .inl o_undos))]) (sz := sz) (Qc := fun A => QI D [(q_o, .inr (7, [.int o_thrown', .long o_trace, .ref q_o_text, .int o_typed, .int o_next, .int o_token, .int o_place, .int o_value, .int o_fault, .ref q_o_warmth, .ref q_o_side, .ref q_o_seconds, .int o_members, .int o_pairs, .int o_cold, .int o_fur, .int o_coughs, .int o_draftMembers, .int o_draftPairs, .int o_draftCold, .int o_draftFur, .int o_draftCoughs, .ref q_o_s, .ref q_o_kept, .ref q_o_isKept, .ref q_o_undos, .int o_undoMany', .ref q_o_seenAt, .ref q_o_seen, .int o_seenMany, .ref q_o_board, .ref q_o_pick, .ref q_o_worth, .ref q_o_best, .int o_chosen])), (q_o_s, .inl (cI, 10, .inl o_s')), (q_o_undos, .inl (cI, 90, .inl o_undos))] r A) (by decide +kernel) rfl (Nat.le_of_ble_eq_true rfl) ?_
  intro A p e s m below meth c hx hb hr hml hown hlocks hts hK hA H locs hP hD hS ls hl
  have hown : s.vm.findClass RX8 = some m.cls := hown
  have hl : lv_has ls 2 [(0, .ref q_o)] := hl
  have hfix : CallFix p m c cX8_undo 2 s ([.ref q_o] : List Value).toArray wsX8_undo RX8 := ⟨hx, hb, hml, hown, hts⟩
  have hinX8 : ∀ w ∈ u_ws RX8 TX8 35, w ∈ wsX8_undo := by decide +kernel
  have g157 := hts (.fieldLink RX8 157 "LastCoatModel" "undoMany" "I") (by decide +kernel)
  have g22 := hts (.fieldLink RX8 22 "LastCoatModel" "s" "[I") (by decide +kernel)
  have g32 := hts (.fieldLink RX8 32 "LastCoatModel" "undos" "[I") (by decide +kernel)
  have g63 := hts (.fieldLink RX8 63 "LastCoatModel" "thrown" "I") (by decide +kernel)
  have L27 : ∀ (n27 : Nat) (x1 : Int32) (o_thrown : Int32) (o_undoMany : Int32) (o_s : Nat → Int32) (H : Heap) (locs : List Loc) (ls : Array Slot), f_X8_undo_27 o_undos n27 x1 o_thrown o_undoMany o_s = some (r, o_thrown', o_undoMany', o_s') → va_P D vwCl [(q_o, .inr (7, [.int o_thrown, .long o_trace, .ref q_o_text, .int o_typed, .int o_next, .int o_token, .int o_place, .int o_value, .int o_fault, .ref q_o_warmth, .ref q_o_side, .ref q_o_seconds, .int o_members, .int o_pairs, .int o_cold, .int o_fur, .int o_coughs, .int o_draftMembers, .int o_draftPairs, .int o_draftCold, .int o_draftFur, .int o_draftCoughs, .ref q_o_s, .ref q_o_kept, .ref q_o_isKept, .ref q_o_undos, .int o_undoMany, .ref q_o_seenAt, .ref q_o_seen, .int o_seenMany, .ref q_o_board, .ref q_o_pick, .ref q_o_worth, .ref q_o_best, .int o_chosen])), (q_o_s, .inl (cI, 10, .inl o_s)), (q_o_undos, .inl (cI, 90, .inl o_undos))] H → va_D A [(q_o, .inr (7, [.int o_thrown, .long o_trace, .ref q_o_text, .int o_typed, .int o_next, .int o_token, .int o_place, .int o_value, .int o_fault, .ref q_o_warmth, .ref q_o_side, .ref q_o_seconds, .int o_members, .int o_pairs, .int o_cold, .int o_fur, .int o_coughs, .int o_draftMembers, .int o_draftPairs, .int o_draftCold, .int o_draftFur, .int o_draftCoughs, .ref q_o_s, .ref q_o_kept, .ref q_o_isKept, .ref q_o_undos, .int o_undoMany, .ref q_o_seenAt, .ref q_o_seen, .int o_seenMany, .ref q_o_board, .ref q_o_pick, .ref q_o_worth, .ref q_o_best, .int o_chosen])), (q_o_s, .inl (cI, 10, .inl o_s)), (q_o_undos, .inl (cI, 90, .inl o_undos))] → va_S A s.heap H locs → lv_has ls 2 [(0, .ref q_o), (1, .int x1)] → W p l e ({ frames := 0, cells := 0, slots := 0, locals := 0 } : Room) s m ([.ref q_o] : List Value).toArray below meth c H locs 0 0 (MQ below (QI D [(q_o, .inr (7, [.int o_thrown', .long o_trace, .ref q_o_text, .int o_typed, .int o_next, .int o_token, .int o_place, .int o_value, .int o_fault, .ref q_o_warmth, .ref q_o_side, .ref q_o_seconds, .int o_members, .int o_pairs, .int o_cold, .int o_fur, .int o_coughs, .int o_draftMembers, .int o_draftPairs, .int o_draftCold, .int o_draftFur, .int o_draftCoughs, .ref q_o_s, .ref q_o_kept, .ref q_o_isKept, .ref q_o_undos, .int o_undoMany', .ref q_o_seenAt, .ref q_o_seen, .int o_seenMany, .ref q_o_board, .ref q_o_pick, .ref q_o_worth, .ref q_o_best, .int o_chosen])), (q_o_s, .inl (cI, 10, .inl o_s')), (q_o_undos, .inl (cI, 90, .inl o_undos))] r A) ([.ref q_o] : List Value).toArray s 0 0 A) (F0 m 27 ls []) := by
    intro n27
    induction n27 with
    | zero =>
      intro x1 o_thrown o_undoMany o_s H locs ls hf hP hD hS hl
      exact noneNe hf
    | succ n27 ih27 =>
      intro x1 o_thrown o_undoMany o_s H locs ls hf hP hD hS hl
      have hf : f_X8_undo_27_b o_undos (f_X8_undo_27 o_undos n27) x1 o_thrown o_undoMany o_s = some (r, o_thrown', o_undoMany', o_s') := hf
      unfold f_X8_undo_27_b at hf
      refine lv_iload_n hx hb dX8_undo_27 rfl (lv_at hl 1 rfl) ?_
      refine lv_bipush (v := 9) hx hb dX8_undo_28 (by decide) ?_
      refine lv_icmp_ge (tgt := 59) hx hb dX8_undo_30 (by decide) (fun c1 => ?_) (fun c1 => ?_)
      · have hf := ite_p hf c1
        refine lv_aload_n hx hb dX8_undo_59 rfl (lv_at hl 0 rfl) ?_
        refine va_get (D := D) (ci := 7) (v := .int o_undoMany) (C := RX8) (T := TX8) (N := 35) hx hb hts hinX8 hown hK.1 hP 0 rfl rfl 26 (by decide) g157 (fun _ h9 => h9) rfl dX8_undo_60 ?_
        obtain ⟨e0_, e1_, e2_, e3_⟩ := tup4 hf
        have hP : va_P D vwCl [(q_o, .inr (7, [.int o_thrown', .long o_trace, .ref q_o_text, .int o_typed, .int o_next, .int o_token, .int o_place, .int o_value, .int o_fault, .ref q_o_warmth, .ref q_o_side, .ref q_o_seconds, .int o_members, .int o_pairs, .int o_cold, .int o_fur, .int o_coughs, .int o_draftMembers, .int o_draftPairs, .int o_draftCold, .int o_draftFur, .int o_draftCoughs, .ref q_o_s, .ref q_o_kept, .ref q_o_isKept, .ref q_o_undos, .int o_undoMany', .ref q_o_seenAt, .ref q_o_seen, .int o_seenMany, .ref q_o_board, .ref q_o_pick, .ref q_o_worth, .ref q_o_best, .int o_chosen])), (q_o_s, .inl (cI, 10, .inl o_s')), (q_o_undos, .inl (cI, 90, .inl o_undos))] H := by rw [← e1_, ← e2_, ← e3_]; exact hP
        have hD : va_D A [(q_o, .inr (7, [.int o_thrown', .long o_trace, .ref q_o_text, .int o_typed, .int o_next, .int o_token, .int o_place, .int o_value, .int o_fault, .ref q_o_warmth, .ref q_o_side, .ref q_o_seconds, .int o_members, .int o_pairs, .int o_cold, .int o_fur, .int o_coughs, .int o_draftMembers, .int o_draftPairs, .int o_draftCold, .int o_draftFur, .int o_draftCoughs, .ref q_o_s, .ref q_o_kept, .ref q_o_isKept, .ref q_o_undos, .int o_undoMany', .ref q_o_seenAt, .ref q_o_seen, .int o_seenMany, .ref q_o_board, .ref q_o_pick, .ref q_o_worth, .ref q_o_best, .int o_chosen])), (q_o_s, .inl (cI, 10, .inl o_s')), (q_o_undos, .inl (cI, 90, .inl o_undos))] := by rw [← e1_, ← e2_, ← e3_]; exact hD
        exact endMI hx hb hr hlocks rfl hP hD hS e0_ dX8_undo_63
      · have hf := ite_n hf c1
        refine lv_aload_n hx hb dX8_undo_33 rfl (lv_at hl 0 rfl) ?_
        refine va_get (D := D) (ci := 7) (v := .ref q_o_s) (C := RX8) (T := TX8) (N := 35) hx hb hts hinX8 hown hK.1 hP 0 rfl rfl 22 (by decide) g22 (fun _ h9 => h9) rfl dX8_undo_34 ?_
        refine lv_iload_n hx hb dX8_undo_37 rfl (lv_at hl 1 rfl) ?_
        refine lv_aload_n hx hb dX8_undo_38 rfl (lv_at hl 0 rfl) ?_
        refine va_get (D := D) (ci := 7) (v := .ref q_o_undos) (C := RX8) (T := TX8) (N := 35) hx hb hts hinX8 hown hK.1 hP 0 rfl rfl 25 (by decide) g32 (fun _ h9 => h9) rfl dX8_undo_39 ?_
        refine lv_bipush (v := 9) hx hb dX8_undo_42 (by decide) ?_
        refine lv_aload_n hx hb dX8_undo_44 rfl (lv_at hl 0 rfl) ?_
        refine va_get (D := D) (ci := 7) (v := .int o_undoMany) (C := RX8) (T := TX8) (N := 35) hx hb hts hinX8 hown hK.1 hP 0 rfl rfl 26 (by decide) g157 (fun _ h9 => h9) rfl dX8_undo_45 ?_
        refine lv_imul hx hb dX8_undo_48 ?_
        refine lv_iload_n hx hb dX8_undo_49 rfl (lv_at hl 1 rfl) ?_
        refine lv_iadd hx hb dX8_undo_50 ?_
        obtain ⟨g2, hf⟩ := ing_some hf
        refine va_iald hx hb hK.1 hP 2 1 rfl rfl g2 dX8_undo_51 ?_
        obtain ⟨g3, hf⟩ := ing_some hf
        refine va_iast hx hb hK.1 hP hD hS 1 1 rfl rfl g3 dX8_undo_52 (fun H locs hP hD hS => ?_)
        obtain ⟨w4, ew4⟩ : ∃ z : Nat → Int32, z = upd o_s x1.toNatClampNeg (o_undos ((9 * o_undoMany) + x1).toNatClampNeg) := ⟨_, rfl⟩
        have hf := bnd_at hf ew4
        have hP : va_P D vwCl [(q_o, .inr (7, [.int o_thrown, .long o_trace, .ref q_o_text, .int o_typed, .int o_next, .int o_token, .int o_place, .int o_value, .int o_fault, .ref q_o_warmth, .ref q_o_side, .ref q_o_seconds, .int o_members, .int o_pairs, .int o_cold, .int o_fur, .int o_coughs, .int o_draftMembers, .int o_draftPairs, .int o_draftCold, .int o_draftFur, .int o_draftCoughs, .ref q_o_s, .ref q_o_kept, .ref q_o_isKept, .ref q_o_undos, .int o_undoMany, .ref q_o_seenAt, .ref q_o_seen, .int o_seenMany, .ref q_o_board, .ref q_o_pick, .ref q_o_worth, .ref q_o_best, .int o_chosen])), (q_o_s, .inl (cI, 10, .inl w4)), (q_o_undos, .inl (cI, 90, .inl o_undos))] H := by rw [ew4]; exact hP
        have hD : va_D A [(q_o, .inr (7, [.int o_thrown, .long o_trace, .ref q_o_text, .int o_typed, .int o_next, .int o_token, .int o_place, .int o_value, .int o_fault, .ref q_o_warmth, .ref q_o_side, .ref q_o_seconds, .int o_members, .int o_pairs, .int o_cold, .int o_fur, .int o_coughs, .int o_draftMembers, .int o_draftPairs, .int o_draftCold, .int o_draftFur, .int o_draftCoughs, .ref q_o_s, .ref q_o_kept, .ref q_o_isKept, .ref q_o_undos, .int o_undoMany, .ref q_o_seenAt, .ref q_o_seen, .int o_seenMany, .ref q_o_board, .ref q_o_pick, .ref q_o_worth, .ref q_o_best, .int o_chosen])), (q_o_s, .inl (cI, 10, .inl w4)), (q_o_undos, .inl (cI, 90, .inl o_undos))] := by rw [ew4]; exact hD
        obtain ⟨y5, ey5⟩ : ∃ z : Int32, z = x1 + 1 := ⟨_, rfl⟩
        have hf := bnd_at hf ey5
        refine lv_iinc (v := y5) (lv' := [(1, .int y5), (0, .ref q_o)]) hx hb dX8_undo_53 hl (k := 1) rfl (by rw [ey5]; rfl) (by decide) rfl (fun ls hl => ?_)
        refine lv_goto (tgt := 27) hx hb dX8_undo_56 (by decide) ?_
        exact ih27 y5 o_thrown o_undoMany w4 _ _ ls hf hP hD hS (lv_sub hl [1, 0] rfl)
  unfold f_X8_undo at hf
  refine lv_aload_n hx hb dX8_undo_0 rfl (lv_at hl 0 rfl) ?_
  refine lv_iconst (v := 0) hx hb dX8_undo_1 (by decide) ?_
  refine va_put (D := D) (ci := 7) (v := .int 0) (ty := .int) (C := RX8) (T := TX8) (N := 35) hx hb hts hinX8 tyX8 tyX8_ok nmX8 hown hK.1 hP hD hS 0 rfl rfl 0 (by decide) g63 (fun _ h9 => h9) rfl (by decide +kernel) rfl rfl (Nat.le_of_ble_eq_true rfl) dX8_undo_2 (fun H locs hP hD hS => ?_)
  have hP : va_P D vwCl [(q_o, .inr (7, [.int 0, .long o_trace, .ref q_o_text, .int o_typed, .int o_next, .int o_token, .int o_place, .int o_value, .int o_fault, .ref q_o_warmth, .ref q_o_side, .ref q_o_seconds, .int o_members, .int o_pairs, .int o_cold, .int o_fur, .int o_coughs, .int o_draftMembers, .int o_draftPairs, .int o_draftCold, .int o_draftFur, .int o_draftCoughs, .ref q_o_s, .ref q_o_kept, .ref q_o_isKept, .ref q_o_undos, .int o_undoMany, .ref q_o_seenAt, .ref q_o_seen, .int o_seenMany, .ref q_o_board, .ref q_o_pick, .ref q_o_worth, .ref q_o_best, .int o_chosen])), (q_o_s, .inl (cI, 10, .inl o_s)), (q_o_undos, .inl (cI, 90, .inl o_undos))] H := hP
  have hD : va_D A [(q_o, .inr (7, [.int 0, .long o_trace, .ref q_o_text, .int o_typed, .int o_next, .int o_token, .int o_place, .int o_value, .int o_fault, .ref q_o_warmth, .ref q_o_side, .ref q_o_seconds, .int o_members, .int o_pairs, .int o_cold, .int o_fur, .int o_coughs, .int o_draftMembers, .int o_draftPairs, .int o_draftCold, .int o_draftFur, .int o_draftCoughs, .ref q_o_s, .ref q_o_kept, .ref q_o_isKept, .ref q_o_undos, .int o_undoMany, .ref q_o_seenAt, .ref q_o_seen, .int o_seenMany, .ref q_o_board, .ref q_o_pick, .ref q_o_worth, .ref q_o_best, .int o_chosen])), (q_o_s, .inl (cI, 10, .inl o_s)), (q_o_undos, .inl (cI, 90, .inl o_undos))] := hD
  refine lv_aload_n hx hb dX8_undo_5 rfl (lv_at hl 0 rfl) ?_
  refine va_get (D := D) (ci := 7) (v := .int o_undoMany) (C := RX8) (T := TX8) (N := 35) hx hb hts hinX8 hown hK.1 hP 0 rfl rfl 26 (by decide) g157 (fun _ h9 => h9) rfl dX8_undo_6 ?_
  refine lv_if_ne (tgt := 15) hx hb dX8_undo_9 (by decide) (fun c6 => ?_) (fun c6 => ?_)
  · have hf := ite_n hf c6
    refine lv_aload_n hx hb dX8_undo_15 rfl (lv_at hl 0 rfl) ?_
    refine lv_dup hx hb dX8_undo_16 rfl ?_
    refine va_get (D := D) (ci := 7) (v := .int o_undoMany) (C := RX8) (T := TX8) (N := 35) hx hb hts hinX8 hown hK.1 hP 0 rfl rfl 26 (by decide) g157 (fun _ h9 => h9) rfl dX8_undo_17 ?_
    refine lv_iconst (v := 1) hx hb dX8_undo_20 (by decide) ?_
    refine lv_isub hx hb dX8_undo_21 ?_
    refine lv_topi (fun y7 ey7 => ?_)
    have hf := bnd_at hf ey7
    refine va_put (D := D) (ci := 7) (v := .int y7) (ty := .int) (C := RX8) (T := TX8) (N := 35) hx hb hts hinX8 tyX8 tyX8_ok nmX8 hown hK.1 hP hD hS 0 rfl rfl 26 (by decide) g157 (fun _ h9 => h9) rfl (by decide +kernel) rfl rfl (Nat.le_of_ble_eq_true rfl) dX8_undo_22 (fun H locs hP hD hS => ?_)
    have hP : va_P D vwCl [(q_o, .inr (7, [.int 0, .long o_trace, .ref q_o_text, .int o_typed, .int o_next, .int o_token, .int o_place, .int o_value, .int o_fault, .ref q_o_warmth, .ref q_o_side, .ref q_o_seconds, .int o_members, .int o_pairs, .int o_cold, .int o_fur, .int o_coughs, .int o_draftMembers, .int o_draftPairs, .int o_draftCold, .int o_draftFur, .int o_draftCoughs, .ref q_o_s, .ref q_o_kept, .ref q_o_isKept, .ref q_o_undos, .int y7, .ref q_o_seenAt, .ref q_o_seen, .int o_seenMany, .ref q_o_board, .ref q_o_pick, .ref q_o_worth, .ref q_o_best, .int o_chosen])), (q_o_s, .inl (cI, 10, .inl o_s)), (q_o_undos, .inl (cI, 90, .inl o_undos))] H := hP
    have hD : va_D A [(q_o, .inr (7, [.int 0, .long o_trace, .ref q_o_text, .int o_typed, .int o_next, .int o_token, .int o_place, .int o_value, .int o_fault, .ref q_o_warmth, .ref q_o_side, .ref q_o_seconds, .int o_members, .int o_pairs, .int o_cold, .int o_fur, .int o_coughs, .int o_draftMembers, .int o_draftPairs, .int o_draftCold, .int o_draftFur, .int o_draftCoughs, .ref q_o_s, .ref q_o_kept, .ref q_o_isKept, .ref q_o_undos, .int y7, .ref q_o_seenAt, .ref q_o_seen, .int o_seenMany, .ref q_o_board, .ref q_o_pick, .ref q_o_worth, .ref q_o_best, .int o_chosen])), (q_o_s, .inl (cI, 10, .inl o_s)), (q_o_undos, .inl (cI, 90, .inl o_undos))] := hD
    refine lv_iconst (v := 0) hx hb dX8_undo_25 (by decide) ?_
    refine lv_istore_n (lv' := [(1, .int 0), (0, .ref q_o)]) hx hb dX8_undo_26 rfl hl (by decide) rfl (fun ls hl => ?_)
    exact L27 FU 0 0 y7 o_s _ _ ls hf hP hD hS (lv_sub hl [1, 0] rfl)
  · have hf := ite_p hf c6
    refine lv_bipush (v := (-2)) hx hb dX8_undo_12 (by decide) ?_
    obtain ⟨e0_, e1_, e2_, e3_⟩ := tup4 hf
    have hP : va_P D vwCl [(q_o, .inr (7, [.int o_thrown', .long o_trace, .ref q_o_text, .int o_typed, .int o_next, .int o_token, .int o_place, .int o_value, .int o_fault, .ref q_o_warmth, .ref q_o_side, .ref q_o_seconds, .int o_members, .int o_pairs, .int o_cold, .int o_fur, .int o_coughs, .int o_draftMembers, .int o_draftPairs, .int o_draftCold, .int o_draftFur, .int o_draftCoughs, .ref q_o_s, .ref q_o_kept, .ref q_o_isKept, .ref q_o_undos, .int o_undoMany', .ref q_o_seenAt, .ref q_o_seen, .int o_seenMany, .ref q_o_board, .ref q_o_pick, .ref q_o_worth, .ref q_o_best, .int o_chosen])), (q_o_s, .inl (cI, 10, .inl o_s')), (q_o_undos, .inl (cI, 90, .inl o_undos))] H := by rw [← e1_, ← e2_, ← e3_]; exact hP
    have hD : va_D A [(q_o, .inr (7, [.int o_thrown', .long o_trace, .ref q_o_text, .int o_typed, .int o_next, .int o_token, .int o_place, .int o_value, .int o_fault, .ref q_o_warmth, .ref q_o_side, .ref q_o_seconds, .int o_members, .int o_pairs, .int o_cold, .int o_fur, .int o_coughs, .int o_draftMembers, .int o_draftPairs, .int o_draftCold, .int o_draftFur, .int o_draftCoughs, .ref q_o_s, .ref q_o_kept, .ref q_o_isKept, .ref q_o_undos, .int o_undoMany', .ref q_o_seenAt, .ref q_o_seen, .int o_seenMany, .ref q_o_board, .ref q_o_pick, .ref q_o_worth, .ref q_o_best, .int o_chosen])), (q_o_s, .inl (cI, 10, .inl o_s')), (q_o_undos, .inl (cI, 90, .inl o_undos))] := by rw [← e1_, ← e2_, ← e3_]; exact hD
    exact endMI hx hb hr hlocks rfl hP hD hS e0_ dX8_undo_14
def f_X8_lead_43 (o_members : Int32) (o_side : Nat → Int32) (o_board : Nat → Int32) (K4 : Int32 → Int32 → Int32 → Option (Int32)) (x1 : Int32) (x3 : Int32) (k0 : Int32) (k1 : Int32) : Option (Int32) :=
  bnd (k0 + k1) fun y1 =>
  bnd (x3 + 1) fun y2 =>
  K4 x1 y1 y2
def f_X8_lead_4_b (o_members : Int32) (o_side : Nat → Int32) (o_board : Nat → Int32) (K4 : Int32 → Int32 → Int32 → Option (Int32)) (x1 : Int32) (x2 : Int32) (x3 : Int32) : Option (Int32) :=
  if o_members ≤ x3 then (
    some (x2)
  ) else (
    ing (x1 + x3) 49 <|
    if (o_board (x1 + x3).toNatClampNeg) = 0 then (
      f_X8_lead_43 o_members o_side o_board K4 x1 x3 x2 0
    ) else (
      ing x3 12 <|
      if (o_side x3.toNatClampNeg) = 1 then (
        f_X8_lead_43 o_members o_side o_board K4 x1 x3 x2 1
      ) else (
        f_X8_lead_43 o_members o_side o_board K4 x1 x3 x2 ((-1))
      )
    )
  )
def f_X8_lead_4 (o_members : Int32) (o_side : Nat → Int32) (o_board : Nat → Int32) : Nat → Int32 → Int32 → Int32 → Option (Int32)
  | 0 => fun _ _ _ => none
  | n + 1 => f_X8_lead_4_b o_members o_side o_board (f_X8_lead_4 o_members o_side o_board n)
def f_X8_lead (o_members : Int32) (o_side : Nat → Int32) (o_board : Nat → Int32) (p1 : Int32) : Option (Int32) :=
  f_X8_lead_4 o_members o_side o_board FU p1 0 0
set_option maxHeartbeats 4000000 in
set_option maxRecDepth 100000 in
theorem c_X8_lead (l : Launch) (D : va_G) (cB cI cZ cM cN : ClassId) (q_o : Nat) (q_o_text : Nat) (q_o_warmth : Nat) (q_o_side : Nat) (q_o_seconds : Nat) (q_o_s : Nat) (q_o_kept : Nat) (q_o_isKept : Nat) (q_o_undos : Nat) (q_o_seenAt : Nat) (q_o_seen : Nat) (q_o_board : Nat) (q_o_pick : Nat) (q_o_worth : Nat) (q_o_best : Nat) (o_thrown : Int32) (o_trace : Int64) (o_typed : Int32) (o_next : Int32) (o_token : Int32) (o_place : Int32) (o_value : Int32) (o_fault : Int32) (o_members : Int32) (o_pairs : Int32) (o_cold : Int32) (o_fur : Int32) (o_coughs : Int32) (o_draftMembers : Int32) (o_draftPairs : Int32) (o_draftCold : Int32) (o_draftFur : Int32) (o_draftCoughs : Int32) (o_undoMany : Int32) (o_seenMany : Int32) (o_chosen : Int32) (o_side : Nat → Int32) (o_board : Nat → Int32) (p1 : Int32) (r : Int32) (hf : f_X8_lead o_members o_side o_board p1 = some r) : Met l yX8_lead wsX8_lead ({ frames := 0, cells := 0, slots := 0, locals := 0 } : Room) (PR D cB cI cZ cM cN [.ref q_o, .int p1] [(q_o, .inr (7, [.int o_thrown, .long o_trace, .ref q_o_text, .int o_typed, .int o_next, .int o_token, .int o_place, .int o_value, .int o_fault, .ref q_o_warmth, .ref q_o_side, .ref q_o_seconds, .int o_members, .int o_pairs, .int o_cold, .int o_fur, .int o_coughs, .int o_draftMembers, .int o_draftPairs, .int o_draftCold, .int o_draftFur, .int o_draftCoughs, .ref q_o_s, .ref q_o_kept, .ref q_o_isKept, .ref q_o_undos, .int o_undoMany, .ref q_o_seenAt, .ref q_o_seen, .int o_seenMany, .ref q_o_board, .ref q_o_pick, .ref q_o_worth, .ref q_o_best, .int o_chosen])), (q_o_side, .inl (cI, 12, .inl o_side)), (q_o_board, .inl (cI, 49, .inl o_board))]) (RI r) 0 0 (fun _ => False) := by
  refine entR (by decide +kernel) rfl (Nat.le_of_ble_eq_true rfl) ?_
  intro p e s m below meth c hx hb hr hml hown hlocks hts hP hK ls hl
  have hown : s.vm.findClass RX8 = some m.cls := hown
  have hl : lv_has ls 4 [(0, .ref q_o), (1, .int p1)] := hl
  have hfix : CallFix p m c cX8_lead 4 s ([.ref q_o, .int p1] : List Value).toArray wsX8_lead RX8 := ⟨hx, hb, hml, hown, hts⟩
  have hinX8 : ∀ w ∈ u_ws RX8 TX8 35, w ∈ wsX8_lead := by decide +kernel
  have g145 := hts (.fieldLink RX8 145 "LastCoatModel" "members" "I") (by decide +kernel)
  have g41 := hts (.fieldLink RX8 41 "LastCoatModel" "board" "[I") (by decide +kernel)
  have g16 := hts (.fieldLink RX8 16 "LastCoatModel" "side" "[I") (by decide +kernel)
  have L4 : ∀ (n4 : Nat) (x1 : Int32) (x2 : Int32) (x3 : Int32) (ls : Array Slot), f_X8_lead_4 o_members o_side o_board n4 x1 x2 x3 = some r → lv_has ls 4 [(0, .ref q_o), (1, .int x1), (2, .int x2), (3, .int x3)] → W p l e ({ frames := 0, cells := 0, slots := 0, locals := 0 } : Room) s m ([.ref q_o, .int p1] : List Value).toArray below meth c s.heap [] 0 0 (MQ below (RI r) ([.ref q_o, .int p1] : List Value).toArray s 0 0 (fun _ => False)) (F0 m 4 ls []) := by
    intro n4
    induction n4 with
    | zero =>
      intro x1 x2 x3 ls hf hl
      exact noneNe hf
    | succ n4 ih4 =>
      have L43 : ∀ (x1 : Int32) (x3 : Int32) (k0 : Int32) (k1 : Int32) (ls : Array Slot), f_X8_lead_43 o_members o_side o_board (f_X8_lead_4 o_members o_side o_board n4) x1 x3 k0 k1 = some r → lv_has ls 4 [(0, .ref q_o), (1, .int x1), (3, .int x3)] → W p l e ({ frames := 0, cells := 0, slots := 0, locals := 0 } : Room) s m ([.ref q_o, .int p1] : List Value).toArray below meth c s.heap [] 0 0 (MQ below (RI r) ([.ref q_o, .int p1] : List Value).toArray s 0 0 (fun _ => False)) (F0 m 43 ls [.int k1, .int k0]) := by
        intro x1 x3 k0 k1 ls hf hl
        unfold f_X8_lead_43 at hf
        refine lv_iadd hx hb dX8_lead_43 ?_
        refine lv_topi (fun y1 ey1 => ?_)
        have hf := bnd_at hf ey1
        refine lv_istore_n (lv' := [(2, .int y1), (0, .ref q_o), (1, .int x1), (3, .int x3)]) hx hb dX8_lead_44 rfl hl (by decide) rfl (fun ls hl => ?_)
        obtain ⟨y2, ey2⟩ : ∃ z : Int32, z = x3 + 1 := ⟨_, rfl⟩
        have hf := bnd_at hf ey2
        refine lv_iinc (v := y2) (lv' := [(3, .int y2), (2, .int y1), (0, .ref q_o), (1, .int x1)]) hx hb dX8_lead_45 hl (k := 3) rfl (by rw [ey2]; rfl) (by decide) rfl (fun ls hl => ?_)
        refine lv_goto (tgt := 4) hx hb dX8_lead_48 (by decide) ?_
        exact ih4 x1 y1 y2 ls hf (lv_sub hl [2, 3, 1, 0] rfl)
      intro x1 x2 x3 ls hf hl
      have hf : f_X8_lead_4_b o_members o_side o_board (f_X8_lead_4 o_members o_side o_board n4) x1 x2 x3 = some r := hf
      unfold f_X8_lead_4_b at hf
      refine lv_iload_n hx hb dX8_lead_4 rfl (lv_at hl 3 rfl) ?_
      refine lv_aload_n hx hb dX8_lead_5 rfl (lv_at hl 0 rfl) ?_
      refine va_get (D := D) (ci := 7) (v := .int o_members) (C := RX8) (T := TX8) (N := 35) hx hb hts hinX8 hown hK.1 hP 0 rfl rfl 12 (by decide) g145 (fun _ h9 => h9) rfl dX8_lead_6 ?_
      refine lv_icmp_ge (tgt := 51) hx hb dX8_lead_9 (by decide) (fun c3 => ?_) (fun c3 => ?_)
      · have hf := ite_p hf c3
        refine lv_iload_n hx hb dX8_lead_51 rfl (lv_at hl 2 rfl) ?_
        have e0_ := Option.some.inj hf
        exact endRI hx hb hr hlocks rfl e0_ dX8_lead_52
      · have hf := ite_n hf c3
        refine lv_iload_n hx hb dX8_lead_12 rfl (lv_at hl 2 rfl) ?_
        refine lv_aload_n hx hb dX8_lead_13 rfl (lv_at hl 0 rfl) ?_
        refine va_get (D := D) (ci := 7) (v := .ref q_o_board) (C := RX8) (T := TX8) (N := 35) hx hb hts hinX8 hown hK.1 hP 0 rfl rfl 30 (by decide) g41 (fun _ h9 => h9) rfl dX8_lead_14 ?_
        refine lv_iload_n hx hb dX8_lead_17 rfl (lv_at hl 1 rfl) ?_
        refine lv_iload_n hx hb dX8_lead_18 rfl (lv_at hl 3 rfl) ?_
        refine lv_iadd hx hb dX8_lead_19 ?_
        obtain ⟨g4, hf⟩ := ing_some hf
        refine va_iald hx hb hK.1 hP 2 1 rfl rfl g4 dX8_lead_20 ?_
        refine lv_if_ne (tgt := 28) hx hb dX8_lead_21 (by decide) (fun c5 => ?_) (fun c5 => ?_)
        · have hf := ite_n hf c5
          refine lv_aload_n hx hb dX8_lead_28 rfl (lv_at hl 0 rfl) ?_
          refine va_get (D := D) (ci := 7) (v := .ref q_o_side) (C := RX8) (T := TX8) (N := 35) hx hb hts hinX8 hown hK.1 hP 0 rfl rfl 10 (by decide) g16 (fun _ h9 => h9) rfl dX8_lead_29 ?_
          refine lv_iload_n hx hb dX8_lead_32 rfl (lv_at hl 3 rfl) ?_
          obtain ⟨g6, hf⟩ := ing_some hf
          refine va_iald hx hb hK.1 hP 1 1 rfl rfl g6 dX8_lead_33 ?_
          refine lv_iconst (v := 1) hx hb dX8_lead_34 (by decide) ?_
          refine lv_icmp_ne (tgt := 42) hx hb dX8_lead_35 (by decide) (fun c7 => ?_) (fun c7 => ?_)
          · have hf := ite_n hf c7
            refine lv_iconst (v := (-1)) hx hb dX8_lead_42 (by decide) ?_
            exact L43 x1 x3 x2 ((-1)) ls hf (lv_sub hl [0, 1, 3] rfl)
          · have hf := ite_p hf c7
            refine lv_iconst (v := 1) hx hb dX8_lead_38 (by decide) ?_
            refine lv_goto (tgt := 43) hx hb dX8_lead_39 (by decide) ?_
            exact L43 x1 x3 x2 1 ls hf (lv_sub hl [0, 1, 3] rfl)
        · have hf := ite_p hf c5
          refine lv_iconst (v := 0) hx hb dX8_lead_24 (by decide) ?_
          refine lv_goto (tgt := 43) hx hb dX8_lead_25 (by decide) ?_
          exact L43 x1 x3 x2 0 ls hf (lv_sub hl [0, 1, 3] rfl)
  unfold f_X8_lead at hf
  refine lv_iconst (v := 0) hx hb dX8_lead_0 (by decide) ?_
  refine lv_istore_n (lv' := [(2, .int 0), (0, .ref q_o), (1, .int p1)]) hx hb dX8_lead_1 rfl hl (by decide) rfl (fun ls hl => ?_)
  refine lv_iconst (v := 0) hx hb dX8_lead_2 (by decide) ?_
  refine lv_istore_n (lv' := [(3, .int 0), (2, .int 0), (0, .ref q_o), (1, .int p1)]) hx hb dX8_lead_3 rfl hl (by decide) rfl (fun ls hl => ?_)
  exact L4 FU p1 0 0 ls hf (lv_sub hl [2, 3, 1, 0] rfl)
def f_X8_setsBoard_2_b (o_s : Nat → Int32) (K2 : Int32 → (Nat → Int32) → (Option ((Nat → Int32)))) (x1 : Int32) (o_board : Nat → Int32) : Option ((Nat → Int32)) :=
  if (7 : Int32) ≤ x1 then (
    some (o_board)
  ) else (
    ing x1 10 <|
    ing x1 49 <|
    bnd (upd o_board x1.toNatClampNeg (o_s x1.toNatClampNeg)) fun w4 =>
    bnd (x1 + 1) fun y5 =>
    K2 y5 w4
  )
def f_X8_setsBoard_2 (o_s : Nat → Int32) : Nat → Int32 → (Nat → Int32) → (Option ((Nat → Int32)))
  | 0 => fun _ _ => none
  | n + 1 => f_X8_setsBoard_2_b o_s (f_X8_setsBoard_2 o_s n)
def f_X8_setsBoard (o_s : Nat → Int32) (o_board : Nat → Int32) : Option ((Nat → Int32)) :=
  f_X8_setsBoard_2 o_s FU 0 o_board
set_option maxHeartbeats 4000000 in
set_option maxRecDepth 100000 in
theorem c_X8_setsBoard (l : Launch) (D : va_G) (cB cI cZ cM cN : ClassId) (q_o : Nat) (q_o_text : Nat) (q_o_warmth : Nat) (q_o_side : Nat) (q_o_seconds : Nat) (q_o_s : Nat) (q_o_kept : Nat) (q_o_isKept : Nat) (q_o_undos : Nat) (q_o_seenAt : Nat) (q_o_seen : Nat) (q_o_board : Nat) (q_o_pick : Nat) (q_o_worth : Nat) (q_o_best : Nat) (o_thrown : Int32) (o_trace : Int64) (o_typed : Int32) (o_next : Int32) (o_token : Int32) (o_place : Int32) (o_value : Int32) (o_fault : Int32) (o_members : Int32) (o_pairs : Int32) (o_cold : Int32) (o_fur : Int32) (o_coughs : Int32) (o_draftMembers : Int32) (o_draftPairs : Int32) (o_draftCold : Int32) (o_draftFur : Int32) (o_draftCoughs : Int32) (o_undoMany : Int32) (o_seenMany : Int32) (o_chosen : Int32) (o_s : Nat → Int32) (o_board : Nat → Int32) (o_board' : Nat → Int32) (sz : Nat) (hf : f_X8_setsBoard o_s o_board = some o_board') : Met l yX8_setsBoard wsX8_setsBoard ({ frames := 0, cells := 0, slots := 0, locals := 0 } : Room) (PM D cB cI cZ cM cN [.ref q_o] [(q_o, .inr (7, [.int o_thrown, .long o_trace, .ref q_o_text, .int o_typed, .int o_next, .int o_token, .int o_place, .int o_value, .int o_fault, .ref q_o_warmth, .ref q_o_side, .ref q_o_seconds, .int o_members, .int o_pairs, .int o_cold, .int o_fur, .int o_coughs, .int o_draftMembers, .int o_draftPairs, .int o_draftCold, .int o_draftFur, .int o_draftCoughs, .ref q_o_s, .ref q_o_kept, .ref q_o_isKept, .ref q_o_undos, .int o_undoMany, .ref q_o_seenAt, .ref q_o_seen, .int o_seenMany, .ref q_o_board, .ref q_o_pick, .ref q_o_worth, .ref q_o_best, .int o_chosen])), (q_o_s, .inl (cI, 10, .inl o_s)), (q_o_board, .inl (cI, 49, .inl o_board))] sz) (QV D [(q_o, .inr (7, [.int o_thrown, .long o_trace, .ref q_o_text, .int o_typed, .int o_next, .int o_token, .int o_place, .int o_value, .int o_fault, .ref q_o_warmth, .ref q_o_side, .ref q_o_seconds, .int o_members, .int o_pairs, .int o_cold, .int o_fur, .int o_coughs, .int o_draftMembers, .int o_draftPairs, .int o_draftCold, .int o_draftFur, .int o_draftCoughs, .ref q_o_s, .ref q_o_kept, .ref q_o_isKept, .ref q_o_undos, .int o_undoMany, .ref q_o_seenAt, .ref q_o_seen, .int o_seenMany, .ref q_o_board, .ref q_o_pick, .ref q_o_worth, .ref q_o_best, .int o_chosen])), (q_o_s, .inl (cI, 10, .inl o_s)), (q_o_board, .inl (cI, 49, .inl o_board'))] (va_A [(q_o, .inr (7, [.int o_thrown, .long o_trace, .ref q_o_text, .int o_typed, .int o_next, .int o_token, .int o_place, .int o_value, .int o_fault, .ref q_o_warmth, .ref q_o_side, .ref q_o_seconds, .int o_members, .int o_pairs, .int o_cold, .int o_fur, .int o_coughs, .int o_draftMembers, .int o_draftPairs, .int o_draftCold, .int o_draftFur, .int o_draftCoughs, .ref q_o_s, .ref q_o_kept, .ref q_o_isKept, .ref q_o_undos, .int o_undoMany, .ref q_o_seenAt, .ref q_o_seen, .int o_seenMany, .ref q_o_board, .ref q_o_pick, .ref q_o_worth, .ref q_o_best, .int o_chosen])), (q_o_s, .inl (cI, 10, .inl o_s)), (q_o_board, .inl (cI, 49, .inl o_board))] sz)) 0 0 (va_A [(q_o, .inr (7, [.int o_thrown, .long o_trace, .ref q_o_text, .int o_typed, .int o_next, .int o_token, .int o_place, .int o_value, .int o_fault, .ref q_o_warmth, .ref q_o_side, .ref q_o_seconds, .int o_members, .int o_pairs, .int o_cold, .int o_fur, .int o_coughs, .int o_draftMembers, .int o_draftPairs, .int o_draftCold, .int o_draftFur, .int o_draftCoughs, .ref q_o_s, .ref q_o_kept, .ref q_o_isKept, .ref q_o_undos, .int o_undoMany, .ref q_o_seenAt, .ref q_o_seen, .int o_seenMany, .ref q_o_board, .ref q_o_pick, .ref q_o_worth, .ref q_o_best, .int o_chosen])), (q_o_s, .inl (cI, 10, .inl o_s)), (q_o_board, .inl (cI, 49, .inl o_board))] sz) := by
  refine entM (l := l) (y := yX8_setsBoard) (ws := wsX8_setsBoard) (cc := cX8_setsBoard) (av := [.ref q_o]) (wc := [(q_o, .inr (7, [.int o_thrown, .long o_trace, .ref q_o_text, .int o_typed, .int o_next, .int o_token, .int o_place, .int o_value, .int o_fault, .ref q_o_warmth, .ref q_o_side, .ref q_o_seconds, .int o_members, .int o_pairs, .int o_cold, .int o_fur, .int o_coughs, .int o_draftMembers, .int o_draftPairs, .int o_draftCold, .int o_draftFur, .int o_draftCoughs, .ref q_o_s, .ref q_o_kept, .ref q_o_isKept, .ref q_o_undos, .int o_undoMany, .ref q_o_seenAt, .ref q_o_seen, .int o_seenMany, .ref q_o_board, .ref q_o_pick, .ref q_o_worth, .ref q_o_best, .int o_chosen])), (q_o_s, .inl (cI, 10, .inl o_s)), (q_o_board, .inl (cI, 49, .inl o_board))]) (sz := sz) (Qc := fun A => QV D [(q_o, .inr (7, [.int o_thrown, .long o_trace, .ref q_o_text, .int o_typed, .int o_next, .int o_token, .int o_place, .int o_value, .int o_fault, .ref q_o_warmth, .ref q_o_side, .ref q_o_seconds, .int o_members, .int o_pairs, .int o_cold, .int o_fur, .int o_coughs, .int o_draftMembers, .int o_draftPairs, .int o_draftCold, .int o_draftFur, .int o_draftCoughs, .ref q_o_s, .ref q_o_kept, .ref q_o_isKept, .ref q_o_undos, .int o_undoMany, .ref q_o_seenAt, .ref q_o_seen, .int o_seenMany, .ref q_o_board, .ref q_o_pick, .ref q_o_worth, .ref q_o_best, .int o_chosen])), (q_o_s, .inl (cI, 10, .inl o_s)), (q_o_board, .inl (cI, 49, .inl o_board'))] A) (by decide +kernel) rfl (Nat.le_of_ble_eq_true rfl) ?_
  intro A p e s m below meth c hx hb hr hml hown hlocks hts hK hA H locs hP hD hS ls hl
  have hown : s.vm.findClass RX8 = some m.cls := hown
  have hl : lv_has ls 2 [(0, .ref q_o)] := hl
  have hfix : CallFix p m c cX8_setsBoard 2 s ([.ref q_o] : List Value).toArray wsX8_setsBoard RX8 := ⟨hx, hb, hml, hown, hts⟩
  have hinX8 : ∀ w ∈ u_ws RX8 TX8 35, w ∈ wsX8_setsBoard := by decide +kernel
  have g41 := hts (.fieldLink RX8 41 "LastCoatModel" "board" "[I") (by decide +kernel)
  have g22 := hts (.fieldLink RX8 22 "LastCoatModel" "s" "[I") (by decide +kernel)
  have L2 : ∀ (n2 : Nat) (x1 : Int32) (o_board : Nat → Int32) (H : Heap) (locs : List Loc) (ls : Array Slot), f_X8_setsBoard_2 o_s n2 x1 o_board = some o_board' → va_P D vwCl [(q_o, .inr (7, [.int o_thrown, .long o_trace, .ref q_o_text, .int o_typed, .int o_next, .int o_token, .int o_place, .int o_value, .int o_fault, .ref q_o_warmth, .ref q_o_side, .ref q_o_seconds, .int o_members, .int o_pairs, .int o_cold, .int o_fur, .int o_coughs, .int o_draftMembers, .int o_draftPairs, .int o_draftCold, .int o_draftFur, .int o_draftCoughs, .ref q_o_s, .ref q_o_kept, .ref q_o_isKept, .ref q_o_undos, .int o_undoMany, .ref q_o_seenAt, .ref q_o_seen, .int o_seenMany, .ref q_o_board, .ref q_o_pick, .ref q_o_worth, .ref q_o_best, .int o_chosen])), (q_o_s, .inl (cI, 10, .inl o_s)), (q_o_board, .inl (cI, 49, .inl o_board))] H → va_D A [(q_o, .inr (7, [.int o_thrown, .long o_trace, .ref q_o_text, .int o_typed, .int o_next, .int o_token, .int o_place, .int o_value, .int o_fault, .ref q_o_warmth, .ref q_o_side, .ref q_o_seconds, .int o_members, .int o_pairs, .int o_cold, .int o_fur, .int o_coughs, .int o_draftMembers, .int o_draftPairs, .int o_draftCold, .int o_draftFur, .int o_draftCoughs, .ref q_o_s, .ref q_o_kept, .ref q_o_isKept, .ref q_o_undos, .int o_undoMany, .ref q_o_seenAt, .ref q_o_seen, .int o_seenMany, .ref q_o_board, .ref q_o_pick, .ref q_o_worth, .ref q_o_best, .int o_chosen])), (q_o_s, .inl (cI, 10, .inl o_s)), (q_o_board, .inl (cI, 49, .inl o_board))] → va_S A s.heap H locs → lv_has ls 2 [(0, .ref q_o), (1, .int x1)] → W p l e ({ frames := 0, cells := 0, slots := 0, locals := 0 } : Room) s m ([.ref q_o] : List Value).toArray below meth c H locs 0 0 (MQ below (QV D [(q_o, .inr (7, [.int o_thrown, .long o_trace, .ref q_o_text, .int o_typed, .int o_next, .int o_token, .int o_place, .int o_value, .int o_fault, .ref q_o_warmth, .ref q_o_side, .ref q_o_seconds, .int o_members, .int o_pairs, .int o_cold, .int o_fur, .int o_coughs, .int o_draftMembers, .int o_draftPairs, .int o_draftCold, .int o_draftFur, .int o_draftCoughs, .ref q_o_s, .ref q_o_kept, .ref q_o_isKept, .ref q_o_undos, .int o_undoMany, .ref q_o_seenAt, .ref q_o_seen, .int o_seenMany, .ref q_o_board, .ref q_o_pick, .ref q_o_worth, .ref q_o_best, .int o_chosen])), (q_o_s, .inl (cI, 10, .inl o_s)), (q_o_board, .inl (cI, 49, .inl o_board'))] A) ([.ref q_o] : List Value).toArray s 0 0 A) (F0 m 2 ls []) := by
    intro n2
    induction n2 with
    | zero =>
      intro x1 o_board H locs ls hf hP hD hS hl
      exact noneNe hf
    | succ n2 ih2 =>
      intro x1 o_board H locs ls hf hP hD hS hl
      have hf : f_X8_setsBoard_2_b o_s (f_X8_setsBoard_2 o_s n2) x1 o_board = some o_board' := hf
      unfold f_X8_setsBoard_2_b at hf
      refine lv_iload_n hx hb dX8_setsBoard_2 rfl (lv_at hl 1 rfl) ?_
      refine lv_bipush (v := 7) hx hb dX8_setsBoard_3 (by decide) ?_
      refine lv_icmp_ge (tgt := 26) hx hb dX8_setsBoard_5 (by decide) (fun c1 => ?_) (fun c1 => ?_)
      · have hf := ite_p hf c1
        have e0_ := Option.some.inj hf
        have hP : va_P D vwCl [(q_o, .inr (7, [.int o_thrown, .long o_trace, .ref q_o_text, .int o_typed, .int o_next, .int o_token, .int o_place, .int o_value, .int o_fault, .ref q_o_warmth, .ref q_o_side, .ref q_o_seconds, .int o_members, .int o_pairs, .int o_cold, .int o_fur, .int o_coughs, .int o_draftMembers, .int o_draftPairs, .int o_draftCold, .int o_draftFur, .int o_draftCoughs, .ref q_o_s, .ref q_o_kept, .ref q_o_isKept, .ref q_o_undos, .int o_undoMany, .ref q_o_seenAt, .ref q_o_seen, .int o_seenMany, .ref q_o_board, .ref q_o_pick, .ref q_o_worth, .ref q_o_best, .int o_chosen])), (q_o_s, .inl (cI, 10, .inl o_s)), (q_o_board, .inl (cI, 49, .inl o_board'))] H := by rw [← e0_]; exact hP
        have hD : va_D A [(q_o, .inr (7, [.int o_thrown, .long o_trace, .ref q_o_text, .int o_typed, .int o_next, .int o_token, .int o_place, .int o_value, .int o_fault, .ref q_o_warmth, .ref q_o_side, .ref q_o_seconds, .int o_members, .int o_pairs, .int o_cold, .int o_fur, .int o_coughs, .int o_draftMembers, .int o_draftPairs, .int o_draftCold, .int o_draftFur, .int o_draftCoughs, .ref q_o_s, .ref q_o_kept, .ref q_o_isKept, .ref q_o_undos, .int o_undoMany, .ref q_o_seenAt, .ref q_o_seen, .int o_seenMany, .ref q_o_board, .ref q_o_pick, .ref q_o_worth, .ref q_o_best, .int o_chosen])), (q_o_s, .inl (cI, 10, .inl o_s)), (q_o_board, .inl (cI, 49, .inl o_board'))] := by rw [← e0_]; exact hD
        exact endMV hx hb hr hlocks hP hD hS dX8_setsBoard_26
      · have hf := ite_n hf c1
        refine lv_aload_n hx hb dX8_setsBoard_8 rfl (lv_at hl 0 rfl) ?_
        refine va_get (D := D) (ci := 7) (v := .ref q_o_board) (C := RX8) (T := TX8) (N := 35) hx hb hts hinX8 hown hK.1 hP 0 rfl rfl 30 (by decide) g41 (fun _ h9 => h9) rfl dX8_setsBoard_9 ?_
        refine lv_iload_n hx hb dX8_setsBoard_12 rfl (lv_at hl 1 rfl) ?_
        refine lv_aload_n hx hb dX8_setsBoard_13 rfl (lv_at hl 0 rfl) ?_
        refine va_get (D := D) (ci := 7) (v := .ref q_o_s) (C := RX8) (T := TX8) (N := 35) hx hb hts hinX8 hown hK.1 hP 0 rfl rfl 22 (by decide) g22 (fun _ h9 => h9) rfl dX8_setsBoard_14 ?_
        refine lv_iload_n hx hb dX8_setsBoard_17 rfl (lv_at hl 1 rfl) ?_
        obtain ⟨g2, hf⟩ := ing_some hf
        refine va_iald hx hb hK.1 hP 1 1 rfl rfl g2 dX8_setsBoard_18 ?_
        obtain ⟨g3, hf⟩ := ing_some hf
        refine va_iast hx hb hK.1 hP hD hS 2 1 rfl rfl g3 dX8_setsBoard_19 (fun H locs hP hD hS => ?_)
        obtain ⟨w4, ew4⟩ : ∃ z : Nat → Int32, z = upd o_board x1.toNatClampNeg (o_s x1.toNatClampNeg) := ⟨_, rfl⟩
        have hf := bnd_at hf ew4
        have hP : va_P D vwCl [(q_o, .inr (7, [.int o_thrown, .long o_trace, .ref q_o_text, .int o_typed, .int o_next, .int o_token, .int o_place, .int o_value, .int o_fault, .ref q_o_warmth, .ref q_o_side, .ref q_o_seconds, .int o_members, .int o_pairs, .int o_cold, .int o_fur, .int o_coughs, .int o_draftMembers, .int o_draftPairs, .int o_draftCold, .int o_draftFur, .int o_draftCoughs, .ref q_o_s, .ref q_o_kept, .ref q_o_isKept, .ref q_o_undos, .int o_undoMany, .ref q_o_seenAt, .ref q_o_seen, .int o_seenMany, .ref q_o_board, .ref q_o_pick, .ref q_o_worth, .ref q_o_best, .int o_chosen])), (q_o_s, .inl (cI, 10, .inl o_s)), (q_o_board, .inl (cI, 49, .inl w4))] H := by rw [ew4]; exact hP
        have hD : va_D A [(q_o, .inr (7, [.int o_thrown, .long o_trace, .ref q_o_text, .int o_typed, .int o_next, .int o_token, .int o_place, .int o_value, .int o_fault, .ref q_o_warmth, .ref q_o_side, .ref q_o_seconds, .int o_members, .int o_pairs, .int o_cold, .int o_fur, .int o_coughs, .int o_draftMembers, .int o_draftPairs, .int o_draftCold, .int o_draftFur, .int o_draftCoughs, .ref q_o_s, .ref q_o_kept, .ref q_o_isKept, .ref q_o_undos, .int o_undoMany, .ref q_o_seenAt, .ref q_o_seen, .int o_seenMany, .ref q_o_board, .ref q_o_pick, .ref q_o_worth, .ref q_o_best, .int o_chosen])), (q_o_s, .inl (cI, 10, .inl o_s)), (q_o_board, .inl (cI, 49, .inl w4))] := by rw [ew4]; exact hD
        obtain ⟨y5, ey5⟩ : ∃ z : Int32, z = x1 + 1 := ⟨_, rfl⟩
        have hf := bnd_at hf ey5
        refine lv_iinc (v := y5) (lv' := [(1, .int y5), (0, .ref q_o)]) hx hb dX8_setsBoard_20 hl (k := 1) rfl (by rw [ey5]; rfl) (by decide) rfl (fun ls hl => ?_)
        refine lv_goto (tgt := 2) hx hb dX8_setsBoard_23 (by decide) ?_
        exact ih2 y5 w4 _ _ ls hf hP hD hS (lv_sub hl [1, 0] rfl)
  unfold f_X8_setsBoard at hf
  refine lv_iconst (v := 0) hx hb dX8_setsBoard_0 (by decide) ?_
  refine lv_istore_n (lv' := [(1, .int 0), (0, .ref q_o)]) hx hb dX8_setsBoard_1 rfl hl (by decide) rfl (fun ls hl => ?_)
  exact L2 FU 0 o_board _ _ ls hf hP hD hS (lv_sub hl [1, 0] rfl)
def f_X8_vote (o_members : Int32) (o_side : Nat → Int32) (o_s : Nat → Int32) (o_thrown : Int32) (o_board : Nat → Int32) : Option (Int32 × Int32 × (Nat → Int32)) :=
  ob1 (f_X8_setsBoard o_s o_board) fun m1 =>
  ob1 (f_X8_lead o_members o_side m1 0) fun r3 =>
  if r3 ≤ 0 then (
    some (0, 0, m1)
  ) else (
    some (1, 0, m1)
  )
set_option maxHeartbeats 4000000 in
set_option maxRecDepth 100000 in
theorem c_X8_vote (l : Launch) (D : va_G) (cB cI cZ cM cN : ClassId) (q_o : Nat) (q_o_text : Nat) (q_o_warmth : Nat) (q_o_side : Nat) (q_o_seconds : Nat) (q_o_s : Nat) (q_o_kept : Nat) (q_o_isKept : Nat) (q_o_undos : Nat) (q_o_seenAt : Nat) (q_o_seen : Nat) (q_o_board : Nat) (q_o_pick : Nat) (q_o_worth : Nat) (q_o_best : Nat) (o_thrown : Int32) (o_trace : Int64) (o_typed : Int32) (o_next : Int32) (o_token : Int32) (o_place : Int32) (o_value : Int32) (o_fault : Int32) (o_members : Int32) (o_pairs : Int32) (o_cold : Int32) (o_fur : Int32) (o_coughs : Int32) (o_draftMembers : Int32) (o_draftPairs : Int32) (o_draftCold : Int32) (o_draftFur : Int32) (o_draftCoughs : Int32) (o_undoMany : Int32) (o_seenMany : Int32) (o_chosen : Int32) (o_side : Nat → Int32) (o_s : Nat → Int32) (o_board : Nat → Int32) (r : Int32) (o_thrown' : Int32) (o_board' : Nat → Int32) (sz : Nat) (hf : f_X8_vote o_members o_side o_s o_thrown o_board = some (r, o_thrown', o_board')) : Met l yX8_vote wsX8_vote ({ frames := 1, cells := 0, slots := 0, locals := 23 } : Room) (PM D cB cI cZ cM cN [.ref q_o] [(q_o, .inr (7, [.int o_thrown, .long o_trace, .ref q_o_text, .int o_typed, .int o_next, .int o_token, .int o_place, .int o_value, .int o_fault, .ref q_o_warmth, .ref q_o_side, .ref q_o_seconds, .int o_members, .int o_pairs, .int o_cold, .int o_fur, .int o_coughs, .int o_draftMembers, .int o_draftPairs, .int o_draftCold, .int o_draftFur, .int o_draftCoughs, .ref q_o_s, .ref q_o_kept, .ref q_o_isKept, .ref q_o_undos, .int o_undoMany, .ref q_o_seenAt, .ref q_o_seen, .int o_seenMany, .ref q_o_board, .ref q_o_pick, .ref q_o_worth, .ref q_o_best, .int o_chosen])), (q_o_side, .inl (cI, 12, .inl o_side)), (q_o_s, .inl (cI, 10, .inl o_s)), (q_o_board, .inl (cI, 49, .inl o_board))] sz) (QI D [(q_o, .inr (7, [.int o_thrown', .long o_trace, .ref q_o_text, .int o_typed, .int o_next, .int o_token, .int o_place, .int o_value, .int o_fault, .ref q_o_warmth, .ref q_o_side, .ref q_o_seconds, .int o_members, .int o_pairs, .int o_cold, .int o_fur, .int o_coughs, .int o_draftMembers, .int o_draftPairs, .int o_draftCold, .int o_draftFur, .int o_draftCoughs, .ref q_o_s, .ref q_o_kept, .ref q_o_isKept, .ref q_o_undos, .int o_undoMany, .ref q_o_seenAt, .ref q_o_seen, .int o_seenMany, .ref q_o_board, .ref q_o_pick, .ref q_o_worth, .ref q_o_best, .int o_chosen])), (q_o_side, .inl (cI, 12, .inl o_side)), (q_o_s, .inl (cI, 10, .inl o_s)), (q_o_board, .inl (cI, 49, .inl o_board'))] r (va_A [(q_o, .inr (7, [.int o_thrown, .long o_trace, .ref q_o_text, .int o_typed, .int o_next, .int o_token, .int o_place, .int o_value, .int o_fault, .ref q_o_warmth, .ref q_o_side, .ref q_o_seconds, .int o_members, .int o_pairs, .int o_cold, .int o_fur, .int o_coughs, .int o_draftMembers, .int o_draftPairs, .int o_draftCold, .int o_draftFur, .int o_draftCoughs, .ref q_o_s, .ref q_o_kept, .ref q_o_isKept, .ref q_o_undos, .int o_undoMany, .ref q_o_seenAt, .ref q_o_seen, .int o_seenMany, .ref q_o_board, .ref q_o_pick, .ref q_o_worth, .ref q_o_best, .int o_chosen])), (q_o_side, .inl (cI, 12, .inl o_side)), (q_o_s, .inl (cI, 10, .inl o_s)), (q_o_board, .inl (cI, 49, .inl o_board))] sz)) 0 0 (va_A [(q_o, .inr (7, [.int o_thrown, .long o_trace, .ref q_o_text, .int o_typed, .int o_next, .int o_token, .int o_place, .int o_value, .int o_fault, .ref q_o_warmth, .ref q_o_side, .ref q_o_seconds, .int o_members, .int o_pairs, .int o_cold, .int o_fur, .int o_coughs, .int o_draftMembers, .int o_draftPairs, .int o_draftCold, .int o_draftFur, .int o_draftCoughs, .ref q_o_s, .ref q_o_kept, .ref q_o_isKept, .ref q_o_undos, .int o_undoMany, .ref q_o_seenAt, .ref q_o_seen, .int o_seenMany, .ref q_o_board, .ref q_o_pick, .ref q_o_worth, .ref q_o_best, .int o_chosen])), (q_o_side, .inl (cI, 12, .inl o_side)), (q_o_s, .inl (cI, 10, .inl o_s)), (q_o_board, .inl (cI, 49, .inl o_board))] sz) := by
  refine entM (l := l) (y := yX8_vote) (ws := wsX8_vote) (cc := cX8_vote) (av := [.ref q_o]) (wc := [(q_o, .inr (7, [.int o_thrown, .long o_trace, .ref q_o_text, .int o_typed, .int o_next, .int o_token, .int o_place, .int o_value, .int o_fault, .ref q_o_warmth, .ref q_o_side, .ref q_o_seconds, .int o_members, .int o_pairs, .int o_cold, .int o_fur, .int o_coughs, .int o_draftMembers, .int o_draftPairs, .int o_draftCold, .int o_draftFur, .int o_draftCoughs, .ref q_o_s, .ref q_o_kept, .ref q_o_isKept, .ref q_o_undos, .int o_undoMany, .ref q_o_seenAt, .ref q_o_seen, .int o_seenMany, .ref q_o_board, .ref q_o_pick, .ref q_o_worth, .ref q_o_best, .int o_chosen])), (q_o_side, .inl (cI, 12, .inl o_side)), (q_o_s, .inl (cI, 10, .inl o_s)), (q_o_board, .inl (cI, 49, .inl o_board))]) (sz := sz) (Qc := fun A => QI D [(q_o, .inr (7, [.int o_thrown', .long o_trace, .ref q_o_text, .int o_typed, .int o_next, .int o_token, .int o_place, .int o_value, .int o_fault, .ref q_o_warmth, .ref q_o_side, .ref q_o_seconds, .int o_members, .int o_pairs, .int o_cold, .int o_fur, .int o_coughs, .int o_draftMembers, .int o_draftPairs, .int o_draftCold, .int o_draftFur, .int o_draftCoughs, .ref q_o_s, .ref q_o_kept, .ref q_o_isKept, .ref q_o_undos, .int o_undoMany, .ref q_o_seenAt, .ref q_o_seen, .int o_seenMany, .ref q_o_board, .ref q_o_pick, .ref q_o_worth, .ref q_o_best, .int o_chosen])), (q_o_side, .inl (cI, 12, .inl o_side)), (q_o_s, .inl (cI, 10, .inl o_s)), (q_o_board, .inl (cI, 49, .inl o_board'))] r A) (by decide +kernel) rfl (Nat.le_of_ble_eq_true rfl) ?_
  intro A p e s m below meth c hx hb hr hml hown hlocks hts hK hA H locs hP hD hS ls hl
  have hown : s.vm.findClass RX8 = some m.cls := hown
  have hl : lv_has ls 1 [(0, .ref q_o)] := hl
  have hfix : CallFix p m c cX8_vote 1 s ([.ref q_o] : List Value).toArray wsX8_vote RX8 := ⟨hx, hb, hml, hown, hts⟩
  have hinX8 : ∀ w ∈ u_ws RX8 TX8 35, w ∈ wsX8_vote := by decide +kernel
  have g63 := hts (.fieldLink RX8 63 "LastCoatModel" "thrown" "I") (by decide +kernel)
  unfold f_X8_vote at hf
  refine lv_aload_n hx hb dX8_vote_0 rfl (lv_at hl 0 rfl) ?_
  refine lv_iconst (v := 0) hx hb dX8_vote_1 (by decide) ?_
  refine va_put (D := D) (ci := 7) (v := .int 0) (ty := .int) (C := RX8) (T := TX8) (N := 35) hx hb hts hinX8 tyX8 tyX8_ok nmX8 hown hK.1 hP hD hS 0 rfl rfl 0 (by decide) g63 (fun _ h9 => h9) rfl (by decide +kernel) rfl rfl (Nat.le_of_ble_eq_true rfl) dX8_vote_2 (fun H locs hP hD hS => ?_)
  have hP : va_P D vwCl [(q_o, .inr (7, [.int 0, .long o_trace, .ref q_o_text, .int o_typed, .int o_next, .int o_token, .int o_place, .int o_value, .int o_fault, .ref q_o_warmth, .ref q_o_side, .ref q_o_seconds, .int o_members, .int o_pairs, .int o_cold, .int o_fur, .int o_coughs, .int o_draftMembers, .int o_draftPairs, .int o_draftCold, .int o_draftFur, .int o_draftCoughs, .ref q_o_s, .ref q_o_kept, .ref q_o_isKept, .ref q_o_undos, .int o_undoMany, .ref q_o_seenAt, .ref q_o_seen, .int o_seenMany, .ref q_o_board, .ref q_o_pick, .ref q_o_worth, .ref q_o_best, .int o_chosen])), (q_o_side, .inl (cI, 12, .inl o_side)), (q_o_s, .inl (cI, 10, .inl o_s)), (q_o_board, .inl (cI, 49, .inl o_board))] H := hP
  have hD : va_D A [(q_o, .inr (7, [.int 0, .long o_trace, .ref q_o_text, .int o_typed, .int o_next, .int o_token, .int o_place, .int o_value, .int o_fault, .ref q_o_warmth, .ref q_o_side, .ref q_o_seconds, .int o_members, .int o_pairs, .int o_cold, .int o_fur, .int o_coughs, .int o_draftMembers, .int o_draftPairs, .int o_draftCold, .int o_draftFur, .int o_draftCoughs, .ref q_o_s, .ref q_o_kept, .ref q_o_isKept, .ref q_o_undos, .int o_undoMany, .ref q_o_seenAt, .ref q_o_seen, .int o_seenMany, .ref q_o_board, .ref q_o_pick, .ref q_o_worth, .ref q_o_best, .int o_chosen])), (q_o_side, .inl (cI, 12, .inl o_side)), (q_o_s, .inl (cI, 10, .inl o_s)), (q_o_board, .inl (cI, 49, .inl o_board))] := hD
  refine lv_aload_n hx hb dX8_vote_5 rfl (lv_at hl 0 rfl) ?_
  obtain ⟨m1, h2, hf⟩ := ob1_some hf
  refine muVv (wr := [(q_o_side, .inl (cI, 12, .inl o_side))]) (ws1 := [(q_o, .inr (7, [.int 0, .long o_trace, .ref q_o_text, .int o_typed, .int o_next, .int o_token, .int o_place, .int o_value, .int o_fault, .ref q_o_warmth, .ref q_o_side, .ref q_o_seconds, .int o_members, .int o_pairs, .int o_cold, .int o_fur, .int o_coughs, .int o_draftMembers, .int o_draftPairs, .int o_draftCold, .int o_draftFur, .int o_draftCoughs, .ref q_o_s, .ref q_o_kept, .ref q_o_isKept, .ref q_o_undos, .int o_undoMany, .ref q_o_seenAt, .ref q_o_seen, .int o_seenMany, .ref q_o_board, .ref q_o_pick, .ref q_o_worth, .ref q_o_best, .int o_chosen])), (q_o_side, .inl (cI, 12, .inl o_side)), (q_o_s, .inl (cI, 10, .inl o_s)), (q_o_board, .inl (cI, 49, .inl m1))]) (c_X8_setsBoard l D cB cI cZ cM cN q_o q_o_text q_o_warmth q_o_side q_o_seconds q_o_s q_o_kept q_o_isKept q_o_undos q_o_seenAt q_o_seen q_o_board q_o_pick q_o_worth q_o_best 0 o_trace o_typed o_next o_token o_place o_value o_fault o_members o_pairs o_cold o_fur o_coughs o_draftMembers o_draftPairs o_draftCold o_draftFur o_draftCoughs o_undoMany o_seenMany o_chosen o_s o_board m1 H.size h2) hfix (cwV 0 hts gX8_vote_X8_setsBoard rfl rfl rfl (by decide +kernel) ⟨Nat.le_of_ble_eq_true rfl, Nat.le_of_ble_eq_true rfl⟩) hP hK hD hA hS [0, 2, 3] [1] [1, 0, 2, 3] rfl rfl rfl rfl (by decide) rfl rfl rfl rfl rfl rfl hl.1 rfl (Nat.le_of_ble_eq_true rfl) dX8_vote_6 ⟨Nat.zero_le _, Nat.zero_le _⟩ (fun H locs hP hD hS => ?_)
  refine lv_aload_n hx hb dX8_vote_9 rfl (lv_at hl 0 rfl) ?_
  refine lv_iconst (v := 0) hx hb dX8_vote_10 (by decide) ?_
  obtain ⟨r3, h4, hf⟩ := ob1_some hf
  refine roV (c_X8_lead l D cB cI cZ cM cN q_o q_o_text q_o_warmth q_o_side q_o_seconds q_o_s q_o_kept q_o_isKept q_o_undos q_o_seenAt q_o_seen q_o_board q_o_pick q_o_worth q_o_best 0 o_trace o_typed o_next o_token o_place o_value o_fault o_members o_pairs o_cold o_fur o_coughs o_draftMembers o_draftPairs o_draftCold o_draftFur o_draftCoughs o_undoMany o_seenMany o_chosen o_side m1 0 r3 h4) hfix (cwV 1 hts gX8_vote_X8_lead rfl rfl rfl (by decide +kernel) ⟨Nat.le_of_ble_eq_true rfl, Nat.le_of_ble_eq_true rfl⟩) (subC hP [0, 1, 3] rfl) hK rfl rfl rfl rfl hl.1 rfl (Nat.le_of_ble_eq_true rfl) dX8_vote_11 ⟨Nat.zero_le _, Nat.zero_le _⟩ ?_
  refine lv_if_le (tgt := 21) hx hb dX8_vote_14 (by decide) (fun c5 => ?_) (fun c5 => ?_)
  · have hf := ite_p hf c5
    refine lv_iconst (v := 0) hx hb dX8_vote_21 (by decide) ?_
    obtain ⟨e0_, e1_, e2_⟩ := tup3 hf
    have hP : va_P D vwCl [(q_o, .inr (7, [.int o_thrown', .long o_trace, .ref q_o_text, .int o_typed, .int o_next, .int o_token, .int o_place, .int o_value, .int o_fault, .ref q_o_warmth, .ref q_o_side, .ref q_o_seconds, .int o_members, .int o_pairs, .int o_cold, .int o_fur, .int o_coughs, .int o_draftMembers, .int o_draftPairs, .int o_draftCold, .int o_draftFur, .int o_draftCoughs, .ref q_o_s, .ref q_o_kept, .ref q_o_isKept, .ref q_o_undos, .int o_undoMany, .ref q_o_seenAt, .ref q_o_seen, .int o_seenMany, .ref q_o_board, .ref q_o_pick, .ref q_o_worth, .ref q_o_best, .int o_chosen])), (q_o_side, .inl (cI, 12, .inl o_side)), (q_o_s, .inl (cI, 10, .inl o_s)), (q_o_board, .inl (cI, 49, .inl o_board'))] H := by rw [← e1_, ← e2_]; exact hP
    have hD : va_D A [(q_o, .inr (7, [.int o_thrown', .long o_trace, .ref q_o_text, .int o_typed, .int o_next, .int o_token, .int o_place, .int o_value, .int o_fault, .ref q_o_warmth, .ref q_o_side, .ref q_o_seconds, .int o_members, .int o_pairs, .int o_cold, .int o_fur, .int o_coughs, .int o_draftMembers, .int o_draftPairs, .int o_draftCold, .int o_draftFur, .int o_draftCoughs, .ref q_o_s, .ref q_o_kept, .ref q_o_isKept, .ref q_o_undos, .int o_undoMany, .ref q_o_seenAt, .ref q_o_seen, .int o_seenMany, .ref q_o_board, .ref q_o_pick, .ref q_o_worth, .ref q_o_best, .int o_chosen])), (q_o_side, .inl (cI, 12, .inl o_side)), (q_o_s, .inl (cI, 10, .inl o_s)), (q_o_board, .inl (cI, 49, .inl o_board'))] := by rw [← e1_, ← e2_]; exact hD
    exact endMI hx hb hr hlocks rfl hP hD hS e0_ dX8_vote_22
  · have hf := ite_n hf c5
    refine lv_iconst (v := 1) hx hb dX8_vote_17 (by decide) ?_
    refine lv_goto (tgt := 22) hx hb dX8_vote_18 (by decide) ?_
    obtain ⟨e0_, e1_, e2_⟩ := tup3 hf
    have hP : va_P D vwCl [(q_o, .inr (7, [.int o_thrown', .long o_trace, .ref q_o_text, .int o_typed, .int o_next, .int o_token, .int o_place, .int o_value, .int o_fault, .ref q_o_warmth, .ref q_o_side, .ref q_o_seconds, .int o_members, .int o_pairs, .int o_cold, .int o_fur, .int o_coughs, .int o_draftMembers, .int o_draftPairs, .int o_draftCold, .int o_draftFur, .int o_draftCoughs, .ref q_o_s, .ref q_o_kept, .ref q_o_isKept, .ref q_o_undos, .int o_undoMany, .ref q_o_seenAt, .ref q_o_seen, .int o_seenMany, .ref q_o_board, .ref q_o_pick, .ref q_o_worth, .ref q_o_best, .int o_chosen])), (q_o_side, .inl (cI, 12, .inl o_side)), (q_o_s, .inl (cI, 10, .inl o_s)), (q_o_board, .inl (cI, 49, .inl o_board'))] H := by rw [← e1_, ← e2_]; exact hP
    have hD : va_D A [(q_o, .inr (7, [.int o_thrown', .long o_trace, .ref q_o_text, .int o_typed, .int o_next, .int o_token, .int o_place, .int o_value, .int o_fault, .ref q_o_warmth, .ref q_o_side, .ref q_o_seconds, .int o_members, .int o_pairs, .int o_cold, .int o_fur, .int o_coughs, .int o_draftMembers, .int o_draftPairs, .int o_draftCold, .int o_draftFur, .int o_draftCoughs, .ref q_o_s, .ref q_o_kept, .ref q_o_isKept, .ref q_o_undos, .int o_undoMany, .ref q_o_seenAt, .ref q_o_seen, .int o_seenMany, .ref q_o_board, .ref q_o_pick, .ref q_o_worth, .ref q_o_best, .int o_chosen])), (q_o_side, .inl (cI, 12, .inl o_side)), (q_o_s, .inl (cI, 10, .inl o_s)), (q_o_board, .inl (cI, 49, .inl o_board'))] := by rw [← e1_, ← e2_]; exact hD
    exact endMI hx hb hr hlocks rfl hP hD hS e0_ dX8_vote_22
def f_X8_lot (o_thrown : Int32) (o_s : Nat → Int32) (p1 : Int32) : Option (Int32 × Int32 × (Nat → Int32)) :=
  ing 9 10 <|
  bnd (o_s (9 : Int32).toNatClampNeg) fun y2 =>
  ing 9 10 <|
  bnd (upd o_s (9 : Int32).toNatClampNeg p1) fun w4 =>
  some (y2, 0, w4)
set_option maxHeartbeats 4000000 in
set_option maxRecDepth 100000 in
theorem c_X8_lot (l : Launch) (D : va_G) (cB cI cZ cM cN : ClassId) (q_o : Nat) (q_o_text : Nat) (q_o_warmth : Nat) (q_o_side : Nat) (q_o_seconds : Nat) (q_o_s : Nat) (q_o_kept : Nat) (q_o_isKept : Nat) (q_o_undos : Nat) (q_o_seenAt : Nat) (q_o_seen : Nat) (q_o_board : Nat) (q_o_pick : Nat) (q_o_worth : Nat) (q_o_best : Nat) (o_thrown : Int32) (o_trace : Int64) (o_typed : Int32) (o_next : Int32) (o_token : Int32) (o_place : Int32) (o_value : Int32) (o_fault : Int32) (o_members : Int32) (o_pairs : Int32) (o_cold : Int32) (o_fur : Int32) (o_coughs : Int32) (o_draftMembers : Int32) (o_draftPairs : Int32) (o_draftCold : Int32) (o_draftFur : Int32) (o_draftCoughs : Int32) (o_undoMany : Int32) (o_seenMany : Int32) (o_chosen : Int32) (o_s : Nat → Int32) (p1 : Int32) (r : Int32) (o_thrown' : Int32) (o_s' : Nat → Int32) (sz : Nat) (hf : f_X8_lot o_thrown o_s p1 = some (r, o_thrown', o_s')) : Met l yX8_lot wsX8_lot ({ frames := 0, cells := 0, slots := 0, locals := 0 } : Room) (PM D cB cI cZ cM cN [.ref q_o, .int p1] [(q_o, .inr (7, [.int o_thrown, .long o_trace, .ref q_o_text, .int o_typed, .int o_next, .int o_token, .int o_place, .int o_value, .int o_fault, .ref q_o_warmth, .ref q_o_side, .ref q_o_seconds, .int o_members, .int o_pairs, .int o_cold, .int o_fur, .int o_coughs, .int o_draftMembers, .int o_draftPairs, .int o_draftCold, .int o_draftFur, .int o_draftCoughs, .ref q_o_s, .ref q_o_kept, .ref q_o_isKept, .ref q_o_undos, .int o_undoMany, .ref q_o_seenAt, .ref q_o_seen, .int o_seenMany, .ref q_o_board, .ref q_o_pick, .ref q_o_worth, .ref q_o_best, .int o_chosen])), (q_o_s, .inl (cI, 10, .inl o_s))] sz) (QI D [(q_o, .inr (7, [.int o_thrown', .long o_trace, .ref q_o_text, .int o_typed, .int o_next, .int o_token, .int o_place, .int o_value, .int o_fault, .ref q_o_warmth, .ref q_o_side, .ref q_o_seconds, .int o_members, .int o_pairs, .int o_cold, .int o_fur, .int o_coughs, .int o_draftMembers, .int o_draftPairs, .int o_draftCold, .int o_draftFur, .int o_draftCoughs, .ref q_o_s, .ref q_o_kept, .ref q_o_isKept, .ref q_o_undos, .int o_undoMany, .ref q_o_seenAt, .ref q_o_seen, .int o_seenMany, .ref q_o_board, .ref q_o_pick, .ref q_o_worth, .ref q_o_best, .int o_chosen])), (q_o_s, .inl (cI, 10, .inl o_s'))] r (va_A [(q_o, .inr (7, [.int o_thrown, .long o_trace, .ref q_o_text, .int o_typed, .int o_next, .int o_token, .int o_place, .int o_value, .int o_fault, .ref q_o_warmth, .ref q_o_side, .ref q_o_seconds, .int o_members, .int o_pairs, .int o_cold, .int o_fur, .int o_coughs, .int o_draftMembers, .int o_draftPairs, .int o_draftCold, .int o_draftFur, .int o_draftCoughs, .ref q_o_s, .ref q_o_kept, .ref q_o_isKept, .ref q_o_undos, .int o_undoMany, .ref q_o_seenAt, .ref q_o_seen, .int o_seenMany, .ref q_o_board, .ref q_o_pick, .ref q_o_worth, .ref q_o_best, .int o_chosen])), (q_o_s, .inl (cI, 10, .inl o_s))] sz)) 0 0 (va_A [(q_o, .inr (7, [.int o_thrown, .long o_trace, .ref q_o_text, .int o_typed, .int o_next, .int o_token, .int o_place, .int o_value, .int o_fault, .ref q_o_warmth, .ref q_o_side, .ref q_o_seconds, .int o_members, .int o_pairs, .int o_cold, .int o_fur, .int o_coughs, .int o_draftMembers, .int o_draftPairs, .int o_draftCold, .int o_draftFur, .int o_draftCoughs, .ref q_o_s, .ref q_o_kept, .ref q_o_isKept, .ref q_o_undos, .int o_undoMany, .ref q_o_seenAt, .ref q_o_seen, .int o_seenMany, .ref q_o_board, .ref q_o_pick, .ref q_o_worth, .ref q_o_best, .int o_chosen])), (q_o_s, .inl (cI, 10, .inl o_s))] sz) := by
  refine entM (l := l) (y := yX8_lot) (ws := wsX8_lot) (cc := cX8_lot) (av := [.ref q_o, .int p1]) (wc := [(q_o, .inr (7, [.int o_thrown, .long o_trace, .ref q_o_text, .int o_typed, .int o_next, .int o_token, .int o_place, .int o_value, .int o_fault, .ref q_o_warmth, .ref q_o_side, .ref q_o_seconds, .int o_members, .int o_pairs, .int o_cold, .int o_fur, .int o_coughs, .int o_draftMembers, .int o_draftPairs, .int o_draftCold, .int o_draftFur, .int o_draftCoughs, .ref q_o_s, .ref q_o_kept, .ref q_o_isKept, .ref q_o_undos, .int o_undoMany, .ref q_o_seenAt, .ref q_o_seen, .int o_seenMany, .ref q_o_board, .ref q_o_pick, .ref q_o_worth, .ref q_o_best, .int o_chosen])), (q_o_s, .inl (cI, 10, .inl o_s))]) (sz := sz) (Qc := fun A => QI D [(q_o, .inr (7, [.int o_thrown', .long o_trace, .ref q_o_text, .int o_typed, .int o_next, .int o_token, .int o_place, .int o_value, .int o_fault, .ref q_o_warmth, .ref q_o_side, .ref q_o_seconds, .int o_members, .int o_pairs, .int o_cold, .int o_fur, .int o_coughs, .int o_draftMembers, .int o_draftPairs, .int o_draftCold, .int o_draftFur, .int o_draftCoughs, .ref q_o_s, .ref q_o_kept, .ref q_o_isKept, .ref q_o_undos, .int o_undoMany, .ref q_o_seenAt, .ref q_o_seen, .int o_seenMany, .ref q_o_board, .ref q_o_pick, .ref q_o_worth, .ref q_o_best, .int o_chosen])), (q_o_s, .inl (cI, 10, .inl o_s'))] r A) (by decide +kernel) rfl (Nat.le_of_ble_eq_true rfl) ?_
  intro A p e s m below meth c hx hb hr hml hown hlocks hts hK hA H locs hP hD hS ls hl
  have hown : s.vm.findClass RX8 = some m.cls := hown
  have hl : lv_has ls 3 [(0, .ref q_o), (1, .int p1)] := hl
  have hfix : CallFix p m c cX8_lot 3 s ([.ref q_o, .int p1] : List Value).toArray wsX8_lot RX8 := ⟨hx, hb, hml, hown, hts⟩
  have hinX8 : ∀ w ∈ u_ws RX8 TX8 35, w ∈ wsX8_lot := by decide +kernel
  have g63 := hts (.fieldLink RX8 63 "LastCoatModel" "thrown" "I") (by decide +kernel)
  have g22 := hts (.fieldLink RX8 22 "LastCoatModel" "s" "[I") (by decide +kernel)
  unfold f_X8_lot at hf
  refine lv_aload_n hx hb dX8_lot_0 rfl (lv_at hl 0 rfl) ?_
  refine lv_iconst (v := 0) hx hb dX8_lot_1 (by decide) ?_
  refine va_put (D := D) (ci := 7) (v := .int 0) (ty := .int) (C := RX8) (T := TX8) (N := 35) hx hb hts hinX8 tyX8 tyX8_ok nmX8 hown hK.1 hP hD hS 0 rfl rfl 0 (by decide) g63 (fun _ h9 => h9) rfl (by decide +kernel) rfl rfl (Nat.le_of_ble_eq_true rfl) dX8_lot_2 (fun H locs hP hD hS => ?_)
  have hP : va_P D vwCl [(q_o, .inr (7, [.int 0, .long o_trace, .ref q_o_text, .int o_typed, .int o_next, .int o_token, .int o_place, .int o_value, .int o_fault, .ref q_o_warmth, .ref q_o_side, .ref q_o_seconds, .int o_members, .int o_pairs, .int o_cold, .int o_fur, .int o_coughs, .int o_draftMembers, .int o_draftPairs, .int o_draftCold, .int o_draftFur, .int o_draftCoughs, .ref q_o_s, .ref q_o_kept, .ref q_o_isKept, .ref q_o_undos, .int o_undoMany, .ref q_o_seenAt, .ref q_o_seen, .int o_seenMany, .ref q_o_board, .ref q_o_pick, .ref q_o_worth, .ref q_o_best, .int o_chosen])), (q_o_s, .inl (cI, 10, .inl o_s))] H := hP
  have hD : va_D A [(q_o, .inr (7, [.int 0, .long o_trace, .ref q_o_text, .int o_typed, .int o_next, .int o_token, .int o_place, .int o_value, .int o_fault, .ref q_o_warmth, .ref q_o_side, .ref q_o_seconds, .int o_members, .int o_pairs, .int o_cold, .int o_fur, .int o_coughs, .int o_draftMembers, .int o_draftPairs, .int o_draftCold, .int o_draftFur, .int o_draftCoughs, .ref q_o_s, .ref q_o_kept, .ref q_o_isKept, .ref q_o_undos, .int o_undoMany, .ref q_o_seenAt, .ref q_o_seen, .int o_seenMany, .ref q_o_board, .ref q_o_pick, .ref q_o_worth, .ref q_o_best, .int o_chosen])), (q_o_s, .inl (cI, 10, .inl o_s))] := hD
  refine lv_aload_n hx hb dX8_lot_5 rfl (lv_at hl 0 rfl) ?_
  refine va_get (D := D) (ci := 7) (v := .ref q_o_s) (C := RX8) (T := TX8) (N := 35) hx hb hts hinX8 hown hK.1 hP 0 rfl rfl 22 (by decide) g22 (fun _ h9 => h9) rfl dX8_lot_6 ?_
  refine lv_bipush (v := 9) hx hb dX8_lot_9 (by decide) ?_
  obtain ⟨g1, hf⟩ := ing_some hf
  refine va_iald hx hb hK.1 hP 1 1 rfl rfl g1 dX8_lot_11 ?_
  refine lv_topi (fun y2 ey2 => ?_)
  have hf := bnd_at hf ey2
  refine lv_istore_n (lv' := [(2, .int y2), (0, .ref q_o), (1, .int p1)]) hx hb dX8_lot_12 rfl hl (by decide) rfl (fun ls hl => ?_)
  refine lv_aload_n hx hb dX8_lot_13 rfl (lv_at hl 1 rfl) ?_
  refine va_get (D := D) (ci := 7) (v := .ref q_o_s) (C := RX8) (T := TX8) (N := 35) hx hb hts hinX8 hown hK.1 hP 0 rfl rfl 22 (by decide) g22 (fun _ h9 => h9) rfl dX8_lot_14 ?_
  refine lv_bipush (v := 9) hx hb dX8_lot_17 (by decide) ?_
  refine lv_iload_n hx hb dX8_lot_19 rfl (lv_at hl 2 rfl) ?_
  obtain ⟨g3, hf⟩ := ing_some hf
  refine va_iast hx hb hK.1 hP hD hS 1 1 rfl rfl g3 dX8_lot_20 (fun H locs hP hD hS => ?_)
  obtain ⟨w4, ew4⟩ : ∃ z : Nat → Int32, z = upd o_s (9 : Int32).toNatClampNeg p1 := ⟨_, rfl⟩
  have hf := bnd_at hf ew4
  have hP : va_P D vwCl [(q_o, .inr (7, [.int 0, .long o_trace, .ref q_o_text, .int o_typed, .int o_next, .int o_token, .int o_place, .int o_value, .int o_fault, .ref q_o_warmth, .ref q_o_side, .ref q_o_seconds, .int o_members, .int o_pairs, .int o_cold, .int o_fur, .int o_coughs, .int o_draftMembers, .int o_draftPairs, .int o_draftCold, .int o_draftFur, .int o_draftCoughs, .ref q_o_s, .ref q_o_kept, .ref q_o_isKept, .ref q_o_undos, .int o_undoMany, .ref q_o_seenAt, .ref q_o_seen, .int o_seenMany, .ref q_o_board, .ref q_o_pick, .ref q_o_worth, .ref q_o_best, .int o_chosen])), (q_o_s, .inl (cI, 10, .inl w4))] H := by rw [ew4]; exact hP
  have hD : va_D A [(q_o, .inr (7, [.int 0, .long o_trace, .ref q_o_text, .int o_typed, .int o_next, .int o_token, .int o_place, .int o_value, .int o_fault, .ref q_o_warmth, .ref q_o_side, .ref q_o_seconds, .int o_members, .int o_pairs, .int o_cold, .int o_fur, .int o_coughs, .int o_draftMembers, .int o_draftPairs, .int o_draftCold, .int o_draftFur, .int o_draftCoughs, .ref q_o_s, .ref q_o_kept, .ref q_o_isKept, .ref q_o_undos, .int o_undoMany, .ref q_o_seenAt, .ref q_o_seen, .int o_seenMany, .ref q_o_board, .ref q_o_pick, .ref q_o_worth, .ref q_o_best, .int o_chosen])), (q_o_s, .inl (cI, 10, .inl w4))] := by rw [ew4]; exact hD
  refine lv_iload_n hx hb dX8_lot_21 rfl (lv_at hl 0 rfl) ?_
  obtain ⟨e0_, e1_, e2_⟩ := tup3 hf
  have hP : va_P D vwCl [(q_o, .inr (7, [.int o_thrown', .long o_trace, .ref q_o_text, .int o_typed, .int o_next, .int o_token, .int o_place, .int o_value, .int o_fault, .ref q_o_warmth, .ref q_o_side, .ref q_o_seconds, .int o_members, .int o_pairs, .int o_cold, .int o_fur, .int o_coughs, .int o_draftMembers, .int o_draftPairs, .int o_draftCold, .int o_draftFur, .int o_draftCoughs, .ref q_o_s, .ref q_o_kept, .ref q_o_isKept, .ref q_o_undos, .int o_undoMany, .ref q_o_seenAt, .ref q_o_seen, .int o_seenMany, .ref q_o_board, .ref q_o_pick, .ref q_o_worth, .ref q_o_best, .int o_chosen])), (q_o_s, .inl (cI, 10, .inl o_s'))] H := by rw [← e1_, ← e2_]; exact hP
  have hD : va_D A [(q_o, .inr (7, [.int o_thrown', .long o_trace, .ref q_o_text, .int o_typed, .int o_next, .int o_token, .int o_place, .int o_value, .int o_fault, .ref q_o_warmth, .ref q_o_side, .ref q_o_seconds, .int o_members, .int o_pairs, .int o_cold, .int o_fur, .int o_coughs, .int o_draftMembers, .int o_draftPairs, .int o_draftCold, .int o_draftFur, .int o_draftCoughs, .ref q_o_s, .ref q_o_kept, .ref q_o_isKept, .ref q_o_undos, .int o_undoMany, .ref q_o_seenAt, .ref q_o_seen, .int o_seenMany, .ref q_o_board, .ref q_o_pick, .ref q_o_worth, .ref q_o_best, .int o_chosen])), (q_o_s, .inl (cI, 10, .inl o_s'))] := by rw [← e1_, ← e2_]; exact hD
  exact endMI hx hb hr hlocks rfl hP hD hS e0_ dX8_lot_22
def f_X8_goes_77 (o_members : Int32) (o_cold : Int32) (o_seconds : Nat → Int32) (K30 : Int32 → Int32 → Int32 → Int32 → Int32 → (Nat → Int32) → (Option ((Nat → Int32)))) (x1 : Int32) (x3 : Int32) (x4 : Int32) (x5 : Int32) (x6 : Int32) (k1 : Int32) (k2 : Int32) (o_board : Nat → Int32) : Option ((Nat → Int32)) :=
  ing k1 49 <|
  bnd (upd o_board k1.toNatClampNeg k2) fun w2 =>
  bnd (x6 + 1) fun y3 =>
  K30 x1 x3 x4 x5 y3 w2
def f_X8_goes_30_b (o_members : Int32) (o_cold : Int32) (o_seconds : Nat → Int32) (K30 : Int32 → Int32 → Int32 → Int32 → Int32 → (Nat → Int32) → (Option ((Nat → Int32)))) (x1 : Int32) (x3 : Int32) (x4 : Int32) (x5 : Int32) (x6 : Int32) (o_board : Nat → Int32) : Option ((Nat → Int32)) :=
  if (6 : Int32) ≤ x6 then (
    ing (x4 + 6) 49 <|
    bnd (upd o_board (x4 + 6).toNatClampNeg x5) fun w6 =>
    some (w6)
  ) else (
    if o_members ≤ x6 then (
      f_X8_goes_77 o_members o_cold o_seconds K30 x1 x3 x4 x5 x6 (x4 + x6) 0 o_board
    ) else (
      ing (x1 + x6) 49 <|
      ob1 (f_X8_warmed o_cold o_seconds x6 (o_board (x1 + x6).toNatClampNeg) x5 x3) fun r9 =>
      f_X8_goes_77 o_members o_cold o_seconds K30 x1 x3 x4 x5 x6 (x4 + x6) r9 o_board
    )
  )
def f_X8_goes_30 (o_members : Int32) (o_cold : Int32) (o_seconds : Nat → Int32) : Nat → Int32 → Int32 → Int32 → Int32 → Int32 → (Nat → Int32) → (Option ((Nat → Int32)))
  | 0 => fun _ _ _ _ _ _ => none
  | n + 1 => f_X8_goes_30_b o_members o_cold o_seconds (f_X8_goes_30 o_members o_cold o_seconds n)
def f_X8_goes_25 (o_members : Int32) (o_cold : Int32) (o_seconds : Nat → Int32) (x1 : Int32) (x3 : Int32) (x4 : Int32) (k0 : Int32) (o_board : Nat → Int32) : Option ((Nat → Int32)) :=
  f_X8_goes_30 o_members o_cold o_seconds FU x1 x3 x4 k0 0 o_board
def f_X8_goes (o_members : Int32) (o_cold : Int32) (o_seconds : Nat → Int32) (o_board : Nat → Int32) (p1 : Int32) (p2 : Int32) (p3 : Int32) : Option ((Nat → Int32)) :=
  bnd (p1 + 7) fun y11 =>
  if p2 = ((-9)) then (
    ing (p1 + 6) 49 <|
    f_X8_goes_25 o_members o_cold o_seconds p1 p3 y11 (o_board (p1 + 6).toNatClampNeg) o_board
  ) else (
    f_X8_goes_25 o_members o_cold o_seconds p1 p3 y11 p2 o_board
  )
set_option maxHeartbeats 4000000 in
set_option maxRecDepth 100000 in
theorem c_X8_goes (l : Launch) (D : va_G) (cB cI cZ cM cN : ClassId) (q_o : Nat) (q_o_text : Nat) (q_o_warmth : Nat) (q_o_side : Nat) (q_o_seconds : Nat) (q_o_s : Nat) (q_o_kept : Nat) (q_o_isKept : Nat) (q_o_undos : Nat) (q_o_seenAt : Nat) (q_o_seen : Nat) (q_o_board : Nat) (q_o_pick : Nat) (q_o_worth : Nat) (q_o_best : Nat) (o_thrown : Int32) (o_trace : Int64) (o_typed : Int32) (o_next : Int32) (o_token : Int32) (o_place : Int32) (o_value : Int32) (o_fault : Int32) (o_members : Int32) (o_pairs : Int32) (o_cold : Int32) (o_fur : Int32) (o_coughs : Int32) (o_draftMembers : Int32) (o_draftPairs : Int32) (o_draftCold : Int32) (o_draftFur : Int32) (o_draftCoughs : Int32) (o_undoMany : Int32) (o_seenMany : Int32) (o_chosen : Int32) (o_seconds : Nat → Int32) (o_board : Nat → Int32) (p1 : Int32) (p2 : Int32) (p3 : Int32) (o_board' : Nat → Int32) (sz : Nat) (hf : f_X8_goes o_members o_cold o_seconds o_board p1 p2 p3 = some o_board') : Met l yX8_goes wsX8_goes ({ frames := 1, cells := 0, slots := 0, locals := 26 } : Room) (PM D cB cI cZ cM cN [.ref q_o, .int p1, .int p2, .int p3] [(q_o, .inr (7, [.int o_thrown, .long o_trace, .ref q_o_text, .int o_typed, .int o_next, .int o_token, .int o_place, .int o_value, .int o_fault, .ref q_o_warmth, .ref q_o_side, .ref q_o_seconds, .int o_members, .int o_pairs, .int o_cold, .int o_fur, .int o_coughs, .int o_draftMembers, .int o_draftPairs, .int o_draftCold, .int o_draftFur, .int o_draftCoughs, .ref q_o_s, .ref q_o_kept, .ref q_o_isKept, .ref q_o_undos, .int o_undoMany, .ref q_o_seenAt, .ref q_o_seen, .int o_seenMany, .ref q_o_board, .ref q_o_pick, .ref q_o_worth, .ref q_o_best, .int o_chosen])), (q_o_seconds, .inl (cI, 12, .inl o_seconds)), (q_o_board, .inl (cI, 49, .inl o_board))] sz) (QV D [(q_o, .inr (7, [.int o_thrown, .long o_trace, .ref q_o_text, .int o_typed, .int o_next, .int o_token, .int o_place, .int o_value, .int o_fault, .ref q_o_warmth, .ref q_o_side, .ref q_o_seconds, .int o_members, .int o_pairs, .int o_cold, .int o_fur, .int o_coughs, .int o_draftMembers, .int o_draftPairs, .int o_draftCold, .int o_draftFur, .int o_draftCoughs, .ref q_o_s, .ref q_o_kept, .ref q_o_isKept, .ref q_o_undos, .int o_undoMany, .ref q_o_seenAt, .ref q_o_seen, .int o_seenMany, .ref q_o_board, .ref q_o_pick, .ref q_o_worth, .ref q_o_best, .int o_chosen])), (q_o_seconds, .inl (cI, 12, .inl o_seconds)), (q_o_board, .inl (cI, 49, .inl o_board'))] (va_A [(q_o, .inr (7, [.int o_thrown, .long o_trace, .ref q_o_text, .int o_typed, .int o_next, .int o_token, .int o_place, .int o_value, .int o_fault, .ref q_o_warmth, .ref q_o_side, .ref q_o_seconds, .int o_members, .int o_pairs, .int o_cold, .int o_fur, .int o_coughs, .int o_draftMembers, .int o_draftPairs, .int o_draftCold, .int o_draftFur, .int o_draftCoughs, .ref q_o_s, .ref q_o_kept, .ref q_o_isKept, .ref q_o_undos, .int o_undoMany, .ref q_o_seenAt, .ref q_o_seen, .int o_seenMany, .ref q_o_board, .ref q_o_pick, .ref q_o_worth, .ref q_o_best, .int o_chosen])), (q_o_seconds, .inl (cI, 12, .inl o_seconds)), (q_o_board, .inl (cI, 49, .inl o_board))] sz)) 0 0 (va_A [(q_o, .inr (7, [.int o_thrown, .long o_trace, .ref q_o_text, .int o_typed, .int o_next, .int o_token, .int o_place, .int o_value, .int o_fault, .ref q_o_warmth, .ref q_o_side, .ref q_o_seconds, .int o_members, .int o_pairs, .int o_cold, .int o_fur, .int o_coughs, .int o_draftMembers, .int o_draftPairs, .int o_draftCold, .int o_draftFur, .int o_draftCoughs, .ref q_o_s, .ref q_o_kept, .ref q_o_isKept, .ref q_o_undos, .int o_undoMany, .ref q_o_seenAt, .ref q_o_seen, .int o_seenMany, .ref q_o_board, .ref q_o_pick, .ref q_o_worth, .ref q_o_best, .int o_chosen])), (q_o_seconds, .inl (cI, 12, .inl o_seconds)), (q_o_board, .inl (cI, 49, .inl o_board))] sz) := by
  refine entM (l := l) (y := yX8_goes) (ws := wsX8_goes) (cc := cX8_goes) (av := [.ref q_o, .int p1, .int p2, .int p3]) (wc := [(q_o, .inr (7, [.int o_thrown, .long o_trace, .ref q_o_text, .int o_typed, .int o_next, .int o_token, .int o_place, .int o_value, .int o_fault, .ref q_o_warmth, .ref q_o_side, .ref q_o_seconds, .int o_members, .int o_pairs, .int o_cold, .int o_fur, .int o_coughs, .int o_draftMembers, .int o_draftPairs, .int o_draftCold, .int o_draftFur, .int o_draftCoughs, .ref q_o_s, .ref q_o_kept, .ref q_o_isKept, .ref q_o_undos, .int o_undoMany, .ref q_o_seenAt, .ref q_o_seen, .int o_seenMany, .ref q_o_board, .ref q_o_pick, .ref q_o_worth, .ref q_o_best, .int o_chosen])), (q_o_seconds, .inl (cI, 12, .inl o_seconds)), (q_o_board, .inl (cI, 49, .inl o_board))]) (sz := sz) (Qc := fun A => QV D [(q_o, .inr (7, [.int o_thrown, .long o_trace, .ref q_o_text, .int o_typed, .int o_next, .int o_token, .int o_place, .int o_value, .int o_fault, .ref q_o_warmth, .ref q_o_side, .ref q_o_seconds, .int o_members, .int o_pairs, .int o_cold, .int o_fur, .int o_coughs, .int o_draftMembers, .int o_draftPairs, .int o_draftCold, .int o_draftFur, .int o_draftCoughs, .ref q_o_s, .ref q_o_kept, .ref q_o_isKept, .ref q_o_undos, .int o_undoMany, .ref q_o_seenAt, .ref q_o_seen, .int o_seenMany, .ref q_o_board, .ref q_o_pick, .ref q_o_worth, .ref q_o_best, .int o_chosen])), (q_o_seconds, .inl (cI, 12, .inl o_seconds)), (q_o_board, .inl (cI, 49, .inl o_board'))] A) (by decide +kernel) rfl (Nat.le_of_ble_eq_true rfl) ?_
  intro A p e s m below meth c hx hb hr hml hown hlocks hts hK hA H locs hP hD hS ls hl
  have hown : s.vm.findClass RX8 = some m.cls := hown
  have hl : lv_has ls 7 [(0, .ref q_o), (1, .int p1), (2, .int p2), (3, .int p3)] := hl
  have hfix : CallFix p m c cX8_goes 7 s ([.ref q_o, .int p1, .int p2, .int p3] : List Value).toArray wsX8_goes RX8 := ⟨hx, hb, hml, hown, hts⟩
  have hinX8 : ∀ w ∈ u_ws RX8 TX8 35, w ∈ wsX8_goes := by decide +kernel
  have g41 := hts (.fieldLink RX8 41 "LastCoatModel" "board" "[I") (by decide +kernel)
  have g145 := hts (.fieldLink RX8 145 "LastCoatModel" "members" "I") (by decide +kernel)
  have L30 : ∀ (n30 : Nat) (x1 : Int32) (x3 : Int32) (x4 : Int32) (x5 : Int32) (x6 : Int32) (o_board : Nat → Int32) (H : Heap) (locs : List Loc) (ls : Array Slot), f_X8_goes_30 o_members o_cold o_seconds n30 x1 x3 x4 x5 x6 o_board = some o_board' → va_P D vwCl [(q_o, .inr (7, [.int o_thrown, .long o_trace, .ref q_o_text, .int o_typed, .int o_next, .int o_token, .int o_place, .int o_value, .int o_fault, .ref q_o_warmth, .ref q_o_side, .ref q_o_seconds, .int o_members, .int o_pairs, .int o_cold, .int o_fur, .int o_coughs, .int o_draftMembers, .int o_draftPairs, .int o_draftCold, .int o_draftFur, .int o_draftCoughs, .ref q_o_s, .ref q_o_kept, .ref q_o_isKept, .ref q_o_undos, .int o_undoMany, .ref q_o_seenAt, .ref q_o_seen, .int o_seenMany, .ref q_o_board, .ref q_o_pick, .ref q_o_worth, .ref q_o_best, .int o_chosen])), (q_o_seconds, .inl (cI, 12, .inl o_seconds)), (q_o_board, .inl (cI, 49, .inl o_board))] H → va_D A [(q_o, .inr (7, [.int o_thrown, .long o_trace, .ref q_o_text, .int o_typed, .int o_next, .int o_token, .int o_place, .int o_value, .int o_fault, .ref q_o_warmth, .ref q_o_side, .ref q_o_seconds, .int o_members, .int o_pairs, .int o_cold, .int o_fur, .int o_coughs, .int o_draftMembers, .int o_draftPairs, .int o_draftCold, .int o_draftFur, .int o_draftCoughs, .ref q_o_s, .ref q_o_kept, .ref q_o_isKept, .ref q_o_undos, .int o_undoMany, .ref q_o_seenAt, .ref q_o_seen, .int o_seenMany, .ref q_o_board, .ref q_o_pick, .ref q_o_worth, .ref q_o_best, .int o_chosen])), (q_o_seconds, .inl (cI, 12, .inl o_seconds)), (q_o_board, .inl (cI, 49, .inl o_board))] → va_S A s.heap H locs → lv_has ls 7 [(0, .ref q_o), (1, .int x1), (3, .int x3), (4, .int x4), (5, .int x5), (6, .int x6)] → W p l e ({ frames := 1, cells := 0, slots := 0, locals := 26 } : Room) s m ([.ref q_o, .int p1, .int p2, .int p3] : List Value).toArray below meth c H locs 0 0 (MQ below (QV D [(q_o, .inr (7, [.int o_thrown, .long o_trace, .ref q_o_text, .int o_typed, .int o_next, .int o_token, .int o_place, .int o_value, .int o_fault, .ref q_o_warmth, .ref q_o_side, .ref q_o_seconds, .int o_members, .int o_pairs, .int o_cold, .int o_fur, .int o_coughs, .int o_draftMembers, .int o_draftPairs, .int o_draftCold, .int o_draftFur, .int o_draftCoughs, .ref q_o_s, .ref q_o_kept, .ref q_o_isKept, .ref q_o_undos, .int o_undoMany, .ref q_o_seenAt, .ref q_o_seen, .int o_seenMany, .ref q_o_board, .ref q_o_pick, .ref q_o_worth, .ref q_o_best, .int o_chosen])), (q_o_seconds, .inl (cI, 12, .inl o_seconds)), (q_o_board, .inl (cI, 49, .inl o_board'))] A) ([.ref q_o, .int p1, .int p2, .int p3] : List Value).toArray s 0 0 A) (F0 m 30 ls []) := by
    intro n30
    induction n30 with
    | zero =>
      intro x1 x3 x4 x5 x6 o_board H locs ls hf hP hD hS hl
      exact noneNe hf
    | succ n30 ih30 =>
      have L77 : ∀ (x1 : Int32) (x3 : Int32) (x4 : Int32) (x5 : Int32) (x6 : Int32) (k1 : Int32) (k2 : Int32) (o_board : Nat → Int32) (H : Heap) (locs : List Loc) (ls : Array Slot), f_X8_goes_77 o_members o_cold o_seconds (f_X8_goes_30 o_members o_cold o_seconds n30) x1 x3 x4 x5 x6 k1 k2 o_board = some o_board' → va_P D vwCl [(q_o, .inr (7, [.int o_thrown, .long o_trace, .ref q_o_text, .int o_typed, .int o_next, .int o_token, .int o_place, .int o_value, .int o_fault, .ref q_o_warmth, .ref q_o_side, .ref q_o_seconds, .int o_members, .int o_pairs, .int o_cold, .int o_fur, .int o_coughs, .int o_draftMembers, .int o_draftPairs, .int o_draftCold, .int o_draftFur, .int o_draftCoughs, .ref q_o_s, .ref q_o_kept, .ref q_o_isKept, .ref q_o_undos, .int o_undoMany, .ref q_o_seenAt, .ref q_o_seen, .int o_seenMany, .ref q_o_board, .ref q_o_pick, .ref q_o_worth, .ref q_o_best, .int o_chosen])), (q_o_seconds, .inl (cI, 12, .inl o_seconds)), (q_o_board, .inl (cI, 49, .inl o_board))] H → va_D A [(q_o, .inr (7, [.int o_thrown, .long o_trace, .ref q_o_text, .int o_typed, .int o_next, .int o_token, .int o_place, .int o_value, .int o_fault, .ref q_o_warmth, .ref q_o_side, .ref q_o_seconds, .int o_members, .int o_pairs, .int o_cold, .int o_fur, .int o_coughs, .int o_draftMembers, .int o_draftPairs, .int o_draftCold, .int o_draftFur, .int o_draftCoughs, .ref q_o_s, .ref q_o_kept, .ref q_o_isKept, .ref q_o_undos, .int o_undoMany, .ref q_o_seenAt, .ref q_o_seen, .int o_seenMany, .ref q_o_board, .ref q_o_pick, .ref q_o_worth, .ref q_o_best, .int o_chosen])), (q_o_seconds, .inl (cI, 12, .inl o_seconds)), (q_o_board, .inl (cI, 49, .inl o_board))] → va_S A s.heap H locs → lv_has ls 7 [(0, .ref q_o), (1, .int x1), (3, .int x3), (4, .int x4), (5, .int x5), (6, .int x6)] → W p l e ({ frames := 1, cells := 0, slots := 0, locals := 26 } : Room) s m ([.ref q_o, .int p1, .int p2, .int p3] : List Value).toArray below meth c H locs 0 0 (MQ below (QV D [(q_o, .inr (7, [.int o_thrown, .long o_trace, .ref q_o_text, .int o_typed, .int o_next, .int o_token, .int o_place, .int o_value, .int o_fault, .ref q_o_warmth, .ref q_o_side, .ref q_o_seconds, .int o_members, .int o_pairs, .int o_cold, .int o_fur, .int o_coughs, .int o_draftMembers, .int o_draftPairs, .int o_draftCold, .int o_draftFur, .int o_draftCoughs, .ref q_o_s, .ref q_o_kept, .ref q_o_isKept, .ref q_o_undos, .int o_undoMany, .ref q_o_seenAt, .ref q_o_seen, .int o_seenMany, .ref q_o_board, .ref q_o_pick, .ref q_o_worth, .ref q_o_best, .int o_chosen])), (q_o_seconds, .inl (cI, 12, .inl o_seconds)), (q_o_board, .inl (cI, 49, .inl o_board'))] A) ([.ref q_o, .int p1, .int p2, .int p3] : List Value).toArray s 0 0 A) (F0 m 77 ls [.int k2, .int k1, .ref q_o_board]) := by
        intro x1 x3 x4 x5 x6 k1 k2 o_board H locs ls hf hP hD hS hl
        unfold f_X8_goes_77 at hf
        obtain ⟨g1, hf⟩ := ing_some hf
        refine va_iast hx hb hK.1 hP hD hS 2 1 rfl rfl g1 dX8_goes_77 (fun H locs hP hD hS => ?_)
        obtain ⟨w2, ew2⟩ : ∃ z : Nat → Int32, z = upd o_board k1.toNatClampNeg k2 := ⟨_, rfl⟩
        have hf := bnd_at hf ew2
        have hP : va_P D vwCl [(q_o, .inr (7, [.int o_thrown, .long o_trace, .ref q_o_text, .int o_typed, .int o_next, .int o_token, .int o_place, .int o_value, .int o_fault, .ref q_o_warmth, .ref q_o_side, .ref q_o_seconds, .int o_members, .int o_pairs, .int o_cold, .int o_fur, .int o_coughs, .int o_draftMembers, .int o_draftPairs, .int o_draftCold, .int o_draftFur, .int o_draftCoughs, .ref q_o_s, .ref q_o_kept, .ref q_o_isKept, .ref q_o_undos, .int o_undoMany, .ref q_o_seenAt, .ref q_o_seen, .int o_seenMany, .ref q_o_board, .ref q_o_pick, .ref q_o_worth, .ref q_o_best, .int o_chosen])), (q_o_seconds, .inl (cI, 12, .inl o_seconds)), (q_o_board, .inl (cI, 49, .inl w2))] H := by rw [ew2]; exact hP
        have hD : va_D A [(q_o, .inr (7, [.int o_thrown, .long o_trace, .ref q_o_text, .int o_typed, .int o_next, .int o_token, .int o_place, .int o_value, .int o_fault, .ref q_o_warmth, .ref q_o_side, .ref q_o_seconds, .int o_members, .int o_pairs, .int o_cold, .int o_fur, .int o_coughs, .int o_draftMembers, .int o_draftPairs, .int o_draftCold, .int o_draftFur, .int o_draftCoughs, .ref q_o_s, .ref q_o_kept, .ref q_o_isKept, .ref q_o_undos, .int o_undoMany, .ref q_o_seenAt, .ref q_o_seen, .int o_seenMany, .ref q_o_board, .ref q_o_pick, .ref q_o_worth, .ref q_o_best, .int o_chosen])), (q_o_seconds, .inl (cI, 12, .inl o_seconds)), (q_o_board, .inl (cI, 49, .inl w2))] := by rw [ew2]; exact hD
        obtain ⟨y3, ey3⟩ : ∃ z : Int32, z = x6 + 1 := ⟨_, rfl⟩
        have hf := bnd_at hf ey3
        refine lv_iinc (v := y3) (lv' := [(6, .int y3), (0, .ref q_o), (1, .int x1), (3, .int x3), (4, .int x4), (5, .int x5)]) hx hb dX8_goes_78 hl (k := 5) rfl (by rw [ey3]; rfl) (by decide) rfl (fun ls hl => ?_)
        refine lv_goto (tgt := 30) hx hb dX8_goes_81 (by decide) ?_
        exact ih30 x1 x3 x4 x5 y3 w2 _ _ ls hf hP hD hS (lv_sub hl [1, 2, 3, 4, 5, 0] rfl)
      intro x1 x3 x4 x5 x6 o_board H locs ls hf hP hD hS hl
      have hf : f_X8_goes_30_b o_members o_cold o_seconds (f_X8_goes_30 o_members o_cold o_seconds n30) x1 x3 x4 x5 x6 o_board = some o_board' := hf
      unfold f_X8_goes_30_b at hf
      refine lv_iload hx hb dX8_goes_30 (lv_at hl 5 rfl) ?_
      refine lv_bipush (v := 6) hx hb dX8_goes_32 (by decide) ?_
      refine lv_icmp_ge (tgt := 84) hx hb dX8_goes_34 (by decide) (fun c4 => ?_) (fun c4 => ?_)
      · have hf := ite_p hf c4
        refine lv_aload_n hx hb dX8_goes_84 rfl (lv_at hl 0 rfl) ?_
        refine va_get (D := D) (ci := 7) (v := .ref q_o_board) (C := RX8) (T := TX8) (N := 35) hx hb hts hinX8 hown hK.1 hP 0 rfl rfl 30 (by decide) g41 (fun _ h9 => h9) rfl dX8_goes_85 ?_
        refine lv_iload hx hb dX8_goes_88 (lv_at hl 3 rfl) ?_
        refine lv_bipush (v := 6) hx hb dX8_goes_90 (by decide) ?_
        refine lv_iadd hx hb dX8_goes_92 ?_
        refine lv_iload hx hb dX8_goes_93 (lv_at hl 4 rfl) ?_
        obtain ⟨g5, hf⟩ := ing_some hf
        refine va_iast hx hb hK.1 hP hD hS 2 1 rfl rfl g5 dX8_goes_95 (fun H locs hP hD hS => ?_)
        obtain ⟨w6, ew6⟩ : ∃ z : Nat → Int32, z = upd o_board (x4 + 6).toNatClampNeg x5 := ⟨_, rfl⟩
        have hf := bnd_at hf ew6
        have hP : va_P D vwCl [(q_o, .inr (7, [.int o_thrown, .long o_trace, .ref q_o_text, .int o_typed, .int o_next, .int o_token, .int o_place, .int o_value, .int o_fault, .ref q_o_warmth, .ref q_o_side, .ref q_o_seconds, .int o_members, .int o_pairs, .int o_cold, .int o_fur, .int o_coughs, .int o_draftMembers, .int o_draftPairs, .int o_draftCold, .int o_draftFur, .int o_draftCoughs, .ref q_o_s, .ref q_o_kept, .ref q_o_isKept, .ref q_o_undos, .int o_undoMany, .ref q_o_seenAt, .ref q_o_seen, .int o_seenMany, .ref q_o_board, .ref q_o_pick, .ref q_o_worth, .ref q_o_best, .int o_chosen])), (q_o_seconds, .inl (cI, 12, .inl o_seconds)), (q_o_board, .inl (cI, 49, .inl w6))] H := by rw [ew6]; exact hP
        have hD : va_D A [(q_o, .inr (7, [.int o_thrown, .long o_trace, .ref q_o_text, .int o_typed, .int o_next, .int o_token, .int o_place, .int o_value, .int o_fault, .ref q_o_warmth, .ref q_o_side, .ref q_o_seconds, .int o_members, .int o_pairs, .int o_cold, .int o_fur, .int o_coughs, .int o_draftMembers, .int o_draftPairs, .int o_draftCold, .int o_draftFur, .int o_draftCoughs, .ref q_o_s, .ref q_o_kept, .ref q_o_isKept, .ref q_o_undos, .int o_undoMany, .ref q_o_seenAt, .ref q_o_seen, .int o_seenMany, .ref q_o_board, .ref q_o_pick, .ref q_o_worth, .ref q_o_best, .int o_chosen])), (q_o_seconds, .inl (cI, 12, .inl o_seconds)), (q_o_board, .inl (cI, 49, .inl w6))] := by rw [ew6]; exact hD
        have e0_ := Option.some.inj hf
        have hP : va_P D vwCl [(q_o, .inr (7, [.int o_thrown, .long o_trace, .ref q_o_text, .int o_typed, .int o_next, .int o_token, .int o_place, .int o_value, .int o_fault, .ref q_o_warmth, .ref q_o_side, .ref q_o_seconds, .int o_members, .int o_pairs, .int o_cold, .int o_fur, .int o_coughs, .int o_draftMembers, .int o_draftPairs, .int o_draftCold, .int o_draftFur, .int o_draftCoughs, .ref q_o_s, .ref q_o_kept, .ref q_o_isKept, .ref q_o_undos, .int o_undoMany, .ref q_o_seenAt, .ref q_o_seen, .int o_seenMany, .ref q_o_board, .ref q_o_pick, .ref q_o_worth, .ref q_o_best, .int o_chosen])), (q_o_seconds, .inl (cI, 12, .inl o_seconds)), (q_o_board, .inl (cI, 49, .inl o_board'))] H := by rw [← e0_]; exact hP
        have hD : va_D A [(q_o, .inr (7, [.int o_thrown, .long o_trace, .ref q_o_text, .int o_typed, .int o_next, .int o_token, .int o_place, .int o_value, .int o_fault, .ref q_o_warmth, .ref q_o_side, .ref q_o_seconds, .int o_members, .int o_pairs, .int o_cold, .int o_fur, .int o_coughs, .int o_draftMembers, .int o_draftPairs, .int o_draftCold, .int o_draftFur, .int o_draftCoughs, .ref q_o_s, .ref q_o_kept, .ref q_o_isKept, .ref q_o_undos, .int o_undoMany, .ref q_o_seenAt, .ref q_o_seen, .int o_seenMany, .ref q_o_board, .ref q_o_pick, .ref q_o_worth, .ref q_o_best, .int o_chosen])), (q_o_seconds, .inl (cI, 12, .inl o_seconds)), (q_o_board, .inl (cI, 49, .inl o_board'))] := by rw [← e0_]; exact hD
        exact endMV hx hb hr hlocks hP hD hS dX8_goes_96
      · have hf := ite_n hf c4
        refine lv_aload_n hx hb dX8_goes_37 rfl (lv_at hl 0 rfl) ?_
        refine va_get (D := D) (ci := 7) (v := .ref q_o_board) (C := RX8) (T := TX8) (N := 35) hx hb hts hinX8 hown hK.1 hP 0 rfl rfl 30 (by decide) g41 (fun _ h9 => h9) rfl dX8_goes_38 ?_
        refine lv_iload hx hb dX8_goes_41 (lv_at hl 3 rfl) ?_
        refine lv_iload hx hb dX8_goes_43 (lv_at hl 5 rfl) ?_
        refine lv_iadd hx hb dX8_goes_45 ?_
        refine lv_iload hx hb dX8_goes_46 (lv_at hl 5 rfl) ?_
        refine lv_aload_n hx hb dX8_goes_48 rfl (lv_at hl 0 rfl) ?_
        refine va_get (D := D) (ci := 7) (v := .int o_members) (C := RX8) (T := TX8) (N := 35) hx hb hts hinX8 hown hK.1 hP 0 rfl rfl 12 (by decide) g145 (fun _ h9 => h9) rfl dX8_goes_49 ?_
        refine lv_icmp_ge (tgt := 76) hx hb dX8_goes_52 (by decide) (fun c7 => ?_) (fun c7 => ?_)
        · have hf := ite_p hf c7
          refine lv_iconst (v := 0) hx hb dX8_goes_76 (by decide) ?_
          exact L77 x1 x3 x4 x5 x6 (x4 + x6) 0 o_board _ _ ls hf hP hD hS (lv_sub hl [0, 1, 2, 3, 4, 5] rfl)
        · have hf := ite_n hf c7
          refine lv_aload_n hx hb dX8_goes_55 rfl (lv_at hl 0 rfl) ?_
          refine lv_iload hx hb dX8_goes_56 (lv_at hl 5 rfl) ?_
          refine lv_aload_n hx hb dX8_goes_58 rfl (lv_at hl 0 rfl) ?_
          refine va_get (D := D) (ci := 7) (v := .ref q_o_board) (C := RX8) (T := TX8) (N := 35) hx hb hts hinX8 hown hK.1 hP 0 rfl rfl 30 (by decide) g41 (fun _ h9 => h9) rfl dX8_goes_59 ?_
          refine lv_iload_n hx hb dX8_goes_62 rfl (lv_at hl 1 rfl) ?_
          refine lv_iload hx hb dX8_goes_63 (lv_at hl 5 rfl) ?_
          refine lv_iadd hx hb dX8_goes_65 ?_
          obtain ⟨g8, hf⟩ := ing_some hf
          refine va_iald hx hb hK.1 hP 2 1 rfl rfl g8 dX8_goes_66 ?_
          refine lv_iload hx hb dX8_goes_67 (lv_at hl 4 rfl) ?_
          refine lv_iload_n hx hb dX8_goes_69 rfl (lv_at hl 2 rfl) ?_
          obtain ⟨r9, h10, hf⟩ := ob1_some hf
          refine roV (c_X8_warmed l D cB cI cZ cM cN q_o q_o_text q_o_warmth q_o_side q_o_seconds q_o_s q_o_kept q_o_isKept q_o_undos q_o_seenAt q_o_seen q_o_board q_o_pick q_o_worth q_o_best o_thrown o_trace o_typed o_next o_token o_place o_value o_fault o_members o_pairs o_cold o_fur o_coughs o_draftMembers o_draftPairs o_draftCold o_draftFur o_draftCoughs o_undoMany o_seenMany o_chosen o_seconds x6 (o_board (x1 + x6).toNatClampNeg) x5 x3 r9 h10) hfix (cwV 4 hts gX8_goes_X8_warmed rfl rfl rfl (by decide +kernel) ⟨Nat.le_of_ble_eq_true rfl, Nat.le_of_ble_eq_true rfl⟩) (subC hP [0, 1] rfl) hK rfl rfl rfl rfl hl.1 rfl (Nat.le_of_ble_eq_true rfl) dX8_goes_70 ⟨Nat.zero_le _, Nat.zero_le _⟩ ?_
          refine lv_goto (tgt := 77) hx hb dX8_goes_73 (by decide) ?_
          exact L77 x1 x3 x4 x5 x6 (x4 + x6) r9 o_board _ _ ls hf hP hD hS (lv_sub hl [0, 1, 2, 3, 4, 5] rfl)
  have L25 : ∀ (x1 : Int32) (x3 : Int32) (x4 : Int32) (k0 : Int32) (o_board : Nat → Int32) (H : Heap) (locs : List Loc) (ls : Array Slot), f_X8_goes_25 o_members o_cold o_seconds x1 x3 x4 k0 o_board = some o_board' → va_P D vwCl [(q_o, .inr (7, [.int o_thrown, .long o_trace, .ref q_o_text, .int o_typed, .int o_next, .int o_token, .int o_place, .int o_value, .int o_fault, .ref q_o_warmth, .ref q_o_side, .ref q_o_seconds, .int o_members, .int o_pairs, .int o_cold, .int o_fur, .int o_coughs, .int o_draftMembers, .int o_draftPairs, .int o_draftCold, .int o_draftFur, .int o_draftCoughs, .ref q_o_s, .ref q_o_kept, .ref q_o_isKept, .ref q_o_undos, .int o_undoMany, .ref q_o_seenAt, .ref q_o_seen, .int o_seenMany, .ref q_o_board, .ref q_o_pick, .ref q_o_worth, .ref q_o_best, .int o_chosen])), (q_o_seconds, .inl (cI, 12, .inl o_seconds)), (q_o_board, .inl (cI, 49, .inl o_board))] H → va_D A [(q_o, .inr (7, [.int o_thrown, .long o_trace, .ref q_o_text, .int o_typed, .int o_next, .int o_token, .int o_place, .int o_value, .int o_fault, .ref q_o_warmth, .ref q_o_side, .ref q_o_seconds, .int o_members, .int o_pairs, .int o_cold, .int o_fur, .int o_coughs, .int o_draftMembers, .int o_draftPairs, .int o_draftCold, .int o_draftFur, .int o_draftCoughs, .ref q_o_s, .ref q_o_kept, .ref q_o_isKept, .ref q_o_undos, .int o_undoMany, .ref q_o_seenAt, .ref q_o_seen, .int o_seenMany, .ref q_o_board, .ref q_o_pick, .ref q_o_worth, .ref q_o_best, .int o_chosen])), (q_o_seconds, .inl (cI, 12, .inl o_seconds)), (q_o_board, .inl (cI, 49, .inl o_board))] → va_S A s.heap H locs → lv_has ls 7 [(0, .ref q_o), (1, .int x1), (3, .int x3), (4, .int x4)] → W p l e ({ frames := 1, cells := 0, slots := 0, locals := 26 } : Room) s m ([.ref q_o, .int p1, .int p2, .int p3] : List Value).toArray below meth c H locs 0 0 (MQ below (QV D [(q_o, .inr (7, [.int o_thrown, .long o_trace, .ref q_o_text, .int o_typed, .int o_next, .int o_token, .int o_place, .int o_value, .int o_fault, .ref q_o_warmth, .ref q_o_side, .ref q_o_seconds, .int o_members, .int o_pairs, .int o_cold, .int o_fur, .int o_coughs, .int o_draftMembers, .int o_draftPairs, .int o_draftCold, .int o_draftFur, .int o_draftCoughs, .ref q_o_s, .ref q_o_kept, .ref q_o_isKept, .ref q_o_undos, .int o_undoMany, .ref q_o_seenAt, .ref q_o_seen, .int o_seenMany, .ref q_o_board, .ref q_o_pick, .ref q_o_worth, .ref q_o_best, .int o_chosen])), (q_o_seconds, .inl (cI, 12, .inl o_seconds)), (q_o_board, .inl (cI, 49, .inl o_board'))] A) ([.ref q_o, .int p1, .int p2, .int p3] : List Value).toArray s 0 0 A) (F0 m 25 ls [.int k0]) := by
    intro x1 x3 x4 k0 o_board H locs ls hf hP hD hS hl
    unfold f_X8_goes_25 at hf
    refine lv_istore (lv' := [(5, .int k0), (0, .ref q_o), (1, .int x1), (3, .int x3), (4, .int x4)]) hx hb dX8_goes_25 hl (by decide) rfl (fun ls hl => ?_)
    refine lv_iconst (v := 0) hx hb dX8_goes_27 (by decide) ?_
    refine lv_istore (lv' := [(6, .int 0), (5, .int k0), (0, .ref q_o), (1, .int x1), (3, .int x3), (4, .int x4)]) hx hb dX8_goes_28 hl (by decide) rfl (fun ls hl => ?_)
    exact L30 FU x1 x3 x4 k0 0 o_board _ _ ls hf hP hD hS (lv_sub hl [2, 3, 4, 5, 1, 0] rfl)
  unfold f_X8_goes at hf
  refine lv_iload_n hx hb dX8_goes_0 rfl (lv_at hl 1 rfl) ?_
  refine lv_bipush (v := 7) hx hb dX8_goes_1 (by decide) ?_
  refine lv_iadd hx hb dX8_goes_3 ?_
  refine lv_topi (fun y11 ey11 => ?_)
  have hf := bnd_at hf ey11
  refine lv_istore (lv' := [(4, .int y11), (0, .ref q_o), (1, .int p1), (2, .int p2), (3, .int p3)]) hx hb dX8_goes_4 hl (by decide) rfl (fun ls hl => ?_)
  refine lv_iload_n hx hb dX8_goes_6 rfl (lv_at hl 3 rfl) ?_
  refine lv_bipush (v := (-9)) hx hb dX8_goes_7 (by decide) ?_
  refine lv_icmp_ne (tgt := 24) hx hb dX8_goes_9 (by decide) (fun c12 => ?_) (fun c12 => ?_)
  · have hf := ite_n hf c12
    refine lv_iload_n hx hb dX8_goes_24 rfl (lv_at hl 3 rfl) ?_
    exact L25 p1 p3 y11 p2 o_board _ _ ls hf hP hD hS (lv_sub hl [1, 2, 4, 0] rfl)
  · have hf := ite_p hf c12
    refine lv_aload_n hx hb dX8_goes_12 rfl (lv_at hl 1 rfl) ?_
    refine va_get (D := D) (ci := 7) (v := .ref q_o_board) (C := RX8) (T := TX8) (N := 35) hx hb hts hinX8 hown hK.1 hP 0 rfl rfl 30 (by decide) g41 (fun _ h9 => h9) rfl dX8_goes_13 ?_
    refine lv_iload_n hx hb dX8_goes_16 rfl (lv_at hl 2 rfl) ?_
    refine lv_bipush (v := 6) hx hb dX8_goes_17 (by decide) ?_
    refine lv_iadd hx hb dX8_goes_19 ?_
    obtain ⟨g13, hf⟩ := ing_some hf
    refine va_iald hx hb hK.1 hP 2 1 rfl rfl g13 dX8_goes_20 ?_
    refine lv_goto (tgt := 25) hx hb dX8_goes_21 (by decide) ?_
    exact L25 p1 p3 y11 (o_board (p1 + 6).toNatClampNeg) o_board _ _ ls hf hP hD hS (lv_sub hl [1, 2, 4, 0] rfl)
def f_X8_power_4_b (K4 : Int32 → Int32 → Int32 → Int32 → Option (Int32)) (x0 : Int32) (x1 : Int32) (x2 : Int32) (x3 : Int32) : Option (Int32) :=
  if x1 ≤ x3 then (
    some (x2)
  ) else (
    bnd (x2 * x0) fun y2 =>
    bnd (x3 + 1) fun y3 =>
    K4 x0 x1 y2 y3
  )
def f_X8_power_4 : Nat → Int32 → Int32 → Int32 → Int32 → Option (Int32)
  | 0 => fun _ _ _ _ => none
  | n + 1 => f_X8_power_4_b (f_X8_power_4 n)
def f_X8_power (p0 : Int32) (p1 : Int32) : Option (Int32) :=
  f_X8_power_4 FU p0 p1 1 0
set_option maxHeartbeats 4000000 in
set_option maxRecDepth 100000 in
theorem c_X8_power (l : Launch) (D : va_G) (cB cI cZ cM cN : ClassId) (p0 : Int32) (p1 : Int32) (r : Int32) (hf : f_X8_power p0 p1 = some r) : Met l yX8_power wsX8_power ({ frames := 0, cells := 0, slots := 0, locals := 0 } : Room) (PR D cB cI cZ cM cN [.int p0, .int p1] []) (RI r) 0 0 (fun _ => False) := by
  refine entR (by decide +kernel) rfl (Nat.le_of_ble_eq_true rfl) ?_
  intro p e s m below meth c hx hb hr hml hown hlocks hts hP hK ls hl
  have hown : s.vm.findClass RX8 = some m.cls := hown
  have hl : lv_has ls 4 [(0, .int p0), (1, .int p1)] := hl
  have hfix : CallFix p m c cX8_power 4 s ([.int p0, .int p1] : List Value).toArray wsX8_power RX8 := ⟨hx, hb, hml, hown, hts⟩
  have L4 : ∀ (n4 : Nat) (x0 : Int32) (x1 : Int32) (x2 : Int32) (x3 : Int32) (ls : Array Slot), f_X8_power_4 n4 x0 x1 x2 x3 = some r → lv_has ls 4 [(0, .int x0), (1, .int x1), (2, .int x2), (3, .int x3)] → W p l e ({ frames := 0, cells := 0, slots := 0, locals := 0 } : Room) s m ([.int p0, .int p1] : List Value).toArray below meth c s.heap [] 0 0 (MQ below (RI r) ([.int p0, .int p1] : List Value).toArray s 0 0 (fun _ => False)) (F0 m 4 ls []) := by
    intro n4
    induction n4 with
    | zero =>
      intro x0 x1 x2 x3 ls hf hl
      exact noneNe hf
    | succ n4 ih4 =>
      intro x0 x1 x2 x3 ls hf hl
      have hf : f_X8_power_4_b (f_X8_power_4 n4) x0 x1 x2 x3 = some r := hf
      unfold f_X8_power_4_b at hf
      refine lv_iload_n hx hb dX8_power_4 rfl (lv_at hl 3 rfl) ?_
      refine lv_iload_n hx hb dX8_power_5 rfl (lv_at hl 1 rfl) ?_
      refine lv_icmp_ge (tgt := 19) hx hb dX8_power_6 (by decide) (fun c1 => ?_) (fun c1 => ?_)
      · have hf := ite_p hf c1
        refine lv_iload_n hx hb dX8_power_19 rfl (lv_at hl 2 rfl) ?_
        have e0_ := Option.some.inj hf
        exact endRI hx hb hr hlocks rfl e0_ dX8_power_20
      · have hf := ite_n hf c1
        refine lv_iload_n hx hb dX8_power_9 rfl (lv_at hl 2 rfl) ?_
        refine lv_iload_n hx hb dX8_power_10 rfl (lv_at hl 0 rfl) ?_
        refine lv_imul hx hb dX8_power_11 ?_
        refine lv_topi (fun y2 ey2 => ?_)
        have hf := bnd_at hf ey2
        refine lv_istore_n (lv' := [(2, .int y2), (0, .int x0), (1, .int x1), (3, .int x3)]) hx hb dX8_power_12 rfl hl (by decide) rfl (fun ls hl => ?_)
        obtain ⟨y3, ey3⟩ : ∃ z : Int32, z = x3 + 1 := ⟨_, rfl⟩
        have hf := bnd_at hf ey3
        refine lv_iinc (v := y3) (lv' := [(3, .int y3), (2, .int y2), (0, .int x0), (1, .int x1)]) hx hb dX8_power_13 hl (k := 3) rfl (by rw [ey3]; rfl) (by decide) rfl (fun ls hl => ?_)
        refine lv_goto (tgt := 4) hx hb dX8_power_16 (by decide) ?_
        exact ih4 x0 x1 y2 y3 ls hf (lv_sub hl [2, 3, 1, 0] rfl)
  unfold f_X8_power at hf
  refine lv_iconst (v := 1) hx hb dX8_power_0 (by decide) ?_
  refine lv_istore_n (lv' := [(2, .int 1), (0, .int p0), (1, .int p1)]) hx hb dX8_power_1 rfl hl (by decide) rfl (fun ls hl => ?_)
  refine lv_iconst (v := 0) hx hb dX8_power_2 (by decide) ?_
  refine lv_istore_n (lv' := [(3, .int 0), (2, .int 1), (0, .int p0), (1, .int p1)]) hx hb dX8_power_3 rfl hl (by decide) rfl (fun ls hl => ?_)
  exact L4 FU p0 p1 1 0 ls hf (lv_sub hl [2, 3, 1, 0] rfl)
def f_X8_isPlan_13_b (o_members : Int32) (o_cold : Int32) (o_seconds : Nat → Int32) (K13 : Int32 → Int32 → Int32 → Int32 → Int32 → Int32 → (Nat → Int32) → (Nat → Int32) → (Option (Int32 × (Nat → Int32) × (Nat → Int32)))) (x1 : Int32) (x2 : Int32) (x3 : Int32) (x4 : Int32) (x5 : Int32) (x6 : Int32) (o_board : Nat → Int32) (o_pick : Nat → Int32) : Option (Int32 × (Nat → Int32) × (Nat → Int32)) :=
  if x2 ≤ x6 then (
    some (1, o_board, o_pick)
  ) else (
    nzg o_members <|
    bnd (x5 / o_members) fun y3 =>
    nzg y3 <|
    nzg o_members <|
    bnd ((x1 / y3) - (x1 / y3) / o_members * o_members) fun y6 =>
    ing ((7 * x6) + y6) 49 <|
    if (o_board ((7 * x6) + y6).toNatClampNeg) = 0 then (
      some (0, o_board, o_pick)
    ) else (
      if y6 = x3 then (
        some (0, o_board, o_pick)
      ) else (
        ing x6 6 <|
        bnd (upd o_pick x6.toNatClampNeg y6) fun w11 =>
        ob1 (f_X8_goes o_members o_cold o_seconds o_board (7 * x6) y6 x4) fun m12 =>
        bnd (x6 + 1) fun y14 =>
        K13 x1 x2 x3 x4 y3 y14 m12 w11
      )
    )
  )
def f_X8_isPlan_13 (o_members : Int32) (o_cold : Int32) (o_seconds : Nat → Int32) : Nat → Int32 → Int32 → Int32 → Int32 → Int32 → Int32 → (Nat → Int32) → (Nat → Int32) → (Option (Int32 × (Nat → Int32) × (Nat → Int32)))
  | 0 => fun _ _ _ _ _ _ _ _ => none
  | n + 1 => f_X8_isPlan_13_b o_members o_cold o_seconds (f_X8_isPlan_13 o_members o_cold o_seconds n)
def f_X8_isPlan (o_members : Int32) (o_cold : Int32) (o_seconds : Nat → Int32) (o_board : Nat → Int32) (o_pick : Nat → Int32) (p1 : Int32) (p2 : Int32) (p3 : Int32) (p4 : Int32) : Option (Int32 × (Nat → Int32) × (Nat → Int32)) :=
  ob1 (f_X8_power o_members p2) fun r15 =>
  f_X8_isPlan_13 o_members o_cold o_seconds FU p1 p2 p3 p4 r15 0 o_board o_pick
set_option maxHeartbeats 4000000 in
set_option maxRecDepth 100000 in
theorem c_X8_isPlan (l : Launch) (D : va_G) (cB cI cZ cM cN : ClassId) (q_o : Nat) (q_o_text : Nat) (q_o_warmth : Nat) (q_o_side : Nat) (q_o_seconds : Nat) (q_o_s : Nat) (q_o_kept : Nat) (q_o_isKept : Nat) (q_o_undos : Nat) (q_o_seenAt : Nat) (q_o_seen : Nat) (q_o_board : Nat) (q_o_pick : Nat) (q_o_worth : Nat) (q_o_best : Nat) (o_thrown : Int32) (o_trace : Int64) (o_typed : Int32) (o_next : Int32) (o_token : Int32) (o_place : Int32) (o_value : Int32) (o_fault : Int32) (o_members : Int32) (o_pairs : Int32) (o_cold : Int32) (o_fur : Int32) (o_coughs : Int32) (o_draftMembers : Int32) (o_draftPairs : Int32) (o_draftCold : Int32) (o_draftFur : Int32) (o_draftCoughs : Int32) (o_undoMany : Int32) (o_seenMany : Int32) (o_chosen : Int32) (o_seconds : Nat → Int32) (o_board : Nat → Int32) (o_pick : Nat → Int32) (p1 : Int32) (p2 : Int32) (p3 : Int32) (p4 : Int32) (r : Int32) (o_board' : Nat → Int32) (o_pick' : Nat → Int32) (sz : Nat) (hf : f_X8_isPlan o_members o_cold o_seconds o_board o_pick p1 p2 p3 p4 = some (r, o_board', o_pick')) : Met l yX8_isPlan wsX8_isPlan ({ frames := 2, cells := 0, slots := 0, locals := 52 } : Room) (PM D cB cI cZ cM cN [.ref q_o, .int p1, .int p2, .int p3, .int p4] [(q_o, .inr (7, [.int o_thrown, .long o_trace, .ref q_o_text, .int o_typed, .int o_next, .int o_token, .int o_place, .int o_value, .int o_fault, .ref q_o_warmth, .ref q_o_side, .ref q_o_seconds, .int o_members, .int o_pairs, .int o_cold, .int o_fur, .int o_coughs, .int o_draftMembers, .int o_draftPairs, .int o_draftCold, .int o_draftFur, .int o_draftCoughs, .ref q_o_s, .ref q_o_kept, .ref q_o_isKept, .ref q_o_undos, .int o_undoMany, .ref q_o_seenAt, .ref q_o_seen, .int o_seenMany, .ref q_o_board, .ref q_o_pick, .ref q_o_worth, .ref q_o_best, .int o_chosen])), (q_o_seconds, .inl (cI, 12, .inl o_seconds)), (q_o_board, .inl (cI, 49, .inl o_board)), (q_o_pick, .inl (cI, 6, .inl o_pick))] sz) (QI D [(q_o, .inr (7, [.int o_thrown, .long o_trace, .ref q_o_text, .int o_typed, .int o_next, .int o_token, .int o_place, .int o_value, .int o_fault, .ref q_o_warmth, .ref q_o_side, .ref q_o_seconds, .int o_members, .int o_pairs, .int o_cold, .int o_fur, .int o_coughs, .int o_draftMembers, .int o_draftPairs, .int o_draftCold, .int o_draftFur, .int o_draftCoughs, .ref q_o_s, .ref q_o_kept, .ref q_o_isKept, .ref q_o_undos, .int o_undoMany, .ref q_o_seenAt, .ref q_o_seen, .int o_seenMany, .ref q_o_board, .ref q_o_pick, .ref q_o_worth, .ref q_o_best, .int o_chosen])), (q_o_seconds, .inl (cI, 12, .inl o_seconds)), (q_o_board, .inl (cI, 49, .inl o_board')), (q_o_pick, .inl (cI, 6, .inl o_pick'))] r (va_A [(q_o, .inr (7, [.int o_thrown, .long o_trace, .ref q_o_text, .int o_typed, .int o_next, .int o_token, .int o_place, .int o_value, .int o_fault, .ref q_o_warmth, .ref q_o_side, .ref q_o_seconds, .int o_members, .int o_pairs, .int o_cold, .int o_fur, .int o_coughs, .int o_draftMembers, .int o_draftPairs, .int o_draftCold, .int o_draftFur, .int o_draftCoughs, .ref q_o_s, .ref q_o_kept, .ref q_o_isKept, .ref q_o_undos, .int o_undoMany, .ref q_o_seenAt, .ref q_o_seen, .int o_seenMany, .ref q_o_board, .ref q_o_pick, .ref q_o_worth, .ref q_o_best, .int o_chosen])), (q_o_seconds, .inl (cI, 12, .inl o_seconds)), (q_o_board, .inl (cI, 49, .inl o_board)), (q_o_pick, .inl (cI, 6, .inl o_pick))] sz)) 0 0 (va_A [(q_o, .inr (7, [.int o_thrown, .long o_trace, .ref q_o_text, .int o_typed, .int o_next, .int o_token, .int o_place, .int o_value, .int o_fault, .ref q_o_warmth, .ref q_o_side, .ref q_o_seconds, .int o_members, .int o_pairs, .int o_cold, .int o_fur, .int o_coughs, .int o_draftMembers, .int o_draftPairs, .int o_draftCold, .int o_draftFur, .int o_draftCoughs, .ref q_o_s, .ref q_o_kept, .ref q_o_isKept, .ref q_o_undos, .int o_undoMany, .ref q_o_seenAt, .ref q_o_seen, .int o_seenMany, .ref q_o_board, .ref q_o_pick, .ref q_o_worth, .ref q_o_best, .int o_chosen])), (q_o_seconds, .inl (cI, 12, .inl o_seconds)), (q_o_board, .inl (cI, 49, .inl o_board)), (q_o_pick, .inl (cI, 6, .inl o_pick))] sz) := by
  refine entM (l := l) (y := yX8_isPlan) (ws := wsX8_isPlan) (cc := cX8_isPlan) (av := [.ref q_o, .int p1, .int p2, .int p3, .int p4]) (wc := [(q_o, .inr (7, [.int o_thrown, .long o_trace, .ref q_o_text, .int o_typed, .int o_next, .int o_token, .int o_place, .int o_value, .int o_fault, .ref q_o_warmth, .ref q_o_side, .ref q_o_seconds, .int o_members, .int o_pairs, .int o_cold, .int o_fur, .int o_coughs, .int o_draftMembers, .int o_draftPairs, .int o_draftCold, .int o_draftFur, .int o_draftCoughs, .ref q_o_s, .ref q_o_kept, .ref q_o_isKept, .ref q_o_undos, .int o_undoMany, .ref q_o_seenAt, .ref q_o_seen, .int o_seenMany, .ref q_o_board, .ref q_o_pick, .ref q_o_worth, .ref q_o_best, .int o_chosen])), (q_o_seconds, .inl (cI, 12, .inl o_seconds)), (q_o_board, .inl (cI, 49, .inl o_board)), (q_o_pick, .inl (cI, 6, .inl o_pick))]) (sz := sz) (Qc := fun A => QI D [(q_o, .inr (7, [.int o_thrown, .long o_trace, .ref q_o_text, .int o_typed, .int o_next, .int o_token, .int o_place, .int o_value, .int o_fault, .ref q_o_warmth, .ref q_o_side, .ref q_o_seconds, .int o_members, .int o_pairs, .int o_cold, .int o_fur, .int o_coughs, .int o_draftMembers, .int o_draftPairs, .int o_draftCold, .int o_draftFur, .int o_draftCoughs, .ref q_o_s, .ref q_o_kept, .ref q_o_isKept, .ref q_o_undos, .int o_undoMany, .ref q_o_seenAt, .ref q_o_seen, .int o_seenMany, .ref q_o_board, .ref q_o_pick, .ref q_o_worth, .ref q_o_best, .int o_chosen])), (q_o_seconds, .inl (cI, 12, .inl o_seconds)), (q_o_board, .inl (cI, 49, .inl o_board')), (q_o_pick, .inl (cI, 6, .inl o_pick'))] r A) (by decide +kernel) rfl (Nat.le_of_ble_eq_true rfl) ?_
  intro A p e s m below meth c hx hb hr hml hown hlocks hts hK hA H locs hP hD hS ls hl
  have hown : s.vm.findClass RX8 = some m.cls := hown
  have hl : lv_has ls 8 [(0, .ref q_o), (1, .int p1), (2, .int p2), (3, .int p3), (4, .int p4)] := hl
  have hfix : CallFix p m c cX8_isPlan 8 s ([.ref q_o, .int p1, .int p2, .int p3, .int p4] : List Value).toArray wsX8_isPlan RX8 := ⟨hx, hb, hml, hown, hts⟩
  have hinX8 : ∀ w ∈ u_ws RX8 TX8 35, w ∈ wsX8_isPlan := by decide +kernel
  have g145 := hts (.fieldLink RX8 145 "LastCoatModel" "members" "I") (by decide +kernel)
  have g41 := hts (.fieldLink RX8 41 "LastCoatModel" "board" "[I") (by decide +kernel)
  have g44 := hts (.fieldLink RX8 44 "LastCoatModel" "pick" "[I") (by decide +kernel)
  have L13 : ∀ (n13 : Nat) (x1 : Int32) (x2 : Int32) (x3 : Int32) (x4 : Int32) (x5 : Int32) (x6 : Int32) (o_board : Nat → Int32) (o_pick : Nat → Int32) (H : Heap) (locs : List Loc) (ls : Array Slot), f_X8_isPlan_13 o_members o_cold o_seconds n13 x1 x2 x3 x4 x5 x6 o_board o_pick = some (r, o_board', o_pick') → va_P D vwCl [(q_o, .inr (7, [.int o_thrown, .long o_trace, .ref q_o_text, .int o_typed, .int o_next, .int o_token, .int o_place, .int o_value, .int o_fault, .ref q_o_warmth, .ref q_o_side, .ref q_o_seconds, .int o_members, .int o_pairs, .int o_cold, .int o_fur, .int o_coughs, .int o_draftMembers, .int o_draftPairs, .int o_draftCold, .int o_draftFur, .int o_draftCoughs, .ref q_o_s, .ref q_o_kept, .ref q_o_isKept, .ref q_o_undos, .int o_undoMany, .ref q_o_seenAt, .ref q_o_seen, .int o_seenMany, .ref q_o_board, .ref q_o_pick, .ref q_o_worth, .ref q_o_best, .int o_chosen])), (q_o_seconds, .inl (cI, 12, .inl o_seconds)), (q_o_board, .inl (cI, 49, .inl o_board)), (q_o_pick, .inl (cI, 6, .inl o_pick))] H → va_D A [(q_o, .inr (7, [.int o_thrown, .long o_trace, .ref q_o_text, .int o_typed, .int o_next, .int o_token, .int o_place, .int o_value, .int o_fault, .ref q_o_warmth, .ref q_o_side, .ref q_o_seconds, .int o_members, .int o_pairs, .int o_cold, .int o_fur, .int o_coughs, .int o_draftMembers, .int o_draftPairs, .int o_draftCold, .int o_draftFur, .int o_draftCoughs, .ref q_o_s, .ref q_o_kept, .ref q_o_isKept, .ref q_o_undos, .int o_undoMany, .ref q_o_seenAt, .ref q_o_seen, .int o_seenMany, .ref q_o_board, .ref q_o_pick, .ref q_o_worth, .ref q_o_best, .int o_chosen])), (q_o_seconds, .inl (cI, 12, .inl o_seconds)), (q_o_board, .inl (cI, 49, .inl o_board)), (q_o_pick, .inl (cI, 6, .inl o_pick))] → va_S A s.heap H locs → lv_has ls 8 [(0, .ref q_o), (1, .int x1), (2, .int x2), (3, .int x3), (4, .int x4), (5, .int x5), (6, .int x6)] → W p l e ({ frames := 2, cells := 0, slots := 0, locals := 52 } : Room) s m ([.ref q_o, .int p1, .int p2, .int p3, .int p4] : List Value).toArray below meth c H locs 0 0 (MQ below (QI D [(q_o, .inr (7, [.int o_thrown, .long o_trace, .ref q_o_text, .int o_typed, .int o_next, .int o_token, .int o_place, .int o_value, .int o_fault, .ref q_o_warmth, .ref q_o_side, .ref q_o_seconds, .int o_members, .int o_pairs, .int o_cold, .int o_fur, .int o_coughs, .int o_draftMembers, .int o_draftPairs, .int o_draftCold, .int o_draftFur, .int o_draftCoughs, .ref q_o_s, .ref q_o_kept, .ref q_o_isKept, .ref q_o_undos, .int o_undoMany, .ref q_o_seenAt, .ref q_o_seen, .int o_seenMany, .ref q_o_board, .ref q_o_pick, .ref q_o_worth, .ref q_o_best, .int o_chosen])), (q_o_seconds, .inl (cI, 12, .inl o_seconds)), (q_o_board, .inl (cI, 49, .inl o_board')), (q_o_pick, .inl (cI, 6, .inl o_pick'))] r A) ([.ref q_o, .int p1, .int p2, .int p3, .int p4] : List Value).toArray s 0 0 A) (F0 m 13 ls []) := by
    intro n13
    induction n13 with
    | zero =>
      intro x1 x2 x3 x4 x5 x6 o_board o_pick H locs ls hf hP hD hS hl
      exact noneNe hf
    | succ n13 ih13 =>
      intro x1 x2 x3 x4 x5 x6 o_board o_pick H locs ls hf hP hD hS hl
      have hf : f_X8_isPlan_13_b o_members o_cold o_seconds (f_X8_isPlan_13 o_members o_cold o_seconds n13) x1 x2 x3 x4 x5 x6 o_board o_pick = some (r, o_board', o_pick') := hf
      unfold f_X8_isPlan_13_b at hf
      refine lv_iload hx hb dX8_isPlan_13 (lv_at hl 6 rfl) ?_
      refine lv_iload_n hx hb dX8_isPlan_15 rfl (lv_at hl 2 rfl) ?_
      refine lv_icmp_ge (tgt := 91) hx hb dX8_isPlan_16 (by decide) (fun c1 => ?_) (fun c1 => ?_)
      · have hf := ite_p hf c1
        refine lv_iconst (v := 1) hx hb dX8_isPlan_91 (by decide) ?_
        obtain ⟨e0_, e1_, e2_⟩ := tup3 hf
        have hP : va_P D vwCl [(q_o, .inr (7, [.int o_thrown, .long o_trace, .ref q_o_text, .int o_typed, .int o_next, .int o_token, .int o_place, .int o_value, .int o_fault, .ref q_o_warmth, .ref q_o_side, .ref q_o_seconds, .int o_members, .int o_pairs, .int o_cold, .int o_fur, .int o_coughs, .int o_draftMembers, .int o_draftPairs, .int o_draftCold, .int o_draftFur, .int o_draftCoughs, .ref q_o_s, .ref q_o_kept, .ref q_o_isKept, .ref q_o_undos, .int o_undoMany, .ref q_o_seenAt, .ref q_o_seen, .int o_seenMany, .ref q_o_board, .ref q_o_pick, .ref q_o_worth, .ref q_o_best, .int o_chosen])), (q_o_seconds, .inl (cI, 12, .inl o_seconds)), (q_o_board, .inl (cI, 49, .inl o_board')), (q_o_pick, .inl (cI, 6, .inl o_pick'))] H := by rw [← e1_, ← e2_]; exact hP
        have hD : va_D A [(q_o, .inr (7, [.int o_thrown, .long o_trace, .ref q_o_text, .int o_typed, .int o_next, .int o_token, .int o_place, .int o_value, .int o_fault, .ref q_o_warmth, .ref q_o_side, .ref q_o_seconds, .int o_members, .int o_pairs, .int o_cold, .int o_fur, .int o_coughs, .int o_draftMembers, .int o_draftPairs, .int o_draftCold, .int o_draftFur, .int o_draftCoughs, .ref q_o_s, .ref q_o_kept, .ref q_o_isKept, .ref q_o_undos, .int o_undoMany, .ref q_o_seenAt, .ref q_o_seen, .int o_seenMany, .ref q_o_board, .ref q_o_pick, .ref q_o_worth, .ref q_o_best, .int o_chosen])), (q_o_seconds, .inl (cI, 12, .inl o_seconds)), (q_o_board, .inl (cI, 49, .inl o_board')), (q_o_pick, .inl (cI, 6, .inl o_pick'))] := by rw [← e1_, ← e2_]; exact hD
        exact endMI hx hb hr hlocks rfl hP hD hS e0_ dX8_isPlan_92
      · have hf := ite_n hf c1
        refine lv_iload hx hb dX8_isPlan_19 (lv_at hl 5 rfl) ?_
        refine lv_aload_n hx hb dX8_isPlan_21 rfl (lv_at hl 0 rfl) ?_
        refine va_get (D := D) (ci := 7) (v := .int o_members) (C := RX8) (T := TX8) (N := 35) hx hb hts hinX8 hown hK.1 hP 0 rfl rfl 12 (by decide) g145 (fun _ h9 => h9) rfl dX8_isPlan_22 ?_
        obtain ⟨g2, hf⟩ := nzg_some hf
        refine lv_idiv hx hb dX8_isPlan_25 g2 ?_
        refine lv_topi (fun y3 ey3 => ?_)
        have hf := bnd_at hf ey3
        refine lv_istore (lv' := [(5, .int y3), (0, .ref q_o), (1, .int x1), (2, .int x2), (3, .int x3), (4, .int x4), (6, .int x6)]) hx hb dX8_isPlan_26 hl (by decide) rfl (fun ls hl => ?_)
        refine lv_iload_n hx hb dX8_isPlan_28 rfl (lv_at hl 2 rfl) ?_
        refine lv_iload hx hb dX8_isPlan_29 (lv_at hl 0 rfl) ?_
        obtain ⟨g4, hf⟩ := nzg_some hf
        refine lv_idiv hx hb dX8_isPlan_31 g4 ?_
        refine lv_aload_n hx hb dX8_isPlan_32 rfl (lv_at hl 1 rfl) ?_
        refine va_get (D := D) (ci := 7) (v := .int o_members) (C := RX8) (T := TX8) (N := 35) hx hb hts hinX8 hown hK.1 hP 0 rfl rfl 12 (by decide) g145 (fun _ h9 => h9) rfl dX8_isPlan_33 ?_
        obtain ⟨g5, hf⟩ := nzg_some hf
        refine lv_irem hx hb dX8_isPlan_36 g5 ?_
        refine lv_topi (fun y6 ey6 => ?_)
        have hf := bnd_at hf ey6
        refine lv_istore (lv' := [(7, .int y6), (5, .int y3), (0, .ref q_o), (1, .int x1), (2, .int x2), (3, .int x3), (4, .int x4), (6, .int x6)]) hx hb dX8_isPlan_37 hl (by decide) rfl (fun ls hl => ?_)
        refine lv_aload_n hx hb dX8_isPlan_39 rfl (lv_at hl 2 rfl) ?_
        refine va_get (D := D) (ci := 7) (v := .ref q_o_board) (C := RX8) (T := TX8) (N := 35) hx hb hts hinX8 hown hK.1 hP 0 rfl rfl 30 (by decide) g41 (fun _ h9 => h9) rfl dX8_isPlan_40 ?_
        refine lv_bipush (v := 7) hx hb dX8_isPlan_43 (by decide) ?_
        refine lv_iload hx hb dX8_isPlan_45 (lv_at hl 7 rfl) ?_
        refine lv_imul hx hb dX8_isPlan_47 ?_
        refine lv_iload hx hb dX8_isPlan_48 (lv_at hl 0 rfl) ?_
        refine lv_iadd hx hb dX8_isPlan_50 ?_
        obtain ⟨g7, hf⟩ := ing_some hf
        refine va_iald hx hb hK.1 hP 2 1 rfl rfl g7 dX8_isPlan_51 ?_
        refine lv_if_eq (tgt := 61) hx hb dX8_isPlan_52 (by decide) (fun c8 => ?_) (fun c8 => ?_)
        · have hf := ite_p hf c8
          refine lv_iconst (v := 0) hx hb dX8_isPlan_61 (by decide) ?_
          obtain ⟨e0_, e1_, e2_⟩ := tup3 hf
          have hP : va_P D vwCl [(q_o, .inr (7, [.int o_thrown, .long o_trace, .ref q_o_text, .int o_typed, .int o_next, .int o_token, .int o_place, .int o_value, .int o_fault, .ref q_o_warmth, .ref q_o_side, .ref q_o_seconds, .int o_members, .int o_pairs, .int o_cold, .int o_fur, .int o_coughs, .int o_draftMembers, .int o_draftPairs, .int o_draftCold, .int o_draftFur, .int o_draftCoughs, .ref q_o_s, .ref q_o_kept, .ref q_o_isKept, .ref q_o_undos, .int o_undoMany, .ref q_o_seenAt, .ref q_o_seen, .int o_seenMany, .ref q_o_board, .ref q_o_pick, .ref q_o_worth, .ref q_o_best, .int o_chosen])), (q_o_seconds, .inl (cI, 12, .inl o_seconds)), (q_o_board, .inl (cI, 49, .inl o_board')), (q_o_pick, .inl (cI, 6, .inl o_pick'))] H := by rw [← e1_, ← e2_]; exact hP
          have hD : va_D A [(q_o, .inr (7, [.int o_thrown, .long o_trace, .ref q_o_text, .int o_typed, .int o_next, .int o_token, .int o_place, .int o_value, .int o_fault, .ref q_o_warmth, .ref q_o_side, .ref q_o_seconds, .int o_members, .int o_pairs, .int o_cold, .int o_fur, .int o_coughs, .int o_draftMembers, .int o_draftPairs, .int o_draftCold, .int o_draftFur, .int o_draftCoughs, .ref q_o_s, .ref q_o_kept, .ref q_o_isKept, .ref q_o_undos, .int o_undoMany, .ref q_o_seenAt, .ref q_o_seen, .int o_seenMany, .ref q_o_board, .ref q_o_pick, .ref q_o_worth, .ref q_o_best, .int o_chosen])), (q_o_seconds, .inl (cI, 12, .inl o_seconds)), (q_o_board, .inl (cI, 49, .inl o_board')), (q_o_pick, .inl (cI, 6, .inl o_pick'))] := by rw [← e1_, ← e2_]; exact hD
          exact endMI hx hb hr hlocks rfl hP hD hS e0_ dX8_isPlan_62
        · have hf := ite_n hf c8
          refine lv_iload hx hb dX8_isPlan_55 (lv_at hl 0 rfl) ?_
          refine lv_iload_n hx hb dX8_isPlan_57 rfl (lv_at hl 5 rfl) ?_
          refine lv_icmp_ne (tgt := 63) hx hb dX8_isPlan_58 (by decide) (fun c9 => ?_) (fun c9 => ?_)
          · have hf := ite_n hf c9
            refine lv_aload_n hx hb dX8_isPlan_63 rfl (lv_at hl 2 rfl) ?_
            refine va_get (D := D) (ci := 7) (v := .ref q_o_pick) (C := RX8) (T := TX8) (N := 35) hx hb hts hinX8 hown hK.1 hP 0 rfl rfl 31 (by decide) g44 (fun _ h9 => h9) rfl dX8_isPlan_64 ?_
            refine lv_iload hx hb dX8_isPlan_67 (lv_at hl 7 rfl) ?_
            refine lv_iload hx hb dX8_isPlan_69 (lv_at hl 0 rfl) ?_
            obtain ⟨g10, hf⟩ := ing_some hf
            refine va_iast hx hb hK.1 hP hD hS 3 1 rfl rfl g10 dX8_isPlan_71 (fun H locs hP hD hS => ?_)
            obtain ⟨w11, ew11⟩ : ∃ z : Nat → Int32, z = upd o_pick x6.toNatClampNeg y6 := ⟨_, rfl⟩
            have hf := bnd_at hf ew11
            have hP : va_P D vwCl [(q_o, .inr (7, [.int o_thrown, .long o_trace, .ref q_o_text, .int o_typed, .int o_next, .int o_token, .int o_place, .int o_value, .int o_fault, .ref q_o_warmth, .ref q_o_side, .ref q_o_seconds, .int o_members, .int o_pairs, .int o_cold, .int o_fur, .int o_coughs, .int o_draftMembers, .int o_draftPairs, .int o_draftCold, .int o_draftFur, .int o_draftCoughs, .ref q_o_s, .ref q_o_kept, .ref q_o_isKept, .ref q_o_undos, .int o_undoMany, .ref q_o_seenAt, .ref q_o_seen, .int o_seenMany, .ref q_o_board, .ref q_o_pick, .ref q_o_worth, .ref q_o_best, .int o_chosen])), (q_o_seconds, .inl (cI, 12, .inl o_seconds)), (q_o_board, .inl (cI, 49, .inl o_board)), (q_o_pick, .inl (cI, 6, .inl w11))] H := by rw [ew11]; exact hP
            have hD : va_D A [(q_o, .inr (7, [.int o_thrown, .long o_trace, .ref q_o_text, .int o_typed, .int o_next, .int o_token, .int o_place, .int o_value, .int o_fault, .ref q_o_warmth, .ref q_o_side, .ref q_o_seconds, .int o_members, .int o_pairs, .int o_cold, .int o_fur, .int o_coughs, .int o_draftMembers, .int o_draftPairs, .int o_draftCold, .int o_draftFur, .int o_draftCoughs, .ref q_o_s, .ref q_o_kept, .ref q_o_isKept, .ref q_o_undos, .int o_undoMany, .ref q_o_seenAt, .ref q_o_seen, .int o_seenMany, .ref q_o_board, .ref q_o_pick, .ref q_o_worth, .ref q_o_best, .int o_chosen])), (q_o_seconds, .inl (cI, 12, .inl o_seconds)), (q_o_board, .inl (cI, 49, .inl o_board)), (q_o_pick, .inl (cI, 6, .inl w11))] := by rw [ew11]; exact hD
            refine lv_aload_n hx hb dX8_isPlan_72 rfl (lv_at hl 2 rfl) ?_
            refine lv_bipush (v := 7) hx hb dX8_isPlan_73 (by decide) ?_
            refine lv_iload hx hb dX8_isPlan_75 (lv_at hl 7 rfl) ?_
            refine lv_imul hx hb dX8_isPlan_77 ?_
            refine lv_iload hx hb dX8_isPlan_78 (lv_at hl 0 rfl) ?_
            refine lv_iload hx hb dX8_isPlan_80 (lv_at hl 6 rfl) ?_
            obtain ⟨m12, h13, hf⟩ := ob1_some hf
            refine muVv (wr := [(q_o_pick, .inl (cI, 6, .inl w11))]) (ws1 := [(q_o, .inr (7, [.int o_thrown, .long o_trace, .ref q_o_text, .int o_typed, .int o_next, .int o_token, .int o_place, .int o_value, .int o_fault, .ref q_o_warmth, .ref q_o_side, .ref q_o_seconds, .int o_members, .int o_pairs, .int o_cold, .int o_fur, .int o_coughs, .int o_draftMembers, .int o_draftPairs, .int o_draftCold, .int o_draftFur, .int o_draftCoughs, .ref q_o_s, .ref q_o_kept, .ref q_o_isKept, .ref q_o_undos, .int o_undoMany, .ref q_o_seenAt, .ref q_o_seen, .int o_seenMany, .ref q_o_board, .ref q_o_pick, .ref q_o_worth, .ref q_o_best, .int o_chosen])), (q_o_seconds, .inl (cI, 12, .inl o_seconds)), (q_o_board, .inl (cI, 49, .inl m12)), (q_o_pick, .inl (cI, 6, .inl w11))]) (c_X8_goes l D cB cI cZ cM cN q_o q_o_text q_o_warmth q_o_side q_o_seconds q_o_s q_o_kept q_o_isKept q_o_undos q_o_seenAt q_o_seen q_o_board q_o_pick q_o_worth q_o_best o_thrown o_trace o_typed o_next o_token o_place o_value o_fault o_members o_pairs o_cold o_fur o_coughs o_draftMembers o_draftPairs o_draftCold o_draftFur o_draftCoughs o_undoMany o_seenMany o_chosen o_seconds o_board (7 * x6) y6 x4 m12 H.size h13) hfix (cwV 3 hts gX8_isPlan_X8_goes rfl rfl rfl (by decide +kernel) ⟨Nat.le_of_ble_eq_true rfl, Nat.le_of_ble_eq_true rfl⟩) hP hK hD hA hS [0, 1, 2] [3] [1, 2, 3, 0] rfl rfl rfl rfl (by decide) rfl rfl rfl rfl rfl rfl hl.1 rfl (Nat.le_of_ble_eq_true rfl) dX8_isPlan_82 ⟨Nat.zero_le _, Nat.zero_le _⟩ (fun H locs hP hD hS => ?_)
            obtain ⟨y14, ey14⟩ : ∃ z : Int32, z = x6 + 1 := ⟨_, rfl⟩
            have hf := bnd_at hf ey14
            refine lv_iinc (v := y14) (lv' := [(6, .int y14), (7, .int y6), (5, .int y3), (0, .ref q_o), (1, .int x1), (2, .int x2), (3, .int x3), (4, .int x4)]) hx hb dX8_isPlan_85 hl (k := 7) rfl (by rw [ey14]; rfl) (by decide) rfl (fun ls hl => ?_)
            refine lv_goto (tgt := 13) hx hb dX8_isPlan_88 (by decide) ?_
            exact ih13 x1 x2 x3 x4 y3 y14 m12 w11 _ _ ls hf hP hD hS (lv_sub hl [3, 4, 5, 6, 7, 2, 0] rfl)
          · have hf := ite_p hf c9
            refine lv_iconst (v := 0) hx hb dX8_isPlan_61 (by decide) ?_
            obtain ⟨e0_, e1_, e2_⟩ := tup3 hf
            have hP : va_P D vwCl [(q_o, .inr (7, [.int o_thrown, .long o_trace, .ref q_o_text, .int o_typed, .int o_next, .int o_token, .int o_place, .int o_value, .int o_fault, .ref q_o_warmth, .ref q_o_side, .ref q_o_seconds, .int o_members, .int o_pairs, .int o_cold, .int o_fur, .int o_coughs, .int o_draftMembers, .int o_draftPairs, .int o_draftCold, .int o_draftFur, .int o_draftCoughs, .ref q_o_s, .ref q_o_kept, .ref q_o_isKept, .ref q_o_undos, .int o_undoMany, .ref q_o_seenAt, .ref q_o_seen, .int o_seenMany, .ref q_o_board, .ref q_o_pick, .ref q_o_worth, .ref q_o_best, .int o_chosen])), (q_o_seconds, .inl (cI, 12, .inl o_seconds)), (q_o_board, .inl (cI, 49, .inl o_board')), (q_o_pick, .inl (cI, 6, .inl o_pick'))] H := by rw [← e1_, ← e2_]; exact hP
            have hD : va_D A [(q_o, .inr (7, [.int o_thrown, .long o_trace, .ref q_o_text, .int o_typed, .int o_next, .int o_token, .int o_place, .int o_value, .int o_fault, .ref q_o_warmth, .ref q_o_side, .ref q_o_seconds, .int o_members, .int o_pairs, .int o_cold, .int o_fur, .int o_coughs, .int o_draftMembers, .int o_draftPairs, .int o_draftCold, .int o_draftFur, .int o_draftCoughs, .ref q_o_s, .ref q_o_kept, .ref q_o_isKept, .ref q_o_undos, .int o_undoMany, .ref q_o_seenAt, .ref q_o_seen, .int o_seenMany, .ref q_o_board, .ref q_o_pick, .ref q_o_worth, .ref q_o_best, .int o_chosen])), (q_o_seconds, .inl (cI, 12, .inl o_seconds)), (q_o_board, .inl (cI, 49, .inl o_board')), (q_o_pick, .inl (cI, 6, .inl o_pick'))] := by rw [← e1_, ← e2_]; exact hD
            exact endMI hx hb hr hlocks rfl hP hD hS e0_ dX8_isPlan_62
  unfold f_X8_isPlan at hf
  refine lv_aload_n hx hb dX8_isPlan_0 rfl (lv_at hl 0 rfl) ?_
  refine va_get (D := D) (ci := 7) (v := .int o_members) (C := RX8) (T := TX8) (N := 35) hx hb hts hinX8 hown hK.1 hP 0 rfl rfl 12 (by decide) g145 (fun _ h9 => h9) rfl dX8_isPlan_1 ?_
  refine lv_iload_n hx hb dX8_isPlan_4 rfl (lv_at hl 2 rfl) ?_
  obtain ⟨r15, h16, hf⟩ := ob1_some hf
  refine roS (c_X8_power l D cB cI cZ cM cN o_members p2 r15 h16) hfix (va_cwS 2 hts gX8_isPlan_X8_power rfl rfl rfl (by decide +kernel) ⟨Nat.le_of_ble_eq_true rfl, Nat.le_of_ble_eq_true rfl⟩) (subC hP [] rfl) hK rfl hl.1 rfl (Nat.le_of_ble_eq_true rfl) dX8_isPlan_5 ⟨Nat.zero_le _, Nat.zero_le _⟩ ?_
  refine lv_istore (lv' := [(5, .int r15), (0, .ref q_o), (1, .int p1), (2, .int p2), (3, .int p3), (4, .int p4)]) hx hb dX8_isPlan_8 hl (by decide) rfl (fun ls hl => ?_)
  refine lv_iconst (v := 0) hx hb dX8_isPlan_10 (by decide) ?_
  refine lv_istore (lv' := [(6, .int 0), (5, .int r15), (0, .ref q_o), (1, .int p1), (2, .int p2), (3, .int p3), (4, .int p4)]) hx hb dX8_isPlan_11 hl (by decide) rfl (fun ls hl => ?_)
  exact L13 FU p1 p2 p3 p4 r15 0 o_board o_pick _ _ ls hf hP hD hS (lv_sub hl [2, 3, 4, 5, 6, 1, 0] rfl)
def f_X8_plans_15 (o_members : Int32) (x1 : Int32) : Option (Int32) :=
  ob1 (f_X8_power o_members x1) fun r1 =>
  some (r1)
def f_X8_plans (o_members : Int32) (p1 : Int32) : Option (Int32) :=
  if o_members = 0 then (
    if p1 ≤ 0 then (
      f_X8_plans_15 o_members p1
    ) else (
      some (0)
    )
  ) else (
    f_X8_plans_15 o_members p1
  )
set_option maxHeartbeats 4000000 in
set_option maxRecDepth 100000 in
theorem c_X8_plans (l : Launch) (D : va_G) (cB cI cZ cM cN : ClassId) (q_o : Nat) (q_o_text : Nat) (q_o_warmth : Nat) (q_o_side : Nat) (q_o_seconds : Nat) (q_o_s : Nat) (q_o_kept : Nat) (q_o_isKept : Nat) (q_o_undos : Nat) (q_o_seenAt : Nat) (q_o_seen : Nat) (q_o_board : Nat) (q_o_pick : Nat) (q_o_worth : Nat) (q_o_best : Nat) (o_thrown : Int32) (o_trace : Int64) (o_typed : Int32) (o_next : Int32) (o_token : Int32) (o_place : Int32) (o_value : Int32) (o_fault : Int32) (o_members : Int32) (o_pairs : Int32) (o_cold : Int32) (o_fur : Int32) (o_coughs : Int32) (o_draftMembers : Int32) (o_draftPairs : Int32) (o_draftCold : Int32) (o_draftFur : Int32) (o_draftCoughs : Int32) (o_undoMany : Int32) (o_seenMany : Int32) (o_chosen : Int32) (p1 : Int32) (r : Int32) (hf : f_X8_plans o_members p1 = some r) : Met l yX8_plans wsX8_plans ({ frames := 1, cells := 0, slots := 0, locals := 23 } : Room) (PR D cB cI cZ cM cN [.ref q_o, .int p1] [(q_o, .inr (7, [.int o_thrown, .long o_trace, .ref q_o_text, .int o_typed, .int o_next, .int o_token, .int o_place, .int o_value, .int o_fault, .ref q_o_warmth, .ref q_o_side, .ref q_o_seconds, .int o_members, .int o_pairs, .int o_cold, .int o_fur, .int o_coughs, .int o_draftMembers, .int o_draftPairs, .int o_draftCold, .int o_draftFur, .int o_draftCoughs, .ref q_o_s, .ref q_o_kept, .ref q_o_isKept, .ref q_o_undos, .int o_undoMany, .ref q_o_seenAt, .ref q_o_seen, .int o_seenMany, .ref q_o_board, .ref q_o_pick, .ref q_o_worth, .ref q_o_best, .int o_chosen]))]) (RI r) 0 0 (fun _ => False) := by
  refine entR (by decide +kernel) rfl (Nat.le_of_ble_eq_true rfl) ?_
  intro p e s m below meth c hx hb hr hml hown hlocks hts hP hK ls hl
  have hown : s.vm.findClass RX8 = some m.cls := hown
  have hl : lv_has ls 2 [(0, .ref q_o), (1, .int p1)] := hl
  have hfix : CallFix p m c cX8_plans 2 s ([.ref q_o, .int p1] : List Value).toArray wsX8_plans RX8 := ⟨hx, hb, hml, hown, hts⟩
  have hinX8 : ∀ w ∈ u_ws RX8 TX8 35, w ∈ wsX8_plans := by decide +kernel
  have g145 := hts (.fieldLink RX8 145 "LastCoatModel" "members" "I") (by decide +kernel)
  have L15 : ∀ (x1 : Int32) (ls : Array Slot), f_X8_plans_15 o_members x1 = some r → lv_has ls 2 [(0, .ref q_o), (1, .int x1)] → W p l e ({ frames := 1, cells := 0, slots := 0, locals := 23 } : Room) s m ([.ref q_o, .int p1] : List Value).toArray below meth c s.heap [] 0 0 (MQ below (RI r) ([.ref q_o, .int p1] : List Value).toArray s 0 0 (fun _ => False)) (F0 m 15 ls []) := by
    intro x1 ls hf hl
    unfold f_X8_plans_15 at hf
    refine lv_aload_n hx hb dX8_plans_15 rfl (lv_at hl 0 rfl) ?_
    refine va_get (D := D) (ci := 7) (v := .int o_members) (C := RX8) (T := TX8) (N := 35) hx hb hts hinX8 hown hK.1 hP 0 rfl rfl 12 (by decide) g145 (fun _ h9 => h9) rfl dX8_plans_16 ?_
    refine lv_iload_n hx hb dX8_plans_19 rfl (lv_at hl 1 rfl) ?_
    obtain ⟨r1, h2, hf⟩ := ob1_some hf
    refine roS (c_X8_power l D cB cI cZ cM cN o_members x1 r1 h2) hfix (va_cwS 2 hts gX8_plans_X8_power rfl rfl rfl (by decide +kernel) ⟨Nat.le_of_ble_eq_true rfl, Nat.le_of_ble_eq_true rfl⟩) (subC hP [] rfl) hK rfl hl.1 rfl (Nat.le_of_ble_eq_true rfl) dX8_plans_20 ⟨Nat.zero_le _, Nat.zero_le _⟩ ?_
    have e0_ := Option.some.inj hf
    exact endRI hx hb hr hlocks rfl e0_ dX8_plans_23
  unfold f_X8_plans at hf
  refine lv_aload_n hx hb dX8_plans_0 rfl (lv_at hl 0 rfl) ?_
  refine va_get (D := D) (ci := 7) (v := .int o_members) (C := RX8) (T := TX8) (N := 35) hx hb hts hinX8 hown hK.1 hP 0 rfl rfl 12 (by decide) g145 (fun _ h9 => h9) rfl dX8_plans_1 ?_
  refine lv_if_ne (tgt := 15) hx hb dX8_plans_4 (by decide) (fun c3 => ?_) (fun c3 => ?_)
  · have hf := ite_n hf c3
    exact L15 p1 ls hf (lv_sub hl [0, 1] rfl)
  · have hf := ite_p hf c3
    refine lv_iload_n hx hb dX8_plans_7 rfl (lv_at hl 1 rfl) ?_
    refine lv_if_le (tgt := 15) hx hb dX8_plans_8 (by decide) (fun c4 => ?_) (fun c4 => ?_)
    · have hf := ite_p hf c4
      exact L15 p1 ls hf (lv_sub hl [0, 1] rfl)
    · have hf := ite_n hf c4
      refine lv_iconst (v := 0) hx hb dX8_plans_11 (by decide) ?_
      refine lv_goto (tgt := 23) hx hb dX8_plans_12 (by decide) ?_
      have e0_ := Option.some.inj hf
      exact endRI hx hb hr hlocks rfl e0_ dX8_plans_23
def f_X8_keepsPicks_2_b (o_pick : Nat → Int32) (K2 : Int32 → Int32 → (Nat → Int32) → (Option ((Nat → Int32)))) (x1 : Int32) (x2 : Int32) (o_best : Nat → Int32) : Option ((Nat → Int32)) :=
  if x1 ≤ x2 then (
    some (o_best)
  ) else (
    ing x2 6 <|
    ing x2 5 <|
    bnd (upd o_best x2.toNatClampNeg (o_pick x2.toNatClampNeg)) fun w4 =>
    bnd (x2 + 1) fun y5 =>
    K2 x1 y5 w4
  )
def f_X8_keepsPicks_2 (o_pick : Nat → Int32) : Nat → Int32 → Int32 → (Nat → Int32) → (Option ((Nat → Int32)))
  | 0 => fun _ _ _ => none
  | n + 1 => f_X8_keepsPicks_2_b o_pick (f_X8_keepsPicks_2 o_pick n)
def f_X8_keepsPicks (o_pick : Nat → Int32) (o_best : Nat → Int32) (p1 : Int32) : Option ((Nat → Int32)) :=
  f_X8_keepsPicks_2 o_pick FU p1 0 o_best
set_option maxHeartbeats 4000000 in
set_option maxRecDepth 100000 in
theorem c_X8_keepsPicks (l : Launch) (D : va_G) (cB cI cZ cM cN : ClassId) (q_o : Nat) (q_o_text : Nat) (q_o_warmth : Nat) (q_o_side : Nat) (q_o_seconds : Nat) (q_o_s : Nat) (q_o_kept : Nat) (q_o_isKept : Nat) (q_o_undos : Nat) (q_o_seenAt : Nat) (q_o_seen : Nat) (q_o_board : Nat) (q_o_pick : Nat) (q_o_worth : Nat) (q_o_best : Nat) (o_thrown : Int32) (o_trace : Int64) (o_typed : Int32) (o_next : Int32) (o_token : Int32) (o_place : Int32) (o_value : Int32) (o_fault : Int32) (o_members : Int32) (o_pairs : Int32) (o_cold : Int32) (o_fur : Int32) (o_coughs : Int32) (o_draftMembers : Int32) (o_draftPairs : Int32) (o_draftCold : Int32) (o_draftFur : Int32) (o_draftCoughs : Int32) (o_undoMany : Int32) (o_seenMany : Int32) (o_chosen : Int32) (o_pick : Nat → Int32) (o_best : Nat → Int32) (p1 : Int32) (o_best' : Nat → Int32) (sz : Nat) (hf : f_X8_keepsPicks o_pick o_best p1 = some o_best') : Met l yX8_keepsPicks wsX8_keepsPicks ({ frames := 0, cells := 0, slots := 0, locals := 0 } : Room) (PM D cB cI cZ cM cN [.ref q_o, .int p1] [(q_o, .inr (7, [.int o_thrown, .long o_trace, .ref q_o_text, .int o_typed, .int o_next, .int o_token, .int o_place, .int o_value, .int o_fault, .ref q_o_warmth, .ref q_o_side, .ref q_o_seconds, .int o_members, .int o_pairs, .int o_cold, .int o_fur, .int o_coughs, .int o_draftMembers, .int o_draftPairs, .int o_draftCold, .int o_draftFur, .int o_draftCoughs, .ref q_o_s, .ref q_o_kept, .ref q_o_isKept, .ref q_o_undos, .int o_undoMany, .ref q_o_seenAt, .ref q_o_seen, .int o_seenMany, .ref q_o_board, .ref q_o_pick, .ref q_o_worth, .ref q_o_best, .int o_chosen])), (q_o_pick, .inl (cI, 6, .inl o_pick)), (q_o_best, .inl (cI, 5, .inl o_best))] sz) (QV D [(q_o, .inr (7, [.int o_thrown, .long o_trace, .ref q_o_text, .int o_typed, .int o_next, .int o_token, .int o_place, .int o_value, .int o_fault, .ref q_o_warmth, .ref q_o_side, .ref q_o_seconds, .int o_members, .int o_pairs, .int o_cold, .int o_fur, .int o_coughs, .int o_draftMembers, .int o_draftPairs, .int o_draftCold, .int o_draftFur, .int o_draftCoughs, .ref q_o_s, .ref q_o_kept, .ref q_o_isKept, .ref q_o_undos, .int o_undoMany, .ref q_o_seenAt, .ref q_o_seen, .int o_seenMany, .ref q_o_board, .ref q_o_pick, .ref q_o_worth, .ref q_o_best, .int o_chosen])), (q_o_pick, .inl (cI, 6, .inl o_pick)), (q_o_best, .inl (cI, 5, .inl o_best'))] (va_A [(q_o, .inr (7, [.int o_thrown, .long o_trace, .ref q_o_text, .int o_typed, .int o_next, .int o_token, .int o_place, .int o_value, .int o_fault, .ref q_o_warmth, .ref q_o_side, .ref q_o_seconds, .int o_members, .int o_pairs, .int o_cold, .int o_fur, .int o_coughs, .int o_draftMembers, .int o_draftPairs, .int o_draftCold, .int o_draftFur, .int o_draftCoughs, .ref q_o_s, .ref q_o_kept, .ref q_o_isKept, .ref q_o_undos, .int o_undoMany, .ref q_o_seenAt, .ref q_o_seen, .int o_seenMany, .ref q_o_board, .ref q_o_pick, .ref q_o_worth, .ref q_o_best, .int o_chosen])), (q_o_pick, .inl (cI, 6, .inl o_pick)), (q_o_best, .inl (cI, 5, .inl o_best))] sz)) 0 0 (va_A [(q_o, .inr (7, [.int o_thrown, .long o_trace, .ref q_o_text, .int o_typed, .int o_next, .int o_token, .int o_place, .int o_value, .int o_fault, .ref q_o_warmth, .ref q_o_side, .ref q_o_seconds, .int o_members, .int o_pairs, .int o_cold, .int o_fur, .int o_coughs, .int o_draftMembers, .int o_draftPairs, .int o_draftCold, .int o_draftFur, .int o_draftCoughs, .ref q_o_s, .ref q_o_kept, .ref q_o_isKept, .ref q_o_undos, .int o_undoMany, .ref q_o_seenAt, .ref q_o_seen, .int o_seenMany, .ref q_o_board, .ref q_o_pick, .ref q_o_worth, .ref q_o_best, .int o_chosen])), (q_o_pick, .inl (cI, 6, .inl o_pick)), (q_o_best, .inl (cI, 5, .inl o_best))] sz) := by
  refine entM (l := l) (y := yX8_keepsPicks) (ws := wsX8_keepsPicks) (cc := cX8_keepsPicks) (av := [.ref q_o, .int p1]) (wc := [(q_o, .inr (7, [.int o_thrown, .long o_trace, .ref q_o_text, .int o_typed, .int o_next, .int o_token, .int o_place, .int o_value, .int o_fault, .ref q_o_warmth, .ref q_o_side, .ref q_o_seconds, .int o_members, .int o_pairs, .int o_cold, .int o_fur, .int o_coughs, .int o_draftMembers, .int o_draftPairs, .int o_draftCold, .int o_draftFur, .int o_draftCoughs, .ref q_o_s, .ref q_o_kept, .ref q_o_isKept, .ref q_o_undos, .int o_undoMany, .ref q_o_seenAt, .ref q_o_seen, .int o_seenMany, .ref q_o_board, .ref q_o_pick, .ref q_o_worth, .ref q_o_best, .int o_chosen])), (q_o_pick, .inl (cI, 6, .inl o_pick)), (q_o_best, .inl (cI, 5, .inl o_best))]) (sz := sz) (Qc := fun A => QV D [(q_o, .inr (7, [.int o_thrown, .long o_trace, .ref q_o_text, .int o_typed, .int o_next, .int o_token, .int o_place, .int o_value, .int o_fault, .ref q_o_warmth, .ref q_o_side, .ref q_o_seconds, .int o_members, .int o_pairs, .int o_cold, .int o_fur, .int o_coughs, .int o_draftMembers, .int o_draftPairs, .int o_draftCold, .int o_draftFur, .int o_draftCoughs, .ref q_o_s, .ref q_o_kept, .ref q_o_isKept, .ref q_o_undos, .int o_undoMany, .ref q_o_seenAt, .ref q_o_seen, .int o_seenMany, .ref q_o_board, .ref q_o_pick, .ref q_o_worth, .ref q_o_best, .int o_chosen])), (q_o_pick, .inl (cI, 6, .inl o_pick)), (q_o_best, .inl (cI, 5, .inl o_best'))] A) (by decide +kernel) rfl (Nat.le_of_ble_eq_true rfl) ?_
  intro A p e s m below meth c hx hb hr hml hown hlocks hts hK hA H locs hP hD hS ls hl
  have hown : s.vm.findClass RX8 = some m.cls := hown
  have hl : lv_has ls 3 [(0, .ref q_o), (1, .int p1)] := hl
  have hfix : CallFix p m c cX8_keepsPicks 3 s ([.ref q_o, .int p1] : List Value).toArray wsX8_keepsPicks RX8 := ⟨hx, hb, hml, hown, hts⟩
  have hinX8 : ∀ w ∈ u_ws RX8 TX8 35, w ∈ wsX8_keepsPicks := by decide +kernel
  have g50 := hts (.fieldLink RX8 50 "LastCoatModel" "best" "[I") (by decide +kernel)
  have g44 := hts (.fieldLink RX8 44 "LastCoatModel" "pick" "[I") (by decide +kernel)
  have L2 : ∀ (n2 : Nat) (x1 : Int32) (x2 : Int32) (o_best : Nat → Int32) (H : Heap) (locs : List Loc) (ls : Array Slot), f_X8_keepsPicks_2 o_pick n2 x1 x2 o_best = some o_best' → va_P D vwCl [(q_o, .inr (7, [.int o_thrown, .long o_trace, .ref q_o_text, .int o_typed, .int o_next, .int o_token, .int o_place, .int o_value, .int o_fault, .ref q_o_warmth, .ref q_o_side, .ref q_o_seconds, .int o_members, .int o_pairs, .int o_cold, .int o_fur, .int o_coughs, .int o_draftMembers, .int o_draftPairs, .int o_draftCold, .int o_draftFur, .int o_draftCoughs, .ref q_o_s, .ref q_o_kept, .ref q_o_isKept, .ref q_o_undos, .int o_undoMany, .ref q_o_seenAt, .ref q_o_seen, .int o_seenMany, .ref q_o_board, .ref q_o_pick, .ref q_o_worth, .ref q_o_best, .int o_chosen])), (q_o_pick, .inl (cI, 6, .inl o_pick)), (q_o_best, .inl (cI, 5, .inl o_best))] H → va_D A [(q_o, .inr (7, [.int o_thrown, .long o_trace, .ref q_o_text, .int o_typed, .int o_next, .int o_token, .int o_place, .int o_value, .int o_fault, .ref q_o_warmth, .ref q_o_side, .ref q_o_seconds, .int o_members, .int o_pairs, .int o_cold, .int o_fur, .int o_coughs, .int o_draftMembers, .int o_draftPairs, .int o_draftCold, .int o_draftFur, .int o_draftCoughs, .ref q_o_s, .ref q_o_kept, .ref q_o_isKept, .ref q_o_undos, .int o_undoMany, .ref q_o_seenAt, .ref q_o_seen, .int o_seenMany, .ref q_o_board, .ref q_o_pick, .ref q_o_worth, .ref q_o_best, .int o_chosen])), (q_o_pick, .inl (cI, 6, .inl o_pick)), (q_o_best, .inl (cI, 5, .inl o_best))] → va_S A s.heap H locs → lv_has ls 3 [(0, .ref q_o), (1, .int x1), (2, .int x2)] → W p l e ({ frames := 0, cells := 0, slots := 0, locals := 0 } : Room) s m ([.ref q_o, .int p1] : List Value).toArray below meth c H locs 0 0 (MQ below (QV D [(q_o, .inr (7, [.int o_thrown, .long o_trace, .ref q_o_text, .int o_typed, .int o_next, .int o_token, .int o_place, .int o_value, .int o_fault, .ref q_o_warmth, .ref q_o_side, .ref q_o_seconds, .int o_members, .int o_pairs, .int o_cold, .int o_fur, .int o_coughs, .int o_draftMembers, .int o_draftPairs, .int o_draftCold, .int o_draftFur, .int o_draftCoughs, .ref q_o_s, .ref q_o_kept, .ref q_o_isKept, .ref q_o_undos, .int o_undoMany, .ref q_o_seenAt, .ref q_o_seen, .int o_seenMany, .ref q_o_board, .ref q_o_pick, .ref q_o_worth, .ref q_o_best, .int o_chosen])), (q_o_pick, .inl (cI, 6, .inl o_pick)), (q_o_best, .inl (cI, 5, .inl o_best'))] A) ([.ref q_o, .int p1] : List Value).toArray s 0 0 A) (F0 m 2 ls []) := by
    intro n2
    induction n2 with
    | zero =>
      intro x1 x2 o_best H locs ls hf hP hD hS hl
      exact noneNe hf
    | succ n2 ih2 =>
      intro x1 x2 o_best H locs ls hf hP hD hS hl
      have hf : f_X8_keepsPicks_2_b o_pick (f_X8_keepsPicks_2 o_pick n2) x1 x2 o_best = some o_best' := hf
      unfold f_X8_keepsPicks_2_b at hf
      refine lv_iload_n hx hb dX8_keepsPicks_2 rfl (lv_at hl 2 rfl) ?_
      refine lv_iload_n hx hb dX8_keepsPicks_3 rfl (lv_at hl 1 rfl) ?_
      refine lv_icmp_ge (tgt := 25) hx hb dX8_keepsPicks_4 (by decide) (fun c1 => ?_) (fun c1 => ?_)
      · have hf := ite_p hf c1
        have e0_ := Option.some.inj hf
        have hP : va_P D vwCl [(q_o, .inr (7, [.int o_thrown, .long o_trace, .ref q_o_text, .int o_typed, .int o_next, .int o_token, .int o_place, .int o_value, .int o_fault, .ref q_o_warmth, .ref q_o_side, .ref q_o_seconds, .int o_members, .int o_pairs, .int o_cold, .int o_fur, .int o_coughs, .int o_draftMembers, .int o_draftPairs, .int o_draftCold, .int o_draftFur, .int o_draftCoughs, .ref q_o_s, .ref q_o_kept, .ref q_o_isKept, .ref q_o_undos, .int o_undoMany, .ref q_o_seenAt, .ref q_o_seen, .int o_seenMany, .ref q_o_board, .ref q_o_pick, .ref q_o_worth, .ref q_o_best, .int o_chosen])), (q_o_pick, .inl (cI, 6, .inl o_pick)), (q_o_best, .inl (cI, 5, .inl o_best'))] H := by rw [← e0_]; exact hP
        have hD : va_D A [(q_o, .inr (7, [.int o_thrown, .long o_trace, .ref q_o_text, .int o_typed, .int o_next, .int o_token, .int o_place, .int o_value, .int o_fault, .ref q_o_warmth, .ref q_o_side, .ref q_o_seconds, .int o_members, .int o_pairs, .int o_cold, .int o_fur, .int o_coughs, .int o_draftMembers, .int o_draftPairs, .int o_draftCold, .int o_draftFur, .int o_draftCoughs, .ref q_o_s, .ref q_o_kept, .ref q_o_isKept, .ref q_o_undos, .int o_undoMany, .ref q_o_seenAt, .ref q_o_seen, .int o_seenMany, .ref q_o_board, .ref q_o_pick, .ref q_o_worth, .ref q_o_best, .int o_chosen])), (q_o_pick, .inl (cI, 6, .inl o_pick)), (q_o_best, .inl (cI, 5, .inl o_best'))] := by rw [← e0_]; exact hD
        exact endMV hx hb hr hlocks hP hD hS dX8_keepsPicks_25
      · have hf := ite_n hf c1
        refine lv_aload_n hx hb dX8_keepsPicks_7 rfl (lv_at hl 0 rfl) ?_
        refine va_get (D := D) (ci := 7) (v := .ref q_o_best) (C := RX8) (T := TX8) (N := 35) hx hb hts hinX8 hown hK.1 hP 0 rfl rfl 33 (by decide) g50 (fun _ h9 => h9) rfl dX8_keepsPicks_8 ?_
        refine lv_iload_n hx hb dX8_keepsPicks_11 rfl (lv_at hl 2 rfl) ?_
        refine lv_aload_n hx hb dX8_keepsPicks_12 rfl (lv_at hl 0 rfl) ?_
        refine va_get (D := D) (ci := 7) (v := .ref q_o_pick) (C := RX8) (T := TX8) (N := 35) hx hb hts hinX8 hown hK.1 hP 0 rfl rfl 31 (by decide) g44 (fun _ h9 => h9) rfl dX8_keepsPicks_13 ?_
        refine lv_iload_n hx hb dX8_keepsPicks_16 rfl (lv_at hl 2 rfl) ?_
        obtain ⟨g2, hf⟩ := ing_some hf
        refine va_iald hx hb hK.1 hP 1 1 rfl rfl g2 dX8_keepsPicks_17 ?_
        obtain ⟨g3, hf⟩ := ing_some hf
        refine va_iast hx hb hK.1 hP hD hS 2 1 rfl rfl g3 dX8_keepsPicks_18 (fun H locs hP hD hS => ?_)
        obtain ⟨w4, ew4⟩ : ∃ z : Nat → Int32, z = upd o_best x2.toNatClampNeg (o_pick x2.toNatClampNeg) := ⟨_, rfl⟩
        have hf := bnd_at hf ew4
        have hP : va_P D vwCl [(q_o, .inr (7, [.int o_thrown, .long o_trace, .ref q_o_text, .int o_typed, .int o_next, .int o_token, .int o_place, .int o_value, .int o_fault, .ref q_o_warmth, .ref q_o_side, .ref q_o_seconds, .int o_members, .int o_pairs, .int o_cold, .int o_fur, .int o_coughs, .int o_draftMembers, .int o_draftPairs, .int o_draftCold, .int o_draftFur, .int o_draftCoughs, .ref q_o_s, .ref q_o_kept, .ref q_o_isKept, .ref q_o_undos, .int o_undoMany, .ref q_o_seenAt, .ref q_o_seen, .int o_seenMany, .ref q_o_board, .ref q_o_pick, .ref q_o_worth, .ref q_o_best, .int o_chosen])), (q_o_pick, .inl (cI, 6, .inl o_pick)), (q_o_best, .inl (cI, 5, .inl w4))] H := by rw [ew4]; exact hP
        have hD : va_D A [(q_o, .inr (7, [.int o_thrown, .long o_trace, .ref q_o_text, .int o_typed, .int o_next, .int o_token, .int o_place, .int o_value, .int o_fault, .ref q_o_warmth, .ref q_o_side, .ref q_o_seconds, .int o_members, .int o_pairs, .int o_cold, .int o_fur, .int o_coughs, .int o_draftMembers, .int o_draftPairs, .int o_draftCold, .int o_draftFur, .int o_draftCoughs, .ref q_o_s, .ref q_o_kept, .ref q_o_isKept, .ref q_o_undos, .int o_undoMany, .ref q_o_seenAt, .ref q_o_seen, .int o_seenMany, .ref q_o_board, .ref q_o_pick, .ref q_o_worth, .ref q_o_best, .int o_chosen])), (q_o_pick, .inl (cI, 6, .inl o_pick)), (q_o_best, .inl (cI, 5, .inl w4))] := by rw [ew4]; exact hD
        obtain ⟨y5, ey5⟩ : ∃ z : Int32, z = x2 + 1 := ⟨_, rfl⟩
        have hf := bnd_at hf ey5
        refine lv_iinc (v := y5) (lv' := [(2, .int y5), (0, .ref q_o), (1, .int x1)]) hx hb dX8_keepsPicks_19 hl (k := 2) rfl (by rw [ey5]; rfl) (by decide) rfl (fun ls hl => ?_)
        refine lv_goto (tgt := 2) hx hb dX8_keepsPicks_22 (by decide) ?_
        exact ih2 x1 y5 w4 _ _ ls hf hP hD hS (lv_sub hl [1, 2, 0] rfl)
  unfold f_X8_keepsPicks at hf
  refine lv_iconst (v := 0) hx hb dX8_keepsPicks_0 (by decide) ?_
  refine lv_istore_n (lv' := [(2, .int 0), (0, .ref q_o), (1, .int p1)]) hx hb dX8_keepsPicks_1 rfl hl (by decide) rfl (fun ls hl => ?_)
  exact L2 FU p1 0 o_best _ _ ls hf hP hD hS (lv_sub hl [1, 2, 0] rfl)
def f_X8_carriedBy_58 (o_members : Int32) (o_cold : Int32) (o_seconds : Nat → Int32) (o_side : Nat → Int32) (o_s : Nat → Int32) (K6 : Int32 → Int32 → (Nat → Int32) → (Nat → Int32) → (Nat → Int32) → (Option (Int32 × (Nat → Int32) × (Nat → Int32) × (Nat → Int32)))) (K14 : Int32 → Int32 → Int32 → (Nat → Int32) → (Nat → Int32) → (Nat → Int32) → (Option (Int32 × (Nat → Int32) × (Nat → Int32) × (Nat → Int32)))) (x1 : Int32) (x2 : Int32) (x3 : Int32) (o_board : Nat → Int32) (o_pick : Nat → Int32) (o_best : Nat → Int32) : Option (Int32 × (Nat → Int32) × (Nat → Int32) × (Nat → Int32)) :=
  bnd (x3 + 1) fun y1 =>
  K14 x1 x2 y1 o_board o_pick o_best
def f_X8_carriedBy_14_b (o_members : Int32) (o_cold : Int32) (o_seconds : Nat → Int32) (o_side : Nat → Int32) (o_s : Nat → Int32) (K6 : Int32 → Int32 → (Nat → Int32) → (Nat → Int32) → (Nat → Int32) → (Option (Int32 × (Nat → Int32) × (Nat → Int32) × (Nat → Int32)))) (K14 : Int32 → Int32 → Int32 → (Nat → Int32) → (Nat → Int32) → (Nat → Int32) → (Option (Int32 × (Nat → Int32) × (Nat → Int32) × (Nat → Int32)))) (x1 : Int32) (x2 : Int32) (x3 : Int32) (o_board : Nat → Int32) (o_pick : Nat → Int32) (o_best : Nat → Int32) : Option (Int32 × (Nat → Int32) × (Nat → Int32) × (Nat → Int32)) :=
  ob1 (f_X8_plans o_members x2) fun r2 =>
  if r2 ≤ x3 then (
    bnd (x2 + 1) fun y5 =>
    K6 x1 y5 o_board o_pick o_best
  ) else (
    ing 7 10 <|
    ob3 (f_X8_isPlan o_members o_cold o_seconds o_board o_pick x3 x2 x1 (o_s (7 : Int32).toNatClampNeg)) fun r7 m8 m9 =>
    if r7 = 0 then (
      f_X8_carriedBy_58 o_members o_cold o_seconds o_side o_s K6 K14 x1 x2 x3 m8 m9 o_best
    ) else (
      ob1 (f_X8_lead o_members o_side m8 (7 * x2)) fun r12 =>
      if r12 ≤ 0 then (
        f_X8_carriedBy_58 o_members o_cold o_seconds o_side o_s K6 K14 x1 x2 x3 m8 m9 o_best
      ) else (
        ob1 (f_X8_keepsPicks m9 o_best x2) fun m15 =>
        some (x2, m8, m9, m15)
      )
    )
  )
def f_X8_carriedBy_14 (o_members : Int32) (o_cold : Int32) (o_seconds : Nat → Int32) (o_side : Nat → Int32) (o_s : Nat → Int32) (K6 : Int32 → Int32 → (Nat → Int32) → (Nat → Int32) → (Nat → Int32) → (Option (Int32 × (Nat → Int32) × (Nat → Int32) × (Nat → Int32)))) : Nat → Int32 → Int32 → Int32 → (Nat → Int32) → (Nat → Int32) → (Nat → Int32) → (Option (Int32 × (Nat → Int32) × (Nat → Int32) × (Nat → Int32)))
  | 0 => fun _ _ _ _ _ _ => none
  | n + 1 => f_X8_carriedBy_14_b o_members o_cold o_seconds o_side o_s K6 (f_X8_carriedBy_14 o_members o_cold o_seconds o_side o_s K6 n)
def f_X8_carriedBy_6_b (o_members : Int32) (o_cold : Int32) (o_seconds : Nat → Int32) (o_side : Nat → Int32) (o_s : Nat → Int32) (K6 : Int32 → Int32 → (Nat → Int32) → (Nat → Int32) → (Nat → Int32) → (Option (Int32 × (Nat → Int32) × (Nat → Int32) × (Nat → Int32)))) (x1 : Int32) (x2 : Int32) (o_board : Nat → Int32) (o_pick : Nat → Int32) (o_best : Nat → Int32) : Option (Int32 × (Nat → Int32) × (Nat → Int32) × (Nat → Int32)) :=
  if (6 : Int32) ≤ x2 then (
    some ((-9), o_board, o_pick, o_best)
  ) else (
    f_X8_carriedBy_14 o_members o_cold o_seconds o_side o_s K6 FU x1 x2 0 o_board o_pick o_best
  )
def f_X8_carriedBy_6 (o_members : Int32) (o_cold : Int32) (o_seconds : Nat → Int32) (o_side : Nat → Int32) (o_s : Nat → Int32) : Nat → Int32 → Int32 → (Nat → Int32) → (Nat → Int32) → (Nat → Int32) → (Option (Int32 × (Nat → Int32) × (Nat → Int32) × (Nat → Int32)))
  | 0 => fun _ _ _ _ _ => none
  | n + 1 => f_X8_carriedBy_6_b o_members o_cold o_seconds o_side o_s (f_X8_carriedBy_6 o_members o_cold o_seconds o_side o_s n)
def f_X8_carriedBy (o_members : Int32) (o_cold : Int32) (o_seconds : Nat → Int32) (o_side : Nat → Int32) (o_s : Nat → Int32) (o_board : Nat → Int32) (o_pick : Nat → Int32) (o_best : Nat → Int32) (p1 : Int32) : Option (Int32 × (Nat → Int32) × (Nat → Int32) × (Nat → Int32)) :=
  ob1 (f_X8_setsBoard o_s o_board) fun m18 =>
  f_X8_carriedBy_6 o_members o_cold o_seconds o_side o_s FU p1 0 m18 o_pick o_best
set_option maxHeartbeats 4000000 in
set_option maxRecDepth 100000 in
theorem c_X8_carriedBy (l : Launch) (D : va_G) (cB cI cZ cM cN : ClassId) (q_o : Nat) (q_o_text : Nat) (q_o_warmth : Nat) (q_o_side : Nat) (q_o_seconds : Nat) (q_o_s : Nat) (q_o_kept : Nat) (q_o_isKept : Nat) (q_o_undos : Nat) (q_o_seenAt : Nat) (q_o_seen : Nat) (q_o_board : Nat) (q_o_pick : Nat) (q_o_worth : Nat) (q_o_best : Nat) (o_thrown : Int32) (o_trace : Int64) (o_typed : Int32) (o_next : Int32) (o_token : Int32) (o_place : Int32) (o_value : Int32) (o_fault : Int32) (o_members : Int32) (o_pairs : Int32) (o_cold : Int32) (o_fur : Int32) (o_coughs : Int32) (o_draftMembers : Int32) (o_draftPairs : Int32) (o_draftCold : Int32) (o_draftFur : Int32) (o_draftCoughs : Int32) (o_undoMany : Int32) (o_seenMany : Int32) (o_chosen : Int32) (o_seconds : Nat → Int32) (o_side : Nat → Int32) (o_s : Nat → Int32) (o_board : Nat → Int32) (o_pick : Nat → Int32) (o_best : Nat → Int32) (p1 : Int32) (r : Int32) (o_board' : Nat → Int32) (o_pick' : Nat → Int32) (o_best' : Nat → Int32) (sz : Nat) (hf : f_X8_carriedBy o_members o_cold o_seconds o_side o_s o_board o_pick o_best p1 = some (r, o_board', o_pick', o_best')) : Met l yX8_carriedBy wsX8_carriedBy ({ frames := 3, cells := 0, slots := 0, locals := 79 } : Room) (PM D cB cI cZ cM cN [.ref q_o, .int p1] [(q_o, .inr (7, [.int o_thrown, .long o_trace, .ref q_o_text, .int o_typed, .int o_next, .int o_token, .int o_place, .int o_value, .int o_fault, .ref q_o_warmth, .ref q_o_side, .ref q_o_seconds, .int o_members, .int o_pairs, .int o_cold, .int o_fur, .int o_coughs, .int o_draftMembers, .int o_draftPairs, .int o_draftCold, .int o_draftFur, .int o_draftCoughs, .ref q_o_s, .ref q_o_kept, .ref q_o_isKept, .ref q_o_undos, .int o_undoMany, .ref q_o_seenAt, .ref q_o_seen, .int o_seenMany, .ref q_o_board, .ref q_o_pick, .ref q_o_worth, .ref q_o_best, .int o_chosen])), (q_o_seconds, .inl (cI, 12, .inl o_seconds)), (q_o_side, .inl (cI, 12, .inl o_side)), (q_o_s, .inl (cI, 10, .inl o_s)), (q_o_board, .inl (cI, 49, .inl o_board)), (q_o_pick, .inl (cI, 6, .inl o_pick)), (q_o_best, .inl (cI, 5, .inl o_best))] sz) (QI D [(q_o, .inr (7, [.int o_thrown, .long o_trace, .ref q_o_text, .int o_typed, .int o_next, .int o_token, .int o_place, .int o_value, .int o_fault, .ref q_o_warmth, .ref q_o_side, .ref q_o_seconds, .int o_members, .int o_pairs, .int o_cold, .int o_fur, .int o_coughs, .int o_draftMembers, .int o_draftPairs, .int o_draftCold, .int o_draftFur, .int o_draftCoughs, .ref q_o_s, .ref q_o_kept, .ref q_o_isKept, .ref q_o_undos, .int o_undoMany, .ref q_o_seenAt, .ref q_o_seen, .int o_seenMany, .ref q_o_board, .ref q_o_pick, .ref q_o_worth, .ref q_o_best, .int o_chosen])), (q_o_seconds, .inl (cI, 12, .inl o_seconds)), (q_o_side, .inl (cI, 12, .inl o_side)), (q_o_s, .inl (cI, 10, .inl o_s)), (q_o_board, .inl (cI, 49, .inl o_board')), (q_o_pick, .inl (cI, 6, .inl o_pick')), (q_o_best, .inl (cI, 5, .inl o_best'))] r (va_A [(q_o, .inr (7, [.int o_thrown, .long o_trace, .ref q_o_text, .int o_typed, .int o_next, .int o_token, .int o_place, .int o_value, .int o_fault, .ref q_o_warmth, .ref q_o_side, .ref q_o_seconds, .int o_members, .int o_pairs, .int o_cold, .int o_fur, .int o_coughs, .int o_draftMembers, .int o_draftPairs, .int o_draftCold, .int o_draftFur, .int o_draftCoughs, .ref q_o_s, .ref q_o_kept, .ref q_o_isKept, .ref q_o_undos, .int o_undoMany, .ref q_o_seenAt, .ref q_o_seen, .int o_seenMany, .ref q_o_board, .ref q_o_pick, .ref q_o_worth, .ref q_o_best, .int o_chosen])), (q_o_seconds, .inl (cI, 12, .inl o_seconds)), (q_o_side, .inl (cI, 12, .inl o_side)), (q_o_s, .inl (cI, 10, .inl o_s)), (q_o_board, .inl (cI, 49, .inl o_board)), (q_o_pick, .inl (cI, 6, .inl o_pick)), (q_o_best, .inl (cI, 5, .inl o_best))] sz)) 0 0 (va_A [(q_o, .inr (7, [.int o_thrown, .long o_trace, .ref q_o_text, .int o_typed, .int o_next, .int o_token, .int o_place, .int o_value, .int o_fault, .ref q_o_warmth, .ref q_o_side, .ref q_o_seconds, .int o_members, .int o_pairs, .int o_cold, .int o_fur, .int o_coughs, .int o_draftMembers, .int o_draftPairs, .int o_draftCold, .int o_draftFur, .int o_draftCoughs, .ref q_o_s, .ref q_o_kept, .ref q_o_isKept, .ref q_o_undos, .int o_undoMany, .ref q_o_seenAt, .ref q_o_seen, .int o_seenMany, .ref q_o_board, .ref q_o_pick, .ref q_o_worth, .ref q_o_best, .int o_chosen])), (q_o_seconds, .inl (cI, 12, .inl o_seconds)), (q_o_side, .inl (cI, 12, .inl o_side)), (q_o_s, .inl (cI, 10, .inl o_s)), (q_o_board, .inl (cI, 49, .inl o_board)), (q_o_pick, .inl (cI, 6, .inl o_pick)), (q_o_best, .inl (cI, 5, .inl o_best))] sz) := by
  refine entM (l := l) (y := yX8_carriedBy) (ws := wsX8_carriedBy) (cc := cX8_carriedBy) (av := [.ref q_o, .int p1]) (wc := [(q_o, .inr (7, [.int o_thrown, .long o_trace, .ref q_o_text, .int o_typed, .int o_next, .int o_token, .int o_place, .int o_value, .int o_fault, .ref q_o_warmth, .ref q_o_side, .ref q_o_seconds, .int o_members, .int o_pairs, .int o_cold, .int o_fur, .int o_coughs, .int o_draftMembers, .int o_draftPairs, .int o_draftCold, .int o_draftFur, .int o_draftCoughs, .ref q_o_s, .ref q_o_kept, .ref q_o_isKept, .ref q_o_undos, .int o_undoMany, .ref q_o_seenAt, .ref q_o_seen, .int o_seenMany, .ref q_o_board, .ref q_o_pick, .ref q_o_worth, .ref q_o_best, .int o_chosen])), (q_o_seconds, .inl (cI, 12, .inl o_seconds)), (q_o_side, .inl (cI, 12, .inl o_side)), (q_o_s, .inl (cI, 10, .inl o_s)), (q_o_board, .inl (cI, 49, .inl o_board)), (q_o_pick, .inl (cI, 6, .inl o_pick)), (q_o_best, .inl (cI, 5, .inl o_best))]) (sz := sz) (Qc := fun A => QI D [(q_o, .inr (7, [.int o_thrown, .long o_trace, .ref q_o_text, .int o_typed, .int o_next, .int o_token, .int o_place, .int o_value, .int o_fault, .ref q_o_warmth, .ref q_o_side, .ref q_o_seconds, .int o_members, .int o_pairs, .int o_cold, .int o_fur, .int o_coughs, .int o_draftMembers, .int o_draftPairs, .int o_draftCold, .int o_draftFur, .int o_draftCoughs, .ref q_o_s, .ref q_o_kept, .ref q_o_isKept, .ref q_o_undos, .int o_undoMany, .ref q_o_seenAt, .ref q_o_seen, .int o_seenMany, .ref q_o_board, .ref q_o_pick, .ref q_o_worth, .ref q_o_best, .int o_chosen])), (q_o_seconds, .inl (cI, 12, .inl o_seconds)), (q_o_side, .inl (cI, 12, .inl o_side)), (q_o_s, .inl (cI, 10, .inl o_s)), (q_o_board, .inl (cI, 49, .inl o_board')), (q_o_pick, .inl (cI, 6, .inl o_pick')), (q_o_best, .inl (cI, 5, .inl o_best'))] r A) (by decide +kernel) rfl (Nat.le_of_ble_eq_true rfl) ?_
  intro A p e s m below meth c hx hb hr hml hown hlocks hts hK hA H locs hP hD hS ls hl
  have hown : s.vm.findClass RX8 = some m.cls := hown
  have hl : lv_has ls 4 [(0, .ref q_o), (1, .int p1)] := hl
  have hfix : CallFix p m c cX8_carriedBy 4 s ([.ref q_o, .int p1] : List Value).toArray wsX8_carriedBy RX8 := ⟨hx, hb, hml, hown, hts⟩
  have hinX8 : ∀ w ∈ u_ws RX8 TX8 35, w ∈ wsX8_carriedBy := by decide +kernel
  have g22 := hts (.fieldLink RX8 22 "LastCoatModel" "s" "[I") (by decide +kernel)
  have L6 : ∀ (n6 : Nat) (x1 : Int32) (x2 : Int32) (o_board : Nat → Int32) (o_pick : Nat → Int32) (o_best : Nat → Int32) (H : Heap) (locs : List Loc) (ls : Array Slot), f_X8_carriedBy_6 o_members o_cold o_seconds o_side o_s n6 x1 x2 o_board o_pick o_best = some (r, o_board', o_pick', o_best') → va_P D vwCl [(q_o, .inr (7, [.int o_thrown, .long o_trace, .ref q_o_text, .int o_typed, .int o_next, .int o_token, .int o_place, .int o_value, .int o_fault, .ref q_o_warmth, .ref q_o_side, .ref q_o_seconds, .int o_members, .int o_pairs, .int o_cold, .int o_fur, .int o_coughs, .int o_draftMembers, .int o_draftPairs, .int o_draftCold, .int o_draftFur, .int o_draftCoughs, .ref q_o_s, .ref q_o_kept, .ref q_o_isKept, .ref q_o_undos, .int o_undoMany, .ref q_o_seenAt, .ref q_o_seen, .int o_seenMany, .ref q_o_board, .ref q_o_pick, .ref q_o_worth, .ref q_o_best, .int o_chosen])), (q_o_seconds, .inl (cI, 12, .inl o_seconds)), (q_o_side, .inl (cI, 12, .inl o_side)), (q_o_s, .inl (cI, 10, .inl o_s)), (q_o_board, .inl (cI, 49, .inl o_board)), (q_o_pick, .inl (cI, 6, .inl o_pick)), (q_o_best, .inl (cI, 5, .inl o_best))] H → va_D A [(q_o, .inr (7, [.int o_thrown, .long o_trace, .ref q_o_text, .int o_typed, .int o_next, .int o_token, .int o_place, .int o_value, .int o_fault, .ref q_o_warmth, .ref q_o_side, .ref q_o_seconds, .int o_members, .int o_pairs, .int o_cold, .int o_fur, .int o_coughs, .int o_draftMembers, .int o_draftPairs, .int o_draftCold, .int o_draftFur, .int o_draftCoughs, .ref q_o_s, .ref q_o_kept, .ref q_o_isKept, .ref q_o_undos, .int o_undoMany, .ref q_o_seenAt, .ref q_o_seen, .int o_seenMany, .ref q_o_board, .ref q_o_pick, .ref q_o_worth, .ref q_o_best, .int o_chosen])), (q_o_seconds, .inl (cI, 12, .inl o_seconds)), (q_o_side, .inl (cI, 12, .inl o_side)), (q_o_s, .inl (cI, 10, .inl o_s)), (q_o_board, .inl (cI, 49, .inl o_board)), (q_o_pick, .inl (cI, 6, .inl o_pick)), (q_o_best, .inl (cI, 5, .inl o_best))] → va_S A s.heap H locs → lv_has ls 4 [(0, .ref q_o), (1, .int x1), (2, .int x2)] → W p l e ({ frames := 3, cells := 0, slots := 0, locals := 79 } : Room) s m ([.ref q_o, .int p1] : List Value).toArray below meth c H locs 0 0 (MQ below (QI D [(q_o, .inr (7, [.int o_thrown, .long o_trace, .ref q_o_text, .int o_typed, .int o_next, .int o_token, .int o_place, .int o_value, .int o_fault, .ref q_o_warmth, .ref q_o_side, .ref q_o_seconds, .int o_members, .int o_pairs, .int o_cold, .int o_fur, .int o_coughs, .int o_draftMembers, .int o_draftPairs, .int o_draftCold, .int o_draftFur, .int o_draftCoughs, .ref q_o_s, .ref q_o_kept, .ref q_o_isKept, .ref q_o_undos, .int o_undoMany, .ref q_o_seenAt, .ref q_o_seen, .int o_seenMany, .ref q_o_board, .ref q_o_pick, .ref q_o_worth, .ref q_o_best, .int o_chosen])), (q_o_seconds, .inl (cI, 12, .inl o_seconds)), (q_o_side, .inl (cI, 12, .inl o_side)), (q_o_s, .inl (cI, 10, .inl o_s)), (q_o_board, .inl (cI, 49, .inl o_board')), (q_o_pick, .inl (cI, 6, .inl o_pick')), (q_o_best, .inl (cI, 5, .inl o_best'))] r A) ([.ref q_o, .int p1] : List Value).toArray s 0 0 A) (F0 m 6 ls []) := by
    intro n6
    induction n6 with
    | zero =>
      intro x1 x2 o_board o_pick o_best H locs ls hf hP hD hS hl
      exact noneNe hf
    | succ n6 ih6 =>
      have L14 : ∀ (n14 : Nat) (x1 : Int32) (x2 : Int32) (x3 : Int32) (o_board : Nat → Int32) (o_pick : Nat → Int32) (o_best : Nat → Int32) (H : Heap) (locs : List Loc) (ls : Array Slot), f_X8_carriedBy_14 o_members o_cold o_seconds o_side o_s (f_X8_carriedBy_6 o_members o_cold o_seconds o_side o_s n6) n14 x1 x2 x3 o_board o_pick o_best = some (r, o_board', o_pick', o_best') → va_P D vwCl [(q_o, .inr (7, [.int o_thrown, .long o_trace, .ref q_o_text, .int o_typed, .int o_next, .int o_token, .int o_place, .int o_value, .int o_fault, .ref q_o_warmth, .ref q_o_side, .ref q_o_seconds, .int o_members, .int o_pairs, .int o_cold, .int o_fur, .int o_coughs, .int o_draftMembers, .int o_draftPairs, .int o_draftCold, .int o_draftFur, .int o_draftCoughs, .ref q_o_s, .ref q_o_kept, .ref q_o_isKept, .ref q_o_undos, .int o_undoMany, .ref q_o_seenAt, .ref q_o_seen, .int o_seenMany, .ref q_o_board, .ref q_o_pick, .ref q_o_worth, .ref q_o_best, .int o_chosen])), (q_o_seconds, .inl (cI, 12, .inl o_seconds)), (q_o_side, .inl (cI, 12, .inl o_side)), (q_o_s, .inl (cI, 10, .inl o_s)), (q_o_board, .inl (cI, 49, .inl o_board)), (q_o_pick, .inl (cI, 6, .inl o_pick)), (q_o_best, .inl (cI, 5, .inl o_best))] H → va_D A [(q_o, .inr (7, [.int o_thrown, .long o_trace, .ref q_o_text, .int o_typed, .int o_next, .int o_token, .int o_place, .int o_value, .int o_fault, .ref q_o_warmth, .ref q_o_side, .ref q_o_seconds, .int o_members, .int o_pairs, .int o_cold, .int o_fur, .int o_coughs, .int o_draftMembers, .int o_draftPairs, .int o_draftCold, .int o_draftFur, .int o_draftCoughs, .ref q_o_s, .ref q_o_kept, .ref q_o_isKept, .ref q_o_undos, .int o_undoMany, .ref q_o_seenAt, .ref q_o_seen, .int o_seenMany, .ref q_o_board, .ref q_o_pick, .ref q_o_worth, .ref q_o_best, .int o_chosen])), (q_o_seconds, .inl (cI, 12, .inl o_seconds)), (q_o_side, .inl (cI, 12, .inl o_side)), (q_o_s, .inl (cI, 10, .inl o_s)), (q_o_board, .inl (cI, 49, .inl o_board)), (q_o_pick, .inl (cI, 6, .inl o_pick)), (q_o_best, .inl (cI, 5, .inl o_best))] → va_S A s.heap H locs → lv_has ls 4 [(0, .ref q_o), (1, .int x1), (2, .int x2), (3, .int x3)] → W p l e ({ frames := 3, cells := 0, slots := 0, locals := 79 } : Room) s m ([.ref q_o, .int p1] : List Value).toArray below meth c H locs 0 0 (MQ below (QI D [(q_o, .inr (7, [.int o_thrown, .long o_trace, .ref q_o_text, .int o_typed, .int o_next, .int o_token, .int o_place, .int o_value, .int o_fault, .ref q_o_warmth, .ref q_o_side, .ref q_o_seconds, .int o_members, .int o_pairs, .int o_cold, .int o_fur, .int o_coughs, .int o_draftMembers, .int o_draftPairs, .int o_draftCold, .int o_draftFur, .int o_draftCoughs, .ref q_o_s, .ref q_o_kept, .ref q_o_isKept, .ref q_o_undos, .int o_undoMany, .ref q_o_seenAt, .ref q_o_seen, .int o_seenMany, .ref q_o_board, .ref q_o_pick, .ref q_o_worth, .ref q_o_best, .int o_chosen])), (q_o_seconds, .inl (cI, 12, .inl o_seconds)), (q_o_side, .inl (cI, 12, .inl o_side)), (q_o_s, .inl (cI, 10, .inl o_s)), (q_o_board, .inl (cI, 49, .inl o_board')), (q_o_pick, .inl (cI, 6, .inl o_pick')), (q_o_best, .inl (cI, 5, .inl o_best'))] r A) ([.ref q_o, .int p1] : List Value).toArray s 0 0 A) (F0 m 14 ls []) := by
        intro n14
        induction n14 with
        | zero =>
          intro x1 x2 x3 o_board o_pick o_best H locs ls hf hP hD hS hl
          exact noneNe hf
        | succ n14 ih14 =>
          have L58 : ∀ (x1 : Int32) (x2 : Int32) (x3 : Int32) (o_board : Nat → Int32) (o_pick : Nat → Int32) (o_best : Nat → Int32) (H : Heap) (locs : List Loc) (ls : Array Slot), f_X8_carriedBy_58 o_members o_cold o_seconds o_side o_s (f_X8_carriedBy_6 o_members o_cold o_seconds o_side o_s n6) (f_X8_carriedBy_14 o_members o_cold o_seconds o_side o_s (f_X8_carriedBy_6 o_members o_cold o_seconds o_side o_s n6) n14) x1 x2 x3 o_board o_pick o_best = some (r, o_board', o_pick', o_best') → va_P D vwCl [(q_o, .inr (7, [.int o_thrown, .long o_trace, .ref q_o_text, .int o_typed, .int o_next, .int o_token, .int o_place, .int o_value, .int o_fault, .ref q_o_warmth, .ref q_o_side, .ref q_o_seconds, .int o_members, .int o_pairs, .int o_cold, .int o_fur, .int o_coughs, .int o_draftMembers, .int o_draftPairs, .int o_draftCold, .int o_draftFur, .int o_draftCoughs, .ref q_o_s, .ref q_o_kept, .ref q_o_isKept, .ref q_o_undos, .int o_undoMany, .ref q_o_seenAt, .ref q_o_seen, .int o_seenMany, .ref q_o_board, .ref q_o_pick, .ref q_o_worth, .ref q_o_best, .int o_chosen])), (q_o_seconds, .inl (cI, 12, .inl o_seconds)), (q_o_side, .inl (cI, 12, .inl o_side)), (q_o_s, .inl (cI, 10, .inl o_s)), (q_o_board, .inl (cI, 49, .inl o_board)), (q_o_pick, .inl (cI, 6, .inl o_pick)), (q_o_best, .inl (cI, 5, .inl o_best))] H → va_D A [(q_o, .inr (7, [.int o_thrown, .long o_trace, .ref q_o_text, .int o_typed, .int o_next, .int o_token, .int o_place, .int o_value, .int o_fault, .ref q_o_warmth, .ref q_o_side, .ref q_o_seconds, .int o_members, .int o_pairs, .int o_cold, .int o_fur, .int o_coughs, .int o_draftMembers, .int o_draftPairs, .int o_draftCold, .int o_draftFur, .int o_draftCoughs, .ref q_o_s, .ref q_o_kept, .ref q_o_isKept, .ref q_o_undos, .int o_undoMany, .ref q_o_seenAt, .ref q_o_seen, .int o_seenMany, .ref q_o_board, .ref q_o_pick, .ref q_o_worth, .ref q_o_best, .int o_chosen])), (q_o_seconds, .inl (cI, 12, .inl o_seconds)), (q_o_side, .inl (cI, 12, .inl o_side)), (q_o_s, .inl (cI, 10, .inl o_s)), (q_o_board, .inl (cI, 49, .inl o_board)), (q_o_pick, .inl (cI, 6, .inl o_pick)), (q_o_best, .inl (cI, 5, .inl o_best))] → va_S A s.heap H locs → lv_has ls 4 [(0, .ref q_o), (1, .int x1), (2, .int x2), (3, .int x3)] → W p l e ({ frames := 3, cells := 0, slots := 0, locals := 79 } : Room) s m ([.ref q_o, .int p1] : List Value).toArray below meth c H locs 0 0 (MQ below (QI D [(q_o, .inr (7, [.int o_thrown, .long o_trace, .ref q_o_text, .int o_typed, .int o_next, .int o_token, .int o_place, .int o_value, .int o_fault, .ref q_o_warmth, .ref q_o_side, .ref q_o_seconds, .int o_members, .int o_pairs, .int o_cold, .int o_fur, .int o_coughs, .int o_draftMembers, .int o_draftPairs, .int o_draftCold, .int o_draftFur, .int o_draftCoughs, .ref q_o_s, .ref q_o_kept, .ref q_o_isKept, .ref q_o_undos, .int o_undoMany, .ref q_o_seenAt, .ref q_o_seen, .int o_seenMany, .ref q_o_board, .ref q_o_pick, .ref q_o_worth, .ref q_o_best, .int o_chosen])), (q_o_seconds, .inl (cI, 12, .inl o_seconds)), (q_o_side, .inl (cI, 12, .inl o_side)), (q_o_s, .inl (cI, 10, .inl o_s)), (q_o_board, .inl (cI, 49, .inl o_board')), (q_o_pick, .inl (cI, 6, .inl o_pick')), (q_o_best, .inl (cI, 5, .inl o_best'))] r A) ([.ref q_o, .int p1] : List Value).toArray s 0 0 A) (F0 m 58 ls []) := by
            intro x1 x2 x3 o_board o_pick o_best H locs ls hf hP hD hS hl
            unfold f_X8_carriedBy_58 at hf
            obtain ⟨y1, ey1⟩ : ∃ z : Int32, z = x3 + 1 := ⟨_, rfl⟩
            have hf := bnd_at hf ey1
            refine lv_iinc (v := y1) (lv' := [(3, .int y1), (0, .ref q_o), (1, .int x1), (2, .int x2)]) hx hb dX8_carriedBy_58 hl (k := 3) rfl (by rw [ey1]; rfl) (by decide) rfl (fun ls hl => ?_)
            refine lv_goto (tgt := 14) hx hb dX8_carriedBy_61 (by decide) ?_
            exact ih14 x1 x2 y1 o_board o_pick o_best _ _ ls hf hP hD hS (lv_sub hl [1, 2, 3, 0] rfl)
          intro x1 x2 x3 o_board o_pick o_best H locs ls hf hP hD hS hl
          have hf : f_X8_carriedBy_14_b o_members o_cold o_seconds o_side o_s (f_X8_carriedBy_6 o_members o_cold o_seconds o_side o_s n6) (f_X8_carriedBy_14 o_members o_cold o_seconds o_side o_s (f_X8_carriedBy_6 o_members o_cold o_seconds o_side o_s n6) n14) x1 x2 x3 o_board o_pick o_best = some (r, o_board', o_pick', o_best') := hf
          unfold f_X8_carriedBy_14_b at hf
          refine lv_iload_n hx hb dX8_carriedBy_14 rfl (lv_at hl 3 rfl) ?_
          refine lv_aload_n hx hb dX8_carriedBy_15 rfl (lv_at hl 0 rfl) ?_
          refine lv_iload_n hx hb dX8_carriedBy_16 rfl (lv_at hl 2 rfl) ?_
          obtain ⟨r2, h3, hf⟩ := ob1_some hf
          refine roV (c_X8_plans l D cB cI cZ cM cN q_o q_o_text q_o_warmth q_o_side q_o_seconds q_o_s q_o_kept q_o_isKept q_o_undos q_o_seenAt q_o_seen q_o_board q_o_pick q_o_worth q_o_best o_thrown o_trace o_typed o_next o_token o_place o_value o_fault o_members o_pairs o_cold o_fur o_coughs o_draftMembers o_draftPairs o_draftCold o_draftFur o_draftCoughs o_undoMany o_seenMany o_chosen x2 r2 h3) hfix (cwV 1 hts gX8_carriedBy_X8_plans rfl rfl rfl (by decide +kernel) ⟨Nat.le_of_ble_eq_true rfl, Nat.le_of_ble_eq_true rfl⟩) (subC hP [0] rfl) hK rfl rfl rfl rfl hl.1 rfl (Nat.le_of_ble_eq_true rfl) dX8_carriedBy_17 ⟨Nat.zero_le _, Nat.zero_le _⟩ ?_
          refine lv_icmp_ge (tgt := 64) hx hb dX8_carriedBy_20 (by decide) (fun c4 => ?_) (fun c4 => ?_)
          · have hf := ite_p hf c4
            obtain ⟨y5, ey5⟩ : ∃ z : Int32, z = x2 + 1 := ⟨_, rfl⟩
            have hf := bnd_at hf ey5
            refine lv_iinc (v := y5) (lv' := [(2, .int y5), (0, .ref q_o), (1, .int x1), (3, .int x3)]) hx hb dX8_carriedBy_64 hl (k := 2) rfl (by rw [ey5]; rfl) (by decide) rfl (fun ls hl => ?_)
            refine lv_goto (tgt := 6) hx hb dX8_carriedBy_67 (by decide) ?_
            exact ih6 x1 y5 o_board o_pick o_best _ _ ls hf hP hD hS (lv_sub hl [1, 2, 0] rfl)
          · have hf := ite_n hf c4
            refine lv_aload_n hx hb dX8_carriedBy_23 rfl (lv_at hl 0 rfl) ?_
            refine lv_iload_n hx hb dX8_carriedBy_24 rfl (lv_at hl 3 rfl) ?_
            refine lv_iload_n hx hb dX8_carriedBy_25 rfl (lv_at hl 2 rfl) ?_
            refine lv_iload_n hx hb dX8_carriedBy_26 rfl (lv_at hl 1 rfl) ?_
            refine lv_aload_n hx hb dX8_carriedBy_27 rfl (lv_at hl 0 rfl) ?_
            refine va_get (D := D) (ci := 7) (v := .ref q_o_s) (C := RX8) (T := TX8) (N := 35) hx hb hts hinX8 hown hK.1 hP 0 rfl rfl 22 (by decide) g22 (fun _ h9 => h9) rfl dX8_carriedBy_28 ?_
            refine lv_bipush (v := 7) hx hb dX8_carriedBy_31 (by decide) ?_
            obtain ⟨g6, hf⟩ := ing_some hf
            refine va_iald hx hb hK.1 hP 3 1 rfl rfl g6 dX8_carriedBy_33 ?_
            obtain ⟨r7, m8, m9, h10, hf⟩ := ob3_some hf
            refine muV (wr := [(q_o_side, .inl (cI, 12, .inl o_side)), (q_o_s, .inl (cI, 10, .inl o_s)), (q_o_best, .inl (cI, 5, .inl o_best))]) (ws1 := [(q_o, .inr (7, [.int o_thrown, .long o_trace, .ref q_o_text, .int o_typed, .int o_next, .int o_token, .int o_place, .int o_value, .int o_fault, .ref q_o_warmth, .ref q_o_side, .ref q_o_seconds, .int o_members, .int o_pairs, .int o_cold, .int o_fur, .int o_coughs, .int o_draftMembers, .int o_draftPairs, .int o_draftCold, .int o_draftFur, .int o_draftCoughs, .ref q_o_s, .ref q_o_kept, .ref q_o_isKept, .ref q_o_undos, .int o_undoMany, .ref q_o_seenAt, .ref q_o_seen, .int o_seenMany, .ref q_o_board, .ref q_o_pick, .ref q_o_worth, .ref q_o_best, .int o_chosen])), (q_o_seconds, .inl (cI, 12, .inl o_seconds)), (q_o_side, .inl (cI, 12, .inl o_side)), (q_o_s, .inl (cI, 10, .inl o_s)), (q_o_board, .inl (cI, 49, .inl m8)), (q_o_pick, .inl (cI, 6, .inl m9)), (q_o_best, .inl (cI, 5, .inl o_best))]) (c_X8_isPlan l D cB cI cZ cM cN q_o q_o_text q_o_warmth q_o_side q_o_seconds q_o_s q_o_kept q_o_isKept q_o_undos q_o_seenAt q_o_seen q_o_board q_o_pick q_o_worth q_o_best o_thrown o_trace o_typed o_next o_token o_place o_value o_fault o_members o_pairs o_cold o_fur o_coughs o_draftMembers o_draftPairs o_draftCold o_draftFur o_draftCoughs o_undoMany o_seenMany o_chosen o_seconds o_board o_pick x3 x2 x1 (o_s (7 : Int32).toNatClampNeg) r7 m8 m9 H.size h10) hfix (cwV 4 hts gX8_carriedBy_X8_isPlan rfl rfl rfl (by decide +kernel) ⟨Nat.le_of_ble_eq_true rfl, Nat.le_of_ble_eq_true rfl⟩) hP hK hD hA hS [0, 1, 4, 5] [2, 3, 6] [3, 4, 0, 1, 5, 6, 2] rfl rfl rfl rfl (by decide) rfl rfl rfl rfl rfl rfl hl.1 rfl (Nat.le_of_ble_eq_true rfl) dX8_carriedBy_34 ⟨Nat.zero_le _, Nat.zero_le _⟩ (fun H locs hP hD hS => ?_)
            refine lv_if_eq (tgt := 58) hx hb dX8_carriedBy_37 (by decide) (fun c11 => ?_) (fun c11 => ?_)
            · have hf := ite_p hf c11
              exact L58 x1 x2 x3 m8 m9 o_best _ _ ls hf hP hD hS (lv_sub hl [0, 1, 2, 3] rfl)
            · have hf := ite_n hf c11
              refine lv_aload_n hx hb dX8_carriedBy_40 rfl (lv_at hl 0 rfl) ?_
              refine lv_bipush (v := 7) hx hb dX8_carriedBy_41 (by decide) ?_
              refine lv_iload_n hx hb dX8_carriedBy_43 rfl (lv_at hl 2 rfl) ?_
              refine lv_imul hx hb dX8_carriedBy_44 ?_
              obtain ⟨r12, h13, hf⟩ := ob1_some hf
              refine roV (c_X8_lead l D cB cI cZ cM cN q_o q_o_text q_o_warmth q_o_side q_o_seconds q_o_s q_o_kept q_o_isKept q_o_undos q_o_seenAt q_o_seen q_o_board q_o_pick q_o_worth q_o_best o_thrown o_trace o_typed o_next o_token o_place o_value o_fault o_members o_pairs o_cold o_fur o_coughs o_draftMembers o_draftPairs o_draftCold o_draftFur o_draftCoughs o_undoMany o_seenMany o_chosen o_side m8 (7 * x2) r12 h13) hfix (cwV 1 hts gX8_carriedBy_X8_lead rfl rfl rfl (by decide +kernel) ⟨Nat.le_of_ble_eq_true rfl, Nat.le_of_ble_eq_true rfl⟩) (subC hP [0, 2, 4] rfl) hK rfl rfl rfl rfl hl.1 rfl (Nat.le_of_ble_eq_true rfl) dX8_carriedBy_45 ⟨Nat.zero_le _, Nat.zero_le _⟩ ?_
              refine lv_if_le (tgt := 58) hx hb dX8_carriedBy_48 (by decide) (fun c14 => ?_) (fun c14 => ?_)
              · have hf := ite_p hf c14
                exact L58 x1 x2 x3 m8 m9 o_best _ _ ls hf hP hD hS (lv_sub hl [0, 1, 2, 3] rfl)
              · have hf := ite_n hf c14
                refine lv_aload_n hx hb dX8_carriedBy_51 rfl (lv_at hl 0 rfl) ?_
                refine lv_iload_n hx hb dX8_carriedBy_52 rfl (lv_at hl 2 rfl) ?_
                obtain ⟨m15, h16, hf⟩ := ob1_some hf
                refine muVv (wr := [(q_o_seconds, .inl (cI, 12, .inl o_seconds)), (q_o_side, .inl (cI, 12, .inl o_side)), (q_o_s, .inl (cI, 10, .inl o_s)), (q_o_board, .inl (cI, 49, .inl m8))]) (ws1 := [(q_o, .inr (7, [.int o_thrown, .long o_trace, .ref q_o_text, .int o_typed, .int o_next, .int o_token, .int o_place, .int o_value, .int o_fault, .ref q_o_warmth, .ref q_o_side, .ref q_o_seconds, .int o_members, .int o_pairs, .int o_cold, .int o_fur, .int o_coughs, .int o_draftMembers, .int o_draftPairs, .int o_draftCold, .int o_draftFur, .int o_draftCoughs, .ref q_o_s, .ref q_o_kept, .ref q_o_isKept, .ref q_o_undos, .int o_undoMany, .ref q_o_seenAt, .ref q_o_seen, .int o_seenMany, .ref q_o_board, .ref q_o_pick, .ref q_o_worth, .ref q_o_best, .int o_chosen])), (q_o_seconds, .inl (cI, 12, .inl o_seconds)), (q_o_side, .inl (cI, 12, .inl o_side)), (q_o_s, .inl (cI, 10, .inl o_s)), (q_o_board, .inl (cI, 49, .inl m8)), (q_o_pick, .inl (cI, 6, .inl m9)), (q_o_best, .inl (cI, 5, .inl m15))]) (c_X8_keepsPicks l D cB cI cZ cM cN q_o q_o_text q_o_warmth q_o_side q_o_seconds q_o_s q_o_kept q_o_isKept q_o_undos q_o_seenAt q_o_seen q_o_board q_o_pick q_o_worth q_o_best o_thrown o_trace o_typed o_next o_token o_place o_value o_fault o_members o_pairs o_cold o_fur o_coughs o_draftMembers o_draftPairs o_draftCold o_draftFur o_draftCoughs o_undoMany o_seenMany o_chosen m9 o_best x2 m15 H.size h16) hfix (cwV 1 hts gX8_carriedBy_X8_keepsPicks rfl rfl rfl (by decide +kernel) ⟨Nat.le_of_ble_eq_true rfl, Nat.le_of_ble_eq_true rfl⟩) hP hK hD hA hS [0, 5, 6] [1, 2, 3, 4] [4, 0, 1, 2, 3, 5, 6] rfl rfl rfl rfl (by decide) rfl rfl rfl rfl rfl rfl hl.1 rfl (Nat.le_of_ble_eq_true rfl) dX8_carriedBy_53 ⟨Nat.zero_le _, Nat.zero_le _⟩ (fun H locs hP hD hS => ?_)
                refine lv_iload_n hx hb dX8_carriedBy_56 rfl (lv_at hl 2 rfl) ?_
                obtain ⟨e0_, e1_, e2_, e3_⟩ := tup4 hf
                have hP : va_P D vwCl [(q_o, .inr (7, [.int o_thrown, .long o_trace, .ref q_o_text, .int o_typed, .int o_next, .int o_token, .int o_place, .int o_value, .int o_fault, .ref q_o_warmth, .ref q_o_side, .ref q_o_seconds, .int o_members, .int o_pairs, .int o_cold, .int o_fur, .int o_coughs, .int o_draftMembers, .int o_draftPairs, .int o_draftCold, .int o_draftFur, .int o_draftCoughs, .ref q_o_s, .ref q_o_kept, .ref q_o_isKept, .ref q_o_undos, .int o_undoMany, .ref q_o_seenAt, .ref q_o_seen, .int o_seenMany, .ref q_o_board, .ref q_o_pick, .ref q_o_worth, .ref q_o_best, .int o_chosen])), (q_o_seconds, .inl (cI, 12, .inl o_seconds)), (q_o_side, .inl (cI, 12, .inl o_side)), (q_o_s, .inl (cI, 10, .inl o_s)), (q_o_board, .inl (cI, 49, .inl o_board')), (q_o_pick, .inl (cI, 6, .inl o_pick')), (q_o_best, .inl (cI, 5, .inl o_best'))] H := by rw [← e1_, ← e2_, ← e3_]; exact hP
                have hD : va_D A [(q_o, .inr (7, [.int o_thrown, .long o_trace, .ref q_o_text, .int o_typed, .int o_next, .int o_token, .int o_place, .int o_value, .int o_fault, .ref q_o_warmth, .ref q_o_side, .ref q_o_seconds, .int o_members, .int o_pairs, .int o_cold, .int o_fur, .int o_coughs, .int o_draftMembers, .int o_draftPairs, .int o_draftCold, .int o_draftFur, .int o_draftCoughs, .ref q_o_s, .ref q_o_kept, .ref q_o_isKept, .ref q_o_undos, .int o_undoMany, .ref q_o_seenAt, .ref q_o_seen, .int o_seenMany, .ref q_o_board, .ref q_o_pick, .ref q_o_worth, .ref q_o_best, .int o_chosen])), (q_o_seconds, .inl (cI, 12, .inl o_seconds)), (q_o_side, .inl (cI, 12, .inl o_side)), (q_o_s, .inl (cI, 10, .inl o_s)), (q_o_board, .inl (cI, 49, .inl o_board')), (q_o_pick, .inl (cI, 6, .inl o_pick')), (q_o_best, .inl (cI, 5, .inl o_best'))] := by rw [← e1_, ← e2_, ← e3_]; exact hD
                exact endMI hx hb hr hlocks rfl hP hD hS e0_ dX8_carriedBy_57
      intro x1 x2 o_board o_pick o_best H locs ls hf hP hD hS hl
      have hf : f_X8_carriedBy_6_b o_members o_cold o_seconds o_side o_s (f_X8_carriedBy_6 o_members o_cold o_seconds o_side o_s n6) x1 x2 o_board o_pick o_best = some (r, o_board', o_pick', o_best') := hf
      unfold f_X8_carriedBy_6_b at hf
      refine lv_iload_n hx hb dX8_carriedBy_6 rfl (lv_at hl 2 rfl) ?_
      refine lv_bipush (v := 6) hx hb dX8_carriedBy_7 (by decide) ?_
      refine lv_icmp_ge (tgt := 70) hx hb dX8_carriedBy_9 (by decide) (fun c17 => ?_) (fun c17 => ?_)
      · have hf := ite_p hf c17
        refine lv_bipush (v := (-9)) hx hb dX8_carriedBy_70 (by decide) ?_
        obtain ⟨e0_, e1_, e2_, e3_⟩ := tup4 hf
        have hP : va_P D vwCl [(q_o, .inr (7, [.int o_thrown, .long o_trace, .ref q_o_text, .int o_typed, .int o_next, .int o_token, .int o_place, .int o_value, .int o_fault, .ref q_o_warmth, .ref q_o_side, .ref q_o_seconds, .int o_members, .int o_pairs, .int o_cold, .int o_fur, .int o_coughs, .int o_draftMembers, .int o_draftPairs, .int o_draftCold, .int o_draftFur, .int o_draftCoughs, .ref q_o_s, .ref q_o_kept, .ref q_o_isKept, .ref q_o_undos, .int o_undoMany, .ref q_o_seenAt, .ref q_o_seen, .int o_seenMany, .ref q_o_board, .ref q_o_pick, .ref q_o_worth, .ref q_o_best, .int o_chosen])), (q_o_seconds, .inl (cI, 12, .inl o_seconds)), (q_o_side, .inl (cI, 12, .inl o_side)), (q_o_s, .inl (cI, 10, .inl o_s)), (q_o_board, .inl (cI, 49, .inl o_board')), (q_o_pick, .inl (cI, 6, .inl o_pick')), (q_o_best, .inl (cI, 5, .inl o_best'))] H := by rw [← e1_, ← e2_, ← e3_]; exact hP
        have hD : va_D A [(q_o, .inr (7, [.int o_thrown, .long o_trace, .ref q_o_text, .int o_typed, .int o_next, .int o_token, .int o_place, .int o_value, .int o_fault, .ref q_o_warmth, .ref q_o_side, .ref q_o_seconds, .int o_members, .int o_pairs, .int o_cold, .int o_fur, .int o_coughs, .int o_draftMembers, .int o_draftPairs, .int o_draftCold, .int o_draftFur, .int o_draftCoughs, .ref q_o_s, .ref q_o_kept, .ref q_o_isKept, .ref q_o_undos, .int o_undoMany, .ref q_o_seenAt, .ref q_o_seen, .int o_seenMany, .ref q_o_board, .ref q_o_pick, .ref q_o_worth, .ref q_o_best, .int o_chosen])), (q_o_seconds, .inl (cI, 12, .inl o_seconds)), (q_o_side, .inl (cI, 12, .inl o_side)), (q_o_s, .inl (cI, 10, .inl o_s)), (q_o_board, .inl (cI, 49, .inl o_board')), (q_o_pick, .inl (cI, 6, .inl o_pick')), (q_o_best, .inl (cI, 5, .inl o_best'))] := by rw [← e1_, ← e2_, ← e3_]; exact hD
        exact endMI hx hb hr hlocks rfl hP hD hS e0_ dX8_carriedBy_72
      · have hf := ite_n hf c17
        refine lv_iconst (v := 0) hx hb dX8_carriedBy_12 (by decide) ?_
        refine lv_istore_n (lv' := [(3, .int 0), (0, .ref q_o), (1, .int x1), (2, .int x2)]) hx hb dX8_carriedBy_13 rfl hl (by decide) rfl (fun ls hl => ?_)
        exact L14 FU x1 x2 0 o_board o_pick o_best _ _ ls hf hP hD hS (lv_sub hl [1, 2, 3, 0] rfl)
  unfold f_X8_carriedBy at hf
  refine lv_aload_n hx hb dX8_carriedBy_0 rfl (lv_at hl 0 rfl) ?_
  obtain ⟨m18, h19, hf⟩ := ob1_some hf
  refine muVv (wr := [(q_o_seconds, .inl (cI, 12, .inl o_seconds)), (q_o_side, .inl (cI, 12, .inl o_side)), (q_o_pick, .inl (cI, 6, .inl o_pick)), (q_o_best, .inl (cI, 5, .inl o_best))]) (ws1 := [(q_o, .inr (7, [.int o_thrown, .long o_trace, .ref q_o_text, .int o_typed, .int o_next, .int o_token, .int o_place, .int o_value, .int o_fault, .ref q_o_warmth, .ref q_o_side, .ref q_o_seconds, .int o_members, .int o_pairs, .int o_cold, .int o_fur, .int o_coughs, .int o_draftMembers, .int o_draftPairs, .int o_draftCold, .int o_draftFur, .int o_draftCoughs, .ref q_o_s, .ref q_o_kept, .ref q_o_isKept, .ref q_o_undos, .int o_undoMany, .ref q_o_seenAt, .ref q_o_seen, .int o_seenMany, .ref q_o_board, .ref q_o_pick, .ref q_o_worth, .ref q_o_best, .int o_chosen])), (q_o_seconds, .inl (cI, 12, .inl o_seconds)), (q_o_side, .inl (cI, 12, .inl o_side)), (q_o_s, .inl (cI, 10, .inl o_s)), (q_o_board, .inl (cI, 49, .inl m18)), (q_o_pick, .inl (cI, 6, .inl o_pick)), (q_o_best, .inl (cI, 5, .inl o_best))]) (c_X8_setsBoard l D cB cI cZ cM cN q_o q_o_text q_o_warmth q_o_side q_o_seconds q_o_s q_o_kept q_o_isKept q_o_undos q_o_seenAt q_o_seen q_o_board q_o_pick q_o_worth q_o_best o_thrown o_trace o_typed o_next o_token o_place o_value o_fault o_members o_pairs o_cold o_fur o_coughs o_draftMembers o_draftPairs o_draftCold o_draftFur o_draftCoughs o_undoMany o_seenMany o_chosen o_s o_board m18 H.size h19) hfix (cwV 0 hts gX8_carriedBy_X8_setsBoard rfl rfl rfl (by decide +kernel) ⟨Nat.le_of_ble_eq_true rfl, Nat.le_of_ble_eq_true rfl⟩) hP hK hD hA hS [0, 3, 4] [1, 2, 5, 6] [4, 0, 1, 5, 6, 2, 3] rfl rfl rfl rfl (by decide) rfl rfl rfl rfl rfl rfl hl.1 rfl (Nat.le_of_ble_eq_true rfl) dX8_carriedBy_1 ⟨Nat.zero_le _, Nat.zero_le _⟩ (fun H locs hP hD hS => ?_)
  refine lv_iconst (v := 0) hx hb dX8_carriedBy_4 (by decide) ?_
  refine lv_istore_n (lv' := [(2, .int 0), (0, .ref q_o), (1, .int p1)]) hx hb dX8_carriedBy_5 rfl hl (by decide) rfl (fun ls hl => ?_)
  exact L6 FU p1 0 m18 o_pick o_best _ _ ls hf hP hD hS (lv_sub hl [1, 2, 0] rfl)
def f_X8_carry_29 (o_members : Int32) (o_cold : Int32) (o_seconds : Nat → Int32) (o_side : Nat → Int32) (o_s : Nat → Int32) (x2 : Int32) (o_thrown : Int32) (o_board : Nat → Int32) (o_pick : Nat → Int32) (o_best : Nat → Int32) : Option (Int32 × Int32 × (Nat → Int32) × (Nat → Int32) × (Nat → Int32)) :=
  some (x2, o_thrown, o_board, o_pick, o_best)
def f_X8_carry (o_members : Int32) (o_cold : Int32) (o_seconds : Nat → Int32) (o_side : Nat → Int32) (o_s : Nat → Int32) (o_thrown : Int32) (o_board : Nat → Int32) (o_pick : Nat → Int32) (o_best : Nat → Int32) (p1 : Int32) : Option (Int32 × Int32 × (Nat → Int32) × (Nat → Int32) × (Nat → Int32)) :=
  if ((-1)) ≤ p1 then (
    ob4 (f_X8_carriedBy o_members o_cold o_seconds o_side o_s o_board o_pick o_best ((-9))) fun r2 m3 m4 m5 =>
    if r2 = ((-9)) then (
      f_X8_carry_29 o_members o_cold o_seconds o_side o_s r2 0 m3 m4 m5
    ) else (
      if (0 : Int32) ≤ p1 then (
        if r2 ≤ p1 then (
          some ((-5), 0, m3, m4, m5)
        ) else (
          ing p1 5 <|
          some (m5 p1.toNatClampNeg, 0, m3, m4, m5)
        )
      ) else (
        f_X8_carry_29 o_members o_cold o_seconds o_side o_s r2 0 m3 m4 m5
      )
    )
  ) else (
    some ((-1), 0, o_board, o_pick, o_best)
  )
set_option maxHeartbeats 4000000 in
set_option maxRecDepth 100000 in
theorem c_X8_carry (l : Launch) (D : va_G) (cB cI cZ cM cN : ClassId) (q_o : Nat) (q_o_text : Nat) (q_o_warmth : Nat) (q_o_side : Nat) (q_o_seconds : Nat) (q_o_s : Nat) (q_o_kept : Nat) (q_o_isKept : Nat) (q_o_undos : Nat) (q_o_seenAt : Nat) (q_o_seen : Nat) (q_o_board : Nat) (q_o_pick : Nat) (q_o_worth : Nat) (q_o_best : Nat) (o_thrown : Int32) (o_trace : Int64) (o_typed : Int32) (o_next : Int32) (o_token : Int32) (o_place : Int32) (o_value : Int32) (o_fault : Int32) (o_members : Int32) (o_pairs : Int32) (o_cold : Int32) (o_fur : Int32) (o_coughs : Int32) (o_draftMembers : Int32) (o_draftPairs : Int32) (o_draftCold : Int32) (o_draftFur : Int32) (o_draftCoughs : Int32) (o_undoMany : Int32) (o_seenMany : Int32) (o_chosen : Int32) (o_seconds : Nat → Int32) (o_side : Nat → Int32) (o_s : Nat → Int32) (o_board : Nat → Int32) (o_pick : Nat → Int32) (o_best : Nat → Int32) (p1 : Int32) (r : Int32) (o_thrown' : Int32) (o_board' : Nat → Int32) (o_pick' : Nat → Int32) (o_best' : Nat → Int32) (sz : Nat) (hf : f_X8_carry o_members o_cold o_seconds o_side o_s o_thrown o_board o_pick o_best p1 = some (r, o_thrown', o_board', o_pick', o_best')) : Met l yX8_carry wsX8_carry ({ frames := 4, cells := 0, slots := 0, locals := 102 } : Room) (PM D cB cI cZ cM cN [.ref q_o, .int p1] [(q_o, .inr (7, [.int o_thrown, .long o_trace, .ref q_o_text, .int o_typed, .int o_next, .int o_token, .int o_place, .int o_value, .int o_fault, .ref q_o_warmth, .ref q_o_side, .ref q_o_seconds, .int o_members, .int o_pairs, .int o_cold, .int o_fur, .int o_coughs, .int o_draftMembers, .int o_draftPairs, .int o_draftCold, .int o_draftFur, .int o_draftCoughs, .ref q_o_s, .ref q_o_kept, .ref q_o_isKept, .ref q_o_undos, .int o_undoMany, .ref q_o_seenAt, .ref q_o_seen, .int o_seenMany, .ref q_o_board, .ref q_o_pick, .ref q_o_worth, .ref q_o_best, .int o_chosen])), (q_o_seconds, .inl (cI, 12, .inl o_seconds)), (q_o_side, .inl (cI, 12, .inl o_side)), (q_o_s, .inl (cI, 10, .inl o_s)), (q_o_board, .inl (cI, 49, .inl o_board)), (q_o_pick, .inl (cI, 6, .inl o_pick)), (q_o_best, .inl (cI, 5, .inl o_best))] sz) (QI D [(q_o, .inr (7, [.int o_thrown', .long o_trace, .ref q_o_text, .int o_typed, .int o_next, .int o_token, .int o_place, .int o_value, .int o_fault, .ref q_o_warmth, .ref q_o_side, .ref q_o_seconds, .int o_members, .int o_pairs, .int o_cold, .int o_fur, .int o_coughs, .int o_draftMembers, .int o_draftPairs, .int o_draftCold, .int o_draftFur, .int o_draftCoughs, .ref q_o_s, .ref q_o_kept, .ref q_o_isKept, .ref q_o_undos, .int o_undoMany, .ref q_o_seenAt, .ref q_o_seen, .int o_seenMany, .ref q_o_board, .ref q_o_pick, .ref q_o_worth, .ref q_o_best, .int o_chosen])), (q_o_seconds, .inl (cI, 12, .inl o_seconds)), (q_o_side, .inl (cI, 12, .inl o_side)), (q_o_s, .inl (cI, 10, .inl o_s)), (q_o_board, .inl (cI, 49, .inl o_board')), (q_o_pick, .inl (cI, 6, .inl o_pick')), (q_o_best, .inl (cI, 5, .inl o_best'))] r (va_A [(q_o, .inr (7, [.int o_thrown, .long o_trace, .ref q_o_text, .int o_typed, .int o_next, .int o_token, .int o_place, .int o_value, .int o_fault, .ref q_o_warmth, .ref q_o_side, .ref q_o_seconds, .int o_members, .int o_pairs, .int o_cold, .int o_fur, .int o_coughs, .int o_draftMembers, .int o_draftPairs, .int o_draftCold, .int o_draftFur, .int o_draftCoughs, .ref q_o_s, .ref q_o_kept, .ref q_o_isKept, .ref q_o_undos, .int o_undoMany, .ref q_o_seenAt, .ref q_o_seen, .int o_seenMany, .ref q_o_board, .ref q_o_pick, .ref q_o_worth, .ref q_o_best, .int o_chosen])), (q_o_seconds, .inl (cI, 12, .inl o_seconds)), (q_o_side, .inl (cI, 12, .inl o_side)), (q_o_s, .inl (cI, 10, .inl o_s)), (q_o_board, .inl (cI, 49, .inl o_board)), (q_o_pick, .inl (cI, 6, .inl o_pick)), (q_o_best, .inl (cI, 5, .inl o_best))] sz)) 0 0 (va_A [(q_o, .inr (7, [.int o_thrown, .long o_trace, .ref q_o_text, .int o_typed, .int o_next, .int o_token, .int o_place, .int o_value, .int o_fault, .ref q_o_warmth, .ref q_o_side, .ref q_o_seconds, .int o_members, .int o_pairs, .int o_cold, .int o_fur, .int o_coughs, .int o_draftMembers, .int o_draftPairs, .int o_draftCold, .int o_draftFur, .int o_draftCoughs, .ref q_o_s, .ref q_o_kept, .ref q_o_isKept, .ref q_o_undos, .int o_undoMany, .ref q_o_seenAt, .ref q_o_seen, .int o_seenMany, .ref q_o_board, .ref q_o_pick, .ref q_o_worth, .ref q_o_best, .int o_chosen])), (q_o_seconds, .inl (cI, 12, .inl o_seconds)), (q_o_side, .inl (cI, 12, .inl o_side)), (q_o_s, .inl (cI, 10, .inl o_s)), (q_o_board, .inl (cI, 49, .inl o_board)), (q_o_pick, .inl (cI, 6, .inl o_pick)), (q_o_best, .inl (cI, 5, .inl o_best))] sz) := by
  refine entM (l := l) (y := yX8_carry) (ws := wsX8_carry) (cc := cX8_carry) (av := [.ref q_o, .int p1]) (wc := [(q_o, .inr (7, [.int o_thrown, .long o_trace, .ref q_o_text, .int o_typed, .int o_next, .int o_token, .int o_place, .int o_value, .int o_fault, .ref q_o_warmth, .ref q_o_side, .ref q_o_seconds, .int o_members, .int o_pairs, .int o_cold, .int o_fur, .int o_coughs, .int o_draftMembers, .int o_draftPairs, .int o_draftCold, .int o_draftFur, .int o_draftCoughs, .ref q_o_s, .ref q_o_kept, .ref q_o_isKept, .ref q_o_undos, .int o_undoMany, .ref q_o_seenAt, .ref q_o_seen, .int o_seenMany, .ref q_o_board, .ref q_o_pick, .ref q_o_worth, .ref q_o_best, .int o_chosen])), (q_o_seconds, .inl (cI, 12, .inl o_seconds)), (q_o_side, .inl (cI, 12, .inl o_side)), (q_o_s, .inl (cI, 10, .inl o_s)), (q_o_board, .inl (cI, 49, .inl o_board)), (q_o_pick, .inl (cI, 6, .inl o_pick)), (q_o_best, .inl (cI, 5, .inl o_best))]) (sz := sz) (Qc := fun A => QI D [(q_o, .inr (7, [.int o_thrown', .long o_trace, .ref q_o_text, .int o_typed, .int o_next, .int o_token, .int o_place, .int o_value, .int o_fault, .ref q_o_warmth, .ref q_o_side, .ref q_o_seconds, .int o_members, .int o_pairs, .int o_cold, .int o_fur, .int o_coughs, .int o_draftMembers, .int o_draftPairs, .int o_draftCold, .int o_draftFur, .int o_draftCoughs, .ref q_o_s, .ref q_o_kept, .ref q_o_isKept, .ref q_o_undos, .int o_undoMany, .ref q_o_seenAt, .ref q_o_seen, .int o_seenMany, .ref q_o_board, .ref q_o_pick, .ref q_o_worth, .ref q_o_best, .int o_chosen])), (q_o_seconds, .inl (cI, 12, .inl o_seconds)), (q_o_side, .inl (cI, 12, .inl o_side)), (q_o_s, .inl (cI, 10, .inl o_s)), (q_o_board, .inl (cI, 49, .inl o_board')), (q_o_pick, .inl (cI, 6, .inl o_pick')), (q_o_best, .inl (cI, 5, .inl o_best'))] r A) (by decide +kernel) rfl (Nat.le_of_ble_eq_true rfl) ?_
  intro A p e s m below meth c hx hb hr hml hown hlocks hts hK hA H locs hP hD hS ls hl
  have hown : s.vm.findClass RX8 = some m.cls := hown
  have hl : lv_has ls 3 [(0, .ref q_o), (1, .int p1)] := hl
  have hfix : CallFix p m c cX8_carry 3 s ([.ref q_o, .int p1] : List Value).toArray wsX8_carry RX8 := ⟨hx, hb, hml, hown, hts⟩
  have hinX8 : ∀ w ∈ u_ws RX8 TX8 35, w ∈ wsX8_carry := by decide +kernel
  have g63 := hts (.fieldLink RX8 63 "LastCoatModel" "thrown" "I") (by decide +kernel)
  have g50 := hts (.fieldLink RX8 50 "LastCoatModel" "best" "[I") (by decide +kernel)
  have L29 : ∀ (x2 : Int32) (o_thrown : Int32) (o_board : Nat → Int32) (o_pick : Nat → Int32) (o_best : Nat → Int32) (H : Heap) (locs : List Loc) (ls : Array Slot), f_X8_carry_29 o_members o_cold o_seconds o_side o_s x2 o_thrown o_board o_pick o_best = some (r, o_thrown', o_board', o_pick', o_best') → va_P D vwCl [(q_o, .inr (7, [.int o_thrown, .long o_trace, .ref q_o_text, .int o_typed, .int o_next, .int o_token, .int o_place, .int o_value, .int o_fault, .ref q_o_warmth, .ref q_o_side, .ref q_o_seconds, .int o_members, .int o_pairs, .int o_cold, .int o_fur, .int o_coughs, .int o_draftMembers, .int o_draftPairs, .int o_draftCold, .int o_draftFur, .int o_draftCoughs, .ref q_o_s, .ref q_o_kept, .ref q_o_isKept, .ref q_o_undos, .int o_undoMany, .ref q_o_seenAt, .ref q_o_seen, .int o_seenMany, .ref q_o_board, .ref q_o_pick, .ref q_o_worth, .ref q_o_best, .int o_chosen])), (q_o_seconds, .inl (cI, 12, .inl o_seconds)), (q_o_side, .inl (cI, 12, .inl o_side)), (q_o_s, .inl (cI, 10, .inl o_s)), (q_o_board, .inl (cI, 49, .inl o_board)), (q_o_pick, .inl (cI, 6, .inl o_pick)), (q_o_best, .inl (cI, 5, .inl o_best))] H → va_D A [(q_o, .inr (7, [.int o_thrown, .long o_trace, .ref q_o_text, .int o_typed, .int o_next, .int o_token, .int o_place, .int o_value, .int o_fault, .ref q_o_warmth, .ref q_o_side, .ref q_o_seconds, .int o_members, .int o_pairs, .int o_cold, .int o_fur, .int o_coughs, .int o_draftMembers, .int o_draftPairs, .int o_draftCold, .int o_draftFur, .int o_draftCoughs, .ref q_o_s, .ref q_o_kept, .ref q_o_isKept, .ref q_o_undos, .int o_undoMany, .ref q_o_seenAt, .ref q_o_seen, .int o_seenMany, .ref q_o_board, .ref q_o_pick, .ref q_o_worth, .ref q_o_best, .int o_chosen])), (q_o_seconds, .inl (cI, 12, .inl o_seconds)), (q_o_side, .inl (cI, 12, .inl o_side)), (q_o_s, .inl (cI, 10, .inl o_s)), (q_o_board, .inl (cI, 49, .inl o_board)), (q_o_pick, .inl (cI, 6, .inl o_pick)), (q_o_best, .inl (cI, 5, .inl o_best))] → va_S A s.heap H locs → lv_has ls 3 [(2, .int x2)] → W p l e ({ frames := 4, cells := 0, slots := 0, locals := 102 } : Room) s m ([.ref q_o, .int p1] : List Value).toArray below meth c H locs 0 0 (MQ below (QI D [(q_o, .inr (7, [.int o_thrown', .long o_trace, .ref q_o_text, .int o_typed, .int o_next, .int o_token, .int o_place, .int o_value, .int o_fault, .ref q_o_warmth, .ref q_o_side, .ref q_o_seconds, .int o_members, .int o_pairs, .int o_cold, .int o_fur, .int o_coughs, .int o_draftMembers, .int o_draftPairs, .int o_draftCold, .int o_draftFur, .int o_draftCoughs, .ref q_o_s, .ref q_o_kept, .ref q_o_isKept, .ref q_o_undos, .int o_undoMany, .ref q_o_seenAt, .ref q_o_seen, .int o_seenMany, .ref q_o_board, .ref q_o_pick, .ref q_o_worth, .ref q_o_best, .int o_chosen])), (q_o_seconds, .inl (cI, 12, .inl o_seconds)), (q_o_side, .inl (cI, 12, .inl o_side)), (q_o_s, .inl (cI, 10, .inl o_s)), (q_o_board, .inl (cI, 49, .inl o_board')), (q_o_pick, .inl (cI, 6, .inl o_pick')), (q_o_best, .inl (cI, 5, .inl o_best'))] r A) ([.ref q_o, .int p1] : List Value).toArray s 0 0 A) (F0 m 29 ls []) := by
    intro x2 o_thrown o_board o_pick o_best H locs ls hf hP hD hS hl
    unfold f_X8_carry_29 at hf
    refine lv_iload_n hx hb dX8_carry_29 rfl (lv_at hl 0 rfl) ?_
    refine lv_goto (tgt := 49) hx hb dX8_carry_30 (by decide) ?_
    obtain ⟨e0_, e1_, e2_, e3_, e4_⟩ := tup5 hf
    have hP : va_P D vwCl [(q_o, .inr (7, [.int o_thrown', .long o_trace, .ref q_o_text, .int o_typed, .int o_next, .int o_token, .int o_place, .int o_value, .int o_fault, .ref q_o_warmth, .ref q_o_side, .ref q_o_seconds, .int o_members, .int o_pairs, .int o_cold, .int o_fur, .int o_coughs, .int o_draftMembers, .int o_draftPairs, .int o_draftCold, .int o_draftFur, .int o_draftCoughs, .ref q_o_s, .ref q_o_kept, .ref q_o_isKept, .ref q_o_undos, .int o_undoMany, .ref q_o_seenAt, .ref q_o_seen, .int o_seenMany, .ref q_o_board, .ref q_o_pick, .ref q_o_worth, .ref q_o_best, .int o_chosen])), (q_o_seconds, .inl (cI, 12, .inl o_seconds)), (q_o_side, .inl (cI, 12, .inl o_side)), (q_o_s, .inl (cI, 10, .inl o_s)), (q_o_board, .inl (cI, 49, .inl o_board')), (q_o_pick, .inl (cI, 6, .inl o_pick')), (q_o_best, .inl (cI, 5, .inl o_best'))] H := by rw [← e1_, ← e2_, ← e3_, ← e4_]; exact hP
    have hD : va_D A [(q_o, .inr (7, [.int o_thrown', .long o_trace, .ref q_o_text, .int o_typed, .int o_next, .int o_token, .int o_place, .int o_value, .int o_fault, .ref q_o_warmth, .ref q_o_side, .ref q_o_seconds, .int o_members, .int o_pairs, .int o_cold, .int o_fur, .int o_coughs, .int o_draftMembers, .int o_draftPairs, .int o_draftCold, .int o_draftFur, .int o_draftCoughs, .ref q_o_s, .ref q_o_kept, .ref q_o_isKept, .ref q_o_undos, .int o_undoMany, .ref q_o_seenAt, .ref q_o_seen, .int o_seenMany, .ref q_o_board, .ref q_o_pick, .ref q_o_worth, .ref q_o_best, .int o_chosen])), (q_o_seconds, .inl (cI, 12, .inl o_seconds)), (q_o_side, .inl (cI, 12, .inl o_side)), (q_o_s, .inl (cI, 10, .inl o_s)), (q_o_board, .inl (cI, 49, .inl o_board')), (q_o_pick, .inl (cI, 6, .inl o_pick')), (q_o_best, .inl (cI, 5, .inl o_best'))] := by rw [← e1_, ← e2_, ← e3_, ← e4_]; exact hD
    exact endMI hx hb hr hlocks rfl hP hD hS e0_ dX8_carry_49
  unfold f_X8_carry at hf
  refine lv_aload_n hx hb dX8_carry_0 rfl (lv_at hl 0 rfl) ?_
  refine lv_iconst (v := 0) hx hb dX8_carry_1 (by decide) ?_
  refine va_put (D := D) (ci := 7) (v := .int 0) (ty := .int) (C := RX8) (T := TX8) (N := 35) hx hb hts hinX8 tyX8 tyX8_ok nmX8 hown hK.1 hP hD hS 0 rfl rfl 0 (by decide) g63 (fun _ h9 => h9) rfl (by decide +kernel) rfl rfl (Nat.le_of_ble_eq_true rfl) dX8_carry_2 (fun H locs hP hD hS => ?_)
  have hP : va_P D vwCl [(q_o, .inr (7, [.int 0, .long o_trace, .ref q_o_text, .int o_typed, .int o_next, .int o_token, .int o_place, .int o_value, .int o_fault, .ref q_o_warmth, .ref q_o_side, .ref q_o_seconds, .int o_members, .int o_pairs, .int o_cold, .int o_fur, .int o_coughs, .int o_draftMembers, .int o_draftPairs, .int o_draftCold, .int o_draftFur, .int o_draftCoughs, .ref q_o_s, .ref q_o_kept, .ref q_o_isKept, .ref q_o_undos, .int o_undoMany, .ref q_o_seenAt, .ref q_o_seen, .int o_seenMany, .ref q_o_board, .ref q_o_pick, .ref q_o_worth, .ref q_o_best, .int o_chosen])), (q_o_seconds, .inl (cI, 12, .inl o_seconds)), (q_o_side, .inl (cI, 12, .inl o_side)), (q_o_s, .inl (cI, 10, .inl o_s)), (q_o_board, .inl (cI, 49, .inl o_board)), (q_o_pick, .inl (cI, 6, .inl o_pick)), (q_o_best, .inl (cI, 5, .inl o_best))] H := hP
  have hD : va_D A [(q_o, .inr (7, [.int 0, .long o_trace, .ref q_o_text, .int o_typed, .int o_next, .int o_token, .int o_place, .int o_value, .int o_fault, .ref q_o_warmth, .ref q_o_side, .ref q_o_seconds, .int o_members, .int o_pairs, .int o_cold, .int o_fur, .int o_coughs, .int o_draftMembers, .int o_draftPairs, .int o_draftCold, .int o_draftFur, .int o_draftCoughs, .ref q_o_s, .ref q_o_kept, .ref q_o_isKept, .ref q_o_undos, .int o_undoMany, .ref q_o_seenAt, .ref q_o_seen, .int o_seenMany, .ref q_o_board, .ref q_o_pick, .ref q_o_worth, .ref q_o_best, .int o_chosen])), (q_o_seconds, .inl (cI, 12, .inl o_seconds)), (q_o_side, .inl (cI, 12, .inl o_side)), (q_o_s, .inl (cI, 10, .inl o_s)), (q_o_board, .inl (cI, 49, .inl o_board)), (q_o_pick, .inl (cI, 6, .inl o_pick)), (q_o_best, .inl (cI, 5, .inl o_best))] := hD
  refine lv_iload_n hx hb dX8_carry_5 rfl (lv_at hl 1 rfl) ?_
  refine lv_iconst (v := (-1)) hx hb dX8_carry_6 (by decide) ?_
  refine lv_icmp_ge (tgt := 12) hx hb dX8_carry_7 (by decide) (fun c1 => ?_) (fun c1 => ?_)
  · have hf := ite_p hf c1
    refine lv_aload_n hx hb dX8_carry_12 rfl (lv_at hl 0 rfl) ?_
    refine lv_bipush (v := (-9)) hx hb dX8_carry_13 (by decide) ?_
    obtain ⟨r2, m3, m4, m5, h6, hf⟩ := ob4_some hf
    refine muV (wr := []) (ws1 := [(q_o, .inr (7, [.int 0, .long o_trace, .ref q_o_text, .int o_typed, .int o_next, .int o_token, .int o_place, .int o_value, .int o_fault, .ref q_o_warmth, .ref q_o_side, .ref q_o_seconds, .int o_members, .int o_pairs, .int o_cold, .int o_fur, .int o_coughs, .int o_draftMembers, .int o_draftPairs, .int o_draftCold, .int o_draftFur, .int o_draftCoughs, .ref q_o_s, .ref q_o_kept, .ref q_o_isKept, .ref q_o_undos, .int o_undoMany, .ref q_o_seenAt, .ref q_o_seen, .int o_seenMany, .ref q_o_board, .ref q_o_pick, .ref q_o_worth, .ref q_o_best, .int o_chosen])), (q_o_seconds, .inl (cI, 12, .inl o_seconds)), (q_o_side, .inl (cI, 12, .inl o_side)), (q_o_s, .inl (cI, 10, .inl o_s)), (q_o_board, .inl (cI, 49, .inl m3)), (q_o_pick, .inl (cI, 6, .inl m4)), (q_o_best, .inl (cI, 5, .inl m5))]) (c_X8_carriedBy l D cB cI cZ cM cN q_o q_o_text q_o_warmth q_o_side q_o_seconds q_o_s q_o_kept q_o_isKept q_o_undos q_o_seenAt q_o_seen q_o_board q_o_pick q_o_worth q_o_best 0 o_trace o_typed o_next o_token o_place o_value o_fault o_members o_pairs o_cold o_fur o_coughs o_draftMembers o_draftPairs o_draftCold o_draftFur o_draftCoughs o_undoMany o_seenMany o_chosen o_seconds o_side o_s o_board o_pick o_best ((-9)) r2 m3 m4 m5 H.size h6) hfix (cwV 1 hts gX8_carry_X8_carriedBy rfl rfl rfl (by decide +kernel) ⟨Nat.le_of_ble_eq_true rfl, Nat.le_of_ble_eq_true rfl⟩) hP hK hD hA hS [0, 1, 2, 3, 4, 5, 6] [] [0, 1, 2, 3, 4, 5, 6] rfl rfl rfl rfl (by decide) rfl rfl rfl rfl rfl rfl hl.1 rfl (Nat.le_of_ble_eq_true rfl) dX8_carry_15 ⟨Nat.zero_le _, Nat.zero_le _⟩ (fun H locs hP hD hS => ?_)
    refine lv_istore_n (lv' := [(2, .int r2), (0, .ref q_o), (1, .int p1)]) hx hb dX8_carry_18 rfl hl (by decide) rfl (fun ls hl => ?_)
    refine lv_iload_n hx hb dX8_carry_19 rfl (lv_at hl 0 rfl) ?_
    refine lv_bipush (v := (-9)) hx hb dX8_carry_20 (by decide) ?_
    refine lv_icmp_eq (tgt := 29) hx hb dX8_carry_22 (by decide) (fun c7 => ?_) (fun c7 => ?_)
    · have hf := ite_p hf c7
      exact L29 r2 0 m3 m4 m5 _ _ ls hf hP hD hS (lv_sub hl [0] rfl)
    · have hf := ite_n hf c7
      refine lv_iload_n hx hb dX8_carry_25 rfl (lv_at hl 2 rfl) ?_
      refine lv_if_ge (tgt := 33) hx hb dX8_carry_26 (by decide) (fun c8 => ?_) (fun c8 => ?_)
      · have hf := ite_p hf c8
        refine lv_iload_n hx hb dX8_carry_33 rfl (lv_at hl 2 rfl) ?_
        refine lv_iload_n hx hb dX8_carry_34 rfl (lv_at hl 0 rfl) ?_
        refine lv_icmp_ge (tgt := 47) hx hb dX8_carry_35 (by decide) (fun c9 => ?_) (fun c9 => ?_)
        · have hf := ite_p hf c9
          refine lv_bipush (v := (-5)) hx hb dX8_carry_47 (by decide) ?_
          obtain ⟨e0_, e1_, e2_, e3_, e4_⟩ := tup5 hf
          have hP : va_P D vwCl [(q_o, .inr (7, [.int o_thrown', .long o_trace, .ref q_o_text, .int o_typed, .int o_next, .int o_token, .int o_place, .int o_value, .int o_fault, .ref q_o_warmth, .ref q_o_side, .ref q_o_seconds, .int o_members, .int o_pairs, .int o_cold, .int o_fur, .int o_coughs, .int o_draftMembers, .int o_draftPairs, .int o_draftCold, .int o_draftFur, .int o_draftCoughs, .ref q_o_s, .ref q_o_kept, .ref q_o_isKept, .ref q_o_undos, .int o_undoMany, .ref q_o_seenAt, .ref q_o_seen, .int o_seenMany, .ref q_o_board, .ref q_o_pick, .ref q_o_worth, .ref q_o_best, .int o_chosen])), (q_o_seconds, .inl (cI, 12, .inl o_seconds)), (q_o_side, .inl (cI, 12, .inl o_side)), (q_o_s, .inl (cI, 10, .inl o_s)), (q_o_board, .inl (cI, 49, .inl o_board')), (q_o_pick, .inl (cI, 6, .inl o_pick')), (q_o_best, .inl (cI, 5, .inl o_best'))] H := by rw [← e1_, ← e2_, ← e3_, ← e4_]; exact hP
          have hD : va_D A [(q_o, .inr (7, [.int o_thrown', .long o_trace, .ref q_o_text, .int o_typed, .int o_next, .int o_token, .int o_place, .int o_value, .int o_fault, .ref q_o_warmth, .ref q_o_side, .ref q_o_seconds, .int o_members, .int o_pairs, .int o_cold, .int o_fur, .int o_coughs, .int o_draftMembers, .int o_draftPairs, .int o_draftCold, .int o_draftFur, .int o_draftCoughs, .ref q_o_s, .ref q_o_kept, .ref q_o_isKept, .ref q_o_undos, .int o_undoMany, .ref q_o_seenAt, .ref q_o_seen, .int o_seenMany, .ref q_o_board, .ref q_o_pick, .ref q_o_worth, .ref q_o_best, .int o_chosen])), (q_o_seconds, .inl (cI, 12, .inl o_seconds)), (q_o_side, .inl (cI, 12, .inl o_side)), (q_o_s, .inl (cI, 10, .inl o_s)), (q_o_board, .inl (cI, 49, .inl o_board')), (q_o_pick, .inl (cI, 6, .inl o_pick')), (q_o_best, .inl (cI, 5, .inl o_best'))] := by rw [← e1_, ← e2_, ← e3_, ← e4_]; exact hD
          exact endMI hx hb hr hlocks rfl hP hD hS e0_ dX8_carry_49
        · have hf := ite_n hf c9
          refine lv_aload_n hx hb dX8_carry_38 rfl (lv_at hl 1 rfl) ?_
          refine va_get (D := D) (ci := 7) (v := .ref q_o_best) (C := RX8) (T := TX8) (N := 35) hx hb hts hinX8 hown hK.1 hP 0 rfl rfl 33 (by decide) g50 (fun _ h9 => h9) rfl dX8_carry_39 ?_
          refine lv_iload_n hx hb dX8_carry_42 rfl (lv_at hl 2 rfl) ?_
          obtain ⟨g10, hf⟩ := ing_some hf
          refine va_iald hx hb hK.1 hP 6 1 rfl rfl g10 dX8_carry_43 ?_
          refine lv_goto (tgt := 49) hx hb dX8_carry_44 (by decide) ?_
          obtain ⟨e0_, e1_, e2_, e3_, e4_⟩ := tup5 hf
          have hP : va_P D vwCl [(q_o, .inr (7, [.int o_thrown', .long o_trace, .ref q_o_text, .int o_typed, .int o_next, .int o_token, .int o_place, .int o_value, .int o_fault, .ref q_o_warmth, .ref q_o_side, .ref q_o_seconds, .int o_members, .int o_pairs, .int o_cold, .int o_fur, .int o_coughs, .int o_draftMembers, .int o_draftPairs, .int o_draftCold, .int o_draftFur, .int o_draftCoughs, .ref q_o_s, .ref q_o_kept, .ref q_o_isKept, .ref q_o_undos, .int o_undoMany, .ref q_o_seenAt, .ref q_o_seen, .int o_seenMany, .ref q_o_board, .ref q_o_pick, .ref q_o_worth, .ref q_o_best, .int o_chosen])), (q_o_seconds, .inl (cI, 12, .inl o_seconds)), (q_o_side, .inl (cI, 12, .inl o_side)), (q_o_s, .inl (cI, 10, .inl o_s)), (q_o_board, .inl (cI, 49, .inl o_board')), (q_o_pick, .inl (cI, 6, .inl o_pick')), (q_o_best, .inl (cI, 5, .inl o_best'))] H := by rw [← e1_, ← e2_, ← e3_, ← e4_]; exact hP
          have hD : va_D A [(q_o, .inr (7, [.int o_thrown', .long o_trace, .ref q_o_text, .int o_typed, .int o_next, .int o_token, .int o_place, .int o_value, .int o_fault, .ref q_o_warmth, .ref q_o_side, .ref q_o_seconds, .int o_members, .int o_pairs, .int o_cold, .int o_fur, .int o_coughs, .int o_draftMembers, .int o_draftPairs, .int o_draftCold, .int o_draftFur, .int o_draftCoughs, .ref q_o_s, .ref q_o_kept, .ref q_o_isKept, .ref q_o_undos, .int o_undoMany, .ref q_o_seenAt, .ref q_o_seen, .int o_seenMany, .ref q_o_board, .ref q_o_pick, .ref q_o_worth, .ref q_o_best, .int o_chosen])), (q_o_seconds, .inl (cI, 12, .inl o_seconds)), (q_o_side, .inl (cI, 12, .inl o_side)), (q_o_s, .inl (cI, 10, .inl o_s)), (q_o_board, .inl (cI, 49, .inl o_board')), (q_o_pick, .inl (cI, 6, .inl o_pick')), (q_o_best, .inl (cI, 5, .inl o_best'))] := by rw [← e1_, ← e2_, ← e3_, ← e4_]; exact hD
          exact endMI hx hb hr hlocks rfl hP hD hS e0_ dX8_carry_49
      · have hf := ite_n hf c8
        exact L29 r2 0 m3 m4 m5 _ _ ls hf hP hD hS (lv_sub hl [0] rfl)
  · have hf := ite_n hf c1
    refine lv_iconst (v := (-1)) hx hb dX8_carry_10 (by decide) ?_
    obtain ⟨e0_, e1_, e2_, e3_, e4_⟩ := tup5 hf
    have hP : va_P D vwCl [(q_o, .inr (7, [.int o_thrown', .long o_trace, .ref q_o_text, .int o_typed, .int o_next, .int o_token, .int o_place, .int o_value, .int o_fault, .ref q_o_warmth, .ref q_o_side, .ref q_o_seconds, .int o_members, .int o_pairs, .int o_cold, .int o_fur, .int o_coughs, .int o_draftMembers, .int o_draftPairs, .int o_draftCold, .int o_draftFur, .int o_draftCoughs, .ref q_o_s, .ref q_o_kept, .ref q_o_isKept, .ref q_o_undos, .int o_undoMany, .ref q_o_seenAt, .ref q_o_seen, .int o_seenMany, .ref q_o_board, .ref q_o_pick, .ref q_o_worth, .ref q_o_best, .int o_chosen])), (q_o_seconds, .inl (cI, 12, .inl o_seconds)), (q_o_side, .inl (cI, 12, .inl o_side)), (q_o_s, .inl (cI, 10, .inl o_s)), (q_o_board, .inl (cI, 49, .inl o_board')), (q_o_pick, .inl (cI, 6, .inl o_pick')), (q_o_best, .inl (cI, 5, .inl o_best'))] H := by rw [← e1_, ← e2_, ← e3_, ← e4_]; exact hP
    have hD : va_D A [(q_o, .inr (7, [.int o_thrown', .long o_trace, .ref q_o_text, .int o_typed, .int o_next, .int o_token, .int o_place, .int o_value, .int o_fault, .ref q_o_warmth, .ref q_o_side, .ref q_o_seconds, .int o_members, .int o_pairs, .int o_cold, .int o_fur, .int o_coughs, .int o_draftMembers, .int o_draftPairs, .int o_draftCold, .int o_draftFur, .int o_draftCoughs, .ref q_o_s, .ref q_o_kept, .ref q_o_isKept, .ref q_o_undos, .int o_undoMany, .ref q_o_seenAt, .ref q_o_seen, .int o_seenMany, .ref q_o_board, .ref q_o_pick, .ref q_o_worth, .ref q_o_best, .int o_chosen])), (q_o_seconds, .inl (cI, 12, .inl o_seconds)), (q_o_side, .inl (cI, 12, .inl o_side)), (q_o_s, .inl (cI, 10, .inl o_s)), (q_o_board, .inl (cI, 49, .inl o_board')), (q_o_pick, .inl (cI, 6, .inl o_pick')), (q_o_best, .inl (cI, 5, .inl o_best'))] := by rw [← e1_, ← e2_, ← e3_, ← e4_]; exact hD
    exact endMI hx hb hr hlocks rfl hP hD hS e0_ dX8_carry_11
