def f_X8_awake_29 (o_members : Int32) (o_board : Nat → Int32) (K4 : Int32 → Int32 → Int32 → Option (Int32)) (x1 : Int32) (x3 : Int32) (k0 : Int32) (k1 : Int32) : Option (Int32) :=
  bnd (k0 + k1) fun y1 =>
  bnd (x3 + 1) fun y2 =>
  K4 x1 y1 y2
def f_X8_awake_4_b (o_members : Int32) (o_board : Nat → Int32) (K4 : Int32 → Int32 → Int32 → Option (Int32)) (x1 : Int32) (x2 : Int32) (x3 : Int32) : Option (Int32) :=
  if o_members ≤ x3 then (
    some (x2)
  ) else (
    ing (x1 + x3) 49 <|
    if (o_board (x1 + x3).toNatClampNeg) ≤ 0 then (
      f_X8_awake_29 o_members o_board K4 x1 x3 x2 0
    ) else (
      f_X8_awake_29 o_members o_board K4 x1 x3 x2 1
    )
  )
def f_X8_awake_4 (o_members : Int32) (o_board : Nat → Int32) : Nat → Int32 → Int32 → Int32 → Option (Int32)
  | 0 => fun _ _ _ => none
  | n + 1 => f_X8_awake_4_b o_members o_board (f_X8_awake_4 o_members o_board n)
def f_X8_awake (o_members : Int32) (o_board : Nat → Int32) (p1 : Int32) : Option (Int32) :=
  f_X8_awake_4 o_members o_board FU p1 0 0
set_option maxHeartbeats 4000000 in
set_option maxRecDepth 100000 in
theorem c_X8_awake (l : Launch) (D : va_G) (cB cI cZ cM cN : ClassId) (q_o : Nat) (q_o_text : Nat) (q_o_warmth : Nat) (q_o_side : Nat) (q_o_seconds : Nat) (q_o_s : Nat) (q_o_kept : Nat) (q_o_isKept : Nat) (q_o_undos : Nat) (q_o_seenAt : Nat) (q_o_seen : Nat) (q_o_board : Nat) (q_o_pick : Nat) (q_o_worth : Nat) (q_o_best : Nat) (o_thrown : Int32) (o_trace : Int64) (o_typed : Int32) (o_next : Int32) (o_token : Int32) (o_place : Int32) (o_value : Int32) (o_fault : Int32) (o_members : Int32) (o_pairs : Int32) (o_cold : Int32) (o_fur : Int32) (o_coughs : Int32) (o_draftMembers : Int32) (o_draftPairs : Int32) (o_draftCold : Int32) (o_draftFur : Int32) (o_draftCoughs : Int32) (o_undoMany : Int32) (o_seenMany : Int32) (o_chosen : Int32) (o_board : Nat → Int32) (p1 : Int32) (r : Int32) (hf : f_X8_awake o_members o_board p1 = some r) : Met l yX8_awake wsX8_awake ({ frames := 0, cells := 0, slots := 0, locals := 0 } : Room) (PR D cB cI cZ cM cN [.ref q_o, .int p1] [(q_o, .inr (7, [.int o_thrown, .long o_trace, .ref q_o_text, .int o_typed, .int o_next, .int o_token, .int o_place, .int o_value, .int o_fault, .ref q_o_warmth, .ref q_o_side, .ref q_o_seconds, .int o_members, .int o_pairs, .int o_cold, .int o_fur, .int o_coughs, .int o_draftMembers, .int o_draftPairs, .int o_draftCold, .int o_draftFur, .int o_draftCoughs, .ref q_o_s, .ref q_o_kept, .ref q_o_isKept, .ref q_o_undos, .int o_undoMany, .ref q_o_seenAt, .ref q_o_seen, .int o_seenMany, .ref q_o_board, .ref q_o_pick, .ref q_o_worth, .ref q_o_best, .int o_chosen])), (q_o_board, .inl (cI, 49, .inl o_board))]) (RI r) 0 0 (fun _ => False) := by
  refine entR (by decide +kernel) rfl (Nat.le_of_ble_eq_true rfl) ?_
  intro p e s m below meth c hx hb hr hml hown hlocks hts hP hK ls hl
  have hown : s.vm.findClass RX8 = some m.cls := hown
  have hl : lv_has ls 4 [(0, .ref q_o), (1, .int p1)] := hl
  have hfix : CallFix p m c cX8_awake 4 s ([.ref q_o, .int p1] : List Value).toArray wsX8_awake RX8 := ⟨hx, hb, hml, hown, hts⟩
  have hinX8 : ∀ w ∈ u_ws RX8 TX8 35, w ∈ wsX8_awake := by decide +kernel
  have g145 := hts (.fieldLink RX8 145 "LastCoatModel" "members" "I") (by decide +kernel)
  have g41 := hts (.fieldLink RX8 41 "LastCoatModel" "board" "[I") (by decide +kernel)
  have L4 : ∀ (n4 : Nat) (x1 : Int32) (x2 : Int32) (x3 : Int32) (ls : Array Slot), f_X8_awake_4 o_members o_board n4 x1 x2 x3 = some r → lv_has ls 4 [(0, .ref q_o), (1, .int x1), (2, .int x2), (3, .int x3)] → W p l e ({ frames := 0, cells := 0, slots := 0, locals := 0 } : Room) s m ([.ref q_o, .int p1] : List Value).toArray below meth c s.heap [] 0 0 (MQ below (RI r) ([.ref q_o, .int p1] : List Value).toArray s 0 0 (fun _ => False)) (F0 m 4 ls []) := by
    intro n4
    induction n4 with
    | zero =>
      intro x1 x2 x3 ls hf hl
      exact noneNe hf
    | succ n4 ih4 =>
      have L29 : ∀ (x1 : Int32) (x3 : Int32) (k0 : Int32) (k1 : Int32) (ls : Array Slot), f_X8_awake_29 o_members o_board (f_X8_awake_4 o_members o_board n4) x1 x3 k0 k1 = some r → lv_has ls 4 [(0, .ref q_o), (1, .int x1), (3, .int x3)] → W p l e ({ frames := 0, cells := 0, slots := 0, locals := 0 } : Room) s m ([.ref q_o, .int p1] : List Value).toArray below meth c s.heap [] 0 0 (MQ below (RI r) ([.ref q_o, .int p1] : List Value).toArray s 0 0 (fun _ => False)) (F0 m 29 ls [.int k1, .int k0]) := by
        intro x1 x3 k0 k1 ls hf hl
        unfold f_X8_awake_29 at hf
        refine lv_iadd hx hb dX8_awake_29 ?_
        refine lv_topi (fun y1 ey1 => ?_)
        have hf := bnd_at hf ey1
        refine lv_istore_n (lv' := [(2, .int y1), (0, .ref q_o), (1, .int x1), (3, .int x3)]) hx hb dX8_awake_30 rfl hl (by decide) rfl (fun ls hl => ?_)
        obtain ⟨y2, ey2⟩ : ∃ z : Int32, z = x3 + 1 := ⟨_, rfl⟩
        have hf := bnd_at hf ey2
        refine lv_iinc (v := y2) (lv' := [(3, .int y2), (2, .int y1), (0, .ref q_o), (1, .int x1)]) hx hb dX8_awake_31 hl (k := 3) rfl (by rw [ey2]; rfl) (by decide) rfl (fun ls hl => ?_)
        refine lv_goto (tgt := 4) hx hb dX8_awake_34 (by decide) ?_
        exact ih4 x1 y1 y2 ls hf (lv_sub hl [2, 3, 1, 0] rfl)
      intro x1 x2 x3 ls hf hl
      have hf : f_X8_awake_4_b o_members o_board (f_X8_awake_4 o_members o_board n4) x1 x2 x3 = some r := hf
      unfold f_X8_awake_4_b at hf
      refine lv_iload_n hx hb dX8_awake_4 rfl (lv_at hl 3 rfl) ?_
      refine lv_aload_n hx hb dX8_awake_5 rfl (lv_at hl 0 rfl) ?_
      refine va_get (D := D) (ci := 7) (v := .int o_members) (C := RX8) (T := TX8) (N := 35) hx hb hts hinX8 hown hK.1 hP 0 rfl rfl 12 (by decide) g145 (fun _ h9 => h9) rfl dX8_awake_6 ?_
      refine lv_icmp_ge (tgt := 37) hx hb dX8_awake_9 (by decide) (fun c3 => ?_) (fun c3 => ?_)
      · have hf := ite_p hf c3
        refine lv_iload_n hx hb dX8_awake_37 rfl (lv_at hl 2 rfl) ?_
        have e0_ := Option.some.inj hf
        exact endRI hx hb hr hlocks rfl e0_ dX8_awake_38
      · have hf := ite_n hf c3
        refine lv_iload_n hx hb dX8_awake_12 rfl (lv_at hl 2 rfl) ?_
        refine lv_aload_n hx hb dX8_awake_13 rfl (lv_at hl 0 rfl) ?_
        refine va_get (D := D) (ci := 7) (v := .ref q_o_board) (C := RX8) (T := TX8) (N := 35) hx hb hts hinX8 hown hK.1 hP 0 rfl rfl 30 (by decide) g41 (fun _ h9 => h9) rfl dX8_awake_14 ?_
        refine lv_iload_n hx hb dX8_awake_17 rfl (lv_at hl 1 rfl) ?_
        refine lv_iload_n hx hb dX8_awake_18 rfl (lv_at hl 3 rfl) ?_
        refine lv_iadd hx hb dX8_awake_19 ?_
        obtain ⟨g4, hf⟩ := ing_some hf
        refine va_iald hx hb hK.1 hP 1 1 rfl rfl g4 dX8_awake_20 ?_
        refine lv_if_le (tgt := 28) hx hb dX8_awake_21 (by decide) (fun c5 => ?_) (fun c5 => ?_)
        · have hf := ite_p hf c5
          refine lv_iconst (v := 0) hx hb dX8_awake_28 (by decide) ?_
          exact L29 x1 x3 x2 0 ls hf (lv_sub hl [0, 1, 3] rfl)
        · have hf := ite_n hf c5
          refine lv_iconst (v := 1) hx hb dX8_awake_24 (by decide) ?_
          refine lv_goto (tgt := 29) hx hb dX8_awake_25 (by decide) ?_
          exact L29 x1 x3 x2 1 ls hf (lv_sub hl [0, 1, 3] rfl)
  unfold f_X8_awake at hf
  refine lv_iconst (v := 0) hx hb dX8_awake_0 (by decide) ?_
  refine lv_istore_n (lv' := [(2, .int 0), (0, .ref q_o), (1, .int p1)]) hx hb dX8_awake_1 rfl hl (by decide) rfl (fun ls hl => ?_)
  refine lv_iconst (v := 0) hx hb dX8_awake_2 (by decide) ?_
  refine lv_istore_n (lv' := [(3, .int 0), (2, .int 0), (0, .ref q_o), (1, .int p1)]) hx hb dX8_awake_3 rfl hl (by decide) rfl (fun ls hl => ?_)
  exact L4 FU p1 0 0 ls hf (lv_sub hl [2, 3, 1, 0] rfl)
def f_X8_save_102 (o_members : Int32) (o_cold : Int32) (o_seconds : Nat → Int32) (o_s : Nat → Int32) (x3 : Int32) (o_thrown : Int32) (o_board : Nat → Int32) (o_pick : Nat → Int32) (o_best : Nat → Int32) : Option (Int32 × Int32 × (Nat → Int32) × (Nat → Int32) × (Nat → Int32)) :=
  some (x3, o_thrown, o_board, o_pick, o_best)
def f_X8_save_86 (o_members : Int32) (o_cold : Int32) (o_seconds : Nat → Int32) (o_s : Nat → Int32) (K31 : Int32 → Int32 → Int32 → Int32 → Int32 → (Nat → Int32) → (Nat → Int32) → (Nat → Int32) → (Option (Int32 × Int32 × (Nat → Int32) × (Nat → Int32) × (Nat → Int32)))) (x1 : Int32) (x2 : Int32) (x3 : Int32) (x4 : Int32) (o_thrown : Int32) (o_board : Nat → Int32) (o_pick : Nat → Int32) (o_best : Nat → Int32) : Option (Int32 × Int32 × (Nat → Int32) × (Nat → Int32) × (Nat → Int32)) :=
  bnd (x4 + 1) fun y1 =>
  K31 x1 x2 x3 y1 o_thrown o_board o_pick o_best
def f_X8_save_31_b (o_members : Int32) (o_cold : Int32) (o_seconds : Nat → Int32) (o_s : Nat → Int32) (K31 : Int32 → Int32 → Int32 → Int32 → Int32 → (Nat → Int32) → (Nat → Int32) → (Nat → Int32) → (Option (Int32 × Int32 × (Nat → Int32) × (Nat → Int32) × (Nat → Int32)))) (x1 : Int32) (x2 : Int32) (x3 : Int32) (x4 : Int32) (o_thrown : Int32) (o_board : Nat → Int32) (o_pick : Nat → Int32) (o_best : Nat → Int32) : Option (Int32 × Int32 × (Nat → Int32) × (Nat → Int32) × (Nat → Int32)) :=
  ob1 (f_X8_plans o_members x1) fun r2 =>
  if r2 ≤ x4 then (
    if x3 = ((-9)) then (
      f_X8_save_102 o_members o_cold o_seconds o_s x3 o_thrown o_board o_pick o_best
    ) else (
      if (0 : Int32) ≤ x2 then (
        if x1 ≤ x2 then (
          some ((-5), o_thrown, o_board, o_pick, o_best)
        ) else (
          ing x2 5 <|
          some (o_best x2.toNatClampNeg, o_thrown, o_board, o_pick, o_best)
        )
      ) else (
        f_X8_save_102 o_members o_cold o_seconds o_s x3 o_thrown o_board o_pick o_best
      )
    )
  ) else (
    ing 7 10 <|
    ob3 (f_X8_isPlan o_members o_cold o_seconds o_board o_pick x4 x1 ((-9)) (o_s (7 : Int32).toNatClampNeg)) fun r10 m11 m12 =>
    if r10 = 0 then (
      f_X8_save_86 o_members o_cold o_seconds o_s K31 x1 x2 x3 x4 o_thrown m11 m12 o_best
    ) else (
      ob1 (f_X8_awake o_members m11 (7 * x1)) fun r15 =>
      if r15 ≤ x3 then (
        f_X8_save_86 o_members o_cold o_seconds o_s K31 x1 x2 x3 x4 o_thrown m11 m12 o_best
      ) else (
        ob1 (f_X8_awake o_members m11 (7 * x1)) fun r18 =>
        ob1 (f_X8_keepsPicks m12 o_best x1) fun m20 =>
        f_X8_save_86 o_members o_cold o_seconds o_s K31 x1 x2 r18 x4 o_thrown m11 m12 m20
      )
    )
  )
def f_X8_save_31 (o_members : Int32) (o_cold : Int32) (o_seconds : Nat → Int32) (o_s : Nat → Int32) : Nat → Int32 → Int32 → Int32 → Int32 → Int32 → (Nat → Int32) → (Nat → Int32) → (Nat → Int32) → (Option (Int32 × Int32 × (Nat → Int32) × (Nat → Int32) × (Nat → Int32)))
  | 0 => fun _ _ _ _ _ _ _ _ => none
  | n + 1 => f_X8_save_31_b o_members o_cold o_seconds o_s (f_X8_save_31 o_members o_cold o_seconds o_s n)
def f_X8_save (o_members : Int32) (o_cold : Int32) (o_seconds : Nat → Int32) (o_s : Nat → Int32) (o_thrown : Int32) (o_board : Nat → Int32) (o_pick : Nat → Int32) (o_best : Nat → Int32) (p1 : Int32) (p2 : Int32) : Option (Int32 × Int32 × (Nat → Int32) × (Nat → Int32) × (Nat → Int32)) :=
  ob1 (f_X8_in p1 0 5) fun r22 =>
  if r22 = 0 then (
    some ((-1), 0, o_board, o_pick, o_best)
  ) else (
    if ((-1)) ≤ p2 then (
      ob1 (f_X8_setsBoard o_s o_board) fun m26 =>
      f_X8_save_31 o_members o_cold o_seconds o_s FU p1 p2 ((-9)) 0 0 m26 o_pick o_best
    ) else (
      some ((-1), 0, o_board, o_pick, o_best)
    )
  )
set_option maxHeartbeats 4000000 in
set_option maxRecDepth 100000 in
theorem c_X8_save (l : Launch) (D : va_G) (cB cI cZ cM cN : ClassId) (q_o : Nat) (q_o_text : Nat) (q_o_warmth : Nat) (q_o_side : Nat) (q_o_seconds : Nat) (q_o_s : Nat) (q_o_kept : Nat) (q_o_isKept : Nat) (q_o_undos : Nat) (q_o_seenAt : Nat) (q_o_seen : Nat) (q_o_board : Nat) (q_o_pick : Nat) (q_o_worth : Nat) (q_o_best : Nat) (o_thrown : Int32) (o_trace : Int64) (o_typed : Int32) (o_next : Int32) (o_token : Int32) (o_place : Int32) (o_value : Int32) (o_fault : Int32) (o_members : Int32) (o_pairs : Int32) (o_cold : Int32) (o_fur : Int32) (o_coughs : Int32) (o_draftMembers : Int32) (o_draftPairs : Int32) (o_draftCold : Int32) (o_draftFur : Int32) (o_draftCoughs : Int32) (o_undoMany : Int32) (o_seenMany : Int32) (o_chosen : Int32) (o_seconds : Nat → Int32) (o_s : Nat → Int32) (o_board : Nat → Int32) (o_pick : Nat → Int32) (o_best : Nat → Int32) (p1 : Int32) (p2 : Int32) (r : Int32) (o_thrown' : Int32) (o_board' : Nat → Int32) (o_pick' : Nat → Int32) (o_best' : Nat → Int32) (sz : Nat) (hf : f_X8_save o_members o_cold o_seconds o_s o_thrown o_board o_pick o_best p1 p2 = some (r, o_thrown', o_board', o_pick', o_best')) : Met l yX8_save wsX8_save ({ frames := 3, cells := 0, slots := 0, locals := 79 } : Room) (PM D cB cI cZ cM cN [.ref q_o, .int p1, .int p2] [(q_o, .inr (7, [.int o_thrown, .long o_trace, .ref q_o_text, .int o_typed, .int o_next, .int o_token, .int o_place, .int o_value, .int o_fault, .ref q_o_warmth, .ref q_o_side, .ref q_o_seconds, .int o_members, .int o_pairs, .int o_cold, .int o_fur, .int o_coughs, .int o_draftMembers, .int o_draftPairs, .int o_draftCold, .int o_draftFur, .int o_draftCoughs, .ref q_o_s, .ref q_o_kept, .ref q_o_isKept, .ref q_o_undos, .int o_undoMany, .ref q_o_seenAt, .ref q_o_seen, .int o_seenMany, .ref q_o_board, .ref q_o_pick, .ref q_o_worth, .ref q_o_best, .int o_chosen])), (q_o_seconds, .inl (cI, 12, .inl o_seconds)), (q_o_s, .inl (cI, 10, .inl o_s)), (q_o_board, .inl (cI, 49, .inl o_board)), (q_o_pick, .inl (cI, 6, .inl o_pick)), (q_o_best, .inl (cI, 5, .inl o_best))] sz) (QI D [(q_o, .inr (7, [.int o_thrown', .long o_trace, .ref q_o_text, .int o_typed, .int o_next, .int o_token, .int o_place, .int o_value, .int o_fault, .ref q_o_warmth, .ref q_o_side, .ref q_o_seconds, .int o_members, .int o_pairs, .int o_cold, .int o_fur, .int o_coughs, .int o_draftMembers, .int o_draftPairs, .int o_draftCold, .int o_draftFur, .int o_draftCoughs, .ref q_o_s, .ref q_o_kept, .ref q_o_isKept, .ref q_o_undos, .int o_undoMany, .ref q_o_seenAt, .ref q_o_seen, .int o_seenMany, .ref q_o_board, .ref q_o_pick, .ref q_o_worth, .ref q_o_best, .int o_chosen])), (q_o_seconds, .inl (cI, 12, .inl o_seconds)), (q_o_s, .inl (cI, 10, .inl o_s)), (q_o_board, .inl (cI, 49, .inl o_board')), (q_o_pick, .inl (cI, 6, .inl o_pick')), (q_o_best, .inl (cI, 5, .inl o_best'))] r (va_A [(q_o, .inr (7, [.int o_thrown, .long o_trace, .ref q_o_text, .int o_typed, .int o_next, .int o_token, .int o_place, .int o_value, .int o_fault, .ref q_o_warmth, .ref q_o_side, .ref q_o_seconds, .int o_members, .int o_pairs, .int o_cold, .int o_fur, .int o_coughs, .int o_draftMembers, .int o_draftPairs, .int o_draftCold, .int o_draftFur, .int o_draftCoughs, .ref q_o_s, .ref q_o_kept, .ref q_o_isKept, .ref q_o_undos, .int o_undoMany, .ref q_o_seenAt, .ref q_o_seen, .int o_seenMany, .ref q_o_board, .ref q_o_pick, .ref q_o_worth, .ref q_o_best, .int o_chosen])), (q_o_seconds, .inl (cI, 12, .inl o_seconds)), (q_o_s, .inl (cI, 10, .inl o_s)), (q_o_board, .inl (cI, 49, .inl o_board)), (q_o_pick, .inl (cI, 6, .inl o_pick)), (q_o_best, .inl (cI, 5, .inl o_best))] sz)) 0 0 (va_A [(q_o, .inr (7, [.int o_thrown, .long o_trace, .ref q_o_text, .int o_typed, .int o_next, .int o_token, .int o_place, .int o_value, .int o_fault, .ref q_o_warmth, .ref q_o_side, .ref q_o_seconds, .int o_members, .int o_pairs, .int o_cold, .int o_fur, .int o_coughs, .int o_draftMembers, .int o_draftPairs, .int o_draftCold, .int o_draftFur, .int o_draftCoughs, .ref q_o_s, .ref q_o_kept, .ref q_o_isKept, .ref q_o_undos, .int o_undoMany, .ref q_o_seenAt, .ref q_o_seen, .int o_seenMany, .ref q_o_board, .ref q_o_pick, .ref q_o_worth, .ref q_o_best, .int o_chosen])), (q_o_seconds, .inl (cI, 12, .inl o_seconds)), (q_o_s, .inl (cI, 10, .inl o_s)), (q_o_board, .inl (cI, 49, .inl o_board)), (q_o_pick, .inl (cI, 6, .inl o_pick)), (q_o_best, .inl (cI, 5, .inl o_best))] sz) := by
  refine entM (l := l) (y := yX8_save) (ws := wsX8_save) (cc := cX8_save) (av := [.ref q_o, .int p1, .int p2]) (wc := [(q_o, .inr (7, [.int o_thrown, .long o_trace, .ref q_o_text, .int o_typed, .int o_next, .int o_token, .int o_place, .int o_value, .int o_fault, .ref q_o_warmth, .ref q_o_side, .ref q_o_seconds, .int o_members, .int o_pairs, .int o_cold, .int o_fur, .int o_coughs, .int o_draftMembers, .int o_draftPairs, .int o_draftCold, .int o_draftFur, .int o_draftCoughs, .ref q_o_s, .ref q_o_kept, .ref q_o_isKept, .ref q_o_undos, .int o_undoMany, .ref q_o_seenAt, .ref q_o_seen, .int o_seenMany, .ref q_o_board, .ref q_o_pick, .ref q_o_worth, .ref q_o_best, .int o_chosen])), (q_o_seconds, .inl (cI, 12, .inl o_seconds)), (q_o_s, .inl (cI, 10, .inl o_s)), (q_o_board, .inl (cI, 49, .inl o_board)), (q_o_pick, .inl (cI, 6, .inl o_pick)), (q_o_best, .inl (cI, 5, .inl o_best))]) (sz := sz) (Qc := fun A => QI D [(q_o, .inr (7, [.int o_thrown', .long o_trace, .ref q_o_text, .int o_typed, .int o_next, .int o_token, .int o_place, .int o_value, .int o_fault, .ref q_o_warmth, .ref q_o_side, .ref q_o_seconds, .int o_members, .int o_pairs, .int o_cold, .int o_fur, .int o_coughs, .int o_draftMembers, .int o_draftPairs, .int o_draftCold, .int o_draftFur, .int o_draftCoughs, .ref q_o_s, .ref q_o_kept, .ref q_o_isKept, .ref q_o_undos, .int o_undoMany, .ref q_o_seenAt, .ref q_o_seen, .int o_seenMany, .ref q_o_board, .ref q_o_pick, .ref q_o_worth, .ref q_o_best, .int o_chosen])), (q_o_seconds, .inl (cI, 12, .inl o_seconds)), (q_o_s, .inl (cI, 10, .inl o_s)), (q_o_board, .inl (cI, 49, .inl o_board')), (q_o_pick, .inl (cI, 6, .inl o_pick')), (q_o_best, .inl (cI, 5, .inl o_best'))] r A) (by decide +kernel) rfl (Nat.le_of_ble_eq_true rfl) ?_
  intro A p e s m below meth c hx hb hr hml hown hlocks hts hK hA H locs hP hD hS ls hl
  have hown : s.vm.findClass RX8 = some m.cls := hown
  have hl : lv_has ls 5 [(0, .ref q_o), (1, .int p1), (2, .int p2)] := hl
  have hfix : CallFix p m c cX8_save 5 s ([.ref q_o, .int p1, .int p2] : List Value).toArray wsX8_save RX8 := ⟨hx, hb, hml, hown, hts⟩
  have hinX8 : ∀ w ∈ u_ws RX8 TX8 35, w ∈ wsX8_save := by decide +kernel
  have g50 := hts (.fieldLink RX8 50 "LastCoatModel" "best" "[I") (by decide +kernel)
  have g22 := hts (.fieldLink RX8 22 "LastCoatModel" "s" "[I") (by decide +kernel)
  have g63 := hts (.fieldLink RX8 63 "LastCoatModel" "thrown" "I") (by decide +kernel)
  have L102 : ∀ (x3 : Int32) (o_thrown : Int32) (o_board : Nat → Int32) (o_pick : Nat → Int32) (o_best : Nat → Int32) (H : Heap) (locs : List Loc) (ls : Array Slot), f_X8_save_102 o_members o_cold o_seconds o_s x3 o_thrown o_board o_pick o_best = some (r, o_thrown', o_board', o_pick', o_best') → va_P D vwCl [(q_o, .inr (7, [.int o_thrown, .long o_trace, .ref q_o_text, .int o_typed, .int o_next, .int o_token, .int o_place, .int o_value, .int o_fault, .ref q_o_warmth, .ref q_o_side, .ref q_o_seconds, .int o_members, .int o_pairs, .int o_cold, .int o_fur, .int o_coughs, .int o_draftMembers, .int o_draftPairs, .int o_draftCold, .int o_draftFur, .int o_draftCoughs, .ref q_o_s, .ref q_o_kept, .ref q_o_isKept, .ref q_o_undos, .int o_undoMany, .ref q_o_seenAt, .ref q_o_seen, .int o_seenMany, .ref q_o_board, .ref q_o_pick, .ref q_o_worth, .ref q_o_best, .int o_chosen])), (q_o_seconds, .inl (cI, 12, .inl o_seconds)), (q_o_s, .inl (cI, 10, .inl o_s)), (q_o_board, .inl (cI, 49, .inl o_board)), (q_o_pick, .inl (cI, 6, .inl o_pick)), (q_o_best, .inl (cI, 5, .inl o_best))] H → va_D A [(q_o, .inr (7, [.int o_thrown, .long o_trace, .ref q_o_text, .int o_typed, .int o_next, .int o_token, .int o_place, .int o_value, .int o_fault, .ref q_o_warmth, .ref q_o_side, .ref q_o_seconds, .int o_members, .int o_pairs, .int o_cold, .int o_fur, .int o_coughs, .int o_draftMembers, .int o_draftPairs, .int o_draftCold, .int o_draftFur, .int o_draftCoughs, .ref q_o_s, .ref q_o_kept, .ref q_o_isKept, .ref q_o_undos, .int o_undoMany, .ref q_o_seenAt, .ref q_o_seen, .int o_seenMany, .ref q_o_board, .ref q_o_pick, .ref q_o_worth, .ref q_o_best, .int o_chosen])), (q_o_seconds, .inl (cI, 12, .inl o_seconds)), (q_o_s, .inl (cI, 10, .inl o_s)), (q_o_board, .inl (cI, 49, .inl o_board)), (q_o_pick, .inl (cI, 6, .inl o_pick)), (q_o_best, .inl (cI, 5, .inl o_best))] → va_S A s.heap H locs → lv_has ls 5 [(3, .int x3)] → W p l e ({ frames := 3, cells := 0, slots := 0, locals := 79 } : Room) s m ([.ref q_o, .int p1, .int p2] : List Value).toArray below meth c H locs 0 0 (MQ below (QI D [(q_o, .inr (7, [.int o_thrown', .long o_trace, .ref q_o_text, .int o_typed, .int o_next, .int o_token, .int o_place, .int o_value, .int o_fault, .ref q_o_warmth, .ref q_o_side, .ref q_o_seconds, .int o_members, .int o_pairs, .int o_cold, .int o_fur, .int o_coughs, .int o_draftMembers, .int o_draftPairs, .int o_draftCold, .int o_draftFur, .int o_draftCoughs, .ref q_o_s, .ref q_o_kept, .ref q_o_isKept, .ref q_o_undos, .int o_undoMany, .ref q_o_seenAt, .ref q_o_seen, .int o_seenMany, .ref q_o_board, .ref q_o_pick, .ref q_o_worth, .ref q_o_best, .int o_chosen])), (q_o_seconds, .inl (cI, 12, .inl o_seconds)), (q_o_s, .inl (cI, 10, .inl o_s)), (q_o_board, .inl (cI, 49, .inl o_board')), (q_o_pick, .inl (cI, 6, .inl o_pick')), (q_o_best, .inl (cI, 5, .inl o_best'))] r A) ([.ref q_o, .int p1, .int p2] : List Value).toArray s 0 0 A) (F0 m 102 ls []) := by
    intro x3 o_thrown o_board o_pick o_best H locs ls hf hP hD hS hl
    unfold f_X8_save_102 at hf
    refine lv_iload_n hx hb dX8_save_102 rfl (lv_at hl 0 rfl) ?_
    refine lv_goto (tgt := 122) hx hb dX8_save_103 (by decide) ?_
    obtain ⟨e0_, e1_, e2_, e3_, e4_⟩ := tup5 hf
    have hP : va_P D vwCl [(q_o, .inr (7, [.int o_thrown', .long o_trace, .ref q_o_text, .int o_typed, .int o_next, .int o_token, .int o_place, .int o_value, .int o_fault, .ref q_o_warmth, .ref q_o_side, .ref q_o_seconds, .int o_members, .int o_pairs, .int o_cold, .int o_fur, .int o_coughs, .int o_draftMembers, .int o_draftPairs, .int o_draftCold, .int o_draftFur, .int o_draftCoughs, .ref q_o_s, .ref q_o_kept, .ref q_o_isKept, .ref q_o_undos, .int o_undoMany, .ref q_o_seenAt, .ref q_o_seen, .int o_seenMany, .ref q_o_board, .ref q_o_pick, .ref q_o_worth, .ref q_o_best, .int o_chosen])), (q_o_seconds, .inl (cI, 12, .inl o_seconds)), (q_o_s, .inl (cI, 10, .inl o_s)), (q_o_board, .inl (cI, 49, .inl o_board')), (q_o_pick, .inl (cI, 6, .inl o_pick')), (q_o_best, .inl (cI, 5, .inl o_best'))] H := by rw [← e1_, ← e2_, ← e3_, ← e4_]; exact hP
    have hD : va_D A [(q_o, .inr (7, [.int o_thrown', .long o_trace, .ref q_o_text, .int o_typed, .int o_next, .int o_token, .int o_place, .int o_value, .int o_fault, .ref q_o_warmth, .ref q_o_side, .ref q_o_seconds, .int o_members, .int o_pairs, .int o_cold, .int o_fur, .int o_coughs, .int o_draftMembers, .int o_draftPairs, .int o_draftCold, .int o_draftFur, .int o_draftCoughs, .ref q_o_s, .ref q_o_kept, .ref q_o_isKept, .ref q_o_undos, .int o_undoMany, .ref q_o_seenAt, .ref q_o_seen, .int o_seenMany, .ref q_o_board, .ref q_o_pick, .ref q_o_worth, .ref q_o_best, .int o_chosen])), (q_o_seconds, .inl (cI, 12, .inl o_seconds)), (q_o_s, .inl (cI, 10, .inl o_s)), (q_o_board, .inl (cI, 49, .inl o_board')), (q_o_pick, .inl (cI, 6, .inl o_pick')), (q_o_best, .inl (cI, 5, .inl o_best'))] := by rw [← e1_, ← e2_, ← e3_, ← e4_]; exact hD
    exact endMI hx hb hr hlocks rfl hP hD hS e0_ dX8_save_122
  have L31 : ∀ (n31 : Nat) (x1 : Int32) (x2 : Int32) (x3 : Int32) (x4 : Int32) (o_thrown : Int32) (o_board : Nat → Int32) (o_pick : Nat → Int32) (o_best : Nat → Int32) (H : Heap) (locs : List Loc) (ls : Array Slot), f_X8_save_31 o_members o_cold o_seconds o_s n31 x1 x2 x3 x4 o_thrown o_board o_pick o_best = some (r, o_thrown', o_board', o_pick', o_best') → va_P D vwCl [(q_o, .inr (7, [.int o_thrown, .long o_trace, .ref q_o_text, .int o_typed, .int o_next, .int o_token, .int o_place, .int o_value, .int o_fault, .ref q_o_warmth, .ref q_o_side, .ref q_o_seconds, .int o_members, .int o_pairs, .int o_cold, .int o_fur, .int o_coughs, .int o_draftMembers, .int o_draftPairs, .int o_draftCold, .int o_draftFur, .int o_draftCoughs, .ref q_o_s, .ref q_o_kept, .ref q_o_isKept, .ref q_o_undos, .int o_undoMany, .ref q_o_seenAt, .ref q_o_seen, .int o_seenMany, .ref q_o_board, .ref q_o_pick, .ref q_o_worth, .ref q_o_best, .int o_chosen])), (q_o_seconds, .inl (cI, 12, .inl o_seconds)), (q_o_s, .inl (cI, 10, .inl o_s)), (q_o_board, .inl (cI, 49, .inl o_board)), (q_o_pick, .inl (cI, 6, .inl o_pick)), (q_o_best, .inl (cI, 5, .inl o_best))] H → va_D A [(q_o, .inr (7, [.int o_thrown, .long o_trace, .ref q_o_text, .int o_typed, .int o_next, .int o_token, .int o_place, .int o_value, .int o_fault, .ref q_o_warmth, .ref q_o_side, .ref q_o_seconds, .int o_members, .int o_pairs, .int o_cold, .int o_fur, .int o_coughs, .int o_draftMembers, .int o_draftPairs, .int o_draftCold, .int o_draftFur, .int o_draftCoughs, .ref q_o_s, .ref q_o_kept, .ref q_o_isKept, .ref q_o_undos, .int o_undoMany, .ref q_o_seenAt, .ref q_o_seen, .int o_seenMany, .ref q_o_board, .ref q_o_pick, .ref q_o_worth, .ref q_o_best, .int o_chosen])), (q_o_seconds, .inl (cI, 12, .inl o_seconds)), (q_o_s, .inl (cI, 10, .inl o_s)), (q_o_board, .inl (cI, 49, .inl o_board)), (q_o_pick, .inl (cI, 6, .inl o_pick)), (q_o_best, .inl (cI, 5, .inl o_best))] → va_S A s.heap H locs → lv_has ls 5 [(0, .ref q_o), (1, .int x1), (2, .int x2), (3, .int x3), (4, .int x4)] → W p l e ({ frames := 3, cells := 0, slots := 0, locals := 79 } : Room) s m ([.ref q_o, .int p1, .int p2] : List Value).toArray below meth c H locs 0 0 (MQ below (QI D [(q_o, .inr (7, [.int o_thrown', .long o_trace, .ref q_o_text, .int o_typed, .int o_next, .int o_token, .int o_place, .int o_value, .int o_fault, .ref q_o_warmth, .ref q_o_side, .ref q_o_seconds, .int o_members, .int o_pairs, .int o_cold, .int o_fur, .int o_coughs, .int o_draftMembers, .int o_draftPairs, .int o_draftCold, .int o_draftFur, .int o_draftCoughs, .ref q_o_s, .ref q_o_kept, .ref q_o_isKept, .ref q_o_undos, .int o_undoMany, .ref q_o_seenAt, .ref q_o_seen, .int o_seenMany, .ref q_o_board, .ref q_o_pick, .ref q_o_worth, .ref q_o_best, .int o_chosen])), (q_o_seconds, .inl (cI, 12, .inl o_seconds)), (q_o_s, .inl (cI, 10, .inl o_s)), (q_o_board, .inl (cI, 49, .inl o_board')), (q_o_pick, .inl (cI, 6, .inl o_pick')), (q_o_best, .inl (cI, 5, .inl o_best'))] r A) ([.ref q_o, .int p1, .int p2] : List Value).toArray s 0 0 A) (F0 m 31 ls []) := by
    intro n31
    induction n31 with
    | zero =>
      intro x1 x2 x3 x4 o_thrown o_board o_pick o_best H locs ls hf hP hD hS hl
      exact noneNe hf
    | succ n31 ih31 =>
      have L86 : ∀ (x1 : Int32) (x2 : Int32) (x3 : Int32) (x4 : Int32) (o_thrown : Int32) (o_board : Nat → Int32) (o_pick : Nat → Int32) (o_best : Nat → Int32) (H : Heap) (locs : List Loc) (ls : Array Slot), f_X8_save_86 o_members o_cold o_seconds o_s (f_X8_save_31 o_members o_cold o_seconds o_s n31) x1 x2 x3 x4 o_thrown o_board o_pick o_best = some (r, o_thrown', o_board', o_pick', o_best') → va_P D vwCl [(q_o, .inr (7, [.int o_thrown, .long o_trace, .ref q_o_text, .int o_typed, .int o_next, .int o_token, .int o_place, .int o_value, .int o_fault, .ref q_o_warmth, .ref q_o_side, .ref q_o_seconds, .int o_members, .int o_pairs, .int o_cold, .int o_fur, .int o_coughs, .int o_draftMembers, .int o_draftPairs, .int o_draftCold, .int o_draftFur, .int o_draftCoughs, .ref q_o_s, .ref q_o_kept, .ref q_o_isKept, .ref q_o_undos, .int o_undoMany, .ref q_o_seenAt, .ref q_o_seen, .int o_seenMany, .ref q_o_board, .ref q_o_pick, .ref q_o_worth, .ref q_o_best, .int o_chosen])), (q_o_seconds, .inl (cI, 12, .inl o_seconds)), (q_o_s, .inl (cI, 10, .inl o_s)), (q_o_board, .inl (cI, 49, .inl o_board)), (q_o_pick, .inl (cI, 6, .inl o_pick)), (q_o_best, .inl (cI, 5, .inl o_best))] H → va_D A [(q_o, .inr (7, [.int o_thrown, .long o_trace, .ref q_o_text, .int o_typed, .int o_next, .int o_token, .int o_place, .int o_value, .int o_fault, .ref q_o_warmth, .ref q_o_side, .ref q_o_seconds, .int o_members, .int o_pairs, .int o_cold, .int o_fur, .int o_coughs, .int o_draftMembers, .int o_draftPairs, .int o_draftCold, .int o_draftFur, .int o_draftCoughs, .ref q_o_s, .ref q_o_kept, .ref q_o_isKept, .ref q_o_undos, .int o_undoMany, .ref q_o_seenAt, .ref q_o_seen, .int o_seenMany, .ref q_o_board, .ref q_o_pick, .ref q_o_worth, .ref q_o_best, .int o_chosen])), (q_o_seconds, .inl (cI, 12, .inl o_seconds)), (q_o_s, .inl (cI, 10, .inl o_s)), (q_o_board, .inl (cI, 49, .inl o_board)), (q_o_pick, .inl (cI, 6, .inl o_pick)), (q_o_best, .inl (cI, 5, .inl o_best))] → va_S A s.heap H locs → lv_has ls 5 [(0, .ref q_o), (1, .int x1), (2, .int x2), (3, .int x3), (4, .int x4)] → W p l e ({ frames := 3, cells := 0, slots := 0, locals := 79 } : Room) s m ([.ref q_o, .int p1, .int p2] : List Value).toArray below meth c H locs 0 0 (MQ below (QI D [(q_o, .inr (7, [.int o_thrown', .long o_trace, .ref q_o_text, .int o_typed, .int o_next, .int o_token, .int o_place, .int o_value, .int o_fault, .ref q_o_warmth, .ref q_o_side, .ref q_o_seconds, .int o_members, .int o_pairs, .int o_cold, .int o_fur, .int o_coughs, .int o_draftMembers, .int o_draftPairs, .int o_draftCold, .int o_draftFur, .int o_draftCoughs, .ref q_o_s, .ref q_o_kept, .ref q_o_isKept, .ref q_o_undos, .int o_undoMany, .ref q_o_seenAt, .ref q_o_seen, .int o_seenMany, .ref q_o_board, .ref q_o_pick, .ref q_o_worth, .ref q_o_best, .int o_chosen])), (q_o_seconds, .inl (cI, 12, .inl o_seconds)), (q_o_s, .inl (cI, 10, .inl o_s)), (q_o_board, .inl (cI, 49, .inl o_board')), (q_o_pick, .inl (cI, 6, .inl o_pick')), (q_o_best, .inl (cI, 5, .inl o_best'))] r A) ([.ref q_o, .int p1, .int p2] : List Value).toArray s 0 0 A) (F0 m 86 ls []) := by
        intro x1 x2 x3 x4 o_thrown o_board o_pick o_best H locs ls hf hP hD hS hl
        unfold f_X8_save_86 at hf
        obtain ⟨y1, ey1⟩ : ∃ z : Int32, z = x4 + 1 := ⟨_, rfl⟩
        have hf := bnd_at hf ey1
        refine lv_iinc (v := y1) (lv' := [(4, .int y1), (0, .ref q_o), (1, .int x1), (2, .int x2), (3, .int x3)]) hx hb dX8_save_86 hl (k := 4) rfl (by rw [ey1]; rfl) (by decide) rfl (fun ls hl => ?_)
        refine lv_goto (tgt := 31) hx hb dX8_save_89 (by decide) ?_
        exact ih31 x1 x2 x3 y1 o_thrown o_board o_pick o_best _ _ ls hf hP hD hS (lv_sub hl [1, 2, 3, 4, 0] rfl)
      intro x1 x2 x3 x4 o_thrown o_board o_pick o_best H locs ls hf hP hD hS hl
      have hf : f_X8_save_31_b o_members o_cold o_seconds o_s (f_X8_save_31 o_members o_cold o_seconds o_s n31) x1 x2 x3 x4 o_thrown o_board o_pick o_best = some (r, o_thrown', o_board', o_pick', o_best') := hf
      unfold f_X8_save_31_b at hf
      refine lv_iload hx hb dX8_save_31 (lv_at hl 4 rfl) ?_
      refine lv_aload_n hx hb dX8_save_33 rfl (lv_at hl 0 rfl) ?_
      refine lv_iload_n hx hb dX8_save_34 rfl (lv_at hl 1 rfl) ?_
      obtain ⟨r2, h3, hf⟩ := ob1_some hf
      refine roV (c_X8_plans l D cB cI cZ cM cN q_o q_o_text q_o_warmth q_o_side q_o_seconds q_o_s q_o_kept q_o_isKept q_o_undos q_o_seenAt q_o_seen q_o_board q_o_pick q_o_worth q_o_best o_thrown o_trace o_typed o_next o_token o_place o_value o_fault o_members o_pairs o_cold o_fur o_coughs o_draftMembers o_draftPairs o_draftCold o_draftFur o_draftCoughs o_undoMany o_seenMany o_chosen x1 r2 h3) hfix (cwV 1 hts gX8_save_X8_plans rfl rfl rfl (by decide +kernel) ⟨Nat.le_of_ble_eq_true rfl, Nat.le_of_ble_eq_true rfl⟩) (subC hP [0] rfl) hK rfl rfl rfl rfl hl.1 rfl (Nat.le_of_ble_eq_true rfl) dX8_save_35 ⟨Nat.zero_le _, Nat.zero_le _⟩ ?_
      refine lv_icmp_ge (tgt := 92) hx hb dX8_save_38 (by decide) (fun c4 => ?_) (fun c4 => ?_)
      · have hf := ite_p hf c4
        refine lv_iload_n hx hb dX8_save_92 rfl (lv_at hl 3 rfl) ?_
        refine lv_bipush (v := (-9)) hx hb dX8_save_93 (by decide) ?_
        refine lv_icmp_eq (tgt := 102) hx hb dX8_save_95 (by decide) (fun c5 => ?_) (fun c5 => ?_)
        · have hf := ite_p hf c5
          exact L102 x3 o_thrown o_board o_pick o_best _ _ ls hf hP hD hS (lv_sub hl [3] rfl)
        · have hf := ite_n hf c5
          refine lv_iload_n hx hb dX8_save_98 rfl (lv_at hl 2 rfl) ?_
          refine lv_if_ge (tgt := 106) hx hb dX8_save_99 (by decide) (fun c6 => ?_) (fun c6 => ?_)
          · have hf := ite_p hf c6
            refine lv_iload_n hx hb dX8_save_106 rfl (lv_at hl 2 rfl) ?_
            refine lv_iload_n hx hb dX8_save_107 rfl (lv_at hl 1 rfl) ?_
            refine lv_icmp_ge (tgt := 120) hx hb dX8_save_108 (by decide) (fun c7 => ?_) (fun c7 => ?_)
            · have hf := ite_p hf c7
              refine lv_bipush (v := (-5)) hx hb dX8_save_120 (by decide) ?_
              obtain ⟨e0_, e1_, e2_, e3_, e4_⟩ := tup5 hf
              have hP : va_P D vwCl [(q_o, .inr (7, [.int o_thrown', .long o_trace, .ref q_o_text, .int o_typed, .int o_next, .int o_token, .int o_place, .int o_value, .int o_fault, .ref q_o_warmth, .ref q_o_side, .ref q_o_seconds, .int o_members, .int o_pairs, .int o_cold, .int o_fur, .int o_coughs, .int o_draftMembers, .int o_draftPairs, .int o_draftCold, .int o_draftFur, .int o_draftCoughs, .ref q_o_s, .ref q_o_kept, .ref q_o_isKept, .ref q_o_undos, .int o_undoMany, .ref q_o_seenAt, .ref q_o_seen, .int o_seenMany, .ref q_o_board, .ref q_o_pick, .ref q_o_worth, .ref q_o_best, .int o_chosen])), (q_o_seconds, .inl (cI, 12, .inl o_seconds)), (q_o_s, .inl (cI, 10, .inl o_s)), (q_o_board, .inl (cI, 49, .inl o_board')), (q_o_pick, .inl (cI, 6, .inl o_pick')), (q_o_best, .inl (cI, 5, .inl o_best'))] H := by rw [← e1_, ← e2_, ← e3_, ← e4_]; exact hP
              have hD : va_D A [(q_o, .inr (7, [.int o_thrown', .long o_trace, .ref q_o_text, .int o_typed, .int o_next, .int o_token, .int o_place, .int o_value, .int o_fault, .ref q_o_warmth, .ref q_o_side, .ref q_o_seconds, .int o_members, .int o_pairs, .int o_cold, .int o_fur, .int o_coughs, .int o_draftMembers, .int o_draftPairs, .int o_draftCold, .int o_draftFur, .int o_draftCoughs, .ref q_o_s, .ref q_o_kept, .ref q_o_isKept, .ref q_o_undos, .int o_undoMany, .ref q_o_seenAt, .ref q_o_seen, .int o_seenMany, .ref q_o_board, .ref q_o_pick, .ref q_o_worth, .ref q_o_best, .int o_chosen])), (q_o_seconds, .inl (cI, 12, .inl o_seconds)), (q_o_s, .inl (cI, 10, .inl o_s)), (q_o_board, .inl (cI, 49, .inl o_board')), (q_o_pick, .inl (cI, 6, .inl o_pick')), (q_o_best, .inl (cI, 5, .inl o_best'))] := by rw [← e1_, ← e2_, ← e3_, ← e4_]; exact hD
              exact endMI hx hb hr hlocks rfl hP hD hS e0_ dX8_save_122
            · have hf := ite_n hf c7
              refine lv_aload_n hx hb dX8_save_111 rfl (lv_at hl 0 rfl) ?_
              refine va_get (D := D) (ci := 7) (v := .ref q_o_best) (C := RX8) (T := TX8) (N := 35) hx hb hts hinX8 hown hK.1 hP 0 rfl rfl 33 (by decide) g50 (fun _ h9 => h9) rfl dX8_save_112 ?_
              refine lv_iload_n hx hb dX8_save_115 rfl (lv_at hl 2 rfl) ?_
              obtain ⟨g8, hf⟩ := ing_some hf
              refine va_iald hx hb hK.1 hP 5 1 rfl rfl g8 dX8_save_116 ?_
              refine lv_goto (tgt := 122) hx hb dX8_save_117 (by decide) ?_
              obtain ⟨e0_, e1_, e2_, e3_, e4_⟩ := tup5 hf
              have hP : va_P D vwCl [(q_o, .inr (7, [.int o_thrown', .long o_trace, .ref q_o_text, .int o_typed, .int o_next, .int o_token, .int o_place, .int o_value, .int o_fault, .ref q_o_warmth, .ref q_o_side, .ref q_o_seconds, .int o_members, .int o_pairs, .int o_cold, .int o_fur, .int o_coughs, .int o_draftMembers, .int o_draftPairs, .int o_draftCold, .int o_draftFur, .int o_draftCoughs, .ref q_o_s, .ref q_o_kept, .ref q_o_isKept, .ref q_o_undos, .int o_undoMany, .ref q_o_seenAt, .ref q_o_seen, .int o_seenMany, .ref q_o_board, .ref q_o_pick, .ref q_o_worth, .ref q_o_best, .int o_chosen])), (q_o_seconds, .inl (cI, 12, .inl o_seconds)), (q_o_s, .inl (cI, 10, .inl o_s)), (q_o_board, .inl (cI, 49, .inl o_board')), (q_o_pick, .inl (cI, 6, .inl o_pick')), (q_o_best, .inl (cI, 5, .inl o_best'))] H := by rw [← e1_, ← e2_, ← e3_, ← e4_]; exact hP
              have hD : va_D A [(q_o, .inr (7, [.int o_thrown', .long o_trace, .ref q_o_text, .int o_typed, .int o_next, .int o_token, .int o_place, .int o_value, .int o_fault, .ref q_o_warmth, .ref q_o_side, .ref q_o_seconds, .int o_members, .int o_pairs, .int o_cold, .int o_fur, .int o_coughs, .int o_draftMembers, .int o_draftPairs, .int o_draftCold, .int o_draftFur, .int o_draftCoughs, .ref q_o_s, .ref q_o_kept, .ref q_o_isKept, .ref q_o_undos, .int o_undoMany, .ref q_o_seenAt, .ref q_o_seen, .int o_seenMany, .ref q_o_board, .ref q_o_pick, .ref q_o_worth, .ref q_o_best, .int o_chosen])), (q_o_seconds, .inl (cI, 12, .inl o_seconds)), (q_o_s, .inl (cI, 10, .inl o_s)), (q_o_board, .inl (cI, 49, .inl o_board')), (q_o_pick, .inl (cI, 6, .inl o_pick')), (q_o_best, .inl (cI, 5, .inl o_best'))] := by rw [← e1_, ← e2_, ← e3_, ← e4_]; exact hD
              exact endMI hx hb hr hlocks rfl hP hD hS e0_ dX8_save_122
          · have hf := ite_n hf c6
            exact L102 x3 o_thrown o_board o_pick o_best _ _ ls hf hP hD hS (lv_sub hl [3] rfl)
      · have hf := ite_n hf c4
        refine lv_aload_n hx hb dX8_save_41 rfl (lv_at hl 0 rfl) ?_
        refine lv_iload hx hb dX8_save_42 (lv_at hl 4 rfl) ?_
        refine lv_iload_n hx hb dX8_save_44 rfl (lv_at hl 1 rfl) ?_
        refine lv_bipush (v := (-9)) hx hb dX8_save_45 (by decide) ?_
        refine lv_aload_n hx hb dX8_save_47 rfl (lv_at hl 0 rfl) ?_
        refine va_get (D := D) (ci := 7) (v := .ref q_o_s) (C := RX8) (T := TX8) (N := 35) hx hb hts hinX8 hown hK.1 hP 0 rfl rfl 22 (by decide) g22 (fun _ h9 => h9) rfl dX8_save_48 ?_
        refine lv_bipush (v := 7) hx hb dX8_save_51 (by decide) ?_
        obtain ⟨g9, hf⟩ := ing_some hf
        refine va_iald hx hb hK.1 hP 2 1 rfl rfl g9 dX8_save_53 ?_
        obtain ⟨r10, m11, m12, h13, hf⟩ := ob3_some hf
        refine muV (wr := [(q_o_s, .inl (cI, 10, .inl o_s)), (q_o_best, .inl (cI, 5, .inl o_best))]) (ws1 := [(q_o, .inr (7, [.int o_thrown, .long o_trace, .ref q_o_text, .int o_typed, .int o_next, .int o_token, .int o_place, .int o_value, .int o_fault, .ref q_o_warmth, .ref q_o_side, .ref q_o_seconds, .int o_members, .int o_pairs, .int o_cold, .int o_fur, .int o_coughs, .int o_draftMembers, .int o_draftPairs, .int o_draftCold, .int o_draftFur, .int o_draftCoughs, .ref q_o_s, .ref q_o_kept, .ref q_o_isKept, .ref q_o_undos, .int o_undoMany, .ref q_o_seenAt, .ref q_o_seen, .int o_seenMany, .ref q_o_board, .ref q_o_pick, .ref q_o_worth, .ref q_o_best, .int o_chosen])), (q_o_seconds, .inl (cI, 12, .inl o_seconds)), (q_o_s, .inl (cI, 10, .inl o_s)), (q_o_board, .inl (cI, 49, .inl m11)), (q_o_pick, .inl (cI, 6, .inl m12)), (q_o_best, .inl (cI, 5, .inl o_best))]) (c_X8_isPlan l D cB cI cZ cM cN q_o q_o_text q_o_warmth q_o_side q_o_seconds q_o_s q_o_kept q_o_isKept q_o_undos q_o_seenAt q_o_seen q_o_board q_o_pick q_o_worth q_o_best o_thrown o_trace o_typed o_next o_token o_place o_value o_fault o_members o_pairs o_cold o_fur o_coughs o_draftMembers o_draftPairs o_draftCold o_draftFur o_draftCoughs o_undoMany o_seenMany o_chosen o_seconds o_board o_pick x4 x1 ((-9)) (o_s (7 : Int32).toNatClampNeg) r10 m11 m12 H.size h13) hfix (cwV 4 hts gX8_save_X8_isPlan rfl rfl rfl (by decide +kernel) ⟨Nat.le_of_ble_eq_true rfl, Nat.le_of_ble_eq_true rfl⟩) hP hK hD hA hS [0, 1, 3, 4] [2, 5] [2, 3, 0, 4, 5, 1] rfl rfl rfl rfl (by decide) rfl rfl rfl rfl rfl rfl hl.1 rfl (Nat.le_of_ble_eq_true rfl) dX8_save_54 ⟨Nat.zero_le _, Nat.zero_le _⟩ (fun H locs hP hD hS => ?_)
        refine lv_if_eq (tgt := 86) hx hb dX8_save_57 (by decide) (fun c14 => ?_) (fun c14 => ?_)
        · have hf := ite_p hf c14
          exact L86 x1 x2 x3 x4 o_thrown m11 m12 o_best _ _ ls hf hP hD hS (lv_sub hl [0, 1, 2, 3, 4] rfl)
        · have hf := ite_n hf c14
          refine lv_aload_n hx hb dX8_save_60 rfl (lv_at hl 0 rfl) ?_
          refine lv_bipush (v := 7) hx hb dX8_save_61 (by decide) ?_
          refine lv_iload_n hx hb dX8_save_63 rfl (lv_at hl 1 rfl) ?_
          refine lv_imul hx hb dX8_save_64 ?_
          obtain ⟨r15, h16, hf⟩ := ob1_some hf
          refine roV (c_X8_awake l D cB cI cZ cM cN q_o q_o_text q_o_warmth q_o_side q_o_seconds q_o_s q_o_kept q_o_isKept q_o_undos q_o_seenAt q_o_seen q_o_board q_o_pick q_o_worth q_o_best o_thrown o_trace o_typed o_next o_token o_place o_value o_fault o_members o_pairs o_cold o_fur o_coughs o_draftMembers o_draftPairs o_draftCold o_draftFur o_draftCoughs o_undoMany o_seenMany o_chosen m11 (7 * x1) r15 h16) hfix (cwV 1 hts gX8_save_X8_awake rfl rfl rfl (by decide +kernel) ⟨Nat.le_of_ble_eq_true rfl, Nat.le_of_ble_eq_true rfl⟩) (subC hP [0, 3] rfl) hK rfl rfl rfl rfl hl.1 rfl (Nat.le_of_ble_eq_true rfl) dX8_save_65 ⟨Nat.zero_le _, Nat.zero_le _⟩ ?_
          refine lv_iload_n hx hb dX8_save_68 rfl (lv_at hl 3 rfl) ?_
          refine lv_icmp_le (tgt := 86) hx hb dX8_save_69 (by decide) (fun c17 => ?_) (fun c17 => ?_)
          · have hf := ite_p hf c17
            exact L86 x1 x2 x3 x4 o_thrown m11 m12 o_best _ _ ls hf hP hD hS (lv_sub hl [0, 1, 2, 3, 4] rfl)
          · have hf := ite_n hf c17
            refine lv_aload_n hx hb dX8_save_72 rfl (lv_at hl 0 rfl) ?_
            refine lv_bipush (v := 7) hx hb dX8_save_73 (by decide) ?_
            refine lv_iload_n hx hb dX8_save_75 rfl (lv_at hl 1 rfl) ?_
            refine lv_imul hx hb dX8_save_76 ?_
            obtain ⟨r18, h19, hf⟩ := ob1_some hf
            refine roV (c_X8_awake l D cB cI cZ cM cN q_o q_o_text q_o_warmth q_o_side q_o_seconds q_o_s q_o_kept q_o_isKept q_o_undos q_o_seenAt q_o_seen q_o_board q_o_pick q_o_worth q_o_best o_thrown o_trace o_typed o_next o_token o_place o_value o_fault o_members o_pairs o_cold o_fur o_coughs o_draftMembers o_draftPairs o_draftCold o_draftFur o_draftCoughs o_undoMany o_seenMany o_chosen m11 (7 * x1) r18 h19) hfix (cwV 1 hts gX8_save_X8_awake rfl rfl rfl (by decide +kernel) ⟨Nat.le_of_ble_eq_true rfl, Nat.le_of_ble_eq_true rfl⟩) (subC hP [0, 3] rfl) hK rfl rfl rfl rfl hl.1 rfl (Nat.le_of_ble_eq_true rfl) dX8_save_77 ⟨Nat.zero_le _, Nat.zero_le _⟩ ?_
            refine lv_istore_n (lv' := [(3, .int r18), (0, .ref q_o), (1, .int x1), (2, .int x2), (4, .int x4)]) hx hb dX8_save_80 rfl hl (by decide) rfl (fun ls hl => ?_)
            refine lv_aload_n hx hb dX8_save_81 rfl (lv_at hl 1 rfl) ?_
            refine lv_iload_n hx hb dX8_save_82 rfl (lv_at hl 2 rfl) ?_
            obtain ⟨m20, h21, hf⟩ := ob1_some hf
            refine muVv (wr := [(q_o_seconds, .inl (cI, 12, .inl o_seconds)), (q_o_s, .inl (cI, 10, .inl o_s)), (q_o_board, .inl (cI, 49, .inl m11))]) (ws1 := [(q_o, .inr (7, [.int o_thrown, .long o_trace, .ref q_o_text, .int o_typed, .int o_next, .int o_token, .int o_place, .int o_value, .int o_fault, .ref q_o_warmth, .ref q_o_side, .ref q_o_seconds, .int o_members, .int o_pairs, .int o_cold, .int o_fur, .int o_coughs, .int o_draftMembers, .int o_draftPairs, .int o_draftCold, .int o_draftFur, .int o_draftCoughs, .ref q_o_s, .ref q_o_kept, .ref q_o_isKept, .ref q_o_undos, .int o_undoMany, .ref q_o_seenAt, .ref q_o_seen, .int o_seenMany, .ref q_o_board, .ref q_o_pick, .ref q_o_worth, .ref q_o_best, .int o_chosen])), (q_o_seconds, .inl (cI, 12, .inl o_seconds)), (q_o_s, .inl (cI, 10, .inl o_s)), (q_o_board, .inl (cI, 49, .inl m11)), (q_o_pick, .inl (cI, 6, .inl m12)), (q_o_best, .inl (cI, 5, .inl m20))]) (c_X8_keepsPicks l D cB cI cZ cM cN q_o q_o_text q_o_warmth q_o_side q_o_seconds q_o_s q_o_kept q_o_isKept q_o_undos q_o_seenAt q_o_seen q_o_board q_o_pick q_o_worth q_o_best o_thrown o_trace o_typed o_next o_token o_place o_value o_fault o_members o_pairs o_cold o_fur o_coughs o_draftMembers o_draftPairs o_draftCold o_draftFur o_draftCoughs o_undoMany o_seenMany o_chosen m12 o_best x1 m20 H.size h21) hfix (cwV 1 hts gX8_save_X8_keepsPicks rfl rfl rfl (by decide +kernel) ⟨Nat.le_of_ble_eq_true rfl, Nat.le_of_ble_eq_true rfl⟩) hP hK hD hA hS [0, 4, 5] [1, 2, 3] [3, 0, 1, 2, 4, 5] rfl rfl rfl rfl (by decide) rfl rfl rfl rfl rfl rfl hl.1 rfl (Nat.le_of_ble_eq_true rfl) dX8_save_83 ⟨Nat.zero_le _, Nat.zero_le _⟩ (fun H locs hP hD hS => ?_)
            exact L86 x1 x2 r18 x4 o_thrown m11 m12 m20 _ _ ls hf hP hD hS (lv_sub hl [1, 2, 3, 0, 4] rfl)
  unfold f_X8_save at hf
  refine lv_aload_n hx hb dX8_save_0 rfl (lv_at hl 0 rfl) ?_
  refine lv_iconst (v := 0) hx hb dX8_save_1 (by decide) ?_
  refine va_put (D := D) (ci := 7) (v := .int 0) (ty := .int) (C := RX8) (T := TX8) (N := 35) hx hb hts hinX8 tyX8 tyX8_ok nmX8 hown hK.1 hP hD hS 0 rfl rfl 0 (by decide) g63 (fun _ h9 => h9) rfl (by decide +kernel) rfl rfl (Nat.le_of_ble_eq_true rfl) dX8_save_2 (fun H locs hP hD hS => ?_)
  have hP : va_P D vwCl [(q_o, .inr (7, [.int 0, .long o_trace, .ref q_o_text, .int o_typed, .int o_next, .int o_token, .int o_place, .int o_value, .int o_fault, .ref q_o_warmth, .ref q_o_side, .ref q_o_seconds, .int o_members, .int o_pairs, .int o_cold, .int o_fur, .int o_coughs, .int o_draftMembers, .int o_draftPairs, .int o_draftCold, .int o_draftFur, .int o_draftCoughs, .ref q_o_s, .ref q_o_kept, .ref q_o_isKept, .ref q_o_undos, .int o_undoMany, .ref q_o_seenAt, .ref q_o_seen, .int o_seenMany, .ref q_o_board, .ref q_o_pick, .ref q_o_worth, .ref q_o_best, .int o_chosen])), (q_o_seconds, .inl (cI, 12, .inl o_seconds)), (q_o_s, .inl (cI, 10, .inl o_s)), (q_o_board, .inl (cI, 49, .inl o_board)), (q_o_pick, .inl (cI, 6, .inl o_pick)), (q_o_best, .inl (cI, 5, .inl o_best))] H := hP
  have hD : va_D A [(q_o, .inr (7, [.int 0, .long o_trace, .ref q_o_text, .int o_typed, .int o_next, .int o_token, .int o_place, .int o_value, .int o_fault, .ref q_o_warmth, .ref q_o_side, .ref q_o_seconds, .int o_members, .int o_pairs, .int o_cold, .int o_fur, .int o_coughs, .int o_draftMembers, .int o_draftPairs, .int o_draftCold, .int o_draftFur, .int o_draftCoughs, .ref q_o_s, .ref q_o_kept, .ref q_o_isKept, .ref q_o_undos, .int o_undoMany, .ref q_o_seenAt, .ref q_o_seen, .int o_seenMany, .ref q_o_board, .ref q_o_pick, .ref q_o_worth, .ref q_o_best, .int o_chosen])), (q_o_seconds, .inl (cI, 12, .inl o_seconds)), (q_o_s, .inl (cI, 10, .inl o_s)), (q_o_board, .inl (cI, 49, .inl o_board)), (q_o_pick, .inl (cI, 6, .inl o_pick)), (q_o_best, .inl (cI, 5, .inl o_best))] := hD
  refine lv_iload_n hx hb dX8_save_5 rfl (lv_at hl 1 rfl) ?_
  refine lv_iconst (v := 0) hx hb dX8_save_6 (by decide) ?_
  refine lv_iconst (v := 5) hx hb dX8_save_7 (by decide) ?_
  obtain ⟨r22, h23, hf⟩ := ob1_some hf
  refine roS (c_X8_in l D cB cI cZ cM cN p1 0 5 r22 h23) hfix (va_cwS 3 hts gX8_save_X8_in rfl rfl rfl (by decide +kernel) ⟨Nat.le_of_ble_eq_true rfl, Nat.le_of_ble_eq_true rfl⟩) (subC hP [] rfl) hK rfl hl.1 rfl (Nat.le_of_ble_eq_true rfl) dX8_save_8 ⟨Nat.zero_le _, Nat.zero_le _⟩ ?_
  refine lv_if_eq (tgt := 19) hx hb dX8_save_11 (by decide) (fun c24 => ?_) (fun c24 => ?_)
  · have hf := ite_p hf c24
    refine lv_iconst (v := (-1)) hx hb dX8_save_19 (by decide) ?_
    obtain ⟨e0_, e1_, e2_, e3_, e4_⟩ := tup5 hf
    have hP : va_P D vwCl [(q_o, .inr (7, [.int o_thrown', .long o_trace, .ref q_o_text, .int o_typed, .int o_next, .int o_token, .int o_place, .int o_value, .int o_fault, .ref q_o_warmth, .ref q_o_side, .ref q_o_seconds, .int o_members, .int o_pairs, .int o_cold, .int o_fur, .int o_coughs, .int o_draftMembers, .int o_draftPairs, .int o_draftCold, .int o_draftFur, .int o_draftCoughs, .ref q_o_s, .ref q_o_kept, .ref q_o_isKept, .ref q_o_undos, .int o_undoMany, .ref q_o_seenAt, .ref q_o_seen, .int o_seenMany, .ref q_o_board, .ref q_o_pick, .ref q_o_worth, .ref q_o_best, .int o_chosen])), (q_o_seconds, .inl (cI, 12, .inl o_seconds)), (q_o_s, .inl (cI, 10, .inl o_s)), (q_o_board, .inl (cI, 49, .inl o_board')), (q_o_pick, .inl (cI, 6, .inl o_pick')), (q_o_best, .inl (cI, 5, .inl o_best'))] H := by rw [← e1_, ← e2_, ← e3_, ← e4_]; exact hP
    have hD : va_D A [(q_o, .inr (7, [.int o_thrown', .long o_trace, .ref q_o_text, .int o_typed, .int o_next, .int o_token, .int o_place, .int o_value, .int o_fault, .ref q_o_warmth, .ref q_o_side, .ref q_o_seconds, .int o_members, .int o_pairs, .int o_cold, .int o_fur, .int o_coughs, .int o_draftMembers, .int o_draftPairs, .int o_draftCold, .int o_draftFur, .int o_draftCoughs, .ref q_o_s, .ref q_o_kept, .ref q_o_isKept, .ref q_o_undos, .int o_undoMany, .ref q_o_seenAt, .ref q_o_seen, .int o_seenMany, .ref q_o_board, .ref q_o_pick, .ref q_o_worth, .ref q_o_best, .int o_chosen])), (q_o_seconds, .inl (cI, 12, .inl o_seconds)), (q_o_s, .inl (cI, 10, .inl o_s)), (q_o_board, .inl (cI, 49, .inl o_board')), (q_o_pick, .inl (cI, 6, .inl o_pick')), (q_o_best, .inl (cI, 5, .inl o_best'))] := by rw [← e1_, ← e2_, ← e3_, ← e4_]; exact hD
    exact endMI hx hb hr hlocks rfl hP hD hS e0_ dX8_save_20
  · have hf := ite_n hf c24
    refine lv_iload_n hx hb dX8_save_14 rfl (lv_at hl 2 rfl) ?_
    refine lv_iconst (v := (-1)) hx hb dX8_save_15 (by decide) ?_
    refine lv_icmp_ge (tgt := 21) hx hb dX8_save_16 (by decide) (fun c25 => ?_) (fun c25 => ?_)
    · have hf := ite_p hf c25
      refine lv_aload_n hx hb dX8_save_21 rfl (lv_at hl 0 rfl) ?_
      obtain ⟨m26, h27, hf⟩ := ob1_some hf
      refine muVv (wr := [(q_o_seconds, .inl (cI, 12, .inl o_seconds)), (q_o_pick, .inl (cI, 6, .inl o_pick)), (q_o_best, .inl (cI, 5, .inl o_best))]) (ws1 := [(q_o, .inr (7, [.int 0, .long o_trace, .ref q_o_text, .int o_typed, .int o_next, .int o_token, .int o_place, .int o_value, .int o_fault, .ref q_o_warmth, .ref q_o_side, .ref q_o_seconds, .int o_members, .int o_pairs, .int o_cold, .int o_fur, .int o_coughs, .int o_draftMembers, .int o_draftPairs, .int o_draftCold, .int o_draftFur, .int o_draftCoughs, .ref q_o_s, .ref q_o_kept, .ref q_o_isKept, .ref q_o_undos, .int o_undoMany, .ref q_o_seenAt, .ref q_o_seen, .int o_seenMany, .ref q_o_board, .ref q_o_pick, .ref q_o_worth, .ref q_o_best, .int o_chosen])), (q_o_seconds, .inl (cI, 12, .inl o_seconds)), (q_o_s, .inl (cI, 10, .inl o_s)), (q_o_board, .inl (cI, 49, .inl m26)), (q_o_pick, .inl (cI, 6, .inl o_pick)), (q_o_best, .inl (cI, 5, .inl o_best))]) (c_X8_setsBoard l D cB cI cZ cM cN q_o q_o_text q_o_warmth q_o_side q_o_seconds q_o_s q_o_kept q_o_isKept q_o_undos q_o_seenAt q_o_seen q_o_board q_o_pick q_o_worth q_o_best 0 o_trace o_typed o_next o_token o_place o_value o_fault o_members o_pairs o_cold o_fur o_coughs o_draftMembers o_draftPairs o_draftCold o_draftFur o_draftCoughs o_undoMany o_seenMany o_chosen o_s o_board m26 H.size h27) hfix (cwV 0 hts gX8_save_X8_setsBoard rfl rfl rfl (by decide +kernel) ⟨Nat.le_of_ble_eq_true rfl, Nat.le_of_ble_eq_true rfl⟩) hP hK hD hA hS [0, 2, 3] [1, 4, 5] [3, 0, 4, 5, 1, 2] rfl rfl rfl rfl (by decide) rfl rfl rfl rfl rfl rfl hl.1 rfl (Nat.le_of_ble_eq_true rfl) dX8_save_22 ⟨Nat.zero_le _, Nat.zero_le _⟩ (fun H locs hP hD hS => ?_)
      refine lv_bipush (v := (-9)) hx hb dX8_save_25 (by decide) ?_
      refine lv_istore_n (lv' := [(3, .int ((-9))), (0, .ref q_o), (1, .int p1), (2, .int p2)]) hx hb dX8_save_27 rfl hl (by decide) rfl (fun ls hl => ?_)
      refine lv_iconst (v := 0) hx hb dX8_save_28 (by decide) ?_
      refine lv_istore (lv' := [(4, .int 0), (3, .int ((-9))), (0, .ref q_o), (1, .int p1), (2, .int p2)]) hx hb dX8_save_29 hl (by decide) rfl (fun ls hl => ?_)
      exact L31 FU p1 p2 ((-9)) 0 0 m26 o_pick o_best _ _ ls hf hP hD hS (lv_sub hl [2, 3, 4, 1, 0] rfl)
    · have hf := ite_n hf c25
      refine lv_iconst (v := (-1)) hx hb dX8_save_19 (by decide) ?_
      obtain ⟨e0_, e1_, e2_, e3_, e4_⟩ := tup5 hf
      have hP : va_P D vwCl [(q_o, .inr (7, [.int o_thrown', .long o_trace, .ref q_o_text, .int o_typed, .int o_next, .int o_token, .int o_place, .int o_value, .int o_fault, .ref q_o_warmth, .ref q_o_side, .ref q_o_seconds, .int o_members, .int o_pairs, .int o_cold, .int o_fur, .int o_coughs, .int o_draftMembers, .int o_draftPairs, .int o_draftCold, .int o_draftFur, .int o_draftCoughs, .ref q_o_s, .ref q_o_kept, .ref q_o_isKept, .ref q_o_undos, .int o_undoMany, .ref q_o_seenAt, .ref q_o_seen, .int o_seenMany, .ref q_o_board, .ref q_o_pick, .ref q_o_worth, .ref q_o_best, .int o_chosen])), (q_o_seconds, .inl (cI, 12, .inl o_seconds)), (q_o_s, .inl (cI, 10, .inl o_s)), (q_o_board, .inl (cI, 49, .inl o_board')), (q_o_pick, .inl (cI, 6, .inl o_pick')), (q_o_best, .inl (cI, 5, .inl o_best'))] H := by rw [← e1_, ← e2_, ← e3_, ← e4_]; exact hP
      have hD : va_D A [(q_o, .inr (7, [.int o_thrown', .long o_trace, .ref q_o_text, .int o_typed, .int o_next, .int o_token, .int o_place, .int o_value, .int o_fault, .ref q_o_warmth, .ref q_o_side, .ref q_o_seconds, .int o_members, .int o_pairs, .int o_cold, .int o_fur, .int o_coughs, .int o_draftMembers, .int o_draftPairs, .int o_draftCold, .int o_draftFur, .int o_draftCoughs, .ref q_o_s, .ref q_o_kept, .ref q_o_isKept, .ref q_o_undos, .int o_undoMany, .ref q_o_seenAt, .ref q_o_seen, .int o_seenMany, .ref q_o_board, .ref q_o_pick, .ref q_o_worth, .ref q_o_best, .int o_chosen])), (q_o_seconds, .inl (cI, 12, .inl o_seconds)), (q_o_s, .inl (cI, 10, .inl o_s)), (q_o_board, .inl (cI, 49, .inl o_board')), (q_o_pick, .inl (cI, 6, .inl o_pick')), (q_o_best, .inl (cI, 5, .inl o_best'))] := by rw [← e1_, ← e2_, ← e3_, ← e4_]; exact hD
      exact endMI hx hb hr hlocks rfl hP hD hS e0_ dX8_save_20
def f_X8_worth (o_members : Int32) (o_cold : Int32) (o_seconds : Nat → Int32) (o_side : Nat → Int32) (o_s : Nat → Int32) (o_thrown : Int32) (o_board : Nat → Int32) (o_pick : Nat → Int32) (o_best : Nat → Int32) (p1 : Int32) : Option (Int32 × Int32 × (Nat → Int32) × (Nat → Int32) × (Nat → Int32)) :=
  ob1 (f_X8_isMember o_members p1) fun r1 =>
  if r1 = 0 then (
    some ((-1), 0, o_board, o_pick, o_best)
  ) else (
    ob4 (f_X8_carriedBy o_members o_cold o_seconds o_side o_s o_board o_pick o_best ((-9))) fun r4 m5 m6 m7 =>
    ob4 (f_X8_carriedBy o_members o_cold o_seconds o_side o_s m5 m6 m7 p1) fun r9 m10 m11 m12 =>
    if r4 = ((-9)) then (
      some ((-9), 0, m10, m11, m12)
    ) else (
      if r9 = ((-9)) then (
        some ((-5), 0, m10, m11, m12)
      ) else (
        some (r9 - r4, 0, m10, m11, m12)
      )
    )
  )
set_option maxHeartbeats 4000000 in
set_option maxRecDepth 100000 in
theorem c_X8_worth (l : Launch) (D : va_G) (cB cI cZ cM cN : ClassId) (q_o : Nat) (q_o_text : Nat) (q_o_warmth : Nat) (q_o_side : Nat) (q_o_seconds : Nat) (q_o_s : Nat) (q_o_kept : Nat) (q_o_isKept : Nat) (q_o_undos : Nat) (q_o_seenAt : Nat) (q_o_seen : Nat) (q_o_board : Nat) (q_o_pick : Nat) (q_o_worth : Nat) (q_o_best : Nat) (o_thrown : Int32) (o_trace : Int64) (o_typed : Int32) (o_next : Int32) (o_token : Int32) (o_place : Int32) (o_value : Int32) (o_fault : Int32) (o_members : Int32) (o_pairs : Int32) (o_cold : Int32) (o_fur : Int32) (o_coughs : Int32) (o_draftMembers : Int32) (o_draftPairs : Int32) (o_draftCold : Int32) (o_draftFur : Int32) (o_draftCoughs : Int32) (o_undoMany : Int32) (o_seenMany : Int32) (o_chosen : Int32) (o_seconds : Nat → Int32) (o_side : Nat → Int32) (o_s : Nat → Int32) (o_board : Nat → Int32) (o_pick : Nat → Int32) (o_best : Nat → Int32) (p1 : Int32) (r : Int32) (o_thrown' : Int32) (o_board' : Nat → Int32) (o_pick' : Nat → Int32) (o_best' : Nat → Int32) (sz : Nat) (hf : f_X8_worth o_members o_cold o_seconds o_side o_s o_thrown o_board o_pick o_best p1 = some (r, o_thrown', o_board', o_pick', o_best')) : Met l yX8_worth wsX8_worth ({ frames := 4, cells := 0, slots := 0, locals := 102 } : Room) (PM D cB cI cZ cM cN [.ref q_o, .int p1] [(q_o, .inr (7, [.int o_thrown, .long o_trace, .ref q_o_text, .int o_typed, .int o_next, .int o_token, .int o_place, .int o_value, .int o_fault, .ref q_o_warmth, .ref q_o_side, .ref q_o_seconds, .int o_members, .int o_pairs, .int o_cold, .int o_fur, .int o_coughs, .int o_draftMembers, .int o_draftPairs, .int o_draftCold, .int o_draftFur, .int o_draftCoughs, .ref q_o_s, .ref q_o_kept, .ref q_o_isKept, .ref q_o_undos, .int o_undoMany, .ref q_o_seenAt, .ref q_o_seen, .int o_seenMany, .ref q_o_board, .ref q_o_pick, .ref q_o_worth, .ref q_o_best, .int o_chosen])), (q_o_seconds, .inl (cI, 12, .inl o_seconds)), (q_o_side, .inl (cI, 12, .inl o_side)), (q_o_s, .inl (cI, 10, .inl o_s)), (q_o_board, .inl (cI, 49, .inl o_board)), (q_o_pick, .inl (cI, 6, .inl o_pick)), (q_o_best, .inl (cI, 5, .inl o_best))] sz) (QI D [(q_o, .inr (7, [.int o_thrown', .long o_trace, .ref q_o_text, .int o_typed, .int o_next, .int o_token, .int o_place, .int o_value, .int o_fault, .ref q_o_warmth, .ref q_o_side, .ref q_o_seconds, .int o_members, .int o_pairs, .int o_cold, .int o_fur, .int o_coughs, .int o_draftMembers, .int o_draftPairs, .int o_draftCold, .int o_draftFur, .int o_draftCoughs, .ref q_o_s, .ref q_o_kept, .ref q_o_isKept, .ref q_o_undos, .int o_undoMany, .ref q_o_seenAt, .ref q_o_seen, .int o_seenMany, .ref q_o_board, .ref q_o_pick, .ref q_o_worth, .ref q_o_best, .int o_chosen])), (q_o_seconds, .inl (cI, 12, .inl o_seconds)), (q_o_side, .inl (cI, 12, .inl o_side)), (q_o_s, .inl (cI, 10, .inl o_s)), (q_o_board, .inl (cI, 49, .inl o_board')), (q_o_pick, .inl (cI, 6, .inl o_pick')), (q_o_best, .inl (cI, 5, .inl o_best'))] r (va_A [(q_o, .inr (7, [.int o_thrown, .long o_trace, .ref q_o_text, .int o_typed, .int o_next, .int o_token, .int o_place, .int o_value, .int o_fault, .ref q_o_warmth, .ref q_o_side, .ref q_o_seconds, .int o_members, .int o_pairs, .int o_cold, .int o_fur, .int o_coughs, .int o_draftMembers, .int o_draftPairs, .int o_draftCold, .int o_draftFur, .int o_draftCoughs, .ref q_o_s, .ref q_o_kept, .ref q_o_isKept, .ref q_o_undos, .int o_undoMany, .ref q_o_seenAt, .ref q_o_seen, .int o_seenMany, .ref q_o_board, .ref q_o_pick, .ref q_o_worth, .ref q_o_best, .int o_chosen])), (q_o_seconds, .inl (cI, 12, .inl o_seconds)), (q_o_side, .inl (cI, 12, .inl o_side)), (q_o_s, .inl (cI, 10, .inl o_s)), (q_o_board, .inl (cI, 49, .inl o_board)), (q_o_pick, .inl (cI, 6, .inl o_pick)), (q_o_best, .inl (cI, 5, .inl o_best))] sz)) 0 0 (va_A [(q_o, .inr (7, [.int o_thrown, .long o_trace, .ref q_o_text, .int o_typed, .int o_next, .int o_token, .int o_place, .int o_value, .int o_fault, .ref q_o_warmth, .ref q_o_side, .ref q_o_seconds, .int o_members, .int o_pairs, .int o_cold, .int o_fur, .int o_coughs, .int o_draftMembers, .int o_draftPairs, .int o_draftCold, .int o_draftFur, .int o_draftCoughs, .ref q_o_s, .ref q_o_kept, .ref q_o_isKept, .ref q_o_undos, .int o_undoMany, .ref q_o_seenAt, .ref q_o_seen, .int o_seenMany, .ref q_o_board, .ref q_o_pick, .ref q_o_worth, .ref q_o_best, .int o_chosen])), (q_o_seconds, .inl (cI, 12, .inl o_seconds)), (q_o_side, .inl (cI, 12, .inl o_side)), (q_o_s, .inl (cI, 10, .inl o_s)), (q_o_board, .inl (cI, 49, .inl o_board)), (q_o_pick, .inl (cI, 6, .inl o_pick)), (q_o_best, .inl (cI, 5, .inl o_best))] sz) := by
  refine entM (l := l) (y := yX8_worth) (ws := wsX8_worth) (cc := cX8_worth) (av := [.ref q_o, .int p1]) (wc := [(q_o, .inr (7, [.int o_thrown, .long o_trace, .ref q_o_text, .int o_typed, .int o_next, .int o_token, .int o_place, .int o_value, .int o_fault, .ref q_o_warmth, .ref q_o_side, .ref q_o_seconds, .int o_members, .int o_pairs, .int o_cold, .int o_fur, .int o_coughs, .int o_draftMembers, .int o_draftPairs, .int o_draftCold, .int o_draftFur, .int o_draftCoughs, .ref q_o_s, .ref q_o_kept, .ref q_o_isKept, .ref q_o_undos, .int o_undoMany, .ref q_o_seenAt, .ref q_o_seen, .int o_seenMany, .ref q_o_board, .ref q_o_pick, .ref q_o_worth, .ref q_o_best, .int o_chosen])), (q_o_seconds, .inl (cI, 12, .inl o_seconds)), (q_o_side, .inl (cI, 12, .inl o_side)), (q_o_s, .inl (cI, 10, .inl o_s)), (q_o_board, .inl (cI, 49, .inl o_board)), (q_o_pick, .inl (cI, 6, .inl o_pick)), (q_o_best, .inl (cI, 5, .inl o_best))]) (sz := sz) (Qc := fun A => QI D [(q_o, .inr (7, [.int o_thrown', .long o_trace, .ref q_o_text, .int o_typed, .int o_next, .int o_token, .int o_place, .int o_value, .int o_fault, .ref q_o_warmth, .ref q_o_side, .ref q_o_seconds, .int o_members, .int o_pairs, .int o_cold, .int o_fur, .int o_coughs, .int o_draftMembers, .int o_draftPairs, .int o_draftCold, .int o_draftFur, .int o_draftCoughs, .ref q_o_s, .ref q_o_kept, .ref q_o_isKept, .ref q_o_undos, .int o_undoMany, .ref q_o_seenAt, .ref q_o_seen, .int o_seenMany, .ref q_o_board, .ref q_o_pick, .ref q_o_worth, .ref q_o_best, .int o_chosen])), (q_o_seconds, .inl (cI, 12, .inl o_seconds)), (q_o_side, .inl (cI, 12, .inl o_side)), (q_o_s, .inl (cI, 10, .inl o_s)), (q_o_board, .inl (cI, 49, .inl o_board')), (q_o_pick, .inl (cI, 6, .inl o_pick')), (q_o_best, .inl (cI, 5, .inl o_best'))] r A) (by decide +kernel) rfl (Nat.le_of_ble_eq_true rfl) ?_
  intro A p e s m below meth c hx hb hr hml hown hlocks hts hK hA H locs hP hD hS ls hl
  have hown : s.vm.findClass RX8 = some m.cls := hown
  have hl : lv_has ls 4 [(0, .ref q_o), (1, .int p1)] := hl
  have hfix : CallFix p m c cX8_worth 4 s ([.ref q_o, .int p1] : List Value).toArray wsX8_worth RX8 := ⟨hx, hb, hml, hown, hts⟩
  have hinX8 : ∀ w ∈ u_ws RX8 TX8 35, w ∈ wsX8_worth := by decide +kernel
  have g63 := hts (.fieldLink RX8 63 "LastCoatModel" "thrown" "I") (by decide +kernel)
  unfold f_X8_worth at hf
  refine lv_aload_n hx hb dX8_worth_0 rfl (lv_at hl 0 rfl) ?_
  refine lv_iconst (v := 0) hx hb dX8_worth_1 (by decide) ?_
  refine va_put (D := D) (ci := 7) (v := .int 0) (ty := .int) (C := RX8) (T := TX8) (N := 35) hx hb hts hinX8 tyX8 tyX8_ok nmX8 hown hK.1 hP hD hS 0 rfl rfl 0 (by decide) g63 (fun _ h9 => h9) rfl (by decide +kernel) rfl rfl (Nat.le_of_ble_eq_true rfl) dX8_worth_2 (fun H locs hP hD hS => ?_)
  have hP : va_P D vwCl [(q_o, .inr (7, [.int 0, .long o_trace, .ref q_o_text, .int o_typed, .int o_next, .int o_token, .int o_place, .int o_value, .int o_fault, .ref q_o_warmth, .ref q_o_side, .ref q_o_seconds, .int o_members, .int o_pairs, .int o_cold, .int o_fur, .int o_coughs, .int o_draftMembers, .int o_draftPairs, .int o_draftCold, .int o_draftFur, .int o_draftCoughs, .ref q_o_s, .ref q_o_kept, .ref q_o_isKept, .ref q_o_undos, .int o_undoMany, .ref q_o_seenAt, .ref q_o_seen, .int o_seenMany, .ref q_o_board, .ref q_o_pick, .ref q_o_worth, .ref q_o_best, .int o_chosen])), (q_o_seconds, .inl (cI, 12, .inl o_seconds)), (q_o_side, .inl (cI, 12, .inl o_side)), (q_o_s, .inl (cI, 10, .inl o_s)), (q_o_board, .inl (cI, 49, .inl o_board)), (q_o_pick, .inl (cI, 6, .inl o_pick)), (q_o_best, .inl (cI, 5, .inl o_best))] H := hP
  have hD : va_D A [(q_o, .inr (7, [.int 0, .long o_trace, .ref q_o_text, .int o_typed, .int o_next, .int o_token, .int o_place, .int o_value, .int o_fault, .ref q_o_warmth, .ref q_o_side, .ref q_o_seconds, .int o_members, .int o_pairs, .int o_cold, .int o_fur, .int o_coughs, .int o_draftMembers, .int o_draftPairs, .int o_draftCold, .int o_draftFur, .int o_draftCoughs, .ref q_o_s, .ref q_o_kept, .ref q_o_isKept, .ref q_o_undos, .int o_undoMany, .ref q_o_seenAt, .ref q_o_seen, .int o_seenMany, .ref q_o_board, .ref q_o_pick, .ref q_o_worth, .ref q_o_best, .int o_chosen])), (q_o_seconds, .inl (cI, 12, .inl o_seconds)), (q_o_side, .inl (cI, 12, .inl o_side)), (q_o_s, .inl (cI, 10, .inl o_s)), (q_o_board, .inl (cI, 49, .inl o_board)), (q_o_pick, .inl (cI, 6, .inl o_pick)), (q_o_best, .inl (cI, 5, .inl o_best))] := hD
  refine lv_aload_n hx hb dX8_worth_5 rfl (lv_at hl 0 rfl) ?_
  refine lv_iload_n hx hb dX8_worth_6 rfl (lv_at hl 1 rfl) ?_
  obtain ⟨r1, h2, hf⟩ := ob1_some hf
  refine roV (c_X8_isMember l D cB cI cZ cM cN q_o q_o_text q_o_warmth q_o_side q_o_seconds q_o_s q_o_kept q_o_isKept q_o_undos q_o_seenAt q_o_seen q_o_board q_o_pick q_o_worth q_o_best 0 o_trace o_typed o_next o_token o_place o_value o_fault o_members o_pairs o_cold o_fur o_coughs o_draftMembers o_draftPairs o_draftCold o_draftFur o_draftCoughs o_undoMany o_seenMany o_chosen p1 r1 h2) hfix (cwV 1 hts gX8_worth_X8_isMember rfl rfl rfl (by decide +kernel) ⟨Nat.le_of_ble_eq_true rfl, Nat.le_of_ble_eq_true rfl⟩) (subC hP [0] rfl) hK rfl rfl rfl rfl hl.1 rfl (Nat.le_of_ble_eq_true rfl) dX8_worth_7 ⟨Nat.zero_le _, Nat.zero_le _⟩ ?_
  refine lv_if_ne (tgt := 15) hx hb dX8_worth_10 (by decide) (fun c3 => ?_) (fun c3 => ?_)
  · have hf := ite_n hf c3
    refine lv_aload_n hx hb dX8_worth_15 rfl (lv_at hl 0 rfl) ?_
    refine lv_bipush (v := (-9)) hx hb dX8_worth_16 (by decide) ?_
    obtain ⟨r4, m5, m6, m7, h8, hf⟩ := ob4_some hf
    refine muV (wr := []) (ws1 := [(q_o, .inr (7, [.int 0, .long o_trace, .ref q_o_text, .int o_typed, .int o_next, .int o_token, .int o_place, .int o_value, .int o_fault, .ref q_o_warmth, .ref q_o_side, .ref q_o_seconds, .int o_members, .int o_pairs, .int o_cold, .int o_fur, .int o_coughs, .int o_draftMembers, .int o_draftPairs, .int o_draftCold, .int o_draftFur, .int o_draftCoughs, .ref q_o_s, .ref q_o_kept, .ref q_o_isKept, .ref q_o_undos, .int o_undoMany, .ref q_o_seenAt, .ref q_o_seen, .int o_seenMany, .ref q_o_board, .ref q_o_pick, .ref q_o_worth, .ref q_o_best, .int o_chosen])), (q_o_seconds, .inl (cI, 12, .inl o_seconds)), (q_o_side, .inl (cI, 12, .inl o_side)), (q_o_s, .inl (cI, 10, .inl o_s)), (q_o_board, .inl (cI, 49, .inl m5)), (q_o_pick, .inl (cI, 6, .inl m6)), (q_o_best, .inl (cI, 5, .inl m7))]) (c_X8_carriedBy l D cB cI cZ cM cN q_o q_o_text q_o_warmth q_o_side q_o_seconds q_o_s q_o_kept q_o_isKept q_o_undos q_o_seenAt q_o_seen q_o_board q_o_pick q_o_worth q_o_best 0 o_trace o_typed o_next o_token o_place o_value o_fault o_members o_pairs o_cold o_fur o_coughs o_draftMembers o_draftPairs o_draftCold o_draftFur o_draftCoughs o_undoMany o_seenMany o_chosen o_seconds o_side o_s o_board o_pick o_best ((-9)) r4 m5 m6 m7 H.size h8) hfix (cwV 1 hts gX8_worth_X8_carriedBy rfl rfl rfl (by decide +kernel) ⟨Nat.le_of_ble_eq_true rfl, Nat.le_of_ble_eq_true rfl⟩) hP hK hD hA hS [0, 1, 2, 3, 4, 5, 6] [] [0, 1, 2, 3, 4, 5, 6] rfl rfl rfl rfl (by decide) rfl rfl rfl rfl rfl rfl hl.1 rfl (Nat.le_of_ble_eq_true rfl) dX8_worth_18 ⟨Nat.zero_le _, Nat.zero_le _⟩ (fun H locs hP hD hS => ?_)
    refine lv_istore_n (lv' := [(2, .int r4), (0, .ref q_o), (1, .int p1)]) hx hb dX8_worth_21 rfl hl (by decide) rfl (fun ls hl => ?_)
    refine lv_aload_n hx hb dX8_worth_22 rfl (lv_at hl 1 rfl) ?_
    refine lv_iload_n hx hb dX8_worth_23 rfl (lv_at hl 2 rfl) ?_
    obtain ⟨r9, m10, m11, m12, h13, hf⟩ := ob4_some hf
    refine muV (wr := []) (ws1 := [(q_o, .inr (7, [.int 0, .long o_trace, .ref q_o_text, .int o_typed, .int o_next, .int o_token, .int o_place, .int o_value, .int o_fault, .ref q_o_warmth, .ref q_o_side, .ref q_o_seconds, .int o_members, .int o_pairs, .int o_cold, .int o_fur, .int o_coughs, .int o_draftMembers, .int o_draftPairs, .int o_draftCold, .int o_draftFur, .int o_draftCoughs, .ref q_o_s, .ref q_o_kept, .ref q_o_isKept, .ref q_o_undos, .int o_undoMany, .ref q_o_seenAt, .ref q_o_seen, .int o_seenMany, .ref q_o_board, .ref q_o_pick, .ref q_o_worth, .ref q_o_best, .int o_chosen])), (q_o_seconds, .inl (cI, 12, .inl o_seconds)), (q_o_side, .inl (cI, 12, .inl o_side)), (q_o_s, .inl (cI, 10, .inl o_s)), (q_o_board, .inl (cI, 49, .inl m10)), (q_o_pick, .inl (cI, 6, .inl m11)), (q_o_best, .inl (cI, 5, .inl m12))]) (c_X8_carriedBy l D cB cI cZ cM cN q_o q_o_text q_o_warmth q_o_side q_o_seconds q_o_s q_o_kept q_o_isKept q_o_undos q_o_seenAt q_o_seen q_o_board q_o_pick q_o_worth q_o_best 0 o_trace o_typed o_next o_token o_place o_value o_fault o_members o_pairs o_cold o_fur o_coughs o_draftMembers o_draftPairs o_draftCold o_draftFur o_draftCoughs o_undoMany o_seenMany o_chosen o_seconds o_side o_s m5 m6 m7 p1 r9 m10 m11 m12 H.size h13) hfix (cwV 1 hts gX8_worth_X8_carriedBy rfl rfl rfl (by decide +kernel) ⟨Nat.le_of_ble_eq_true rfl, Nat.le_of_ble_eq_true rfl⟩) hP hK hD hA hS [0, 1, 2, 3, 4, 5, 6] [] [0, 1, 2, 3, 4, 5, 6] rfl rfl rfl rfl (by decide) rfl rfl rfl rfl rfl rfl hl.1 rfl (Nat.le_of_ble_eq_true rfl) dX8_worth_24 ⟨Nat.zero_le _, Nat.zero_le _⟩ (fun H locs hP hD hS => ?_)
    refine lv_istore_n (lv' := [(3, .int r9), (2, .int r4), (0, .ref q_o), (1, .int p1)]) hx hb dX8_worth_27 rfl hl (by decide) rfl (fun ls hl => ?_)
    refine lv_iload_n hx hb dX8_worth_28 rfl (lv_at hl 1 rfl) ?_
    refine lv_bipush (v := (-9)) hx hb dX8_worth_29 (by decide) ?_
    refine lv_icmp_ne (tgt := 39) hx hb dX8_worth_31 (by decide) (fun c14 => ?_) (fun c14 => ?_)
    · have hf := ite_n hf c14
      refine lv_iload_n hx hb dX8_worth_39 rfl (lv_at hl 0 rfl) ?_
      refine lv_bipush (v := (-9)) hx hb dX8_worth_40 (by decide) ?_
      refine lv_icmp_ne (tgt := 50) hx hb dX8_worth_42 (by decide) (fun c15 => ?_) (fun c15 => ?_)
      · have hf := ite_n hf c15
        refine lv_iload_n hx hb dX8_worth_50 rfl (lv_at hl 0 rfl) ?_
        refine lv_iload_n hx hb dX8_worth_51 rfl (lv_at hl 1 rfl) ?_
        refine lv_isub hx hb dX8_worth_52 ?_
        obtain ⟨e0_, e1_, e2_, e3_, e4_⟩ := tup5 hf
        have hP : va_P D vwCl [(q_o, .inr (7, [.int o_thrown', .long o_trace, .ref q_o_text, .int o_typed, .int o_next, .int o_token, .int o_place, .int o_value, .int o_fault, .ref q_o_warmth, .ref q_o_side, .ref q_o_seconds, .int o_members, .int o_pairs, .int o_cold, .int o_fur, .int o_coughs, .int o_draftMembers, .int o_draftPairs, .int o_draftCold, .int o_draftFur, .int o_draftCoughs, .ref q_o_s, .ref q_o_kept, .ref q_o_isKept, .ref q_o_undos, .int o_undoMany, .ref q_o_seenAt, .ref q_o_seen, .int o_seenMany, .ref q_o_board, .ref q_o_pick, .ref q_o_worth, .ref q_o_best, .int o_chosen])), (q_o_seconds, .inl (cI, 12, .inl o_seconds)), (q_o_side, .inl (cI, 12, .inl o_side)), (q_o_s, .inl (cI, 10, .inl o_s)), (q_o_board, .inl (cI, 49, .inl o_board')), (q_o_pick, .inl (cI, 6, .inl o_pick')), (q_o_best, .inl (cI, 5, .inl o_best'))] H := by rw [← e1_, ← e2_, ← e3_, ← e4_]; exact hP
        have hD : va_D A [(q_o, .inr (7, [.int o_thrown', .long o_trace, .ref q_o_text, .int o_typed, .int o_next, .int o_token, .int o_place, .int o_value, .int o_fault, .ref q_o_warmth, .ref q_o_side, .ref q_o_seconds, .int o_members, .int o_pairs, .int o_cold, .int o_fur, .int o_coughs, .int o_draftMembers, .int o_draftPairs, .int o_draftCold, .int o_draftFur, .int o_draftCoughs, .ref q_o_s, .ref q_o_kept, .ref q_o_isKept, .ref q_o_undos, .int o_undoMany, .ref q_o_seenAt, .ref q_o_seen, .int o_seenMany, .ref q_o_board, .ref q_o_pick, .ref q_o_worth, .ref q_o_best, .int o_chosen])), (q_o_seconds, .inl (cI, 12, .inl o_seconds)), (q_o_side, .inl (cI, 12, .inl o_side)), (q_o_s, .inl (cI, 10, .inl o_s)), (q_o_board, .inl (cI, 49, .inl o_board')), (q_o_pick, .inl (cI, 6, .inl o_pick')), (q_o_best, .inl (cI, 5, .inl o_best'))] := by rw [← e1_, ← e2_, ← e3_, ← e4_]; exact hD
        exact endMI hx hb hr hlocks rfl hP hD hS e0_ dX8_worth_53
      · have hf := ite_p hf c15
        refine lv_bipush (v := (-5)) hx hb dX8_worth_45 (by decide) ?_
        refine lv_goto (tgt := 53) hx hb dX8_worth_47 (by decide) ?_
        obtain ⟨e0_, e1_, e2_, e3_, e4_⟩ := tup5 hf
        have hP : va_P D vwCl [(q_o, .inr (7, [.int o_thrown', .long o_trace, .ref q_o_text, .int o_typed, .int o_next, .int o_token, .int o_place, .int o_value, .int o_fault, .ref q_o_warmth, .ref q_o_side, .ref q_o_seconds, .int o_members, .int o_pairs, .int o_cold, .int o_fur, .int o_coughs, .int o_draftMembers, .int o_draftPairs, .int o_draftCold, .int o_draftFur, .int o_draftCoughs, .ref q_o_s, .ref q_o_kept, .ref q_o_isKept, .ref q_o_undos, .int o_undoMany, .ref q_o_seenAt, .ref q_o_seen, .int o_seenMany, .ref q_o_board, .ref q_o_pick, .ref q_o_worth, .ref q_o_best, .int o_chosen])), (q_o_seconds, .inl (cI, 12, .inl o_seconds)), (q_o_side, .inl (cI, 12, .inl o_side)), (q_o_s, .inl (cI, 10, .inl o_s)), (q_o_board, .inl (cI, 49, .inl o_board')), (q_o_pick, .inl (cI, 6, .inl o_pick')), (q_o_best, .inl (cI, 5, .inl o_best'))] H := by rw [← e1_, ← e2_, ← e3_, ← e4_]; exact hP
        have hD : va_D A [(q_o, .inr (7, [.int o_thrown', .long o_trace, .ref q_o_text, .int o_typed, .int o_next, .int o_token, .int o_place, .int o_value, .int o_fault, .ref q_o_warmth, .ref q_o_side, .ref q_o_seconds, .int o_members, .int o_pairs, .int o_cold, .int o_fur, .int o_coughs, .int o_draftMembers, .int o_draftPairs, .int o_draftCold, .int o_draftFur, .int o_draftCoughs, .ref q_o_s, .ref q_o_kept, .ref q_o_isKept, .ref q_o_undos, .int o_undoMany, .ref q_o_seenAt, .ref q_o_seen, .int o_seenMany, .ref q_o_board, .ref q_o_pick, .ref q_o_worth, .ref q_o_best, .int o_chosen])), (q_o_seconds, .inl (cI, 12, .inl o_seconds)), (q_o_side, .inl (cI, 12, .inl o_side)), (q_o_s, .inl (cI, 10, .inl o_s)), (q_o_board, .inl (cI, 49, .inl o_board')), (q_o_pick, .inl (cI, 6, .inl o_pick')), (q_o_best, .inl (cI, 5, .inl o_best'))] := by rw [← e1_, ← e2_, ← e3_, ← e4_]; exact hD
        exact endMI hx hb hr hlocks rfl hP hD hS e0_ dX8_worth_53
    · have hf := ite_p hf c14
      refine lv_bipush (v := (-9)) hx hb dX8_worth_34 (by decide) ?_
      refine lv_goto (tgt := 53) hx hb dX8_worth_36 (by decide) ?_
      obtain ⟨e0_, e1_, e2_, e3_, e4_⟩ := tup5 hf
      have hP : va_P D vwCl [(q_o, .inr (7, [.int o_thrown', .long o_trace, .ref q_o_text, .int o_typed, .int o_next, .int o_token, .int o_place, .int o_value, .int o_fault, .ref q_o_warmth, .ref q_o_side, .ref q_o_seconds, .int o_members, .int o_pairs, .int o_cold, .int o_fur, .int o_coughs, .int o_draftMembers, .int o_draftPairs, .int o_draftCold, .int o_draftFur, .int o_draftCoughs, .ref q_o_s, .ref q_o_kept, .ref q_o_isKept, .ref q_o_undos, .int o_undoMany, .ref q_o_seenAt, .ref q_o_seen, .int o_seenMany, .ref q_o_board, .ref q_o_pick, .ref q_o_worth, .ref q_o_best, .int o_chosen])), (q_o_seconds, .inl (cI, 12, .inl o_seconds)), (q_o_side, .inl (cI, 12, .inl o_side)), (q_o_s, .inl (cI, 10, .inl o_s)), (q_o_board, .inl (cI, 49, .inl o_board')), (q_o_pick, .inl (cI, 6, .inl o_pick')), (q_o_best, .inl (cI, 5, .inl o_best'))] H := by rw [← e1_, ← e2_, ← e3_, ← e4_]; exact hP
      have hD : va_D A [(q_o, .inr (7, [.int o_thrown', .long o_trace, .ref q_o_text, .int o_typed, .int o_next, .int o_token, .int o_place, .int o_value, .int o_fault, .ref q_o_warmth, .ref q_o_side, .ref q_o_seconds, .int o_members, .int o_pairs, .int o_cold, .int o_fur, .int o_coughs, .int o_draftMembers, .int o_draftPairs, .int o_draftCold, .int o_draftFur, .int o_draftCoughs, .ref q_o_s, .ref q_o_kept, .ref q_o_isKept, .ref q_o_undos, .int o_undoMany, .ref q_o_seenAt, .ref q_o_seen, .int o_seenMany, .ref q_o_board, .ref q_o_pick, .ref q_o_worth, .ref q_o_best, .int o_chosen])), (q_o_seconds, .inl (cI, 12, .inl o_seconds)), (q_o_side, .inl (cI, 12, .inl o_side)), (q_o_s, .inl (cI, 10, .inl o_s)), (q_o_board, .inl (cI, 49, .inl o_board')), (q_o_pick, .inl (cI, 6, .inl o_pick')), (q_o_best, .inl (cI, 5, .inl o_best'))] := by rw [← e1_, ← e2_, ← e3_, ← e4_]; exact hD
      exact endMI hx hb hr hlocks rfl hP hD hS e0_ dX8_worth_53
  · have hf := ite_p hf c3
    refine lv_iconst (v := (-1)) hx hb dX8_worth_13 (by decide) ?_
    obtain ⟨e0_, e1_, e2_, e3_, e4_⟩ := tup5 hf
    have hP : va_P D vwCl [(q_o, .inr (7, [.int o_thrown', .long o_trace, .ref q_o_text, .int o_typed, .int o_next, .int o_token, .int o_place, .int o_value, .int o_fault, .ref q_o_warmth, .ref q_o_side, .ref q_o_seconds, .int o_members, .int o_pairs, .int o_cold, .int o_fur, .int o_coughs, .int o_draftMembers, .int o_draftPairs, .int o_draftCold, .int o_draftFur, .int o_draftCoughs, .ref q_o_s, .ref q_o_kept, .ref q_o_isKept, .ref q_o_undos, .int o_undoMany, .ref q_o_seenAt, .ref q_o_seen, .int o_seenMany, .ref q_o_board, .ref q_o_pick, .ref q_o_worth, .ref q_o_best, .int o_chosen])), (q_o_seconds, .inl (cI, 12, .inl o_seconds)), (q_o_side, .inl (cI, 12, .inl o_side)), (q_o_s, .inl (cI, 10, .inl o_s)), (q_o_board, .inl (cI, 49, .inl o_board')), (q_o_pick, .inl (cI, 6, .inl o_pick')), (q_o_best, .inl (cI, 5, .inl o_best'))] H := by rw [← e1_, ← e2_, ← e3_, ← e4_]; exact hP
    have hD : va_D A [(q_o, .inr (7, [.int o_thrown', .long o_trace, .ref q_o_text, .int o_typed, .int o_next, .int o_token, .int o_place, .int o_value, .int o_fault, .ref q_o_warmth, .ref q_o_side, .ref q_o_seconds, .int o_members, .int o_pairs, .int o_cold, .int o_fur, .int o_coughs, .int o_draftMembers, .int o_draftPairs, .int o_draftCold, .int o_draftFur, .int o_draftCoughs, .ref q_o_s, .ref q_o_kept, .ref q_o_isKept, .ref q_o_undos, .int o_undoMany, .ref q_o_seenAt, .ref q_o_seen, .int o_seenMany, .ref q_o_board, .ref q_o_pick, .ref q_o_worth, .ref q_o_best, .int o_chosen])), (q_o_seconds, .inl (cI, 12, .inl o_seconds)), (q_o_side, .inl (cI, 12, .inl o_side)), (q_o_s, .inl (cI, 10, .inl o_s)), (q_o_board, .inl (cI, 49, .inl o_board')), (q_o_pick, .inl (cI, 6, .inl o_pick')), (q_o_best, .inl (cI, 5, .inl o_best'))] := by rw [← e1_, ← e2_, ← e3_, ← e4_]; exact hD
    exact endMI hx hb hr hlocks rfl hP hD hS e0_ dX8_worth_14
def f_X8_folds_55 (o_pick : Nat → Int32) (x1 : Int32) (x2 : Int32) (o_chosen : Int32) (o_worth : Nat → Int32) : Option (Int32 × (Nat → Int32)) :=
  if x1 < 0 then (
    some (o_chosen, o_worth)
  ) else (
    if (x1 - x1 / 2 * 2) = 1 then (
      if x2 = 0 then (
        ing x1 6 <|
        bnd (upd o_worth x1.toNatClampNeg 0) fun w5 =>
        some (o_chosen, w5)
      ) else (
        some (o_chosen, o_worth)
      )
    ) else (
      some (o_chosen, o_worth)
    )
  )
def f_X8_folds_49 (o_pick : Nat → Int32) (k1 : Int32) (o_chosen : Int32) (o_worth : Nat → Int32) : Option (Int32 × (Nat → Int32)) :=
  some (k1, o_worth)
def f_X8_folds (o_pick : Nat → Int32) (o_chosen : Int32) (o_worth : Nat → Int32) (p1 : Int32) (p2 : Int32) : Option (Int32 × (Nat → Int32)) :=
  if p1 < 0 then (
    f_X8_folds_55 o_pick p1 p2 o_chosen o_worth
  ) else (
    if (p1 - p1 / 2 * 2) = 0 then (
      if p2 = 1 then (
        ing p1 6 <|
        if (o_worth p1.toNatClampNeg) = 0 then (
          ing p1 6 <|
          bnd (upd o_worth p1.toNatClampNeg 1) fun w12 =>
          if p1 = 0 then (
            ing 0 6 <|
            f_X8_folds_49 o_pick (o_pick (0 : Int32).toNatClampNeg) o_chosen w12
          ) else (
            f_X8_folds_49 o_pick o_chosen o_chosen w12
          )
        ) else (
          f_X8_folds_55 o_pick p1 p2 o_chosen o_worth
        )
      ) else (
        f_X8_folds_55 o_pick p1 p2 o_chosen o_worth
      )
    ) else (
      f_X8_folds_55 o_pick p1 p2 o_chosen o_worth
    )
  )
set_option maxHeartbeats 4000000 in
set_option maxRecDepth 100000 in
theorem c_X8_folds (l : Launch) (D : va_G) (cB cI cZ cM cN : ClassId) (q_o : Nat) (q_o_text : Nat) (q_o_warmth : Nat) (q_o_side : Nat) (q_o_seconds : Nat) (q_o_s : Nat) (q_o_kept : Nat) (q_o_isKept : Nat) (q_o_undos : Nat) (q_o_seenAt : Nat) (q_o_seen : Nat) (q_o_board : Nat) (q_o_pick : Nat) (q_o_worth : Nat) (q_o_best : Nat) (o_thrown : Int32) (o_trace : Int64) (o_typed : Int32) (o_next : Int32) (o_token : Int32) (o_place : Int32) (o_value : Int32) (o_fault : Int32) (o_members : Int32) (o_pairs : Int32) (o_cold : Int32) (o_fur : Int32) (o_coughs : Int32) (o_draftMembers : Int32) (o_draftPairs : Int32) (o_draftCold : Int32) (o_draftFur : Int32) (o_draftCoughs : Int32) (o_undoMany : Int32) (o_seenMany : Int32) (o_chosen : Int32) (o_pick : Nat → Int32) (o_worth : Nat → Int32) (p1 : Int32) (p2 : Int32) (o_chosen' : Int32) (o_worth' : Nat → Int32) (sz : Nat) (hf : f_X8_folds o_pick o_chosen o_worth p1 p2 = some (o_chosen', o_worth')) : Met l yX8_folds wsX8_folds ({ frames := 0, cells := 0, slots := 0, locals := 0 } : Room) (PM D cB cI cZ cM cN [.ref q_o, .int p1, .int p2] [(q_o, .inr (7, [.int o_thrown, .long o_trace, .ref q_o_text, .int o_typed, .int o_next, .int o_token, .int o_place, .int o_value, .int o_fault, .ref q_o_warmth, .ref q_o_side, .ref q_o_seconds, .int o_members, .int o_pairs, .int o_cold, .int o_fur, .int o_coughs, .int o_draftMembers, .int o_draftPairs, .int o_draftCold, .int o_draftFur, .int o_draftCoughs, .ref q_o_s, .ref q_o_kept, .ref q_o_isKept, .ref q_o_undos, .int o_undoMany, .ref q_o_seenAt, .ref q_o_seen, .int o_seenMany, .ref q_o_board, .ref q_o_pick, .ref q_o_worth, .ref q_o_best, .int o_chosen])), (q_o_pick, .inl (cI, 6, .inl o_pick)), (q_o_worth, .inl (cI, 6, .inl o_worth))] sz) (QV D [(q_o, .inr (7, [.int o_thrown, .long o_trace, .ref q_o_text, .int o_typed, .int o_next, .int o_token, .int o_place, .int o_value, .int o_fault, .ref q_o_warmth, .ref q_o_side, .ref q_o_seconds, .int o_members, .int o_pairs, .int o_cold, .int o_fur, .int o_coughs, .int o_draftMembers, .int o_draftPairs, .int o_draftCold, .int o_draftFur, .int o_draftCoughs, .ref q_o_s, .ref q_o_kept, .ref q_o_isKept, .ref q_o_undos, .int o_undoMany, .ref q_o_seenAt, .ref q_o_seen, .int o_seenMany, .ref q_o_board, .ref q_o_pick, .ref q_o_worth, .ref q_o_best, .int o_chosen'])), (q_o_pick, .inl (cI, 6, .inl o_pick)), (q_o_worth, .inl (cI, 6, .inl o_worth'))] (va_A [(q_o, .inr (7, [.int o_thrown, .long o_trace, .ref q_o_text, .int o_typed, .int o_next, .int o_token, .int o_place, .int o_value, .int o_fault, .ref q_o_warmth, .ref q_o_side, .ref q_o_seconds, .int o_members, .int o_pairs, .int o_cold, .int o_fur, .int o_coughs, .int o_draftMembers, .int o_draftPairs, .int o_draftCold, .int o_draftFur, .int o_draftCoughs, .ref q_o_s, .ref q_o_kept, .ref q_o_isKept, .ref q_o_undos, .int o_undoMany, .ref q_o_seenAt, .ref q_o_seen, .int o_seenMany, .ref q_o_board, .ref q_o_pick, .ref q_o_worth, .ref q_o_best, .int o_chosen])), (q_o_pick, .inl (cI, 6, .inl o_pick)), (q_o_worth, .inl (cI, 6, .inl o_worth))] sz)) 0 0 (va_A [(q_o, .inr (7, [.int o_thrown, .long o_trace, .ref q_o_text, .int o_typed, .int o_next, .int o_token, .int o_place, .int o_value, .int o_fault, .ref q_o_warmth, .ref q_o_side, .ref q_o_seconds, .int o_members, .int o_pairs, .int o_cold, .int o_fur, .int o_coughs, .int o_draftMembers, .int o_draftPairs, .int o_draftCold, .int o_draftFur, .int o_draftCoughs, .ref q_o_s, .ref q_o_kept, .ref q_o_isKept, .ref q_o_undos, .int o_undoMany, .ref q_o_seenAt, .ref q_o_seen, .int o_seenMany, .ref q_o_board, .ref q_o_pick, .ref q_o_worth, .ref q_o_best, .int o_chosen])), (q_o_pick, .inl (cI, 6, .inl o_pick)), (q_o_worth, .inl (cI, 6, .inl o_worth))] sz) := by
  refine entM (l := l) (y := yX8_folds) (ws := wsX8_folds) (cc := cX8_folds) (av := [.ref q_o, .int p1, .int p2]) (wc := [(q_o, .inr (7, [.int o_thrown, .long o_trace, .ref q_o_text, .int o_typed, .int o_next, .int o_token, .int o_place, .int o_value, .int o_fault, .ref q_o_warmth, .ref q_o_side, .ref q_o_seconds, .int o_members, .int o_pairs, .int o_cold, .int o_fur, .int o_coughs, .int o_draftMembers, .int o_draftPairs, .int o_draftCold, .int o_draftFur, .int o_draftCoughs, .ref q_o_s, .ref q_o_kept, .ref q_o_isKept, .ref q_o_undos, .int o_undoMany, .ref q_o_seenAt, .ref q_o_seen, .int o_seenMany, .ref q_o_board, .ref q_o_pick, .ref q_o_worth, .ref q_o_best, .int o_chosen])), (q_o_pick, .inl (cI, 6, .inl o_pick)), (q_o_worth, .inl (cI, 6, .inl o_worth))]) (sz := sz) (Qc := fun A => QV D [(q_o, .inr (7, [.int o_thrown, .long o_trace, .ref q_o_text, .int o_typed, .int o_next, .int o_token, .int o_place, .int o_value, .int o_fault, .ref q_o_warmth, .ref q_o_side, .ref q_o_seconds, .int o_members, .int o_pairs, .int o_cold, .int o_fur, .int o_coughs, .int o_draftMembers, .int o_draftPairs, .int o_draftCold, .int o_draftFur, .int o_draftCoughs, .ref q_o_s, .ref q_o_kept, .ref q_o_isKept, .ref q_o_undos, .int o_undoMany, .ref q_o_seenAt, .ref q_o_seen, .int o_seenMany, .ref q_o_board, .ref q_o_pick, .ref q_o_worth, .ref q_o_best, .int o_chosen'])), (q_o_pick, .inl (cI, 6, .inl o_pick)), (q_o_worth, .inl (cI, 6, .inl o_worth'))] A) (by decide +kernel) rfl (Nat.le_of_ble_eq_true rfl) ?_
  intro A p e s m below meth c hx hb hr hml hown hlocks hts hK hA H locs hP hD hS ls hl
  have hown : s.vm.findClass RX8 = some m.cls := hown
  have hl : lv_has ls 3 [(0, .ref q_o), (1, .int p1), (2, .int p2)] := hl
  have hfix : CallFix p m c cX8_folds 3 s ([.ref q_o, .int p1, .int p2] : List Value).toArray wsX8_folds RX8 := ⟨hx, hb, hml, hown, hts⟩
  have hinX8 : ∀ w ∈ u_ws RX8 TX8 35, w ∈ wsX8_folds := by decide +kernel
  have g47 := hts (.fieldLink RX8 47 "LastCoatModel" "worth" "[I") (by decide +kernel)
  have g212 := hts (.fieldLink RX8 212 "LastCoatModel" "chosen" "I") (by decide +kernel)
  have g44 := hts (.fieldLink RX8 44 "LastCoatModel" "pick" "[I") (by decide +kernel)
  have L55 : ∀ (x1 : Int32) (x2 : Int32) (o_chosen : Int32) (o_worth : Nat → Int32) (H : Heap) (locs : List Loc) (ls : Array Slot), f_X8_folds_55 o_pick x1 x2 o_chosen o_worth = some (o_chosen', o_worth') → va_P D vwCl [(q_o, .inr (7, [.int o_thrown, .long o_trace, .ref q_o_text, .int o_typed, .int o_next, .int o_token, .int o_place, .int o_value, .int o_fault, .ref q_o_warmth, .ref q_o_side, .ref q_o_seconds, .int o_members, .int o_pairs, .int o_cold, .int o_fur, .int o_coughs, .int o_draftMembers, .int o_draftPairs, .int o_draftCold, .int o_draftFur, .int o_draftCoughs, .ref q_o_s, .ref q_o_kept, .ref q_o_isKept, .ref q_o_undos, .int o_undoMany, .ref q_o_seenAt, .ref q_o_seen, .int o_seenMany, .ref q_o_board, .ref q_o_pick, .ref q_o_worth, .ref q_o_best, .int o_chosen])), (q_o_pick, .inl (cI, 6, .inl o_pick)), (q_o_worth, .inl (cI, 6, .inl o_worth))] H → va_D A [(q_o, .inr (7, [.int o_thrown, .long o_trace, .ref q_o_text, .int o_typed, .int o_next, .int o_token, .int o_place, .int o_value, .int o_fault, .ref q_o_warmth, .ref q_o_side, .ref q_o_seconds, .int o_members, .int o_pairs, .int o_cold, .int o_fur, .int o_coughs, .int o_draftMembers, .int o_draftPairs, .int o_draftCold, .int o_draftFur, .int o_draftCoughs, .ref q_o_s, .ref q_o_kept, .ref q_o_isKept, .ref q_o_undos, .int o_undoMany, .ref q_o_seenAt, .ref q_o_seen, .int o_seenMany, .ref q_o_board, .ref q_o_pick, .ref q_o_worth, .ref q_o_best, .int o_chosen])), (q_o_pick, .inl (cI, 6, .inl o_pick)), (q_o_worth, .inl (cI, 6, .inl o_worth))] → va_S A s.heap H locs → lv_has ls 3 [(0, .ref q_o), (1, .int x1), (2, .int x2)] → W p l e ({ frames := 0, cells := 0, slots := 0, locals := 0 } : Room) s m ([.ref q_o, .int p1, .int p2] : List Value).toArray below meth c H locs 0 0 (MQ below (QV D [(q_o, .inr (7, [.int o_thrown, .long o_trace, .ref q_o_text, .int o_typed, .int o_next, .int o_token, .int o_place, .int o_value, .int o_fault, .ref q_o_warmth, .ref q_o_side, .ref q_o_seconds, .int o_members, .int o_pairs, .int o_cold, .int o_fur, .int o_coughs, .int o_draftMembers, .int o_draftPairs, .int o_draftCold, .int o_draftFur, .int o_draftCoughs, .ref q_o_s, .ref q_o_kept, .ref q_o_isKept, .ref q_o_undos, .int o_undoMany, .ref q_o_seenAt, .ref q_o_seen, .int o_seenMany, .ref q_o_board, .ref q_o_pick, .ref q_o_worth, .ref q_o_best, .int o_chosen'])), (q_o_pick, .inl (cI, 6, .inl o_pick)), (q_o_worth, .inl (cI, 6, .inl o_worth'))] A) ([.ref q_o, .int p1, .int p2] : List Value).toArray s 0 0 A) (F0 m 55 ls []) := by
    intro x1 x2 o_chosen o_worth H locs ls hf hP hD hS hl
    unfold f_X8_folds_55 at hf
    refine lv_iload_n hx hb dX8_folds_55 rfl (lv_at hl 1 rfl) ?_
    refine lv_if_lt (tgt := 77) hx hb dX8_folds_56 (by decide) (fun c1 => ?_) (fun c1 => ?_)
    · have hf := ite_p hf c1
      obtain ⟨e0_, e1_⟩ := tup2 hf
      have hP : va_P D vwCl [(q_o, .inr (7, [.int o_thrown, .long o_trace, .ref q_o_text, .int o_typed, .int o_next, .int o_token, .int o_place, .int o_value, .int o_fault, .ref q_o_warmth, .ref q_o_side, .ref q_o_seconds, .int o_members, .int o_pairs, .int o_cold, .int o_fur, .int o_coughs, .int o_draftMembers, .int o_draftPairs, .int o_draftCold, .int o_draftFur, .int o_draftCoughs, .ref q_o_s, .ref q_o_kept, .ref q_o_isKept, .ref q_o_undos, .int o_undoMany, .ref q_o_seenAt, .ref q_o_seen, .int o_seenMany, .ref q_o_board, .ref q_o_pick, .ref q_o_worth, .ref q_o_best, .int o_chosen'])), (q_o_pick, .inl (cI, 6, .inl o_pick)), (q_o_worth, .inl (cI, 6, .inl o_worth'))] H := by rw [← e0_, ← e1_]; exact hP
      have hD : va_D A [(q_o, .inr (7, [.int o_thrown, .long o_trace, .ref q_o_text, .int o_typed, .int o_next, .int o_token, .int o_place, .int o_value, .int o_fault, .ref q_o_warmth, .ref q_o_side, .ref q_o_seconds, .int o_members, .int o_pairs, .int o_cold, .int o_fur, .int o_coughs, .int o_draftMembers, .int o_draftPairs, .int o_draftCold, .int o_draftFur, .int o_draftCoughs, .ref q_o_s, .ref q_o_kept, .ref q_o_isKept, .ref q_o_undos, .int o_undoMany, .ref q_o_seenAt, .ref q_o_seen, .int o_seenMany, .ref q_o_board, .ref q_o_pick, .ref q_o_worth, .ref q_o_best, .int o_chosen'])), (q_o_pick, .inl (cI, 6, .inl o_pick)), (q_o_worth, .inl (cI, 6, .inl o_worth'))] := by rw [← e0_, ← e1_]; exact hD
      exact endMV hx hb hr hlocks hP hD hS dX8_folds_77
    · have hf := ite_n hf c1
      refine lv_iload_n hx hb dX8_folds_59 rfl (lv_at hl 1 rfl) ?_
      refine lv_iconst (v := 2) hx hb dX8_folds_60 (by decide) ?_
      refine lv_irem hx hb dX8_folds_61 (by decide) ?_
      refine lv_iconst (v := 1) hx hb dX8_folds_62 (by decide) ?_
      refine lv_icmp_ne (tgt := 77) hx hb dX8_folds_63 (by decide) (fun c2 => ?_) (fun c2 => ?_)
      · have hf := ite_n hf c2
        obtain ⟨e0_, e1_⟩ := tup2 hf
        have hP : va_P D vwCl [(q_o, .inr (7, [.int o_thrown, .long o_trace, .ref q_o_text, .int o_typed, .int o_next, .int o_token, .int o_place, .int o_value, .int o_fault, .ref q_o_warmth, .ref q_o_side, .ref q_o_seconds, .int o_members, .int o_pairs, .int o_cold, .int o_fur, .int o_coughs, .int o_draftMembers, .int o_draftPairs, .int o_draftCold, .int o_draftFur, .int o_draftCoughs, .ref q_o_s, .ref q_o_kept, .ref q_o_isKept, .ref q_o_undos, .int o_undoMany, .ref q_o_seenAt, .ref q_o_seen, .int o_seenMany, .ref q_o_board, .ref q_o_pick, .ref q_o_worth, .ref q_o_best, .int o_chosen'])), (q_o_pick, .inl (cI, 6, .inl o_pick)), (q_o_worth, .inl (cI, 6, .inl o_worth'))] H := by rw [← e0_, ← e1_]; exact hP
        have hD : va_D A [(q_o, .inr (7, [.int o_thrown, .long o_trace, .ref q_o_text, .int o_typed, .int o_next, .int o_token, .int o_place, .int o_value, .int o_fault, .ref q_o_warmth, .ref q_o_side, .ref q_o_seconds, .int o_members, .int o_pairs, .int o_cold, .int o_fur, .int o_coughs, .int o_draftMembers, .int o_draftPairs, .int o_draftCold, .int o_draftFur, .int o_draftCoughs, .ref q_o_s, .ref q_o_kept, .ref q_o_isKept, .ref q_o_undos, .int o_undoMany, .ref q_o_seenAt, .ref q_o_seen, .int o_seenMany, .ref q_o_board, .ref q_o_pick, .ref q_o_worth, .ref q_o_best, .int o_chosen'])), (q_o_pick, .inl (cI, 6, .inl o_pick)), (q_o_worth, .inl (cI, 6, .inl o_worth'))] := by rw [← e0_, ← e1_]; exact hD
        exact endMV hx hb hr hlocks hP hD hS dX8_folds_77
      · have hf := ite_p hf c2
        refine lv_iload_n hx hb dX8_folds_66 rfl (lv_at hl 2 rfl) ?_
        refine lv_if_ne (tgt := 77) hx hb dX8_folds_67 (by decide) (fun c3 => ?_) (fun c3 => ?_)
        · have hf := ite_n hf c3
          obtain ⟨e0_, e1_⟩ := tup2 hf
          have hP : va_P D vwCl [(q_o, .inr (7, [.int o_thrown, .long o_trace, .ref q_o_text, .int o_typed, .int o_next, .int o_token, .int o_place, .int o_value, .int o_fault, .ref q_o_warmth, .ref q_o_side, .ref q_o_seconds, .int o_members, .int o_pairs, .int o_cold, .int o_fur, .int o_coughs, .int o_draftMembers, .int o_draftPairs, .int o_draftCold, .int o_draftFur, .int o_draftCoughs, .ref q_o_s, .ref q_o_kept, .ref q_o_isKept, .ref q_o_undos, .int o_undoMany, .ref q_o_seenAt, .ref q_o_seen, .int o_seenMany, .ref q_o_board, .ref q_o_pick, .ref q_o_worth, .ref q_o_best, .int o_chosen'])), (q_o_pick, .inl (cI, 6, .inl o_pick)), (q_o_worth, .inl (cI, 6, .inl o_worth'))] H := by rw [← e0_, ← e1_]; exact hP
          have hD : va_D A [(q_o, .inr (7, [.int o_thrown, .long o_trace, .ref q_o_text, .int o_typed, .int o_next, .int o_token, .int o_place, .int o_value, .int o_fault, .ref q_o_warmth, .ref q_o_side, .ref q_o_seconds, .int o_members, .int o_pairs, .int o_cold, .int o_fur, .int o_coughs, .int o_draftMembers, .int o_draftPairs, .int o_draftCold, .int o_draftFur, .int o_draftCoughs, .ref q_o_s, .ref q_o_kept, .ref q_o_isKept, .ref q_o_undos, .int o_undoMany, .ref q_o_seenAt, .ref q_o_seen, .int o_seenMany, .ref q_o_board, .ref q_o_pick, .ref q_o_worth, .ref q_o_best, .int o_chosen'])), (q_o_pick, .inl (cI, 6, .inl o_pick)), (q_o_worth, .inl (cI, 6, .inl o_worth'))] := by rw [← e0_, ← e1_]; exact hD
          exact endMV hx hb hr hlocks hP hD hS dX8_folds_77
        · have hf := ite_p hf c3
          refine lv_aload_n hx hb dX8_folds_70 rfl (lv_at hl 0 rfl) ?_
          refine va_get (D := D) (ci := 7) (v := .ref q_o_worth) (C := RX8) (T := TX8) (N := 35) hx hb hts hinX8 hown hK.1 hP 0 rfl rfl 32 (by decide) g47 (fun _ h9 => h9) rfl dX8_folds_71 ?_
          refine lv_iload_n hx hb dX8_folds_74 rfl (lv_at hl 1 rfl) ?_
          refine lv_iconst (v := 0) hx hb dX8_folds_75 (by decide) ?_
          obtain ⟨g4, hf⟩ := ing_some hf
          refine va_iast hx hb hK.1 hP hD hS 2 1 rfl rfl g4 dX8_folds_76 (fun H locs hP hD hS => ?_)
          obtain ⟨w5, ew5⟩ : ∃ z : Nat → Int32, z = upd o_worth x1.toNatClampNeg 0 := ⟨_, rfl⟩
          have hf := bnd_at hf ew5
          have hP : va_P D vwCl [(q_o, .inr (7, [.int o_thrown, .long o_trace, .ref q_o_text, .int o_typed, .int o_next, .int o_token, .int o_place, .int o_value, .int o_fault, .ref q_o_warmth, .ref q_o_side, .ref q_o_seconds, .int o_members, .int o_pairs, .int o_cold, .int o_fur, .int o_coughs, .int o_draftMembers, .int o_draftPairs, .int o_draftCold, .int o_draftFur, .int o_draftCoughs, .ref q_o_s, .ref q_o_kept, .ref q_o_isKept, .ref q_o_undos, .int o_undoMany, .ref q_o_seenAt, .ref q_o_seen, .int o_seenMany, .ref q_o_board, .ref q_o_pick, .ref q_o_worth, .ref q_o_best, .int o_chosen])), (q_o_pick, .inl (cI, 6, .inl o_pick)), (q_o_worth, .inl (cI, 6, .inl w5))] H := by rw [ew5]; exact hP
          have hD : va_D A [(q_o, .inr (7, [.int o_thrown, .long o_trace, .ref q_o_text, .int o_typed, .int o_next, .int o_token, .int o_place, .int o_value, .int o_fault, .ref q_o_warmth, .ref q_o_side, .ref q_o_seconds, .int o_members, .int o_pairs, .int o_cold, .int o_fur, .int o_coughs, .int o_draftMembers, .int o_draftPairs, .int o_draftCold, .int o_draftFur, .int o_draftCoughs, .ref q_o_s, .ref q_o_kept, .ref q_o_isKept, .ref q_o_undos, .int o_undoMany, .ref q_o_seenAt, .ref q_o_seen, .int o_seenMany, .ref q_o_board, .ref q_o_pick, .ref q_o_worth, .ref q_o_best, .int o_chosen])), (q_o_pick, .inl (cI, 6, .inl o_pick)), (q_o_worth, .inl (cI, 6, .inl w5))] := by rw [ew5]; exact hD
          obtain ⟨e0_, e1_⟩ := tup2 hf
          have hP : va_P D vwCl [(q_o, .inr (7, [.int o_thrown, .long o_trace, .ref q_o_text, .int o_typed, .int o_next, .int o_token, .int o_place, .int o_value, .int o_fault, .ref q_o_warmth, .ref q_o_side, .ref q_o_seconds, .int o_members, .int o_pairs, .int o_cold, .int o_fur, .int o_coughs, .int o_draftMembers, .int o_draftPairs, .int o_draftCold, .int o_draftFur, .int o_draftCoughs, .ref q_o_s, .ref q_o_kept, .ref q_o_isKept, .ref q_o_undos, .int o_undoMany, .ref q_o_seenAt, .ref q_o_seen, .int o_seenMany, .ref q_o_board, .ref q_o_pick, .ref q_o_worth, .ref q_o_best, .int o_chosen'])), (q_o_pick, .inl (cI, 6, .inl o_pick)), (q_o_worth, .inl (cI, 6, .inl o_worth'))] H := by rw [← e0_, ← e1_]; exact hP
          have hD : va_D A [(q_o, .inr (7, [.int o_thrown, .long o_trace, .ref q_o_text, .int o_typed, .int o_next, .int o_token, .int o_place, .int o_value, .int o_fault, .ref q_o_warmth, .ref q_o_side, .ref q_o_seconds, .int o_members, .int o_pairs, .int o_cold, .int o_fur, .int o_coughs, .int o_draftMembers, .int o_draftPairs, .int o_draftCold, .int o_draftFur, .int o_draftCoughs, .ref q_o_s, .ref q_o_kept, .ref q_o_isKept, .ref q_o_undos, .int o_undoMany, .ref q_o_seenAt, .ref q_o_seen, .int o_seenMany, .ref q_o_board, .ref q_o_pick, .ref q_o_worth, .ref q_o_best, .int o_chosen'])), (q_o_pick, .inl (cI, 6, .inl o_pick)), (q_o_worth, .inl (cI, 6, .inl o_worth'))] := by rw [← e0_, ← e1_]; exact hD
          exact endMV hx hb hr hlocks hP hD hS dX8_folds_77
  have L49 : ∀ (k1 : Int32) (o_chosen : Int32) (o_worth : Nat → Int32) (H : Heap) (locs : List Loc) (ls : Array Slot), f_X8_folds_49 o_pick k1 o_chosen o_worth = some (o_chosen', o_worth') → va_P D vwCl [(q_o, .inr (7, [.int o_thrown, .long o_trace, .ref q_o_text, .int o_typed, .int o_next, .int o_token, .int o_place, .int o_value, .int o_fault, .ref q_o_warmth, .ref q_o_side, .ref q_o_seconds, .int o_members, .int o_pairs, .int o_cold, .int o_fur, .int o_coughs, .int o_draftMembers, .int o_draftPairs, .int o_draftCold, .int o_draftFur, .int o_draftCoughs, .ref q_o_s, .ref q_o_kept, .ref q_o_isKept, .ref q_o_undos, .int o_undoMany, .ref q_o_seenAt, .ref q_o_seen, .int o_seenMany, .ref q_o_board, .ref q_o_pick, .ref q_o_worth, .ref q_o_best, .int o_chosen])), (q_o_pick, .inl (cI, 6, .inl o_pick)), (q_o_worth, .inl (cI, 6, .inl o_worth))] H → va_D A [(q_o, .inr (7, [.int o_thrown, .long o_trace, .ref q_o_text, .int o_typed, .int o_next, .int o_token, .int o_place, .int o_value, .int o_fault, .ref q_o_warmth, .ref q_o_side, .ref q_o_seconds, .int o_members, .int o_pairs, .int o_cold, .int o_fur, .int o_coughs, .int o_draftMembers, .int o_draftPairs, .int o_draftCold, .int o_draftFur, .int o_draftCoughs, .ref q_o_s, .ref q_o_kept, .ref q_o_isKept, .ref q_o_undos, .int o_undoMany, .ref q_o_seenAt, .ref q_o_seen, .int o_seenMany, .ref q_o_board, .ref q_o_pick, .ref q_o_worth, .ref q_o_best, .int o_chosen])), (q_o_pick, .inl (cI, 6, .inl o_pick)), (q_o_worth, .inl (cI, 6, .inl o_worth))] → va_S A s.heap H locs → lv_has ls 3 [] → W p l e ({ frames := 0, cells := 0, slots := 0, locals := 0 } : Room) s m ([.ref q_o, .int p1, .int p2] : List Value).toArray below meth c H locs 0 0 (MQ below (QV D [(q_o, .inr (7, [.int o_thrown, .long o_trace, .ref q_o_text, .int o_typed, .int o_next, .int o_token, .int o_place, .int o_value, .int o_fault, .ref q_o_warmth, .ref q_o_side, .ref q_o_seconds, .int o_members, .int o_pairs, .int o_cold, .int o_fur, .int o_coughs, .int o_draftMembers, .int o_draftPairs, .int o_draftCold, .int o_draftFur, .int o_draftCoughs, .ref q_o_s, .ref q_o_kept, .ref q_o_isKept, .ref q_o_undos, .int o_undoMany, .ref q_o_seenAt, .ref q_o_seen, .int o_seenMany, .ref q_o_board, .ref q_o_pick, .ref q_o_worth, .ref q_o_best, .int o_chosen'])), (q_o_pick, .inl (cI, 6, .inl o_pick)), (q_o_worth, .inl (cI, 6, .inl o_worth'))] A) ([.ref q_o, .int p1, .int p2] : List Value).toArray s 0 0 A) (F0 m 49 ls [.int k1, .ref q_o]) := by
    intro k1 o_chosen o_worth H locs ls hf hP hD hS hl
    unfold f_X8_folds_49 at hf
    refine va_put (D := D) (ci := 7) (v := .int k1) (ty := .int) (C := RX8) (T := TX8) (N := 35) hx hb hts hinX8 tyX8 tyX8_ok nmX8 hown hK.1 hP hD hS 0 rfl rfl 34 (by decide) g212 (fun _ h9 => h9) rfl (by decide +kernel) rfl rfl (Nat.le_of_ble_eq_true rfl) dX8_folds_49 (fun H locs hP hD hS => ?_)
    have hP : va_P D vwCl [(q_o, .inr (7, [.int o_thrown, .long o_trace, .ref q_o_text, .int o_typed, .int o_next, .int o_token, .int o_place, .int o_value, .int o_fault, .ref q_o_warmth, .ref q_o_side, .ref q_o_seconds, .int o_members, .int o_pairs, .int o_cold, .int o_fur, .int o_coughs, .int o_draftMembers, .int o_draftPairs, .int o_draftCold, .int o_draftFur, .int o_draftCoughs, .ref q_o_s, .ref q_o_kept, .ref q_o_isKept, .ref q_o_undos, .int o_undoMany, .ref q_o_seenAt, .ref q_o_seen, .int o_seenMany, .ref q_o_board, .ref q_o_pick, .ref q_o_worth, .ref q_o_best, .int k1])), (q_o_pick, .inl (cI, 6, .inl o_pick)), (q_o_worth, .inl (cI, 6, .inl o_worth))] H := hP
    have hD : va_D A [(q_o, .inr (7, [.int o_thrown, .long o_trace, .ref q_o_text, .int o_typed, .int o_next, .int o_token, .int o_place, .int o_value, .int o_fault, .ref q_o_warmth, .ref q_o_side, .ref q_o_seconds, .int o_members, .int o_pairs, .int o_cold, .int o_fur, .int o_coughs, .int o_draftMembers, .int o_draftPairs, .int o_draftCold, .int o_draftFur, .int o_draftCoughs, .ref q_o_s, .ref q_o_kept, .ref q_o_isKept, .ref q_o_undos, .int o_undoMany, .ref q_o_seenAt, .ref q_o_seen, .int o_seenMany, .ref q_o_board, .ref q_o_pick, .ref q_o_worth, .ref q_o_best, .int k1])), (q_o_pick, .inl (cI, 6, .inl o_pick)), (q_o_worth, .inl (cI, 6, .inl o_worth))] := hD
    refine lv_goto (tgt := 77) hx hb dX8_folds_52 (by decide) ?_
    obtain ⟨e0_, e1_⟩ := tup2 hf
    have hP : va_P D vwCl [(q_o, .inr (7, [.int o_thrown, .long o_trace, .ref q_o_text, .int o_typed, .int o_next, .int o_token, .int o_place, .int o_value, .int o_fault, .ref q_o_warmth, .ref q_o_side, .ref q_o_seconds, .int o_members, .int o_pairs, .int o_cold, .int o_fur, .int o_coughs, .int o_draftMembers, .int o_draftPairs, .int o_draftCold, .int o_draftFur, .int o_draftCoughs, .ref q_o_s, .ref q_o_kept, .ref q_o_isKept, .ref q_o_undos, .int o_undoMany, .ref q_o_seenAt, .ref q_o_seen, .int o_seenMany, .ref q_o_board, .ref q_o_pick, .ref q_o_worth, .ref q_o_best, .int o_chosen'])), (q_o_pick, .inl (cI, 6, .inl o_pick)), (q_o_worth, .inl (cI, 6, .inl o_worth'))] H := by rw [← e0_, ← e1_]; exact hP
    have hD : va_D A [(q_o, .inr (7, [.int o_thrown, .long o_trace, .ref q_o_text, .int o_typed, .int o_next, .int o_token, .int o_place, .int o_value, .int o_fault, .ref q_o_warmth, .ref q_o_side, .ref q_o_seconds, .int o_members, .int o_pairs, .int o_cold, .int o_fur, .int o_coughs, .int o_draftMembers, .int o_draftPairs, .int o_draftCold, .int o_draftFur, .int o_draftCoughs, .ref q_o_s, .ref q_o_kept, .ref q_o_isKept, .ref q_o_undos, .int o_undoMany, .ref q_o_seenAt, .ref q_o_seen, .int o_seenMany, .ref q_o_board, .ref q_o_pick, .ref q_o_worth, .ref q_o_best, .int o_chosen'])), (q_o_pick, .inl (cI, 6, .inl o_pick)), (q_o_worth, .inl (cI, 6, .inl o_worth'))] := by rw [← e0_, ← e1_]; exact hD
    exact endMV hx hb hr hlocks hP hD hS dX8_folds_77
  unfold f_X8_folds at hf
  refine lv_iload_n hx hb dX8_folds_0 rfl (lv_at hl 1 rfl) ?_
  refine lv_if_lt (tgt := 55) hx hb dX8_folds_1 (by decide) (fun c6 => ?_) (fun c6 => ?_)
  · have hf := ite_p hf c6
    exact L55 p1 p2 o_chosen o_worth _ _ ls hf hP hD hS (lv_sub hl [0, 1, 2] rfl)
  · have hf := ite_n hf c6
    refine lv_iload_n hx hb dX8_folds_4 rfl (lv_at hl 1 rfl) ?_
    refine lv_iconst (v := 2) hx hb dX8_folds_5 (by decide) ?_
    refine lv_irem hx hb dX8_folds_6 (by decide) ?_
    refine lv_if_ne (tgt := 55) hx hb dX8_folds_7 (by decide) (fun c7 => ?_) (fun c7 => ?_)
    · have hf := ite_n hf c7
      exact L55 p1 p2 o_chosen o_worth _ _ ls hf hP hD hS (lv_sub hl [0, 1, 2] rfl)
    · have hf := ite_p hf c7
      refine lv_iload_n hx hb dX8_folds_10 rfl (lv_at hl 2 rfl) ?_
      refine lv_iconst (v := 1) hx hb dX8_folds_11 (by decide) ?_
      refine lv_icmp_ne (tgt := 55) hx hb dX8_folds_12 (by decide) (fun c8 => ?_) (fun c8 => ?_)
      · have hf := ite_n hf c8
        exact L55 p1 p2 o_chosen o_worth _ _ ls hf hP hD hS (lv_sub hl [0, 1, 2] rfl)
      · have hf := ite_p hf c8
        refine lv_aload_n hx hb dX8_folds_15 rfl (lv_at hl 0 rfl) ?_
        refine va_get (D := D) (ci := 7) (v := .ref q_o_worth) (C := RX8) (T := TX8) (N := 35) hx hb hts hinX8 hown hK.1 hP 0 rfl rfl 32 (by decide) g47 (fun _ h9 => h9) rfl dX8_folds_16 ?_
        refine lv_iload_n hx hb dX8_folds_19 rfl (lv_at hl 1 rfl) ?_
        obtain ⟨g9, hf⟩ := ing_some hf
        refine va_iald hx hb hK.1 hP 2 1 rfl rfl g9 dX8_folds_20 ?_
        refine lv_if_ne (tgt := 55) hx hb dX8_folds_21 (by decide) (fun c10 => ?_) (fun c10 => ?_)
        · have hf := ite_n hf c10
          exact L55 p1 p2 o_chosen o_worth _ _ ls hf hP hD hS (lv_sub hl [0, 1, 2] rfl)
        · have hf := ite_p hf c10
          refine lv_aload_n hx hb dX8_folds_24 rfl (lv_at hl 0 rfl) ?_
          refine va_get (D := D) (ci := 7) (v := .ref q_o_worth) (C := RX8) (T := TX8) (N := 35) hx hb hts hinX8 hown hK.1 hP 0 rfl rfl 32 (by decide) g47 (fun _ h9 => h9) rfl dX8_folds_25 ?_
          refine lv_iload_n hx hb dX8_folds_28 rfl (lv_at hl 1 rfl) ?_
          refine lv_iconst (v := 1) hx hb dX8_folds_29 (by decide) ?_
          obtain ⟨g11, hf⟩ := ing_some hf
          refine va_iast hx hb hK.1 hP hD hS 2 1 rfl rfl g11 dX8_folds_30 (fun H locs hP hD hS => ?_)
          obtain ⟨w12, ew12⟩ : ∃ z : Nat → Int32, z = upd o_worth p1.toNatClampNeg 1 := ⟨_, rfl⟩
          have hf := bnd_at hf ew12
          have hP : va_P D vwCl [(q_o, .inr (7, [.int o_thrown, .long o_trace, .ref q_o_text, .int o_typed, .int o_next, .int o_token, .int o_place, .int o_value, .int o_fault, .ref q_o_warmth, .ref q_o_side, .ref q_o_seconds, .int o_members, .int o_pairs, .int o_cold, .int o_fur, .int o_coughs, .int o_draftMembers, .int o_draftPairs, .int o_draftCold, .int o_draftFur, .int o_draftCoughs, .ref q_o_s, .ref q_o_kept, .ref q_o_isKept, .ref q_o_undos, .int o_undoMany, .ref q_o_seenAt, .ref q_o_seen, .int o_seenMany, .ref q_o_board, .ref q_o_pick, .ref q_o_worth, .ref q_o_best, .int o_chosen])), (q_o_pick, .inl (cI, 6, .inl o_pick)), (q_o_worth, .inl (cI, 6, .inl w12))] H := by rw [ew12]; exact hP
          have hD : va_D A [(q_o, .inr (7, [.int o_thrown, .long o_trace, .ref q_o_text, .int o_typed, .int o_next, .int o_token, .int o_place, .int o_value, .int o_fault, .ref q_o_warmth, .ref q_o_side, .ref q_o_seconds, .int o_members, .int o_pairs, .int o_cold, .int o_fur, .int o_coughs, .int o_draftMembers, .int o_draftPairs, .int o_draftCold, .int o_draftFur, .int o_draftCoughs, .ref q_o_s, .ref q_o_kept, .ref q_o_isKept, .ref q_o_undos, .int o_undoMany, .ref q_o_seenAt, .ref q_o_seen, .int o_seenMany, .ref q_o_board, .ref q_o_pick, .ref q_o_worth, .ref q_o_best, .int o_chosen])), (q_o_pick, .inl (cI, 6, .inl o_pick)), (q_o_worth, .inl (cI, 6, .inl w12))] := by rw [ew12]; exact hD
          refine lv_aload_n hx hb dX8_folds_31 rfl (lv_at hl 0 rfl) ?_
          refine lv_iload_n hx hb dX8_folds_32 rfl (lv_at hl 1 rfl) ?_
          refine lv_if_ne (tgt := 45) hx hb dX8_folds_33 (by decide) (fun c13 => ?_) (fun c13 => ?_)
          · have hf := ite_n hf c13
            refine lv_aload_n hx hb dX8_folds_45 rfl (lv_at hl 0 rfl) ?_
            refine va_get (D := D) (ci := 7) (v := .int o_chosen) (C := RX8) (T := TX8) (N := 35) hx hb hts hinX8 hown hK.1 hP 0 rfl rfl 34 (by decide) g212 (fun _ h9 => h9) rfl dX8_folds_46 ?_
            exact L49 o_chosen o_chosen w12 _ _ ls hf hP hD hS (lv_sub hl [] rfl)
          · have hf := ite_p hf c13
            refine lv_aload_n hx hb dX8_folds_36 rfl (lv_at hl 0 rfl) ?_
            refine va_get (D := D) (ci := 7) (v := .ref q_o_pick) (C := RX8) (T := TX8) (N := 35) hx hb hts hinX8 hown hK.1 hP 0 rfl rfl 31 (by decide) g44 (fun _ h9 => h9) rfl dX8_folds_37 ?_
            refine lv_iconst (v := 0) hx hb dX8_folds_40 (by decide) ?_
            obtain ⟨g14, hf⟩ := ing_some hf
            refine va_iald hx hb hK.1 hP 1 1 rfl rfl g14 dX8_folds_41 ?_
            refine lv_goto (tgt := 49) hx hb dX8_folds_42 (by decide) ?_
            exact L49 (o_pick (0 : Int32).toNatClampNeg) o_chosen w12 _ _ ls hf hP hD hS (lv_sub hl [] rfl)
def f_X8_opens_23 (k1 : Int32) (k2 : Int32) (o_pick : Nat → Int32) (o_worth : Nat → Int32) : Option ((Nat → Int32) × (Nat → Int32)) :=
  ing k1 6 <|
  bnd (upd o_worth k1.toNatClampNeg k2) fun w2 =>
  some (o_pick, w2)
def f_X8_opens (o_pick : Nat → Int32) (o_worth : Nat → Int32) (p1 : Int32) : Option ((Nat → Int32) × (Nat → Int32)) :=
  ing p1 6 <|
  bnd (upd o_pick p1.toNatClampNeg ((-1))) fun w4 =>
  if (p1 - p1 / 2 * 2) = 0 then (
    f_X8_opens_23 p1 0 w4 o_worth
  ) else (
    f_X8_opens_23 p1 1 w4 o_worth
  )
set_option maxHeartbeats 4000000 in
set_option maxRecDepth 100000 in
theorem c_X8_opens (l : Launch) (D : va_G) (cB cI cZ cM cN : ClassId) (q_o : Nat) (q_o_text : Nat) (q_o_warmth : Nat) (q_o_side : Nat) (q_o_seconds : Nat) (q_o_s : Nat) (q_o_kept : Nat) (q_o_isKept : Nat) (q_o_undos : Nat) (q_o_seenAt : Nat) (q_o_seen : Nat) (q_o_board : Nat) (q_o_pick : Nat) (q_o_worth : Nat) (q_o_best : Nat) (o_thrown : Int32) (o_trace : Int64) (o_typed : Int32) (o_next : Int32) (o_token : Int32) (o_place : Int32) (o_value : Int32) (o_fault : Int32) (o_members : Int32) (o_pairs : Int32) (o_cold : Int32) (o_fur : Int32) (o_coughs : Int32) (o_draftMembers : Int32) (o_draftPairs : Int32) (o_draftCold : Int32) (o_draftFur : Int32) (o_draftCoughs : Int32) (o_undoMany : Int32) (o_seenMany : Int32) (o_chosen : Int32) (o_pick : Nat → Int32) (o_worth : Nat → Int32) (p1 : Int32) (o_pick' : Nat → Int32) (o_worth' : Nat → Int32) (sz : Nat) (hf : f_X8_opens o_pick o_worth p1 = some (o_pick', o_worth')) : Met l yX8_opens wsX8_opens ({ frames := 0, cells := 0, slots := 0, locals := 0 } : Room) (PM D cB cI cZ cM cN [.ref q_o, .int p1] [(q_o, .inr (7, [.int o_thrown, .long o_trace, .ref q_o_text, .int o_typed, .int o_next, .int o_token, .int o_place, .int o_value, .int o_fault, .ref q_o_warmth, .ref q_o_side, .ref q_o_seconds, .int o_members, .int o_pairs, .int o_cold, .int o_fur, .int o_coughs, .int o_draftMembers, .int o_draftPairs, .int o_draftCold, .int o_draftFur, .int o_draftCoughs, .ref q_o_s, .ref q_o_kept, .ref q_o_isKept, .ref q_o_undos, .int o_undoMany, .ref q_o_seenAt, .ref q_o_seen, .int o_seenMany, .ref q_o_board, .ref q_o_pick, .ref q_o_worth, .ref q_o_best, .int o_chosen])), (q_o_pick, .inl (cI, 6, .inl o_pick)), (q_o_worth, .inl (cI, 6, .inl o_worth))] sz) (QV D [(q_o, .inr (7, [.int o_thrown, .long o_trace, .ref q_o_text, .int o_typed, .int o_next, .int o_token, .int o_place, .int o_value, .int o_fault, .ref q_o_warmth, .ref q_o_side, .ref q_o_seconds, .int o_members, .int o_pairs, .int o_cold, .int o_fur, .int o_coughs, .int o_draftMembers, .int o_draftPairs, .int o_draftCold, .int o_draftFur, .int o_draftCoughs, .ref q_o_s, .ref q_o_kept, .ref q_o_isKept, .ref q_o_undos, .int o_undoMany, .ref q_o_seenAt, .ref q_o_seen, .int o_seenMany, .ref q_o_board, .ref q_o_pick, .ref q_o_worth, .ref q_o_best, .int o_chosen])), (q_o_pick, .inl (cI, 6, .inl o_pick')), (q_o_worth, .inl (cI, 6, .inl o_worth'))] (va_A [(q_o, .inr (7, [.int o_thrown, .long o_trace, .ref q_o_text, .int o_typed, .int o_next, .int o_token, .int o_place, .int o_value, .int o_fault, .ref q_o_warmth, .ref q_o_side, .ref q_o_seconds, .int o_members, .int o_pairs, .int o_cold, .int o_fur, .int o_coughs, .int o_draftMembers, .int o_draftPairs, .int o_draftCold, .int o_draftFur, .int o_draftCoughs, .ref q_o_s, .ref q_o_kept, .ref q_o_isKept, .ref q_o_undos, .int o_undoMany, .ref q_o_seenAt, .ref q_o_seen, .int o_seenMany, .ref q_o_board, .ref q_o_pick, .ref q_o_worth, .ref q_o_best, .int o_chosen])), (q_o_pick, .inl (cI, 6, .inl o_pick)), (q_o_worth, .inl (cI, 6, .inl o_worth))] sz)) 0 0 (va_A [(q_o, .inr (7, [.int o_thrown, .long o_trace, .ref q_o_text, .int o_typed, .int o_next, .int o_token, .int o_place, .int o_value, .int o_fault, .ref q_o_warmth, .ref q_o_side, .ref q_o_seconds, .int o_members, .int o_pairs, .int o_cold, .int o_fur, .int o_coughs, .int o_draftMembers, .int o_draftPairs, .int o_draftCold, .int o_draftFur, .int o_draftCoughs, .ref q_o_s, .ref q_o_kept, .ref q_o_isKept, .ref q_o_undos, .int o_undoMany, .ref q_o_seenAt, .ref q_o_seen, .int o_seenMany, .ref q_o_board, .ref q_o_pick, .ref q_o_worth, .ref q_o_best, .int o_chosen])), (q_o_pick, .inl (cI, 6, .inl o_pick)), (q_o_worth, .inl (cI, 6, .inl o_worth))] sz) := by
  refine entM (l := l) (y := yX8_opens) (ws := wsX8_opens) (cc := cX8_opens) (av := [.ref q_o, .int p1]) (wc := [(q_o, .inr (7, [.int o_thrown, .long o_trace, .ref q_o_text, .int o_typed, .int o_next, .int o_token, .int o_place, .int o_value, .int o_fault, .ref q_o_warmth, .ref q_o_side, .ref q_o_seconds, .int o_members, .int o_pairs, .int o_cold, .int o_fur, .int o_coughs, .int o_draftMembers, .int o_draftPairs, .int o_draftCold, .int o_draftFur, .int o_draftCoughs, .ref q_o_s, .ref q_o_kept, .ref q_o_isKept, .ref q_o_undos, .int o_undoMany, .ref q_o_seenAt, .ref q_o_seen, .int o_seenMany, .ref q_o_board, .ref q_o_pick, .ref q_o_worth, .ref q_o_best, .int o_chosen])), (q_o_pick, .inl (cI, 6, .inl o_pick)), (q_o_worth, .inl (cI, 6, .inl o_worth))]) (sz := sz) (Qc := fun A => QV D [(q_o, .inr (7, [.int o_thrown, .long o_trace, .ref q_o_text, .int o_typed, .int o_next, .int o_token, .int o_place, .int o_value, .int o_fault, .ref q_o_warmth, .ref q_o_side, .ref q_o_seconds, .int o_members, .int o_pairs, .int o_cold, .int o_fur, .int o_coughs, .int o_draftMembers, .int o_draftPairs, .int o_draftCold, .int o_draftFur, .int o_draftCoughs, .ref q_o_s, .ref q_o_kept, .ref q_o_isKept, .ref q_o_undos, .int o_undoMany, .ref q_o_seenAt, .ref q_o_seen, .int o_seenMany, .ref q_o_board, .ref q_o_pick, .ref q_o_worth, .ref q_o_best, .int o_chosen])), (q_o_pick, .inl (cI, 6, .inl o_pick')), (q_o_worth, .inl (cI, 6, .inl o_worth'))] A) (by decide +kernel) rfl (Nat.le_of_ble_eq_true rfl) ?_
  intro A p e s m below meth c hx hb hr hml hown hlocks hts hK hA H locs hP hD hS ls hl
  have hown : s.vm.findClass RX8 = some m.cls := hown
  have hl : lv_has ls 2 [(0, .ref q_o), (1, .int p1)] := hl
  have hfix : CallFix p m c cX8_opens 2 s ([.ref q_o, .int p1] : List Value).toArray wsX8_opens RX8 := ⟨hx, hb, hml, hown, hts⟩
  have hinX8 : ∀ w ∈ u_ws RX8 TX8 35, w ∈ wsX8_opens := by decide +kernel
  have g44 := hts (.fieldLink RX8 44 "LastCoatModel" "pick" "[I") (by decide +kernel)
  have g47 := hts (.fieldLink RX8 47 "LastCoatModel" "worth" "[I") (by decide +kernel)
  have L23 : ∀ (k1 : Int32) (k2 : Int32) (o_pick : Nat → Int32) (o_worth : Nat → Int32) (H : Heap) (locs : List Loc) (ls : Array Slot), f_X8_opens_23 k1 k2 o_pick o_worth = some (o_pick', o_worth') → va_P D vwCl [(q_o, .inr (7, [.int o_thrown, .long o_trace, .ref q_o_text, .int o_typed, .int o_next, .int o_token, .int o_place, .int o_value, .int o_fault, .ref q_o_warmth, .ref q_o_side, .ref q_o_seconds, .int o_members, .int o_pairs, .int o_cold, .int o_fur, .int o_coughs, .int o_draftMembers, .int o_draftPairs, .int o_draftCold, .int o_draftFur, .int o_draftCoughs, .ref q_o_s, .ref q_o_kept, .ref q_o_isKept, .ref q_o_undos, .int o_undoMany, .ref q_o_seenAt, .ref q_o_seen, .int o_seenMany, .ref q_o_board, .ref q_o_pick, .ref q_o_worth, .ref q_o_best, .int o_chosen])), (q_o_pick, .inl (cI, 6, .inl o_pick)), (q_o_worth, .inl (cI, 6, .inl o_worth))] H → va_D A [(q_o, .inr (7, [.int o_thrown, .long o_trace, .ref q_o_text, .int o_typed, .int o_next, .int o_token, .int o_place, .int o_value, .int o_fault, .ref q_o_warmth, .ref q_o_side, .ref q_o_seconds, .int o_members, .int o_pairs, .int o_cold, .int o_fur, .int o_coughs, .int o_draftMembers, .int o_draftPairs, .int o_draftCold, .int o_draftFur, .int o_draftCoughs, .ref q_o_s, .ref q_o_kept, .ref q_o_isKept, .ref q_o_undos, .int o_undoMany, .ref q_o_seenAt, .ref q_o_seen, .int o_seenMany, .ref q_o_board, .ref q_o_pick, .ref q_o_worth, .ref q_o_best, .int o_chosen])), (q_o_pick, .inl (cI, 6, .inl o_pick)), (q_o_worth, .inl (cI, 6, .inl o_worth))] → va_S A s.heap H locs → lv_has ls 2 [] → W p l e ({ frames := 0, cells := 0, slots := 0, locals := 0 } : Room) s m ([.ref q_o, .int p1] : List Value).toArray below meth c H locs 0 0 (MQ below (QV D [(q_o, .inr (7, [.int o_thrown, .long o_trace, .ref q_o_text, .int o_typed, .int o_next, .int o_token, .int o_place, .int o_value, .int o_fault, .ref q_o_warmth, .ref q_o_side, .ref q_o_seconds, .int o_members, .int o_pairs, .int o_cold, .int o_fur, .int o_coughs, .int o_draftMembers, .int o_draftPairs, .int o_draftCold, .int o_draftFur, .int o_draftCoughs, .ref q_o_s, .ref q_o_kept, .ref q_o_isKept, .ref q_o_undos, .int o_undoMany, .ref q_o_seenAt, .ref q_o_seen, .int o_seenMany, .ref q_o_board, .ref q_o_pick, .ref q_o_worth, .ref q_o_best, .int o_chosen])), (q_o_pick, .inl (cI, 6, .inl o_pick')), (q_o_worth, .inl (cI, 6, .inl o_worth'))] A) ([.ref q_o, .int p1] : List Value).toArray s 0 0 A) (F0 m 23 ls [.int k2, .int k1, .ref q_o_worth]) := by
    intro k1 k2 o_pick o_worth H locs ls hf hP hD hS hl
    unfold f_X8_opens_23 at hf
    obtain ⟨g1, hf⟩ := ing_some hf
    refine va_iast hx hb hK.1 hP hD hS 2 1 rfl rfl g1 dX8_opens_23 (fun H locs hP hD hS => ?_)
    obtain ⟨w2, ew2⟩ : ∃ z : Nat → Int32, z = upd o_worth k1.toNatClampNeg k2 := ⟨_, rfl⟩
    have hf := bnd_at hf ew2
    have hP : va_P D vwCl [(q_o, .inr (7, [.int o_thrown, .long o_trace, .ref q_o_text, .int o_typed, .int o_next, .int o_token, .int o_place, .int o_value, .int o_fault, .ref q_o_warmth, .ref q_o_side, .ref q_o_seconds, .int o_members, .int o_pairs, .int o_cold, .int o_fur, .int o_coughs, .int o_draftMembers, .int o_draftPairs, .int o_draftCold, .int o_draftFur, .int o_draftCoughs, .ref q_o_s, .ref q_o_kept, .ref q_o_isKept, .ref q_o_undos, .int o_undoMany, .ref q_o_seenAt, .ref q_o_seen, .int o_seenMany, .ref q_o_board, .ref q_o_pick, .ref q_o_worth, .ref q_o_best, .int o_chosen])), (q_o_pick, .inl (cI, 6, .inl o_pick)), (q_o_worth, .inl (cI, 6, .inl w2))] H := by rw [ew2]; exact hP
    have hD : va_D A [(q_o, .inr (7, [.int o_thrown, .long o_trace, .ref q_o_text, .int o_typed, .int o_next, .int o_token, .int o_place, .int o_value, .int o_fault, .ref q_o_warmth, .ref q_o_side, .ref q_o_seconds, .int o_members, .int o_pairs, .int o_cold, .int o_fur, .int o_coughs, .int o_draftMembers, .int o_draftPairs, .int o_draftCold, .int o_draftFur, .int o_draftCoughs, .ref q_o_s, .ref q_o_kept, .ref q_o_isKept, .ref q_o_undos, .int o_undoMany, .ref q_o_seenAt, .ref q_o_seen, .int o_seenMany, .ref q_o_board, .ref q_o_pick, .ref q_o_worth, .ref q_o_best, .int o_chosen])), (q_o_pick, .inl (cI, 6, .inl o_pick)), (q_o_worth, .inl (cI, 6, .inl w2))] := by rw [ew2]; exact hD
    obtain ⟨e0_, e1_⟩ := tup2 hf
    have hP : va_P D vwCl [(q_o, .inr (7, [.int o_thrown, .long o_trace, .ref q_o_text, .int o_typed, .int o_next, .int o_token, .int o_place, .int o_value, .int o_fault, .ref q_o_warmth, .ref q_o_side, .ref q_o_seconds, .int o_members, .int o_pairs, .int o_cold, .int o_fur, .int o_coughs, .int o_draftMembers, .int o_draftPairs, .int o_draftCold, .int o_draftFur, .int o_draftCoughs, .ref q_o_s, .ref q_o_kept, .ref q_o_isKept, .ref q_o_undos, .int o_undoMany, .ref q_o_seenAt, .ref q_o_seen, .int o_seenMany, .ref q_o_board, .ref q_o_pick, .ref q_o_worth, .ref q_o_best, .int o_chosen])), (q_o_pick, .inl (cI, 6, .inl o_pick')), (q_o_worth, .inl (cI, 6, .inl o_worth'))] H := by rw [← e0_, ← e1_]; exact hP
    have hD : va_D A [(q_o, .inr (7, [.int o_thrown, .long o_trace, .ref q_o_text, .int o_typed, .int o_next, .int o_token, .int o_place, .int o_value, .int o_fault, .ref q_o_warmth, .ref q_o_side, .ref q_o_seconds, .int o_members, .int o_pairs, .int o_cold, .int o_fur, .int o_coughs, .int o_draftMembers, .int o_draftPairs, .int o_draftCold, .int o_draftFur, .int o_draftCoughs, .ref q_o_s, .ref q_o_kept, .ref q_o_isKept, .ref q_o_undos, .int o_undoMany, .ref q_o_seenAt, .ref q_o_seen, .int o_seenMany, .ref q_o_board, .ref q_o_pick, .ref q_o_worth, .ref q_o_best, .int o_chosen])), (q_o_pick, .inl (cI, 6, .inl o_pick')), (q_o_worth, .inl (cI, 6, .inl o_worth'))] := by rw [← e0_, ← e1_]; exact hD
    exact endMV hx hb hr hlocks hP hD hS dX8_opens_24
  unfold f_X8_opens at hf
  refine lv_aload_n hx hb dX8_opens_0 rfl (lv_at hl 0 rfl) ?_
  refine va_get (D := D) (ci := 7) (v := .ref q_o_pick) (C := RX8) (T := TX8) (N := 35) hx hb hts hinX8 hown hK.1 hP 0 rfl rfl 31 (by decide) g44 (fun _ h9 => h9) rfl dX8_opens_1 ?_
  refine lv_iload_n hx hb dX8_opens_4 rfl (lv_at hl 1 rfl) ?_
  refine lv_iconst (v := (-1)) hx hb dX8_opens_5 (by decide) ?_
  obtain ⟨g3, hf⟩ := ing_some hf
  refine va_iast hx hb hK.1 hP hD hS 1 1 rfl rfl g3 dX8_opens_6 (fun H locs hP hD hS => ?_)
  obtain ⟨w4, ew4⟩ : ∃ z : Nat → Int32, z = upd o_pick p1.toNatClampNeg ((-1)) := ⟨_, rfl⟩
  have hf := bnd_at hf ew4
  have hP : va_P D vwCl [(q_o, .inr (7, [.int o_thrown, .long o_trace, .ref q_o_text, .int o_typed, .int o_next, .int o_token, .int o_place, .int o_value, .int o_fault, .ref q_o_warmth, .ref q_o_side, .ref q_o_seconds, .int o_members, .int o_pairs, .int o_cold, .int o_fur, .int o_coughs, .int o_draftMembers, .int o_draftPairs, .int o_draftCold, .int o_draftFur, .int o_draftCoughs, .ref q_o_s, .ref q_o_kept, .ref q_o_isKept, .ref q_o_undos, .int o_undoMany, .ref q_o_seenAt, .ref q_o_seen, .int o_seenMany, .ref q_o_board, .ref q_o_pick, .ref q_o_worth, .ref q_o_best, .int o_chosen])), (q_o_pick, .inl (cI, 6, .inl w4)), (q_o_worth, .inl (cI, 6, .inl o_worth))] H := by rw [ew4]; exact hP
  have hD : va_D A [(q_o, .inr (7, [.int o_thrown, .long o_trace, .ref q_o_text, .int o_typed, .int o_next, .int o_token, .int o_place, .int o_value, .int o_fault, .ref q_o_warmth, .ref q_o_side, .ref q_o_seconds, .int o_members, .int o_pairs, .int o_cold, .int o_fur, .int o_coughs, .int o_draftMembers, .int o_draftPairs, .int o_draftCold, .int o_draftFur, .int o_draftCoughs, .ref q_o_s, .ref q_o_kept, .ref q_o_isKept, .ref q_o_undos, .int o_undoMany, .ref q_o_seenAt, .ref q_o_seen, .int o_seenMany, .ref q_o_board, .ref q_o_pick, .ref q_o_worth, .ref q_o_best, .int o_chosen])), (q_o_pick, .inl (cI, 6, .inl w4)), (q_o_worth, .inl (cI, 6, .inl o_worth))] := by rw [ew4]; exact hD
  refine lv_aload_n hx hb dX8_opens_7 rfl (lv_at hl 0 rfl) ?_
  refine va_get (D := D) (ci := 7) (v := .ref q_o_worth) (C := RX8) (T := TX8) (N := 35) hx hb hts hinX8 hown hK.1 hP 0 rfl rfl 32 (by decide) g47 (fun _ h9 => h9) rfl dX8_opens_8 ?_
  refine lv_iload_n hx hb dX8_opens_11 rfl (lv_at hl 1 rfl) ?_
  refine lv_iload_n hx hb dX8_opens_12 rfl (lv_at hl 1 rfl) ?_
  refine lv_iconst (v := 2) hx hb dX8_opens_13 (by decide) ?_
  refine lv_irem hx hb dX8_opens_14 (by decide) ?_
  refine lv_if_ne (tgt := 22) hx hb dX8_opens_15 (by decide) (fun c5 => ?_) (fun c5 => ?_)
  · have hf := ite_n hf c5
    refine lv_iconst (v := 1) hx hb dX8_opens_22 (by decide) ?_
    exact L23 p1 1 w4 o_worth _ _ ls hf hP hD hS (lv_sub hl [] rfl)
  · have hf := ite_p hf c5
    refine lv_iconst (v := 0) hx hb dX8_opens_18 (by decide) ?_
    refine lv_goto (tgt := 23) hx hb dX8_opens_19 (by decide) ?_
    exact L23 p1 0 w4 o_worth _ _ ls hf hP hD hS (lv_sub hl [] rfl)
def f_X8_choiceBehind_92 (o_members : Int32) (o_side : Nat → Int32) (o_board : Nat → Int32) (K9 : Int32 → Int32 → Int32 → Int32 → Int32 → Option (Int32)) (x1 : Int32) (x2 : Int32) (x4 : Int32) (x5 : Int32) (k0 : Int32) : Option (Int32) :=
  bnd (x5 + (-1)) fun y1 =>
  K9 x1 x2 k0 x4 y1
def f_X8_choiceBehind_91 (o_members : Int32) (o_side : Nat → Int32) (o_board : Nat → Int32) (K9 : Int32 → Int32 → Int32 → Int32 → Int32 → Option (Int32)) (x1 : Int32) (x2 : Int32) (x3 : Int32) (x4 : Int32) (x5 : Int32) : Option (Int32) :=
  f_X8_choiceBehind_92 o_members o_side o_board K9 x1 x2 x4 x5 x3
def f_X8_choiceBehind_72 (o_members : Int32) (o_side : Nat → Int32) (o_board : Nat → Int32) (K9 : Int32 → Int32 → Int32 → Int32 → Int32 → Option (Int32)) (x1 : Int32) (x2 : Int32) (x3 : Int32) (x5 : Int32) (x6 : Int32) (k0 : Int32) (k1 : Int32) : Option (Int32) :=
  bnd (k0 + k1) fun y2 =>
  if x6 = 0 then (
    f_X8_choiceBehind_91 o_members o_side o_board K9 x1 x2 x3 y2 x5
  ) else (
    if x5 ≤ x2 then (
      f_X8_choiceBehind_91 o_members o_side o_board K9 x1 x2 x3 y2 x5
    ) else (
      f_X8_choiceBehind_92 o_members o_side o_board K9 x1 x2 y2 x5 x5
    )
  )
def f_X8_choiceBehind_58 (o_members : Int32) (o_side : Nat → Int32) (o_board : Nat → Int32) (K9 : Int32 → Int32 → Int32 → Int32 → Int32 → Option (Int32)) (x1 : Int32) (x2 : Int32) (x3 : Int32) (x4 : Int32) (x5 : Int32) (k0 : Int32) : Option (Int32) :=
  if k0 = 0 then (
    f_X8_choiceBehind_72 o_members o_side o_board K9 x1 x2 x3 x5 k0 x4 0
  ) else (
    f_X8_choiceBehind_72 o_members o_side o_board K9 x1 x2 x3 x5 k0 x4 1
  )
def f_X8_choiceBehind_57 (o_members : Int32) (o_side : Nat → Int32) (o_board : Nat → Int32) (K9 : Int32 → Int32 → Int32 → Int32 → Int32 → Option (Int32)) (x1 : Int32) (x2 : Int32) (x3 : Int32) (x4 : Int32) (x5 : Int32) : Option (Int32) :=
  f_X8_choiceBehind_58 o_members o_side o_board K9 x1 x2 x3 x4 x5 0
def f_X8_choiceBehind_9_b (o_members : Int32) (o_side : Nat → Int32) (o_board : Nat → Int32) (K9 : Int32 → Int32 → Int32 → Int32 → Int32 → Option (Int32)) (x1 : Int32) (x2 : Int32) (x3 : Int32) (x4 : Int32) (x5 : Int32) : Option (Int32) :=
  if x5 < 0 then (
    if x4 = 0 then (
      if (0 : Int32) ≤ x2 then (
        some (x3)
      ) else (
        some (6)
      )
    ) else (
      some (x3)
    )
  ) else (
    if o_members ≤ x5 then (
      f_X8_choiceBehind_57 o_members o_side o_board K9 x1 x2 x3 x4 x5
    ) else (
      ing x5 12 <|
      if (o_side x5.toNatClampNeg) = (1 - (x1 - x1 / 2 * 2)) then (
        ing ((7 * x1) + x5) 49 <|
        if (o_board ((7 * x1) + x5).toNatClampNeg) ≤ 0 then (
          f_X8_choiceBehind_57 o_members o_side o_board K9 x1 x2 x3 x4 x5
        ) else (
          f_X8_choiceBehind_58 o_members o_side o_board K9 x1 x2 x3 x4 x5 1
        )
      ) else (
        f_X8_choiceBehind_57 o_members o_side o_board K9 x1 x2 x3 x4 x5
      )
    )
  )
def f_X8_choiceBehind_9 (o_members : Int32) (o_side : Nat → Int32) (o_board : Nat → Int32) : Nat → Int32 → Int32 → Int32 → Int32 → Int32 → Option (Int32)
  | 0 => fun _ _ _ _ _ => none
  | n + 1 => f_X8_choiceBehind_9_b o_members o_side o_board (f_X8_choiceBehind_9 o_members o_side o_board n)
def f_X8_choiceBehind (o_members : Int32) (o_side : Nat → Int32) (o_board : Nat → Int32) (p1 : Int32) (p2 : Int32) : Option (Int32) :=
  f_X8_choiceBehind_9 o_members o_side o_board FU p1 p2 7 0 5
set_option maxHeartbeats 4000000 in
set_option maxRecDepth 100000 in
theorem c_X8_choiceBehind (l : Launch) (D : va_G) (cB cI cZ cM cN : ClassId) (q_o : Nat) (q_o_text : Nat) (q_o_warmth : Nat) (q_o_side : Nat) (q_o_seconds : Nat) (q_o_s : Nat) (q_o_kept : Nat) (q_o_isKept : Nat) (q_o_undos : Nat) (q_o_seenAt : Nat) (q_o_seen : Nat) (q_o_board : Nat) (q_o_pick : Nat) (q_o_worth : Nat) (q_o_best : Nat) (o_thrown : Int32) (o_trace : Int64) (o_typed : Int32) (o_next : Int32) (o_token : Int32) (o_place : Int32) (o_value : Int32) (o_fault : Int32) (o_members : Int32) (o_pairs : Int32) (o_cold : Int32) (o_fur : Int32) (o_coughs : Int32) (o_draftMembers : Int32) (o_draftPairs : Int32) (o_draftCold : Int32) (o_draftFur : Int32) (o_draftCoughs : Int32) (o_undoMany : Int32) (o_seenMany : Int32) (o_chosen : Int32) (o_side : Nat → Int32) (o_board : Nat → Int32) (p1 : Int32) (p2 : Int32) (r : Int32) (hf : f_X8_choiceBehind o_members o_side o_board p1 p2 = some r) : Met l yX8_choiceBehind wsX8_choiceBehind ({ frames := 0, cells := 0, slots := 0, locals := 0 } : Room) (PR D cB cI cZ cM cN [.ref q_o, .int p1, .int p2] [(q_o, .inr (7, [.int o_thrown, .long o_trace, .ref q_o_text, .int o_typed, .int o_next, .int o_token, .int o_place, .int o_value, .int o_fault, .ref q_o_warmth, .ref q_o_side, .ref q_o_seconds, .int o_members, .int o_pairs, .int o_cold, .int o_fur, .int o_coughs, .int o_draftMembers, .int o_draftPairs, .int o_draftCold, .int o_draftFur, .int o_draftCoughs, .ref q_o_s, .ref q_o_kept, .ref q_o_isKept, .ref q_o_undos, .int o_undoMany, .ref q_o_seenAt, .ref q_o_seen, .int o_seenMany, .ref q_o_board, .ref q_o_pick, .ref q_o_worth, .ref q_o_best, .int o_chosen])), (q_o_side, .inl (cI, 12, .inl o_side)), (q_o_board, .inl (cI, 49, .inl o_board))]) (RI r) 0 0 (fun _ => False) := by
  refine entR (by decide +kernel) rfl (Nat.le_of_ble_eq_true rfl) ?_
  intro p e s m below meth c hx hb hr hml hown hlocks hts hP hK ls hl
  have hown : s.vm.findClass RX8 = some m.cls := hown
  have hl : lv_has ls 7 [(0, .ref q_o), (1, .int p1), (2, .int p2)] := hl
  have hfix : CallFix p m c cX8_choiceBehind 7 s ([.ref q_o, .int p1, .int p2] : List Value).toArray wsX8_choiceBehind RX8 := ⟨hx, hb, hml, hown, hts⟩
  have hinX8 : ∀ w ∈ u_ws RX8 TX8 35, w ∈ wsX8_choiceBehind := by decide +kernel
  have g145 := hts (.fieldLink RX8 145 "LastCoatModel" "members" "I") (by decide +kernel)
  have g16 := hts (.fieldLink RX8 16 "LastCoatModel" "side" "[I") (by decide +kernel)
  have g41 := hts (.fieldLink RX8 41 "LastCoatModel" "board" "[I") (by decide +kernel)
  have L9 : ∀ (n9 : Nat) (x1 : Int32) (x2 : Int32) (x3 : Int32) (x4 : Int32) (x5 : Int32) (ls : Array Slot), f_X8_choiceBehind_9 o_members o_side o_board n9 x1 x2 x3 x4 x5 = some r → lv_has ls 7 [(0, .ref q_o), (1, .int x1), (2, .int x2), (3, .int x3), (4, .int x4), (5, .int x5)] → W p l e ({ frames := 0, cells := 0, slots := 0, locals := 0 } : Room) s m ([.ref q_o, .int p1, .int p2] : List Value).toArray below meth c s.heap [] 0 0 (MQ below (RI r) ([.ref q_o, .int p1, .int p2] : List Value).toArray s 0 0 (fun _ => False)) (F0 m 9 ls []) := by
    intro n9
    induction n9 with
    | zero =>
      intro x1 x2 x3 x4 x5 ls hf hl
      exact noneNe hf
    | succ n9 ih9 =>
      have L92 : ∀ (x1 : Int32) (x2 : Int32) (x4 : Int32) (x5 : Int32) (k0 : Int32) (ls : Array Slot), f_X8_choiceBehind_92 o_members o_side o_board (f_X8_choiceBehind_9 o_members o_side o_board n9) x1 x2 x4 x5 k0 = some r → lv_has ls 7 [(0, .ref q_o), (1, .int x1), (2, .int x2), (4, .int x4), (5, .int x5)] → W p l e ({ frames := 0, cells := 0, slots := 0, locals := 0 } : Room) s m ([.ref q_o, .int p1, .int p2] : List Value).toArray below meth c s.heap [] 0 0 (MQ below (RI r) ([.ref q_o, .int p1, .int p2] : List Value).toArray s 0 0 (fun _ => False)) (F0 m 92 ls [.int k0]) := by
        intro x1 x2 x4 x5 k0 ls hf hl
        unfold f_X8_choiceBehind_92 at hf
        refine lv_istore_n (lv' := [(3, .int k0), (0, .ref q_o), (1, .int x1), (2, .int x2), (4, .int x4), (5, .int x5)]) hx hb dX8_choiceBehind_92 rfl hl (by decide) rfl (fun ls hl => ?_)
        obtain ⟨y1, ey1⟩ : ∃ z : Int32, z = x5 + (-1) := ⟨_, rfl⟩
        have hf := bnd_at hf ey1
        refine lv_iinc (v := y1) (lv' := [(5, .int y1), (3, .int k0), (0, .ref q_o), (1, .int x1), (2, .int x2), (4, .int x4)]) hx hb dX8_choiceBehind_93 hl (k := 5) rfl (by rw [ey1]; rfl) (by decide) rfl (fun ls hl => ?_)
        refine lv_goto (tgt := 9) hx hb dX8_choiceBehind_96 (by decide) ?_
        exact ih9 x1 x2 k0 x4 y1 ls hf (lv_sub hl [2, 3, 4, 1, 5, 0] rfl)
      have L91 : ∀ (x1 : Int32) (x2 : Int32) (x3 : Int32) (x4 : Int32) (x5 : Int32) (ls : Array Slot), f_X8_choiceBehind_91 o_members o_side o_board (f_X8_choiceBehind_9 o_members o_side o_board n9) x1 x2 x3 x4 x5 = some r → lv_has ls 7 [(0, .ref q_o), (1, .int x1), (2, .int x2), (3, .int x3), (4, .int x4), (5, .int x5)] → W p l e ({ frames := 0, cells := 0, slots := 0, locals := 0 } : Room) s m ([.ref q_o, .int p1, .int p2] : List Value).toArray below meth c s.heap [] 0 0 (MQ below (RI r) ([.ref q_o, .int p1, .int p2] : List Value).toArray s 0 0 (fun _ => False)) (F0 m 91 ls []) := by
        intro x1 x2 x3 x4 x5 ls hf hl
        unfold f_X8_choiceBehind_91 at hf
        refine lv_iload_n hx hb dX8_choiceBehind_91 rfl (lv_at hl 3 rfl) ?_
        exact L92 x1 x2 x4 x5 x3 ls hf (lv_sub hl [0, 1, 2, 4, 5] rfl)
      have L72 : ∀ (x1 : Int32) (x2 : Int32) (x3 : Int32) (x5 : Int32) (x6 : Int32) (k0 : Int32) (k1 : Int32) (ls : Array Slot), f_X8_choiceBehind_72 o_members o_side o_board (f_X8_choiceBehind_9 o_members o_side o_board n9) x1 x2 x3 x5 x6 k0 k1 = some r → lv_has ls 7 [(0, .ref q_o), (1, .int x1), (2, .int x2), (3, .int x3), (5, .int x5), (6, .int x6)] → W p l e ({ frames := 0, cells := 0, slots := 0, locals := 0 } : Room) s m ([.ref q_o, .int p1, .int p2] : List Value).toArray below meth c s.heap [] 0 0 (MQ below (RI r) ([.ref q_o, .int p1, .int p2] : List Value).toArray s 0 0 (fun _ => False)) (F0 m 72 ls [.int k1, .int k0]) := by
        intro x1 x2 x3 x5 x6 k0 k1 ls hf hl
        unfold f_X8_choiceBehind_72 at hf
        refine lv_iadd hx hb dX8_choiceBehind_72 ?_
        refine lv_topi (fun y2 ey2 => ?_)
        have hf := bnd_at hf ey2
        refine lv_istore (lv' := [(4, .int y2), (0, .ref q_o), (1, .int x1), (2, .int x2), (3, .int x3), (5, .int x5), (6, .int x6)]) hx hb dX8_choiceBehind_73 hl (by decide) rfl (fun ls hl => ?_)
        refine lv_iload hx hb dX8_choiceBehind_75 (lv_at hl 6 rfl) ?_
        refine lv_if_eq (tgt := 91) hx hb dX8_choiceBehind_77 (by decide) (fun c3 => ?_) (fun c3 => ?_)
        · have hf := ite_p hf c3
          exact L91 x1 x2 x3 y2 x5 ls hf (lv_sub hl [1, 2, 3, 4, 0, 5] rfl)
        · have hf := ite_n hf c3
          refine lv_iload hx hb dX8_choiceBehind_80 (lv_at hl 5 rfl) ?_
          refine lv_iload_n hx hb dX8_choiceBehind_82 rfl (lv_at hl 3 rfl) ?_
          refine lv_icmp_le (tgt := 91) hx hb dX8_choiceBehind_83 (by decide) (fun c4 => ?_) (fun c4 => ?_)
          · have hf := ite_p hf c4
            exact L91 x1 x2 x3 y2 x5 ls hf (lv_sub hl [1, 2, 3, 4, 0, 5] rfl)
          · have hf := ite_n hf c4
            refine lv_iload hx hb dX8_choiceBehind_86 (lv_at hl 5 rfl) ?_
            refine lv_goto (tgt := 92) hx hb dX8_choiceBehind_88 (by decide) ?_
            exact L92 x1 x2 y2 x5 x5 ls hf (lv_sub hl [1, 2, 3, 0, 5] rfl)
      have L58 : ∀ (x1 : Int32) (x2 : Int32) (x3 : Int32) (x4 : Int32) (x5 : Int32) (k0 : Int32) (ls : Array Slot), f_X8_choiceBehind_58 o_members o_side o_board (f_X8_choiceBehind_9 o_members o_side o_board n9) x1 x2 x3 x4 x5 k0 = some r → lv_has ls 7 [(0, .ref q_o), (1, .int x1), (2, .int x2), (3, .int x3), (4, .int x4), (5, .int x5)] → W p l e ({ frames := 0, cells := 0, slots := 0, locals := 0 } : Room) s m ([.ref q_o, .int p1, .int p2] : List Value).toArray below meth c s.heap [] 0 0 (MQ below (RI r) ([.ref q_o, .int p1, .int p2] : List Value).toArray s 0 0 (fun _ => False)) (F0 m 58 ls [.int k0]) := by
        intro x1 x2 x3 x4 x5 k0 ls hf hl
        unfold f_X8_choiceBehind_58 at hf
        refine lv_istore (lv' := [(6, .int k0), (0, .ref q_o), (1, .int x1), (2, .int x2), (3, .int x3), (4, .int x4), (5, .int x5)]) hx hb dX8_choiceBehind_58 hl (by decide) rfl (fun ls hl => ?_)
        refine lv_iload hx hb dX8_choiceBehind_60 (lv_at hl 5 rfl) ?_
        refine lv_iload hx hb dX8_choiceBehind_62 (lv_at hl 0 rfl) ?_
        refine lv_if_eq (tgt := 71) hx hb dX8_choiceBehind_64 (by decide) (fun c5 => ?_) (fun c5 => ?_)
        · have hf := ite_p hf c5
          refine lv_iconst (v := 0) hx hb dX8_choiceBehind_71 (by decide) ?_
          exact L72 x1 x2 x3 x5 k0 x4 0 ls hf (lv_sub hl [1, 2, 3, 4, 6, 0] rfl)
        · have hf := ite_n hf c5
          refine lv_iconst (v := 1) hx hb dX8_choiceBehind_67 (by decide) ?_
          refine lv_goto (tgt := 72) hx hb dX8_choiceBehind_68 (by decide) ?_
          exact L72 x1 x2 x3 x5 k0 x4 1 ls hf (lv_sub hl [1, 2, 3, 4, 6, 0] rfl)
      have L57 : ∀ (x1 : Int32) (x2 : Int32) (x3 : Int32) (x4 : Int32) (x5 : Int32) (ls : Array Slot), f_X8_choiceBehind_57 o_members o_side o_board (f_X8_choiceBehind_9 o_members o_side o_board n9) x1 x2 x3 x4 x5 = some r → lv_has ls 7 [(0, .ref q_o), (1, .int x1), (2, .int x2), (3, .int x3), (4, .int x4), (5, .int x5)] → W p l e ({ frames := 0, cells := 0, slots := 0, locals := 0 } : Room) s m ([.ref q_o, .int p1, .int p2] : List Value).toArray below meth c s.heap [] 0 0 (MQ below (RI r) ([.ref q_o, .int p1, .int p2] : List Value).toArray s 0 0 (fun _ => False)) (F0 m 57 ls []) := by
        intro x1 x2 x3 x4 x5 ls hf hl
        unfold f_X8_choiceBehind_57 at hf
        refine lv_iconst (v := 0) hx hb dX8_choiceBehind_57 (by decide) ?_
        exact L58 x1 x2 x3 x4 x5 0 ls hf (lv_sub hl [0, 1, 2, 3, 4, 5] rfl)
      intro x1 x2 x3 x4 x5 ls hf hl
      have hf : f_X8_choiceBehind_9_b o_members o_side o_board (f_X8_choiceBehind_9 o_members o_side o_board n9) x1 x2 x3 x4 x5 = some r := hf
      unfold f_X8_choiceBehind_9_b at hf
      refine lv_iload hx hb dX8_choiceBehind_9 (lv_at hl 5 rfl) ?_
      refine lv_if_lt (tgt := 99) hx hb dX8_choiceBehind_11 (by decide) (fun c6 => ?_) (fun c6 => ?_)
      · have hf := ite_p hf c6
        refine lv_iload hx hb dX8_choiceBehind_99 (lv_at hl 4 rfl) ?_
        refine lv_if_ne (tgt := 113) hx hb dX8_choiceBehind_101 (by decide) (fun c7 => ?_) (fun c7 => ?_)
        · have hf := ite_n hf c7
          refine lv_iload_n hx hb dX8_choiceBehind_113 rfl (lv_at hl 3 rfl) ?_
          have e0_ := Option.some.inj hf
          exact endRI hx hb hr hlocks rfl e0_ dX8_choiceBehind_114
        · have hf := ite_p hf c7
          refine lv_iload_n hx hb dX8_choiceBehind_104 rfl (lv_at hl 2 rfl) ?_
          refine lv_if_ge (tgt := 113) hx hb dX8_choiceBehind_105 (by decide) (fun c8 => ?_) (fun c8 => ?_)
          · have hf := ite_p hf c8
            refine lv_iload_n hx hb dX8_choiceBehind_113 rfl (lv_at hl 3 rfl) ?_
            have e0_ := Option.some.inj hf
            exact endRI hx hb hr hlocks rfl e0_ dX8_choiceBehind_114
          · have hf := ite_n hf c8
            refine lv_bipush (v := 6) hx hb dX8_choiceBehind_108 (by decide) ?_
            refine lv_goto (tgt := 114) hx hb dX8_choiceBehind_110 (by decide) ?_
            have e0_ := Option.some.inj hf
            exact endRI hx hb hr hlocks rfl e0_ dX8_choiceBehind_114
      · have hf := ite_n hf c6
        refine lv_iload hx hb dX8_choiceBehind_14 (lv_at hl 5 rfl) ?_
        refine lv_aload_n hx hb dX8_choiceBehind_16 rfl (lv_at hl 0 rfl) ?_
        refine va_get (D := D) (ci := 7) (v := .int o_members) (C := RX8) (T := TX8) (N := 35) hx hb hts hinX8 hown hK.1 hP 0 rfl rfl 12 (by decide) g145 (fun _ h9 => h9) rfl dX8_choiceBehind_17 ?_
        refine lv_icmp_ge (tgt := 57) hx hb dX8_choiceBehind_20 (by decide) (fun c9 => ?_) (fun c9 => ?_)
        · have hf := ite_p hf c9
          exact L57 x1 x2 x3 x4 x5 ls hf (lv_sub hl [0, 1, 2, 3, 4, 5] rfl)
        · have hf := ite_n hf c9
          refine lv_aload_n hx hb dX8_choiceBehind_23 rfl (lv_at hl 0 rfl) ?_
          refine va_get (D := D) (ci := 7) (v := .ref q_o_side) (C := RX8) (T := TX8) (N := 35) hx hb hts hinX8 hown hK.1 hP 0 rfl rfl 10 (by decide) g16 (fun _ h9 => h9) rfl dX8_choiceBehind_24 ?_
          refine lv_iload hx hb dX8_choiceBehind_27 (lv_at hl 5 rfl) ?_
          obtain ⟨g10, hf⟩ := ing_some hf
          refine va_iald hx hb hK.1 hP 1 1 rfl rfl g10 dX8_choiceBehind_29 ?_
          refine lv_iconst (v := 1) hx hb dX8_choiceBehind_30 (by decide) ?_
          refine lv_iload_n hx hb dX8_choiceBehind_31 rfl (lv_at hl 1 rfl) ?_
          refine lv_iconst (v := 2) hx hb dX8_choiceBehind_32 (by decide) ?_
          refine lv_irem hx hb dX8_choiceBehind_33 (by decide) ?_
          refine lv_isub hx hb dX8_choiceBehind_34 ?_
          refine lv_icmp_ne (tgt := 57) hx hb dX8_choiceBehind_35 (by decide) (fun c11 => ?_) (fun c11 => ?_)
          · have hf := ite_n hf c11
            exact L57 x1 x2 x3 x4 x5 ls hf (lv_sub hl [0, 1, 2, 3, 4, 5] rfl)
          · have hf := ite_p hf c11
            refine lv_aload_n hx hb dX8_choiceBehind_38 rfl (lv_at hl 0 rfl) ?_
            refine va_get (D := D) (ci := 7) (v := .ref q_o_board) (C := RX8) (T := TX8) (N := 35) hx hb hts hinX8 hown hK.1 hP 0 rfl rfl 30 (by decide) g41 (fun _ h9 => h9) rfl dX8_choiceBehind_39 ?_
            refine lv_bipush (v := 7) hx hb dX8_choiceBehind_42 (by decide) ?_
            refine lv_iload_n hx hb dX8_choiceBehind_44 rfl (lv_at hl 1 rfl) ?_
            refine lv_imul hx hb dX8_choiceBehind_45 ?_
            refine lv_iload hx hb dX8_choiceBehind_46 (lv_at hl 5 rfl) ?_
            refine lv_iadd hx hb dX8_choiceBehind_48 ?_
            obtain ⟨g12, hf⟩ := ing_some hf
            refine va_iald hx hb hK.1 hP 2 1 rfl rfl g12 dX8_choiceBehind_49 ?_
            refine lv_if_le (tgt := 57) hx hb dX8_choiceBehind_50 (by decide) (fun c13 => ?_) (fun c13 => ?_)
            · have hf := ite_p hf c13
              exact L57 x1 x2 x3 x4 x5 ls hf (lv_sub hl [0, 1, 2, 3, 4, 5] rfl)
            · have hf := ite_n hf c13
              refine lv_iconst (v := 1) hx hb dX8_choiceBehind_53 (by decide) ?_
              refine lv_goto (tgt := 58) hx hb dX8_choiceBehind_54 (by decide) ?_
              exact L58 x1 x2 x3 x4 x5 1 ls hf (lv_sub hl [0, 1, 2, 3, 4, 5] rfl)
  unfold f_X8_choiceBehind at hf
  refine lv_bipush (v := 7) hx hb dX8_choiceBehind_0 (by decide) ?_
  refine lv_istore_n (lv' := [(3, .int 7), (0, .ref q_o), (1, .int p1), (2, .int p2)]) hx hb dX8_choiceBehind_2 rfl hl (by decide) rfl (fun ls hl => ?_)
  refine lv_iconst (v := 0) hx hb dX8_choiceBehind_3 (by decide) ?_
  refine lv_istore (lv' := [(4, .int 0), (3, .int 7), (0, .ref q_o), (1, .int p1), (2, .int p2)]) hx hb dX8_choiceBehind_4 hl (by decide) rfl (fun ls hl => ?_)
  refine lv_iconst (v := 5) hx hb dX8_choiceBehind_6 (by decide) ?_
  refine lv_istore (lv' := [(5, .int 5), (4, .int 0), (3, .int 7), (0, .ref q_o), (1, .int p1), (2, .int p2)]) hx hb dX8_choiceBehind_7 hl (by decide) rfl (fun ls hl => ?_)
  exact L9 FU p1 p2 7 0 5 ls hf (lv_sub hl [3, 4, 5, 2, 1, 0] rfl)
def f_X8_playedBy_150 (o_members : Int32) (o_cold : Int32) (o_seconds : Nat → Int32) (o_side : Nat → Int32) (o_s : Nat → Int32) (K23 : Int32 → Int32 → Int32 → Int32 → (Nat → Int32) → (Nat → Int32) → (Nat → Int32) → (Option (Int32 × Int32 × (Nat → Int32) × (Nat → Int32) × (Nat → Int32)))) (x1 : Int32) (x2 : Int32) (x3 : Int32) (o_chosen : Int32) (o_board : Nat → Int32) (o_pick : Nat → Int32) (o_worth : Nat → Int32) : Option (Int32 × Int32 × (Nat → Int32) × (Nat → Int32) × (Nat → Int32)) :=
  K23 x1 x2 x3 o_chosen o_board o_pick o_worth
def f_X8_playedBy_127 (o_members : Int32) (o_cold : Int32) (o_seconds : Nat → Int32) (o_side : Nat → Int32) (o_s : Nat → Int32) (K23 : Int32 → Int32 → Int32 → Int32 → (Nat → Int32) → (Nat → Int32) → (Nat → Int32) → (Option (Int32 × Int32 × (Nat → Int32) × (Nat → Int32) × (Nat → Int32)))) (x1 : Int32) (x2 : Int32) (x3 : Int32) (k1 : Int32) (k2 : Int32) (o_chosen : Int32) (o_board : Nat → Int32) (o_pick : Nat → Int32) (o_worth : Nat → Int32) : Option (Int32 × Int32 × (Nat → Int32) × (Nat → Int32) × (Nat → Int32)) :=
  ing 7 10 <|
  ob1 (f_X8_goes o_members o_cold o_seconds o_board k1 k2 (o_s (7 : Int32).toNatClampNeg)) fun m2 =>
  bnd (x2 + 1) fun y4 =>
  if x1 ≤ y4 then (
    f_X8_playedBy_150 o_members o_cold o_seconds o_side o_s K23 x1 y4 x3 o_chosen m2 o_pick o_worth
  ) else (
    ob2 (f_X8_opens o_pick o_worth y4) fun m6 m7 =>
    f_X8_playedBy_150 o_members o_cold o_seconds o_side o_s K23 x1 y4 x3 o_chosen m2 m6 m7
  )
def f_X8_playedBy_87 (o_members : Int32) (o_cold : Int32) (o_seconds : Nat → Int32) (o_side : Nat → Int32) (o_s : Nat → Int32) (K23 : Int32 → Int32 → Int32 → Int32 → (Nat → Int32) → (Nat → Int32) → (Nat → Int32) → (Option (Int32 × Int32 × (Nat → Int32) × (Nat → Int32) × (Nat → Int32)))) (x1 : Int32) (x2 : Int32) (k0 : Int32) (o_chosen : Int32) (o_board : Nat → Int32) (o_pick : Nat → Int32) (o_worth : Nat → Int32) : Option (Int32 × Int32 × (Nat → Int32) × (Nat → Int32) × (Nat → Int32)) :=
  bnd (x2 + (-1)) fun y9 =>
  ob2 (f_X8_folds o_pick o_chosen o_worth y9 k0) fun m10 m11 =>
  f_X8_playedBy_150 o_members o_cold o_seconds o_side o_s K23 x1 y9 k0 m10 o_board o_pick m11
def f_X8_playedBy_48 (o_members : Int32) (o_cold : Int32) (o_seconds : Nat → Int32) (o_side : Nat → Int32) (o_s : Nat → Int32) (K23 : Int32 → Int32 → Int32 → Int32 → (Nat → Int32) → (Nat → Int32) → (Nat → Int32) → (Option (Int32 × Int32 × (Nat → Int32) × (Nat → Int32) × (Nat → Int32)))) (x1 : Int32) (x2 : Int32) (x3 : Int32) (k0 : Int32) (o_chosen : Int32) (o_board : Nat → Int32) (o_pick : Nat → Int32) (o_worth : Nat → Int32) : Option (Int32 × Int32 × (Nat → Int32) × (Nat → Int32) × (Nat → Int32)) :=
  if k0 = 7 then (
    if x2 = x1 then (
      ob1 (f_X8_lead o_members o_side o_board (7 * x1)) fun r19 =>
      if r19 ≤ 0 then (
        f_X8_playedBy_87 o_members o_cold o_seconds o_side o_s K23 x1 x2 0 o_chosen o_board o_pick o_worth
      ) else (
        f_X8_playedBy_87 o_members o_cold o_seconds o_side o_s K23 x1 x2 1 o_chosen o_board o_pick o_worth
      )
    ) else (
      ing x2 6 <|
      f_X8_playedBy_87 o_members o_cold o_seconds o_side o_s K23 x1 x2 (o_worth x2.toNatClampNeg) o_chosen o_board o_pick o_worth
    )
  ) else (
    ing x2 6 <|
    bnd (upd o_pick x2.toNatClampNeg k0) fun w15 =>
    if k0 = 6 then (
      f_X8_playedBy_127 o_members o_cold o_seconds o_side o_s K23 x1 x2 x3 (7 * x2) ((-9)) o_chosen o_board w15 o_worth
    ) else (
      f_X8_playedBy_127 o_members o_cold o_seconds o_side o_s K23 x1 x2 x3 (7 * x2) k0 o_chosen o_board w15 o_worth
    )
  )
def f_X8_playedBy_23_b (o_members : Int32) (o_cold : Int32) (o_seconds : Nat → Int32) (o_side : Nat → Int32) (o_s : Nat → Int32) (K23 : Int32 → Int32 → Int32 → Int32 → (Nat → Int32) → (Nat → Int32) → (Nat → Int32) → (Option (Int32 × Int32 × (Nat → Int32) × (Nat → Int32) × (Nat → Int32)))) (x1 : Int32) (x2 : Int32) (x3 : Int32) (o_chosen : Int32) (o_board : Nat → Int32) (o_pick : Nat → Int32) (o_worth : Nat → Int32) : Option (Int32 × Int32 × (Nat → Int32) × (Nat → Int32) × (Nat → Int32)) :=
  if x2 < 0 then (
    some (x3, o_chosen, o_board, o_pick, o_worth)
  ) else (
    if x2 = x1 then (
      f_X8_playedBy_48 o_members o_cold o_seconds o_side o_s K23 x1 x2 x3 7 o_chosen o_board o_pick o_worth
    ) else (
      ing x2 6 <|
      ob1 (f_X8_choiceBehind o_members o_side o_board x2 (o_pick x2.toNatClampNeg)) fun r25 =>
      f_X8_playedBy_48 o_members o_cold o_seconds o_side o_s K23 x1 x2 x3 r25 o_chosen o_board o_pick o_worth
    )
  )
def f_X8_playedBy_23 (o_members : Int32) (o_cold : Int32) (o_seconds : Nat → Int32) (o_side : Nat → Int32) (o_s : Nat → Int32) : Nat → Int32 → Int32 → Int32 → Int32 → (Nat → Int32) → (Nat → Int32) → (Nat → Int32) → (Option (Int32 × Int32 × (Nat → Int32) × (Nat → Int32) × (Nat → Int32)))
  | 0 => fun _ _ _ _ _ _ _ => none
  | n + 1 => f_X8_playedBy_23_b o_members o_cold o_seconds o_side o_s (f_X8_playedBy_23 o_members o_cold o_seconds o_side o_s n)
def f_X8_playedBy (o_members : Int32) (o_cold : Int32) (o_seconds : Nat → Int32) (o_side : Nat → Int32) (o_s : Nat → Int32) (o_chosen : Int32) (o_board : Nat → Int32) (o_pick : Nat → Int32) (o_worth : Nat → Int32) (p1 : Int32) : Option (Int32 × Int32 × (Nat → Int32) × (Nat → Int32) × (Nat → Int32)) :=
  ob1 (f_X8_setsBoard o_s o_board) fun m27 =>
  if p1 ≤ 0 then (
    f_X8_playedBy_23 o_members o_cold o_seconds o_side o_s FU p1 0 0 ((-9)) m27 o_pick o_worth
  ) else (
    ob2 (f_X8_opens o_pick o_worth 0) fun m30 m31 =>
    f_X8_playedBy_23 o_members o_cold o_seconds o_side o_s FU p1 0 0 ((-9)) m27 m30 m31
  )
set_option maxHeartbeats 4000000 in
set_option maxRecDepth 100000 in
theorem c_X8_playedBy (l : Launch) (D : va_G) (cB cI cZ cM cN : ClassId) (q_o : Nat) (q_o_text : Nat) (q_o_warmth : Nat) (q_o_side : Nat) (q_o_seconds : Nat) (q_o_s : Nat) (q_o_kept : Nat) (q_o_isKept : Nat) (q_o_undos : Nat) (q_o_seenAt : Nat) (q_o_seen : Nat) (q_o_board : Nat) (q_o_pick : Nat) (q_o_worth : Nat) (q_o_best : Nat) (o_thrown : Int32) (o_trace : Int64) (o_typed : Int32) (o_next : Int32) (o_token : Int32) (o_place : Int32) (o_value : Int32) (o_fault : Int32) (o_members : Int32) (o_pairs : Int32) (o_cold : Int32) (o_fur : Int32) (o_coughs : Int32) (o_draftMembers : Int32) (o_draftPairs : Int32) (o_draftCold : Int32) (o_draftFur : Int32) (o_draftCoughs : Int32) (o_undoMany : Int32) (o_seenMany : Int32) (o_chosen : Int32) (o_seconds : Nat → Int32) (o_side : Nat → Int32) (o_s : Nat → Int32) (o_board : Nat → Int32) (o_pick : Nat → Int32) (o_worth : Nat → Int32) (p1 : Int32) (r : Int32) (o_chosen' : Int32) (o_board' : Nat → Int32) (o_pick' : Nat → Int32) (o_worth' : Nat → Int32) (sz : Nat) (hf : f_X8_playedBy o_members o_cold o_seconds o_side o_s o_chosen o_board o_pick o_worth p1 = some (r, o_chosen', o_board', o_pick', o_worth')) : Met l yX8_playedBy wsX8_playedBy ({ frames := 2, cells := 0, slots := 0, locals := 52 } : Room) (PM D cB cI cZ cM cN [.ref q_o, .int p1] [(q_o, .inr (7, [.int o_thrown, .long o_trace, .ref q_o_text, .int o_typed, .int o_next, .int o_token, .int o_place, .int o_value, .int o_fault, .ref q_o_warmth, .ref q_o_side, .ref q_o_seconds, .int o_members, .int o_pairs, .int o_cold, .int o_fur, .int o_coughs, .int o_draftMembers, .int o_draftPairs, .int o_draftCold, .int o_draftFur, .int o_draftCoughs, .ref q_o_s, .ref q_o_kept, .ref q_o_isKept, .ref q_o_undos, .int o_undoMany, .ref q_o_seenAt, .ref q_o_seen, .int o_seenMany, .ref q_o_board, .ref q_o_pick, .ref q_o_worth, .ref q_o_best, .int o_chosen])), (q_o_seconds, .inl (cI, 12, .inl o_seconds)), (q_o_side, .inl (cI, 12, .inl o_side)), (q_o_s, .inl (cI, 10, .inl o_s)), (q_o_board, .inl (cI, 49, .inl o_board)), (q_o_pick, .inl (cI, 6, .inl o_pick)), (q_o_worth, .inl (cI, 6, .inl o_worth))] sz) (QI D [(q_o, .inr (7, [.int o_thrown, .long o_trace, .ref q_o_text, .int o_typed, .int o_next, .int o_token, .int o_place, .int o_value, .int o_fault, .ref q_o_warmth, .ref q_o_side, .ref q_o_seconds, .int o_members, .int o_pairs, .int o_cold, .int o_fur, .int o_coughs, .int o_draftMembers, .int o_draftPairs, .int o_draftCold, .int o_draftFur, .int o_draftCoughs, .ref q_o_s, .ref q_o_kept, .ref q_o_isKept, .ref q_o_undos, .int o_undoMany, .ref q_o_seenAt, .ref q_o_seen, .int o_seenMany, .ref q_o_board, .ref q_o_pick, .ref q_o_worth, .ref q_o_best, .int o_chosen'])), (q_o_seconds, .inl (cI, 12, .inl o_seconds)), (q_o_side, .inl (cI, 12, .inl o_side)), (q_o_s, .inl (cI, 10, .inl o_s)), (q_o_board, .inl (cI, 49, .inl o_board')), (q_o_pick, .inl (cI, 6, .inl o_pick')), (q_o_worth, .inl (cI, 6, .inl o_worth'))] r (va_A [(q_o, .inr (7, [.int o_thrown, .long o_trace, .ref q_o_text, .int o_typed, .int o_next, .int o_token, .int o_place, .int o_value, .int o_fault, .ref q_o_warmth, .ref q_o_side, .ref q_o_seconds, .int o_members, .int o_pairs, .int o_cold, .int o_fur, .int o_coughs, .int o_draftMembers, .int o_draftPairs, .int o_draftCold, .int o_draftFur, .int o_draftCoughs, .ref q_o_s, .ref q_o_kept, .ref q_o_isKept, .ref q_o_undos, .int o_undoMany, .ref q_o_seenAt, .ref q_o_seen, .int o_seenMany, .ref q_o_board, .ref q_o_pick, .ref q_o_worth, .ref q_o_best, .int o_chosen])), (q_o_seconds, .inl (cI, 12, .inl o_seconds)), (q_o_side, .inl (cI, 12, .inl o_side)), (q_o_s, .inl (cI, 10, .inl o_s)), (q_o_board, .inl (cI, 49, .inl o_board)), (q_o_pick, .inl (cI, 6, .inl o_pick)), (q_o_worth, .inl (cI, 6, .inl o_worth))] sz)) 0 0 (va_A [(q_o, .inr (7, [.int o_thrown, .long o_trace, .ref q_o_text, .int o_typed, .int o_next, .int o_token, .int o_place, .int o_value, .int o_fault, .ref q_o_warmth, .ref q_o_side, .ref q_o_seconds, .int o_members, .int o_pairs, .int o_cold, .int o_fur, .int o_coughs, .int o_draftMembers, .int o_draftPairs, .int o_draftCold, .int o_draftFur, .int o_draftCoughs, .ref q_o_s, .ref q_o_kept, .ref q_o_isKept, .ref q_o_undos, .int o_undoMany, .ref q_o_seenAt, .ref q_o_seen, .int o_seenMany, .ref q_o_board, .ref q_o_pick, .ref q_o_worth, .ref q_o_best, .int o_chosen])), (q_o_seconds, .inl (cI, 12, .inl o_seconds)), (q_o_side, .inl (cI, 12, .inl o_side)), (q_o_s, .inl (cI, 10, .inl o_s)), (q_o_board, .inl (cI, 49, .inl o_board)), (q_o_pick, .inl (cI, 6, .inl o_pick)), (q_o_worth, .inl (cI, 6, .inl o_worth))] sz) := by
  refine entM (l := l) (y := yX8_playedBy) (ws := wsX8_playedBy) (cc := cX8_playedBy) (av := [.ref q_o, .int p1]) (wc := [(q_o, .inr (7, [.int o_thrown, .long o_trace, .ref q_o_text, .int o_typed, .int o_next, .int o_token, .int o_place, .int o_value, .int o_fault, .ref q_o_warmth, .ref q_o_side, .ref q_o_seconds, .int o_members, .int o_pairs, .int o_cold, .int o_fur, .int o_coughs, .int o_draftMembers, .int o_draftPairs, .int o_draftCold, .int o_draftFur, .int o_draftCoughs, .ref q_o_s, .ref q_o_kept, .ref q_o_isKept, .ref q_o_undos, .int o_undoMany, .ref q_o_seenAt, .ref q_o_seen, .int o_seenMany, .ref q_o_board, .ref q_o_pick, .ref q_o_worth, .ref q_o_best, .int o_chosen])), (q_o_seconds, .inl (cI, 12, .inl o_seconds)), (q_o_side, .inl (cI, 12, .inl o_side)), (q_o_s, .inl (cI, 10, .inl o_s)), (q_o_board, .inl (cI, 49, .inl o_board)), (q_o_pick, .inl (cI, 6, .inl o_pick)), (q_o_worth, .inl (cI, 6, .inl o_worth))]) (sz := sz) (Qc := fun A => QI D [(q_o, .inr (7, [.int o_thrown, .long o_trace, .ref q_o_text, .int o_typed, .int o_next, .int o_token, .int o_place, .int o_value, .int o_fault, .ref q_o_warmth, .ref q_o_side, .ref q_o_seconds, .int o_members, .int o_pairs, .int o_cold, .int o_fur, .int o_coughs, .int o_draftMembers, .int o_draftPairs, .int o_draftCold, .int o_draftFur, .int o_draftCoughs, .ref q_o_s, .ref q_o_kept, .ref q_o_isKept, .ref q_o_undos, .int o_undoMany, .ref q_o_seenAt, .ref q_o_seen, .int o_seenMany, .ref q_o_board, .ref q_o_pick, .ref q_o_worth, .ref q_o_best, .int o_chosen'])), (q_o_seconds, .inl (cI, 12, .inl o_seconds)), (q_o_side, .inl (cI, 12, .inl o_side)), (q_o_s, .inl (cI, 10, .inl o_s)), (q_o_board, .inl (cI, 49, .inl o_board')), (q_o_pick, .inl (cI, 6, .inl o_pick')), (q_o_worth, .inl (cI, 6, .inl o_worth'))] r A) (by decide +kernel) rfl (Nat.le_of_ble_eq_true rfl) ?_
  intro A p e s m below meth c hx hb hr hml hown hlocks hts hK hA H locs hP hD hS ls hl
  have hown : s.vm.findClass RX8 = some m.cls := hown
  have hl : lv_has ls 5 [(0, .ref q_o), (1, .int p1)] := hl
  have hfix : CallFix p m c cX8_playedBy 5 s ([.ref q_o, .int p1] : List Value).toArray wsX8_playedBy RX8 := ⟨hx, hb, hml, hown, hts⟩
  have hinX8 : ∀ w ∈ u_ws RX8 TX8 35, w ∈ wsX8_playedBy := by decide +kernel
  have g22 := hts (.fieldLink RX8 22 "LastCoatModel" "s" "[I") (by decide +kernel)
  have g44 := hts (.fieldLink RX8 44 "LastCoatModel" "pick" "[I") (by decide +kernel)
  have g47 := hts (.fieldLink RX8 47 "LastCoatModel" "worth" "[I") (by decide +kernel)
  have g212 := hts (.fieldLink RX8 212 "LastCoatModel" "chosen" "I") (by decide +kernel)
  have L23 : ∀ (n23 : Nat) (x1 : Int32) (x2 : Int32) (x3 : Int32) (o_chosen : Int32) (o_board : Nat → Int32) (o_pick : Nat → Int32) (o_worth : Nat → Int32) (H : Heap) (locs : List Loc) (ls : Array Slot), f_X8_playedBy_23 o_members o_cold o_seconds o_side o_s n23 x1 x2 x3 o_chosen o_board o_pick o_worth = some (r, o_chosen', o_board', o_pick', o_worth') → va_P D vwCl [(q_o, .inr (7, [.int o_thrown, .long o_trace, .ref q_o_text, .int o_typed, .int o_next, .int o_token, .int o_place, .int o_value, .int o_fault, .ref q_o_warmth, .ref q_o_side, .ref q_o_seconds, .int o_members, .int o_pairs, .int o_cold, .int o_fur, .int o_coughs, .int o_draftMembers, .int o_draftPairs, .int o_draftCold, .int o_draftFur, .int o_draftCoughs, .ref q_o_s, .ref q_o_kept, .ref q_o_isKept, .ref q_o_undos, .int o_undoMany, .ref q_o_seenAt, .ref q_o_seen, .int o_seenMany, .ref q_o_board, .ref q_o_pick, .ref q_o_worth, .ref q_o_best, .int o_chosen])), (q_o_seconds, .inl (cI, 12, .inl o_seconds)), (q_o_side, .inl (cI, 12, .inl o_side)), (q_o_s, .inl (cI, 10, .inl o_s)), (q_o_board, .inl (cI, 49, .inl o_board)), (q_o_pick, .inl (cI, 6, .inl o_pick)), (q_o_worth, .inl (cI, 6, .inl o_worth))] H → va_D A [(q_o, .inr (7, [.int o_thrown, .long o_trace, .ref q_o_text, .int o_typed, .int o_next, .int o_token, .int o_place, .int o_value, .int o_fault, .ref q_o_warmth, .ref q_o_side, .ref q_o_seconds, .int o_members, .int o_pairs, .int o_cold, .int o_fur, .int o_coughs, .int o_draftMembers, .int o_draftPairs, .int o_draftCold, .int o_draftFur, .int o_draftCoughs, .ref q_o_s, .ref q_o_kept, .ref q_o_isKept, .ref q_o_undos, .int o_undoMany, .ref q_o_seenAt, .ref q_o_seen, .int o_seenMany, .ref q_o_board, .ref q_o_pick, .ref q_o_worth, .ref q_o_best, .int o_chosen])), (q_o_seconds, .inl (cI, 12, .inl o_seconds)), (q_o_side, .inl (cI, 12, .inl o_side)), (q_o_s, .inl (cI, 10, .inl o_s)), (q_o_board, .inl (cI, 49, .inl o_board)), (q_o_pick, .inl (cI, 6, .inl o_pick)), (q_o_worth, .inl (cI, 6, .inl o_worth))] → va_S A s.heap H locs → lv_has ls 5 [(0, .ref q_o), (1, .int x1), (2, .int x2), (3, .int x3)] → W p l e ({ frames := 2, cells := 0, slots := 0, locals := 52 } : Room) s m ([.ref q_o, .int p1] : List Value).toArray below meth c H locs 0 0 (MQ below (QI D [(q_o, .inr (7, [.int o_thrown, .long o_trace, .ref q_o_text, .int o_typed, .int o_next, .int o_token, .int o_place, .int o_value, .int o_fault, .ref q_o_warmth, .ref q_o_side, .ref q_o_seconds, .int o_members, .int o_pairs, .int o_cold, .int o_fur, .int o_coughs, .int o_draftMembers, .int o_draftPairs, .int o_draftCold, .int o_draftFur, .int o_draftCoughs, .ref q_o_s, .ref q_o_kept, .ref q_o_isKept, .ref q_o_undos, .int o_undoMany, .ref q_o_seenAt, .ref q_o_seen, .int o_seenMany, .ref q_o_board, .ref q_o_pick, .ref q_o_worth, .ref q_o_best, .int o_chosen'])), (q_o_seconds, .inl (cI, 12, .inl o_seconds)), (q_o_side, .inl (cI, 12, .inl o_side)), (q_o_s, .inl (cI, 10, .inl o_s)), (q_o_board, .inl (cI, 49, .inl o_board')), (q_o_pick, .inl (cI, 6, .inl o_pick')), (q_o_worth, .inl (cI, 6, .inl o_worth'))] r A) ([.ref q_o, .int p1] : List Value).toArray s 0 0 A) (F0 m 23 ls []) := by
    intro n23
    induction n23 with
    | zero =>
      intro x1 x2 x3 o_chosen o_board o_pick o_worth H locs ls hf hP hD hS hl
      exact noneNe hf
    | succ n23 ih23 =>
      have L150 : ∀ (x1 : Int32) (x2 : Int32) (x3 : Int32) (o_chosen : Int32) (o_board : Nat → Int32) (o_pick : Nat → Int32) (o_worth : Nat → Int32) (H : Heap) (locs : List Loc) (ls : Array Slot), f_X8_playedBy_150 o_members o_cold o_seconds o_side o_s (f_X8_playedBy_23 o_members o_cold o_seconds o_side o_s n23) x1 x2 x3 o_chosen o_board o_pick o_worth = some (r, o_chosen', o_board', o_pick', o_worth') → va_P D vwCl [(q_o, .inr (7, [.int o_thrown, .long o_trace, .ref q_o_text, .int o_typed, .int o_next, .int o_token, .int o_place, .int o_value, .int o_fault, .ref q_o_warmth, .ref q_o_side, .ref q_o_seconds, .int o_members, .int o_pairs, .int o_cold, .int o_fur, .int o_coughs, .int o_draftMembers, .int o_draftPairs, .int o_draftCold, .int o_draftFur, .int o_draftCoughs, .ref q_o_s, .ref q_o_kept, .ref q_o_isKept, .ref q_o_undos, .int o_undoMany, .ref q_o_seenAt, .ref q_o_seen, .int o_seenMany, .ref q_o_board, .ref q_o_pick, .ref q_o_worth, .ref q_o_best, .int o_chosen])), (q_o_seconds, .inl (cI, 12, .inl o_seconds)), (q_o_side, .inl (cI, 12, .inl o_side)), (q_o_s, .inl (cI, 10, .inl o_s)), (q_o_board, .inl (cI, 49, .inl o_board)), (q_o_pick, .inl (cI, 6, .inl o_pick)), (q_o_worth, .inl (cI, 6, .inl o_worth))] H → va_D A [(q_o, .inr (7, [.int o_thrown, .long o_trace, .ref q_o_text, .int o_typed, .int o_next, .int o_token, .int o_place, .int o_value, .int o_fault, .ref q_o_warmth, .ref q_o_side, .ref q_o_seconds, .int o_members, .int o_pairs, .int o_cold, .int o_fur, .int o_coughs, .int o_draftMembers, .int o_draftPairs, .int o_draftCold, .int o_draftFur, .int o_draftCoughs, .ref q_o_s, .ref q_o_kept, .ref q_o_isKept, .ref q_o_undos, .int o_undoMany, .ref q_o_seenAt, .ref q_o_seen, .int o_seenMany, .ref q_o_board, .ref q_o_pick, .ref q_o_worth, .ref q_o_best, .int o_chosen])), (q_o_seconds, .inl (cI, 12, .inl o_seconds)), (q_o_side, .inl (cI, 12, .inl o_side)), (q_o_s, .inl (cI, 10, .inl o_s)), (q_o_board, .inl (cI, 49, .inl o_board)), (q_o_pick, .inl (cI, 6, .inl o_pick)), (q_o_worth, .inl (cI, 6, .inl o_worth))] → va_S A s.heap H locs → lv_has ls 5 [(0, .ref q_o), (1, .int x1), (2, .int x2), (3, .int x3)] → W p l e ({ frames := 2, cells := 0, slots := 0, locals := 52 } : Room) s m ([.ref q_o, .int p1] : List Value).toArray below meth c H locs 0 0 (MQ below (QI D [(q_o, .inr (7, [.int o_thrown, .long o_trace, .ref q_o_text, .int o_typed, .int o_next, .int o_token, .int o_place, .int o_value, .int o_fault, .ref q_o_warmth, .ref q_o_side, .ref q_o_seconds, .int o_members, .int o_pairs, .int o_cold, .int o_fur, .int o_coughs, .int o_draftMembers, .int o_draftPairs, .int o_draftCold, .int o_draftFur, .int o_draftCoughs, .ref q_o_s, .ref q_o_kept, .ref q_o_isKept, .ref q_o_undos, .int o_undoMany, .ref q_o_seenAt, .ref q_o_seen, .int o_seenMany, .ref q_o_board, .ref q_o_pick, .ref q_o_worth, .ref q_o_best, .int o_chosen'])), (q_o_seconds, .inl (cI, 12, .inl o_seconds)), (q_o_side, .inl (cI, 12, .inl o_side)), (q_o_s, .inl (cI, 10, .inl o_s)), (q_o_board, .inl (cI, 49, .inl o_board')), (q_o_pick, .inl (cI, 6, .inl o_pick')), (q_o_worth, .inl (cI, 6, .inl o_worth'))] r A) ([.ref q_o, .int p1] : List Value).toArray s 0 0 A) (F0 m 150 ls []) := by
        intro x1 x2 x3 o_chosen o_board o_pick o_worth H locs ls hf hP hD hS hl
        unfold f_X8_playedBy_150 at hf
        refine lv_goto (tgt := 23) hx hb dX8_playedBy_150 (by decide) ?_
        exact ih23 x1 x2 x3 o_chosen o_board o_pick o_worth _ _ ls hf hP hD hS (lv_sub hl [0, 1, 2, 3] rfl)
      have L127 : ∀ (x1 : Int32) (x2 : Int32) (x3 : Int32) (k1 : Int32) (k2 : Int32) (o_chosen : Int32) (o_board : Nat → Int32) (o_pick : Nat → Int32) (o_worth : Nat → Int32) (H : Heap) (locs : List Loc) (ls : Array Slot), f_X8_playedBy_127 o_members o_cold o_seconds o_side o_s (f_X8_playedBy_23 o_members o_cold o_seconds o_side o_s n23) x1 x2 x3 k1 k2 o_chosen o_board o_pick o_worth = some (r, o_chosen', o_board', o_pick', o_worth') → va_P D vwCl [(q_o, .inr (7, [.int o_thrown, .long o_trace, .ref q_o_text, .int o_typed, .int o_next, .int o_token, .int o_place, .int o_value, .int o_fault, .ref q_o_warmth, .ref q_o_side, .ref q_o_seconds, .int o_members, .int o_pairs, .int o_cold, .int o_fur, .int o_coughs, .int o_draftMembers, .int o_draftPairs, .int o_draftCold, .int o_draftFur, .int o_draftCoughs, .ref q_o_s, .ref q_o_kept, .ref q_o_isKept, .ref q_o_undos, .int o_undoMany, .ref q_o_seenAt, .ref q_o_seen, .int o_seenMany, .ref q_o_board, .ref q_o_pick, .ref q_o_worth, .ref q_o_best, .int o_chosen])), (q_o_seconds, .inl (cI, 12, .inl o_seconds)), (q_o_side, .inl (cI, 12, .inl o_side)), (q_o_s, .inl (cI, 10, .inl o_s)), (q_o_board, .inl (cI, 49, .inl o_board)), (q_o_pick, .inl (cI, 6, .inl o_pick)), (q_o_worth, .inl (cI, 6, .inl o_worth))] H → va_D A [(q_o, .inr (7, [.int o_thrown, .long o_trace, .ref q_o_text, .int o_typed, .int o_next, .int o_token, .int o_place, .int o_value, .int o_fault, .ref q_o_warmth, .ref q_o_side, .ref q_o_seconds, .int o_members, .int o_pairs, .int o_cold, .int o_fur, .int o_coughs, .int o_draftMembers, .int o_draftPairs, .int o_draftCold, .int o_draftFur, .int o_draftCoughs, .ref q_o_s, .ref q_o_kept, .ref q_o_isKept, .ref q_o_undos, .int o_undoMany, .ref q_o_seenAt, .ref q_o_seen, .int o_seenMany, .ref q_o_board, .ref q_o_pick, .ref q_o_worth, .ref q_o_best, .int o_chosen])), (q_o_seconds, .inl (cI, 12, .inl o_seconds)), (q_o_side, .inl (cI, 12, .inl o_side)), (q_o_s, .inl (cI, 10, .inl o_s)), (q_o_board, .inl (cI, 49, .inl o_board)), (q_o_pick, .inl (cI, 6, .inl o_pick)), (q_o_worth, .inl (cI, 6, .inl o_worth))] → va_S A s.heap H locs → lv_has ls 5 [(0, .ref q_o), (1, .int x1), (2, .int x2), (3, .int x3)] → W p l e ({ frames := 2, cells := 0, slots := 0, locals := 52 } : Room) s m ([.ref q_o, .int p1] : List Value).toArray below meth c H locs 0 0 (MQ below (QI D [(q_o, .inr (7, [.int o_thrown, .long o_trace, .ref q_o_text, .int o_typed, .int o_next, .int o_token, .int o_place, .int o_value, .int o_fault, .ref q_o_warmth, .ref q_o_side, .ref q_o_seconds, .int o_members, .int o_pairs, .int o_cold, .int o_fur, .int o_coughs, .int o_draftMembers, .int o_draftPairs, .int o_draftCold, .int o_draftFur, .int o_draftCoughs, .ref q_o_s, .ref q_o_kept, .ref q_o_isKept, .ref q_o_undos, .int o_undoMany, .ref q_o_seenAt, .ref q_o_seen, .int o_seenMany, .ref q_o_board, .ref q_o_pick, .ref q_o_worth, .ref q_o_best, .int o_chosen'])), (q_o_seconds, .inl (cI, 12, .inl o_seconds)), (q_o_side, .inl (cI, 12, .inl o_side)), (q_o_s, .inl (cI, 10, .inl o_s)), (q_o_board, .inl (cI, 49, .inl o_board')), (q_o_pick, .inl (cI, 6, .inl o_pick')), (q_o_worth, .inl (cI, 6, .inl o_worth'))] r A) ([.ref q_o, .int p1] : List Value).toArray s 0 0 A) (F0 m 127 ls [.int k2, .int k1, .ref q_o]) := by
        intro x1 x2 x3 k1 k2 o_chosen o_board o_pick o_worth H locs ls hf hP hD hS hl
        unfold f_X8_playedBy_127 at hf
        refine lv_aload_n hx hb dX8_playedBy_127 rfl (lv_at hl 0 rfl) ?_
        refine va_get (D := D) (ci := 7) (v := .ref q_o_s) (C := RX8) (T := TX8) (N := 35) hx hb hts hinX8 hown hK.1 hP 0 rfl rfl 22 (by decide) g22 (fun _ h9 => h9) rfl dX8_playedBy_128 ?_
        refine lv_bipush (v := 7) hx hb dX8_playedBy_131 (by decide) ?_
        obtain ⟨g1, hf⟩ := ing_some hf
        refine va_iald hx hb hK.1 hP 3 1 rfl rfl g1 dX8_playedBy_133 ?_
        obtain ⟨m2, h3, hf⟩ := ob1_some hf
        refine muVv (wr := [(q_o_side, .inl (cI, 12, .inl o_side)), (q_o_s, .inl (cI, 10, .inl o_s)), (q_o_pick, .inl (cI, 6, .inl o_pick)), (q_o_worth, .inl (cI, 6, .inl o_worth))]) (ws1 := [(q_o, .inr (7, [.int o_thrown, .long o_trace, .ref q_o_text, .int o_typed, .int o_next, .int o_token, .int o_place, .int o_value, .int o_fault, .ref q_o_warmth, .ref q_o_side, .ref q_o_seconds, .int o_members, .int o_pairs, .int o_cold, .int o_fur, .int o_coughs, .int o_draftMembers, .int o_draftPairs, .int o_draftCold, .int o_draftFur, .int o_draftCoughs, .ref q_o_s, .ref q_o_kept, .ref q_o_isKept, .ref q_o_undos, .int o_undoMany, .ref q_o_seenAt, .ref q_o_seen, .int o_seenMany, .ref q_o_board, .ref q_o_pick, .ref q_o_worth, .ref q_o_best, .int o_chosen])), (q_o_seconds, .inl (cI, 12, .inl o_seconds)), (q_o_side, .inl (cI, 12, .inl o_side)), (q_o_s, .inl (cI, 10, .inl o_s)), (q_o_board, .inl (cI, 49, .inl m2)), (q_o_pick, .inl (cI, 6, .inl o_pick)), (q_o_worth, .inl (cI, 6, .inl o_worth))]) (c_X8_goes l D cB cI cZ cM cN q_o q_o_text q_o_warmth q_o_side q_o_seconds q_o_s q_o_kept q_o_isKept q_o_undos q_o_seenAt q_o_seen q_o_board q_o_pick q_o_worth q_o_best o_thrown o_trace o_typed o_next o_token o_place o_value o_fault o_members o_pairs o_cold o_fur o_coughs o_draftMembers o_draftPairs o_draftCold o_draftFur o_draftCoughs o_undoMany o_seenMany o_chosen o_seconds o_board k1 k2 (o_s (7 : Int32).toNatClampNeg) m2 H.size h3) hfix (cwV 3 hts gX8_playedBy_X8_goes rfl rfl rfl (by decide +kernel) ⟨Nat.le_of_ble_eq_true rfl, Nat.le_of_ble_eq_true rfl⟩) hP hK hD hA hS [0, 1, 4] [2, 3, 5, 6] [4, 5, 0, 1, 6, 2, 3] rfl rfl rfl rfl (by decide) rfl rfl rfl rfl rfl rfl hl.1 rfl (Nat.le_of_ble_eq_true rfl) dX8_playedBy_134 ⟨Nat.zero_le _, Nat.zero_le _⟩ (fun H locs hP hD hS => ?_)
        obtain ⟨y4, ey4⟩ : ∃ z : Int32, z = x2 + 1 := ⟨_, rfl⟩
        have hf := bnd_at hf ey4
        refine lv_iinc (v := y4) (lv' := [(2, .int y4), (0, .ref q_o), (1, .int x1), (3, .int x3)]) hx hb dX8_playedBy_137 hl (k := 2) rfl (by rw [ey4]; rfl) (by decide) rfl (fun ls hl => ?_)
        refine lv_iload_n hx hb dX8_playedBy_140 rfl (lv_at hl 0 rfl) ?_
        refine lv_iload_n hx hb dX8_playedBy_141 rfl (lv_at hl 2 rfl) ?_
        refine lv_icmp_ge (tgt := 150) hx hb dX8_playedBy_142 (by decide) (fun c5 => ?_) (fun c5 => ?_)
        · have hf := ite_p hf c5
          exact L150 x1 y4 x3 o_chosen m2 o_pick o_worth _ _ ls hf hP hD hS (lv_sub hl [1, 2, 0, 3] rfl)
        · have hf := ite_n hf c5
          refine lv_aload_n hx hb dX8_playedBy_145 rfl (lv_at hl 1 rfl) ?_
          refine lv_iload_n hx hb dX8_playedBy_146 rfl (lv_at hl 0 rfl) ?_
          obtain ⟨m6, m7, h8, hf⟩ := ob2_some hf
          refine muVv (wr := [(q_o_seconds, .inl (cI, 12, .inl o_seconds)), (q_o_side, .inl (cI, 12, .inl o_side)), (q_o_s, .inl (cI, 10, .inl o_s)), (q_o_board, .inl (cI, 49, .inl m2))]) (ws1 := [(q_o, .inr (7, [.int o_thrown, .long o_trace, .ref q_o_text, .int o_typed, .int o_next, .int o_token, .int o_place, .int o_value, .int o_fault, .ref q_o_warmth, .ref q_o_side, .ref q_o_seconds, .int o_members, .int o_pairs, .int o_cold, .int o_fur, .int o_coughs, .int o_draftMembers, .int o_draftPairs, .int o_draftCold, .int o_draftFur, .int o_draftCoughs, .ref q_o_s, .ref q_o_kept, .ref q_o_isKept, .ref q_o_undos, .int o_undoMany, .ref q_o_seenAt, .ref q_o_seen, .int o_seenMany, .ref q_o_board, .ref q_o_pick, .ref q_o_worth, .ref q_o_best, .int o_chosen])), (q_o_seconds, .inl (cI, 12, .inl o_seconds)), (q_o_side, .inl (cI, 12, .inl o_side)), (q_o_s, .inl (cI, 10, .inl o_s)), (q_o_board, .inl (cI, 49, .inl m2)), (q_o_pick, .inl (cI, 6, .inl m6)), (q_o_worth, .inl (cI, 6, .inl m7))]) (c_X8_opens l D cB cI cZ cM cN q_o q_o_text q_o_warmth q_o_side q_o_seconds q_o_s q_o_kept q_o_isKept q_o_undos q_o_seenAt q_o_seen q_o_board q_o_pick q_o_worth q_o_best o_thrown o_trace o_typed o_next o_token o_place o_value o_fault o_members o_pairs o_cold o_fur o_coughs o_draftMembers o_draftPairs o_draftCold o_draftFur o_draftCoughs o_undoMany o_seenMany o_chosen o_pick o_worth y4 m6 m7 H.size h8) hfix (cwV 1 hts gX8_playedBy_X8_opens rfl rfl rfl (by decide +kernel) ⟨Nat.le_of_ble_eq_true rfl, Nat.le_of_ble_eq_true rfl⟩) hP hK hD hA hS [0, 5, 6] [1, 2, 3, 4] [4, 0, 1, 2, 3, 5, 6] rfl rfl rfl rfl (by decide) rfl rfl rfl rfl rfl rfl hl.1 rfl (Nat.le_of_ble_eq_true rfl) dX8_playedBy_147 ⟨Nat.zero_le _, Nat.zero_le _⟩ (fun H locs hP hD hS => ?_)
          exact L150 x1 y4 x3 o_chosen m2 m6 m7 _ _ ls hf hP hD hS (lv_sub hl [1, 2, 0, 3] rfl)
      have L87 : ∀ (x1 : Int32) (x2 : Int32) (k0 : Int32) (o_chosen : Int32) (o_board : Nat → Int32) (o_pick : Nat → Int32) (o_worth : Nat → Int32) (H : Heap) (locs : List Loc) (ls : Array Slot), f_X8_playedBy_87 o_members o_cold o_seconds o_side o_s (f_X8_playedBy_23 o_members o_cold o_seconds o_side o_s n23) x1 x2 k0 o_chosen o_board o_pick o_worth = some (r, o_chosen', o_board', o_pick', o_worth') → va_P D vwCl [(q_o, .inr (7, [.int o_thrown, .long o_trace, .ref q_o_text, .int o_typed, .int o_next, .int o_token, .int o_place, .int o_value, .int o_fault, .ref q_o_warmth, .ref q_o_side, .ref q_o_seconds, .int o_members, .int o_pairs, .int o_cold, .int o_fur, .int o_coughs, .int o_draftMembers, .int o_draftPairs, .int o_draftCold, .int o_draftFur, .int o_draftCoughs, .ref q_o_s, .ref q_o_kept, .ref q_o_isKept, .ref q_o_undos, .int o_undoMany, .ref q_o_seenAt, .ref q_o_seen, .int o_seenMany, .ref q_o_board, .ref q_o_pick, .ref q_o_worth, .ref q_o_best, .int o_chosen])), (q_o_seconds, .inl (cI, 12, .inl o_seconds)), (q_o_side, .inl (cI, 12, .inl o_side)), (q_o_s, .inl (cI, 10, .inl o_s)), (q_o_board, .inl (cI, 49, .inl o_board)), (q_o_pick, .inl (cI, 6, .inl o_pick)), (q_o_worth, .inl (cI, 6, .inl o_worth))] H → va_D A [(q_o, .inr (7, [.int o_thrown, .long o_trace, .ref q_o_text, .int o_typed, .int o_next, .int o_token, .int o_place, .int o_value, .int o_fault, .ref q_o_warmth, .ref q_o_side, .ref q_o_seconds, .int o_members, .int o_pairs, .int o_cold, .int o_fur, .int o_coughs, .int o_draftMembers, .int o_draftPairs, .int o_draftCold, .int o_draftFur, .int o_draftCoughs, .ref q_o_s, .ref q_o_kept, .ref q_o_isKept, .ref q_o_undos, .int o_undoMany, .ref q_o_seenAt, .ref q_o_seen, .int o_seenMany, .ref q_o_board, .ref q_o_pick, .ref q_o_worth, .ref q_o_best, .int o_chosen])), (q_o_seconds, .inl (cI, 12, .inl o_seconds)), (q_o_side, .inl (cI, 12, .inl o_side)), (q_o_s, .inl (cI, 10, .inl o_s)), (q_o_board, .inl (cI, 49, .inl o_board)), (q_o_pick, .inl (cI, 6, .inl o_pick)), (q_o_worth, .inl (cI, 6, .inl o_worth))] → va_S A s.heap H locs → lv_has ls 5 [(0, .ref q_o), (1, .int x1), (2, .int x2)] → W p l e ({ frames := 2, cells := 0, slots := 0, locals := 52 } : Room) s m ([.ref q_o, .int p1] : List Value).toArray below meth c H locs 0 0 (MQ below (QI D [(q_o, .inr (7, [.int o_thrown, .long o_trace, .ref q_o_text, .int o_typed, .int o_next, .int o_token, .int o_place, .int o_value, .int o_fault, .ref q_o_warmth, .ref q_o_side, .ref q_o_seconds, .int o_members, .int o_pairs, .int o_cold, .int o_fur, .int o_coughs, .int o_draftMembers, .int o_draftPairs, .int o_draftCold, .int o_draftFur, .int o_draftCoughs, .ref q_o_s, .ref q_o_kept, .ref q_o_isKept, .ref q_o_undos, .int o_undoMany, .ref q_o_seenAt, .ref q_o_seen, .int o_seenMany, .ref q_o_board, .ref q_o_pick, .ref q_o_worth, .ref q_o_best, .int o_chosen'])), (q_o_seconds, .inl (cI, 12, .inl o_seconds)), (q_o_side, .inl (cI, 12, .inl o_side)), (q_o_s, .inl (cI, 10, .inl o_s)), (q_o_board, .inl (cI, 49, .inl o_board')), (q_o_pick, .inl (cI, 6, .inl o_pick')), (q_o_worth, .inl (cI, 6, .inl o_worth'))] r A) ([.ref q_o, .int p1] : List Value).toArray s 0 0 A) (F0 m 87 ls [.int k0]) := by
        intro x1 x2 k0 o_chosen o_board o_pick o_worth H locs ls hf hP hD hS hl
        unfold f_X8_playedBy_87 at hf
        refine lv_istore_n (lv' := [(3, .int k0), (0, .ref q_o), (1, .int x1), (2, .int x2)]) hx hb dX8_playedBy_87 rfl hl (by decide) rfl (fun ls hl => ?_)
        obtain ⟨y9, ey9⟩ : ∃ z : Int32, z = x2 + (-1) := ⟨_, rfl⟩
        have hf := bnd_at hf ey9
        refine lv_iinc (v := y9) (lv' := [(2, .int y9), (3, .int k0), (0, .ref q_o), (1, .int x1)]) hx hb dX8_playedBy_88 hl (k := 3) rfl (by rw [ey9]; rfl) (by decide) rfl (fun ls hl => ?_)
        refine lv_aload_n hx hb dX8_playedBy_91 rfl (lv_at hl 2 rfl) ?_
        refine lv_iload_n hx hb dX8_playedBy_92 rfl (lv_at hl 0 rfl) ?_
        refine lv_iload_n hx hb dX8_playedBy_93 rfl (lv_at hl 1 rfl) ?_
        obtain ⟨m10, m11, h12, hf⟩ := ob2_some hf
        refine muVv (wr := [(q_o_seconds, .inl (cI, 12, .inl o_seconds)), (q_o_side, .inl (cI, 12, .inl o_side)), (q_o_s, .inl (cI, 10, .inl o_s)), (q_o_board, .inl (cI, 49, .inl o_board))]) (ws1 := [(q_o, .inr (7, [.int o_thrown, .long o_trace, .ref q_o_text, .int o_typed, .int o_next, .int o_token, .int o_place, .int o_value, .int o_fault, .ref q_o_warmth, .ref q_o_side, .ref q_o_seconds, .int o_members, .int o_pairs, .int o_cold, .int o_fur, .int o_coughs, .int o_draftMembers, .int o_draftPairs, .int o_draftCold, .int o_draftFur, .int o_draftCoughs, .ref q_o_s, .ref q_o_kept, .ref q_o_isKept, .ref q_o_undos, .int o_undoMany, .ref q_o_seenAt, .ref q_o_seen, .int o_seenMany, .ref q_o_board, .ref q_o_pick, .ref q_o_worth, .ref q_o_best, .int m10])), (q_o_seconds, .inl (cI, 12, .inl o_seconds)), (q_o_side, .inl (cI, 12, .inl o_side)), (q_o_s, .inl (cI, 10, .inl o_s)), (q_o_board, .inl (cI, 49, .inl o_board)), (q_o_pick, .inl (cI, 6, .inl o_pick)), (q_o_worth, .inl (cI, 6, .inl m11))]) (c_X8_folds l D cB cI cZ cM cN q_o q_o_text q_o_warmth q_o_side q_o_seconds q_o_s q_o_kept q_o_isKept q_o_undos q_o_seenAt q_o_seen q_o_board q_o_pick q_o_worth q_o_best o_thrown o_trace o_typed o_next o_token o_place o_value o_fault o_members o_pairs o_cold o_fur o_coughs o_draftMembers o_draftPairs o_draftCold o_draftFur o_draftCoughs o_undoMany o_seenMany o_chosen o_pick o_worth y9 k0 m10 m11 H.size h12) hfix (cwV 2 hts gX8_playedBy_X8_folds rfl rfl rfl (by decide +kernel) ⟨Nat.le_of_ble_eq_true rfl, Nat.le_of_ble_eq_true rfl⟩) hP hK hD hA hS [0, 5, 6] [1, 2, 3, 4] [4, 0, 1, 2, 3, 5, 6] rfl rfl rfl rfl (by decide) rfl rfl rfl rfl rfl rfl hl.1 rfl (Nat.le_of_ble_eq_true rfl) dX8_playedBy_94 ⟨Nat.zero_le _, Nat.zero_le _⟩ (fun H locs hP hD hS => ?_)
        refine lv_goto (tgt := 150) hx hb dX8_playedBy_97 (by decide) ?_
        exact L150 x1 y9 k0 m10 o_board o_pick m11 _ _ ls hf hP hD hS (lv_sub hl [2, 3, 0, 1] rfl)
      have L48 : ∀ (x1 : Int32) (x2 : Int32) (x3 : Int32) (k0 : Int32) (o_chosen : Int32) (o_board : Nat → Int32) (o_pick : Nat → Int32) (o_worth : Nat → Int32) (H : Heap) (locs : List Loc) (ls : Array Slot), f_X8_playedBy_48 o_members o_cold o_seconds o_side o_s (f_X8_playedBy_23 o_members o_cold o_seconds o_side o_s n23) x1 x2 x3 k0 o_chosen o_board o_pick o_worth = some (r, o_chosen', o_board', o_pick', o_worth') → va_P D vwCl [(q_o, .inr (7, [.int o_thrown, .long o_trace, .ref q_o_text, .int o_typed, .int o_next, .int o_token, .int o_place, .int o_value, .int o_fault, .ref q_o_warmth, .ref q_o_side, .ref q_o_seconds, .int o_members, .int o_pairs, .int o_cold, .int o_fur, .int o_coughs, .int o_draftMembers, .int o_draftPairs, .int o_draftCold, .int o_draftFur, .int o_draftCoughs, .ref q_o_s, .ref q_o_kept, .ref q_o_isKept, .ref q_o_undos, .int o_undoMany, .ref q_o_seenAt, .ref q_o_seen, .int o_seenMany, .ref q_o_board, .ref q_o_pick, .ref q_o_worth, .ref q_o_best, .int o_chosen])), (q_o_seconds, .inl (cI, 12, .inl o_seconds)), (q_o_side, .inl (cI, 12, .inl o_side)), (q_o_s, .inl (cI, 10, .inl o_s)), (q_o_board, .inl (cI, 49, .inl o_board)), (q_o_pick, .inl (cI, 6, .inl o_pick)), (q_o_worth, .inl (cI, 6, .inl o_worth))] H → va_D A [(q_o, .inr (7, [.int o_thrown, .long o_trace, .ref q_o_text, .int o_typed, .int o_next, .int o_token, .int o_place, .int o_value, .int o_fault, .ref q_o_warmth, .ref q_o_side, .ref q_o_seconds, .int o_members, .int o_pairs, .int o_cold, .int o_fur, .int o_coughs, .int o_draftMembers, .int o_draftPairs, .int o_draftCold, .int o_draftFur, .int o_draftCoughs, .ref q_o_s, .ref q_o_kept, .ref q_o_isKept, .ref q_o_undos, .int o_undoMany, .ref q_o_seenAt, .ref q_o_seen, .int o_seenMany, .ref q_o_board, .ref q_o_pick, .ref q_o_worth, .ref q_o_best, .int o_chosen])), (q_o_seconds, .inl (cI, 12, .inl o_seconds)), (q_o_side, .inl (cI, 12, .inl o_side)), (q_o_s, .inl (cI, 10, .inl o_s)), (q_o_board, .inl (cI, 49, .inl o_board)), (q_o_pick, .inl (cI, 6, .inl o_pick)), (q_o_worth, .inl (cI, 6, .inl o_worth))] → va_S A s.heap H locs → lv_has ls 5 [(0, .ref q_o), (1, .int x1), (2, .int x2), (3, .int x3)] → W p l e ({ frames := 2, cells := 0, slots := 0, locals := 52 } : Room) s m ([.ref q_o, .int p1] : List Value).toArray below meth c H locs 0 0 (MQ below (QI D [(q_o, .inr (7, [.int o_thrown, .long o_trace, .ref q_o_text, .int o_typed, .int o_next, .int o_token, .int o_place, .int o_value, .int o_fault, .ref q_o_warmth, .ref q_o_side, .ref q_o_seconds, .int o_members, .int o_pairs, .int o_cold, .int o_fur, .int o_coughs, .int o_draftMembers, .int o_draftPairs, .int o_draftCold, .int o_draftFur, .int o_draftCoughs, .ref q_o_s, .ref q_o_kept, .ref q_o_isKept, .ref q_o_undos, .int o_undoMany, .ref q_o_seenAt, .ref q_o_seen, .int o_seenMany, .ref q_o_board, .ref q_o_pick, .ref q_o_worth, .ref q_o_best, .int o_chosen'])), (q_o_seconds, .inl (cI, 12, .inl o_seconds)), (q_o_side, .inl (cI, 12, .inl o_side)), (q_o_s, .inl (cI, 10, .inl o_s)), (q_o_board, .inl (cI, 49, .inl o_board')), (q_o_pick, .inl (cI, 6, .inl o_pick')), (q_o_worth, .inl (cI, 6, .inl o_worth'))] r A) ([.ref q_o, .int p1] : List Value).toArray s 0 0 A) (F0 m 48 ls [.int k0]) := by
        intro x1 x2 x3 k0 o_chosen o_board o_pick o_worth H locs ls hf hP hD hS hl
        unfold f_X8_playedBy_48 at hf
        refine lv_istore (lv' := [(4, .int k0), (0, .ref q_o), (1, .int x1), (2, .int x2), (3, .int x3)]) hx hb dX8_playedBy_48 hl (by decide) rfl (fun ls hl => ?_)
        refine lv_iload hx hb dX8_playedBy_50 (lv_at hl 0 rfl) ?_
        refine lv_bipush (v := 7) hx hb dX8_playedBy_52 (by decide) ?_
        refine lv_icmp_ne (tgt := 100) hx hb dX8_playedBy_54 (by decide) (fun c13 => ?_) (fun c13 => ?_)
        · have hf := ite_n hf c13
          refine lv_aload_n hx hb dX8_playedBy_100 rfl (lv_at hl 1 rfl) ?_
          refine va_get (D := D) (ci := 7) (v := .ref q_o_pick) (C := RX8) (T := TX8) (N := 35) hx hb hts hinX8 hown hK.1 hP 0 rfl rfl 31 (by decide) g44 (fun _ h9 => h9) rfl dX8_playedBy_101 ?_
          refine lv_iload_n hx hb dX8_playedBy_104 rfl (lv_at hl 3 rfl) ?_
          refine lv_iload hx hb dX8_playedBy_105 (lv_at hl 0 rfl) ?_
          obtain ⟨g14, hf⟩ := ing_some hf
          refine va_iast hx hb hK.1 hP hD hS 5 1 rfl rfl g14 dX8_playedBy_107 (fun H locs hP hD hS => ?_)
          obtain ⟨w15, ew15⟩ : ∃ z : Nat → Int32, z = upd o_pick x2.toNatClampNeg k0 := ⟨_, rfl⟩
          have hf := bnd_at hf ew15
          have hP : va_P D vwCl [(q_o, .inr (7, [.int o_thrown, .long o_trace, .ref q_o_text, .int o_typed, .int o_next, .int o_token, .int o_place, .int o_value, .int o_fault, .ref q_o_warmth, .ref q_o_side, .ref q_o_seconds, .int o_members, .int o_pairs, .int o_cold, .int o_fur, .int o_coughs, .int o_draftMembers, .int o_draftPairs, .int o_draftCold, .int o_draftFur, .int o_draftCoughs, .ref q_o_s, .ref q_o_kept, .ref q_o_isKept, .ref q_o_undos, .int o_undoMany, .ref q_o_seenAt, .ref q_o_seen, .int o_seenMany, .ref q_o_board, .ref q_o_pick, .ref q_o_worth, .ref q_o_best, .int o_chosen])), (q_o_seconds, .inl (cI, 12, .inl o_seconds)), (q_o_side, .inl (cI, 12, .inl o_side)), (q_o_s, .inl (cI, 10, .inl o_s)), (q_o_board, .inl (cI, 49, .inl o_board)), (q_o_pick, .inl (cI, 6, .inl w15)), (q_o_worth, .inl (cI, 6, .inl o_worth))] H := by rw [ew15]; exact hP
          have hD : va_D A [(q_o, .inr (7, [.int o_thrown, .long o_trace, .ref q_o_text, .int o_typed, .int o_next, .int o_token, .int o_place, .int o_value, .int o_fault, .ref q_o_warmth, .ref q_o_side, .ref q_o_seconds, .int o_members, .int o_pairs, .int o_cold, .int o_fur, .int o_coughs, .int o_draftMembers, .int o_draftPairs, .int o_draftCold, .int o_draftFur, .int o_draftCoughs, .ref q_o_s, .ref q_o_kept, .ref q_o_isKept, .ref q_o_undos, .int o_undoMany, .ref q_o_seenAt, .ref q_o_seen, .int o_seenMany, .ref q_o_board, .ref q_o_pick, .ref q_o_worth, .ref q_o_best, .int o_chosen])), (q_o_seconds, .inl (cI, 12, .inl o_seconds)), (q_o_side, .inl (cI, 12, .inl o_side)), (q_o_s, .inl (cI, 10, .inl o_s)), (q_o_board, .inl (cI, 49, .inl o_board)), (q_o_pick, .inl (cI, 6, .inl w15)), (q_o_worth, .inl (cI, 6, .inl o_worth))] := by rw [ew15]; exact hD
          refine lv_aload_n hx hb dX8_playedBy_108 rfl (lv_at hl 1 rfl) ?_
          refine lv_bipush (v := 7) hx hb dX8_playedBy_109 (by decide) ?_
          refine lv_iload_n hx hb dX8_playedBy_111 rfl (lv_at hl 3 rfl) ?_
          refine lv_imul hx hb dX8_playedBy_112 ?_
          refine lv_iload hx hb dX8_playedBy_113 (lv_at hl 0 rfl) ?_
          refine lv_bipush (v := 6) hx hb dX8_playedBy_115 (by decide) ?_
          refine lv_icmp_ne (tgt := 125) hx hb dX8_playedBy_117 (by decide) (fun c16 => ?_) (fun c16 => ?_)
          · have hf := ite_n hf c16
            refine lv_iload hx hb dX8_playedBy_125 (lv_at hl 0 rfl) ?_
            exact L127 x1 x2 x3 (7 * x2) k0 o_chosen o_board w15 o_worth _ _ ls hf hP hD hS (lv_sub hl [1, 2, 3, 4] rfl)
          · have hf := ite_p hf c16
            refine lv_bipush (v := (-9)) hx hb dX8_playedBy_120 (by decide) ?_
            refine lv_goto (tgt := 127) hx hb dX8_playedBy_122 (by decide) ?_
            exact L127 x1 x2 x3 (7 * x2) ((-9)) o_chosen o_board w15 o_worth _ _ ls hf hP hD hS (lv_sub hl [1, 2, 3, 4] rfl)
        · have hf := ite_p hf c13
          refine lv_iload_n hx hb dX8_playedBy_57 rfl (lv_at hl 3 rfl) ?_
          refine lv_iload_n hx hb dX8_playedBy_58 rfl (lv_at hl 2 rfl) ?_
          refine lv_icmp_ne (tgt := 81) hx hb dX8_playedBy_59 (by decide) (fun c17 => ?_) (fun c17 => ?_)
          · have hf := ite_n hf c17
            refine lv_aload_n hx hb dX8_playedBy_81 rfl (lv_at hl 1 rfl) ?_
            refine va_get (D := D) (ci := 7) (v := .ref q_o_worth) (C := RX8) (T := TX8) (N := 35) hx hb hts hinX8 hown hK.1 hP 0 rfl rfl 32 (by decide) g47 (fun _ h9 => h9) rfl dX8_playedBy_82 ?_
            refine lv_iload_n hx hb dX8_playedBy_85 rfl (lv_at hl 3 rfl) ?_
            obtain ⟨g18, hf⟩ := ing_some hf
            refine va_iald hx hb hK.1 hP 6 1 rfl rfl g18 dX8_playedBy_86 ?_
            exact L87 x1 x2 (o_worth x2.toNatClampNeg) o_chosen o_board o_pick o_worth _ _ ls hf hP hD hS (lv_sub hl [1, 2, 3] rfl)
          · have hf := ite_p hf c17
            refine lv_aload_n hx hb dX8_playedBy_62 rfl (lv_at hl 1 rfl) ?_
            refine lv_bipush (v := 7) hx hb dX8_playedBy_63 (by decide) ?_
            refine lv_iload_n hx hb dX8_playedBy_65 rfl (lv_at hl 2 rfl) ?_
            refine lv_imul hx hb dX8_playedBy_66 ?_
            obtain ⟨r19, h20, hf⟩ := ob1_some hf
            refine roV (c_X8_lead l D cB cI cZ cM cN q_o q_o_text q_o_warmth q_o_side q_o_seconds q_o_s q_o_kept q_o_isKept q_o_undos q_o_seenAt q_o_seen q_o_board q_o_pick q_o_worth q_o_best o_thrown o_trace o_typed o_next o_token o_place o_value o_fault o_members o_pairs o_cold o_fur o_coughs o_draftMembers o_draftPairs o_draftCold o_draftFur o_draftCoughs o_undoMany o_seenMany o_chosen o_side o_board (7 * x1) r19 h20) hfix (cwV 1 hts gX8_playedBy_X8_lead rfl rfl rfl (by decide +kernel) ⟨Nat.le_of_ble_eq_true rfl, Nat.le_of_ble_eq_true rfl⟩) (subC hP [0, 2, 4] rfl) hK rfl rfl rfl rfl hl.1 rfl (Nat.le_of_ble_eq_true rfl) dX8_playedBy_67 ⟨Nat.zero_le _, Nat.zero_le _⟩ ?_
            refine lv_if_le (tgt := 77) hx hb dX8_playedBy_70 (by decide) (fun c21 => ?_) (fun c21 => ?_)
            · have hf := ite_p hf c21
              refine lv_iconst (v := 0) hx hb dX8_playedBy_77 (by decide) ?_
              refine lv_goto (tgt := 87) hx hb dX8_playedBy_78 (by decide) ?_
              exact L87 x1 x2 0 o_chosen o_board o_pick o_worth _ _ ls hf hP hD hS (lv_sub hl [1, 2, 3] rfl)
            · have hf := ite_n hf c21
              refine lv_iconst (v := 1) hx hb dX8_playedBy_73 (by decide) ?_
              refine lv_goto (tgt := 87) hx hb dX8_playedBy_74 (by decide) ?_
              exact L87 x1 x2 1 o_chosen o_board o_pick o_worth _ _ ls hf hP hD hS (lv_sub hl [1, 2, 3] rfl)
      intro x1 x2 x3 o_chosen o_board o_pick o_worth H locs ls hf hP hD hS hl
      have hf : f_X8_playedBy_23_b o_members o_cold o_seconds o_side o_s (f_X8_playedBy_23 o_members o_cold o_seconds o_side o_s n23) x1 x2 x3 o_chosen o_board o_pick o_worth = some (r, o_chosen', o_board', o_pick', o_worth') := hf
      unfold f_X8_playedBy_23_b at hf
      refine lv_iload_n hx hb dX8_playedBy_23 rfl (lv_at hl 2 rfl) ?_
      refine lv_if_lt (tgt := 153) hx hb dX8_playedBy_24 (by decide) (fun c22 => ?_) (fun c22 => ?_)
      · have hf := ite_p hf c22
        refine lv_iload_n hx hb dX8_playedBy_153 rfl (lv_at hl 3 rfl) ?_
        obtain ⟨e0_, e1_, e2_, e3_, e4_⟩ := tup5 hf
        have hP : va_P D vwCl [(q_o, .inr (7, [.int o_thrown, .long o_trace, .ref q_o_text, .int o_typed, .int o_next, .int o_token, .int o_place, .int o_value, .int o_fault, .ref q_o_warmth, .ref q_o_side, .ref q_o_seconds, .int o_members, .int o_pairs, .int o_cold, .int o_fur, .int o_coughs, .int o_draftMembers, .int o_draftPairs, .int o_draftCold, .int o_draftFur, .int o_draftCoughs, .ref q_o_s, .ref q_o_kept, .ref q_o_isKept, .ref q_o_undos, .int o_undoMany, .ref q_o_seenAt, .ref q_o_seen, .int o_seenMany, .ref q_o_board, .ref q_o_pick, .ref q_o_worth, .ref q_o_best, .int o_chosen'])), (q_o_seconds, .inl (cI, 12, .inl o_seconds)), (q_o_side, .inl (cI, 12, .inl o_side)), (q_o_s, .inl (cI, 10, .inl o_s)), (q_o_board, .inl (cI, 49, .inl o_board')), (q_o_pick, .inl (cI, 6, .inl o_pick')), (q_o_worth, .inl (cI, 6, .inl o_worth'))] H := by rw [← e1_, ← e2_, ← e3_, ← e4_]; exact hP
        have hD : va_D A [(q_o, .inr (7, [.int o_thrown, .long o_trace, .ref q_o_text, .int o_typed, .int o_next, .int o_token, .int o_place, .int o_value, .int o_fault, .ref q_o_warmth, .ref q_o_side, .ref q_o_seconds, .int o_members, .int o_pairs, .int o_cold, .int o_fur, .int o_coughs, .int o_draftMembers, .int o_draftPairs, .int o_draftCold, .int o_draftFur, .int o_draftCoughs, .ref q_o_s, .ref q_o_kept, .ref q_o_isKept, .ref q_o_undos, .int o_undoMany, .ref q_o_seenAt, .ref q_o_seen, .int o_seenMany, .ref q_o_board, .ref q_o_pick, .ref q_o_worth, .ref q_o_best, .int o_chosen'])), (q_o_seconds, .inl (cI, 12, .inl o_seconds)), (q_o_side, .inl (cI, 12, .inl o_side)), (q_o_s, .inl (cI, 10, .inl o_s)), (q_o_board, .inl (cI, 49, .inl o_board')), (q_o_pick, .inl (cI, 6, .inl o_pick')), (q_o_worth, .inl (cI, 6, .inl o_worth'))] := by rw [← e1_, ← e2_, ← e3_, ← e4_]; exact hD
        exact endMI hx hb hr hlocks rfl hP hD hS e0_ dX8_playedBy_154
      · have hf := ite_n hf c22
        refine lv_iload_n hx hb dX8_playedBy_27 rfl (lv_at hl 2 rfl) ?_
        refine lv_iload_n hx hb dX8_playedBy_28 rfl (lv_at hl 1 rfl) ?_
        refine lv_icmp_ne (tgt := 37) hx hb dX8_playedBy_29 (by decide) (fun c23 => ?_) (fun c23 => ?_)
        · have hf := ite_n hf c23
          refine lv_aload_n hx hb dX8_playedBy_37 rfl (lv_at hl 0 rfl) ?_
          refine lv_iload_n hx hb dX8_playedBy_38 rfl (lv_at hl 2 rfl) ?_
          refine lv_aload_n hx hb dX8_playedBy_39 rfl (lv_at hl 0 rfl) ?_
          refine va_get (D := D) (ci := 7) (v := .ref q_o_pick) (C := RX8) (T := TX8) (N := 35) hx hb hts hinX8 hown hK.1 hP 0 rfl rfl 31 (by decide) g44 (fun _ h9 => h9) rfl dX8_playedBy_40 ?_
          refine lv_iload_n hx hb dX8_playedBy_43 rfl (lv_at hl 2 rfl) ?_
          obtain ⟨g24, hf⟩ := ing_some hf
          refine va_iald hx hb hK.1 hP 5 1 rfl rfl g24 dX8_playedBy_44 ?_
          obtain ⟨r25, h26, hf⟩ := ob1_some hf
          refine roV (c_X8_choiceBehind l D cB cI cZ cM cN q_o q_o_text q_o_warmth q_o_side q_o_seconds q_o_s q_o_kept q_o_isKept q_o_undos q_o_seenAt q_o_seen q_o_board q_o_pick q_o_worth q_o_best o_thrown o_trace o_typed o_next o_token o_place o_value o_fault o_members o_pairs o_cold o_fur o_coughs o_draftMembers o_draftPairs o_draftCold o_draftFur o_draftCoughs o_undoMany o_seenMany o_chosen o_side o_board x2 (o_pick x2.toNatClampNeg) r25 h26) hfix (cwV 2 hts gX8_playedBy_X8_choiceBehind rfl rfl rfl (by decide +kernel) ⟨Nat.le_of_ble_eq_true rfl, Nat.le_of_ble_eq_true rfl⟩) (subC hP [0, 2, 4] rfl) hK rfl rfl rfl rfl hl.1 rfl (Nat.le_of_ble_eq_true rfl) dX8_playedBy_45 ⟨Nat.zero_le _, Nat.zero_le _⟩ ?_
          exact L48 x1 x2 x3 r25 o_chosen o_board o_pick o_worth _ _ ls hf hP hD hS (lv_sub hl [0, 1, 2, 3] rfl)
        · have hf := ite_p hf c23
          refine lv_bipush (v := 7) hx hb dX8_playedBy_32 (by decide) ?_
          refine lv_goto (tgt := 48) hx hb dX8_playedBy_34 (by decide) ?_
          exact L48 x1 x2 x3 7 o_chosen o_board o_pick o_worth _ _ ls hf hP hD hS (lv_sub hl [0, 1, 2, 3] rfl)
  unfold f_X8_playedBy at hf
  refine lv_aload_n hx hb dX8_playedBy_0 rfl (lv_at hl 0 rfl) ?_
  obtain ⟨m27, h28, hf⟩ := ob1_some hf
  refine muVv (wr := [(q_o_seconds, .inl (cI, 12, .inl o_seconds)), (q_o_side, .inl (cI, 12, .inl o_side)), (q_o_pick, .inl (cI, 6, .inl o_pick)), (q_o_worth, .inl (cI, 6, .inl o_worth))]) (ws1 := [(q_o, .inr (7, [.int o_thrown, .long o_trace, .ref q_o_text, .int o_typed, .int o_next, .int o_token, .int o_place, .int o_value, .int o_fault, .ref q_o_warmth, .ref q_o_side, .ref q_o_seconds, .int o_members, .int o_pairs, .int o_cold, .int o_fur, .int o_coughs, .int o_draftMembers, .int o_draftPairs, .int o_draftCold, .int o_draftFur, .int o_draftCoughs, .ref q_o_s, .ref q_o_kept, .ref q_o_isKept, .ref q_o_undos, .int o_undoMany, .ref q_o_seenAt, .ref q_o_seen, .int o_seenMany, .ref q_o_board, .ref q_o_pick, .ref q_o_worth, .ref q_o_best, .int o_chosen])), (q_o_seconds, .inl (cI, 12, .inl o_seconds)), (q_o_side, .inl (cI, 12, .inl o_side)), (q_o_s, .inl (cI, 10, .inl o_s)), (q_o_board, .inl (cI, 49, .inl m27)), (q_o_pick, .inl (cI, 6, .inl o_pick)), (q_o_worth, .inl (cI, 6, .inl o_worth))]) (c_X8_setsBoard l D cB cI cZ cM cN q_o q_o_text q_o_warmth q_o_side q_o_seconds q_o_s q_o_kept q_o_isKept q_o_undos q_o_seenAt q_o_seen q_o_board q_o_pick q_o_worth q_o_best o_thrown o_trace o_typed o_next o_token o_place o_value o_fault o_members o_pairs o_cold o_fur o_coughs o_draftMembers o_draftPairs o_draftCold o_draftFur o_draftCoughs o_undoMany o_seenMany o_chosen o_s o_board m27 H.size h28) hfix (cwV 0 hts gX8_playedBy_X8_setsBoard rfl rfl rfl (by decide +kernel) ⟨Nat.le_of_ble_eq_true rfl, Nat.le_of_ble_eq_true rfl⟩) hP hK hD hA hS [0, 3, 4] [1, 2, 5, 6] [4, 0, 1, 5, 6, 2, 3] rfl rfl rfl rfl (by decide) rfl rfl rfl rfl rfl rfl hl.1 rfl (Nat.le_of_ble_eq_true rfl) dX8_playedBy_1 ⟨Nat.zero_le _, Nat.zero_le _⟩ (fun H locs hP hD hS => ?_)
  refine lv_aload_n hx hb dX8_playedBy_4 rfl (lv_at hl 0 rfl) ?_
  refine lv_bipush (v := (-9)) hx hb dX8_playedBy_5 (by decide) ?_
  refine va_put (D := D) (ci := 7) (v := .int ((-9))) (ty := .int) (C := RX8) (T := TX8) (N := 35) hx hb hts hinX8 tyX8 tyX8_ok nmX8 hown hK.1 hP hD hS 0 rfl rfl 34 (by decide) g212 (fun _ h9 => h9) rfl (by decide +kernel) rfl rfl (Nat.le_of_ble_eq_true rfl) dX8_playedBy_7 (fun H locs hP hD hS => ?_)
  have hP : va_P D vwCl [(q_o, .inr (7, [.int o_thrown, .long o_trace, .ref q_o_text, .int o_typed, .int o_next, .int o_token, .int o_place, .int o_value, .int o_fault, .ref q_o_warmth, .ref q_o_side, .ref q_o_seconds, .int o_members, .int o_pairs, .int o_cold, .int o_fur, .int o_coughs, .int o_draftMembers, .int o_draftPairs, .int o_draftCold, .int o_draftFur, .int o_draftCoughs, .ref q_o_s, .ref q_o_kept, .ref q_o_isKept, .ref q_o_undos, .int o_undoMany, .ref q_o_seenAt, .ref q_o_seen, .int o_seenMany, .ref q_o_board, .ref q_o_pick, .ref q_o_worth, .ref q_o_best, .int ((-9))])), (q_o_seconds, .inl (cI, 12, .inl o_seconds)), (q_o_side, .inl (cI, 12, .inl o_side)), (q_o_s, .inl (cI, 10, .inl o_s)), (q_o_board, .inl (cI, 49, .inl m27)), (q_o_pick, .inl (cI, 6, .inl o_pick)), (q_o_worth, .inl (cI, 6, .inl o_worth))] H := hP
  have hD : va_D A [(q_o, .inr (7, [.int o_thrown, .long o_trace, .ref q_o_text, .int o_typed, .int o_next, .int o_token, .int o_place, .int o_value, .int o_fault, .ref q_o_warmth, .ref q_o_side, .ref q_o_seconds, .int o_members, .int o_pairs, .int o_cold, .int o_fur, .int o_coughs, .int o_draftMembers, .int o_draftPairs, .int o_draftCold, .int o_draftFur, .int o_draftCoughs, .ref q_o_s, .ref q_o_kept, .ref q_o_isKept, .ref q_o_undos, .int o_undoMany, .ref q_o_seenAt, .ref q_o_seen, .int o_seenMany, .ref q_o_board, .ref q_o_pick, .ref q_o_worth, .ref q_o_best, .int ((-9))])), (q_o_seconds, .inl (cI, 12, .inl o_seconds)), (q_o_side, .inl (cI, 12, .inl o_side)), (q_o_s, .inl (cI, 10, .inl o_s)), (q_o_board, .inl (cI, 49, .inl m27)), (q_o_pick, .inl (cI, 6, .inl o_pick)), (q_o_worth, .inl (cI, 6, .inl o_worth))] := hD
  refine lv_iconst (v := 0) hx hb dX8_playedBy_10 (by decide) ?_
  refine lv_istore_n (lv' := [(2, .int 0), (0, .ref q_o), (1, .int p1)]) hx hb dX8_playedBy_11 rfl hl (by decide) rfl (fun ls hl => ?_)
  refine lv_iconst (v := 0) hx hb dX8_playedBy_12 (by decide) ?_
  refine lv_istore_n (lv' := [(3, .int 0), (2, .int 0), (0, .ref q_o), (1, .int p1)]) hx hb dX8_playedBy_13 rfl hl (by decide) rfl (fun ls hl => ?_)
  refine lv_iload_n hx hb dX8_playedBy_14 rfl (lv_at hl 3 rfl) ?_
  refine lv_if_le (tgt := 23) hx hb dX8_playedBy_15 (by decide) (fun c29 => ?_) (fun c29 => ?_)
  · have hf := ite_p hf c29
    exact L23 FU p1 0 0 ((-9)) m27 o_pick o_worth _ _ ls hf hP hD hS (lv_sub hl [2, 3, 1, 0] rfl)
  · have hf := ite_n hf c29
    refine lv_aload_n hx hb dX8_playedBy_18 rfl (lv_at hl 2 rfl) ?_
    refine lv_iconst (v := 0) hx hb dX8_playedBy_19 (by decide) ?_
    obtain ⟨m30, m31, h32, hf⟩ := ob2_some hf
    refine muVv (wr := [(q_o_seconds, .inl (cI, 12, .inl o_seconds)), (q_o_side, .inl (cI, 12, .inl o_side)), (q_o_s, .inl (cI, 10, .inl o_s)), (q_o_board, .inl (cI, 49, .inl m27))]) (ws1 := [(q_o, .inr (7, [.int o_thrown, .long o_trace, .ref q_o_text, .int o_typed, .int o_next, .int o_token, .int o_place, .int o_value, .int o_fault, .ref q_o_warmth, .ref q_o_side, .ref q_o_seconds, .int o_members, .int o_pairs, .int o_cold, .int o_fur, .int o_coughs, .int o_draftMembers, .int o_draftPairs, .int o_draftCold, .int o_draftFur, .int o_draftCoughs, .ref q_o_s, .ref q_o_kept, .ref q_o_isKept, .ref q_o_undos, .int o_undoMany, .ref q_o_seenAt, .ref q_o_seen, .int o_seenMany, .ref q_o_board, .ref q_o_pick, .ref q_o_worth, .ref q_o_best, .int ((-9))])), (q_o_seconds, .inl (cI, 12, .inl o_seconds)), (q_o_side, .inl (cI, 12, .inl o_side)), (q_o_s, .inl (cI, 10, .inl o_s)), (q_o_board, .inl (cI, 49, .inl m27)), (q_o_pick, .inl (cI, 6, .inl m30)), (q_o_worth, .inl (cI, 6, .inl m31))]) (c_X8_opens l D cB cI cZ cM cN q_o q_o_text q_o_warmth q_o_side q_o_seconds q_o_s q_o_kept q_o_isKept q_o_undos q_o_seenAt q_o_seen q_o_board q_o_pick q_o_worth q_o_best o_thrown o_trace o_typed o_next o_token o_place o_value o_fault o_members o_pairs o_cold o_fur o_coughs o_draftMembers o_draftPairs o_draftCold o_draftFur o_draftCoughs o_undoMany o_seenMany ((-9)) o_pick o_worth 0 m30 m31 H.size h32) hfix (cwV 1 hts gX8_playedBy_X8_opens rfl rfl rfl (by decide +kernel) ⟨Nat.le_of_ble_eq_true rfl, Nat.le_of_ble_eq_true rfl⟩) hP hK hD hA hS [0, 5, 6] [1, 2, 3, 4] [4, 0, 1, 2, 3, 5, 6] rfl rfl rfl rfl (by decide) rfl rfl rfl rfl rfl rfl hl.1 rfl (Nat.le_of_ble_eq_true rfl) dX8_playedBy_20 ⟨Nat.zero_le _, Nat.zero_le _⟩ (fun H locs hP hD hS => ?_)
    exact L23 FU p1 0 0 ((-9)) m27 m30 m31 _ _ ls hf hP hD hS (lv_sub hl [2, 3, 1, 0] rfl)
def f_X8_game (o_members : Int32) (o_cold : Int32) (o_seconds : Nat → Int32) (o_side : Nat → Int32) (o_s : Nat → Int32) (o_thrown : Int32) (o_chosen : Int32) (o_board : Nat → Int32) (o_pick : Nat → Int32) (o_worth : Nat → Int32) (p1 : Int32) (p2 : Int32) : Option (Int32 × Int32 × Int32 × (Nat → Int32) × (Nat → Int32) × (Nat → Int32)) :=
  ob1 (f_X8_in p1 0 5) fun r1 =>
  if r1 = 0 then (
    some ((-1), 0, o_chosen, o_board, o_pick, o_worth)
  ) else (
    ob1 (f_X8_in p2 0 1) fun r4 =>
    if r4 = 0 then (
      some ((-1), 0, o_chosen, o_board, o_pick, o_worth)
    ) else (
      ob5 (f_X8_playedBy o_members o_cold o_seconds o_side o_s o_chosen o_board o_pick o_worth p1) fun r7 m8 m9 m10 m11 =>
      if p2 = 0 then (
        some (r7, 0, m8, m9, m10, m11)
      ) else (
        if m8 = 6 then (
          some ((-9), 0, m8, m9, m10, m11)
        ) else (
          some (m8, 0, m8, m9, m10, m11)
        )
      )
    )
  )
set_option maxHeartbeats 4000000 in
set_option maxRecDepth 100000 in
theorem c_X8_game (l : Launch) (D : va_G) (cB cI cZ cM cN : ClassId) (q_o : Nat) (q_o_text : Nat) (q_o_warmth : Nat) (q_o_side : Nat) (q_o_seconds : Nat) (q_o_s : Nat) (q_o_kept : Nat) (q_o_isKept : Nat) (q_o_undos : Nat) (q_o_seenAt : Nat) (q_o_seen : Nat) (q_o_board : Nat) (q_o_pick : Nat) (q_o_worth : Nat) (q_o_best : Nat) (o_thrown : Int32) (o_trace : Int64) (o_typed : Int32) (o_next : Int32) (o_token : Int32) (o_place : Int32) (o_value : Int32) (o_fault : Int32) (o_members : Int32) (o_pairs : Int32) (o_cold : Int32) (o_fur : Int32) (o_coughs : Int32) (o_draftMembers : Int32) (o_draftPairs : Int32) (o_draftCold : Int32) (o_draftFur : Int32) (o_draftCoughs : Int32) (o_undoMany : Int32) (o_seenMany : Int32) (o_chosen : Int32) (o_seconds : Nat → Int32) (o_side : Nat → Int32) (o_s : Nat → Int32) (o_board : Nat → Int32) (o_pick : Nat → Int32) (o_worth : Nat → Int32) (p1 : Int32) (p2 : Int32) (r : Int32) (o_thrown' : Int32) (o_chosen' : Int32) (o_board' : Nat → Int32) (o_pick' : Nat → Int32) (o_worth' : Nat → Int32) (sz : Nat) (hf : f_X8_game o_members o_cold o_seconds o_side o_s o_thrown o_chosen o_board o_pick o_worth p1 p2 = some (r, o_thrown', o_chosen', o_board', o_pick', o_worth')) : Met l yX8_game wsX8_game ({ frames := 3, cells := 0, slots := 0, locals := 76 } : Room) (PM D cB cI cZ cM cN [.ref q_o, .int p1, .int p2] [(q_o, .inr (7, [.int o_thrown, .long o_trace, .ref q_o_text, .int o_typed, .int o_next, .int o_token, .int o_place, .int o_value, .int o_fault, .ref q_o_warmth, .ref q_o_side, .ref q_o_seconds, .int o_members, .int o_pairs, .int o_cold, .int o_fur, .int o_coughs, .int o_draftMembers, .int o_draftPairs, .int o_draftCold, .int o_draftFur, .int o_draftCoughs, .ref q_o_s, .ref q_o_kept, .ref q_o_isKept, .ref q_o_undos, .int o_undoMany, .ref q_o_seenAt, .ref q_o_seen, .int o_seenMany, .ref q_o_board, .ref q_o_pick, .ref q_o_worth, .ref q_o_best, .int o_chosen])), (q_o_seconds, .inl (cI, 12, .inl o_seconds)), (q_o_side, .inl (cI, 12, .inl o_side)), (q_o_s, .inl (cI, 10, .inl o_s)), (q_o_board, .inl (cI, 49, .inl o_board)), (q_o_pick, .inl (cI, 6, .inl o_pick)), (q_o_worth, .inl (cI, 6, .inl o_worth))] sz) (QI D [(q_o, .inr (7, [.int o_thrown', .long o_trace, .ref q_o_text, .int o_typed, .int o_next, .int o_token, .int o_place, .int o_value, .int o_fault, .ref q_o_warmth, .ref q_o_side, .ref q_o_seconds, .int o_members, .int o_pairs, .int o_cold, .int o_fur, .int o_coughs, .int o_draftMembers, .int o_draftPairs, .int o_draftCold, .int o_draftFur, .int o_draftCoughs, .ref q_o_s, .ref q_o_kept, .ref q_o_isKept, .ref q_o_undos, .int o_undoMany, .ref q_o_seenAt, .ref q_o_seen, .int o_seenMany, .ref q_o_board, .ref q_o_pick, .ref q_o_worth, .ref q_o_best, .int o_chosen'])), (q_o_seconds, .inl (cI, 12, .inl o_seconds)), (q_o_side, .inl (cI, 12, .inl o_side)), (q_o_s, .inl (cI, 10, .inl o_s)), (q_o_board, .inl (cI, 49, .inl o_board')), (q_o_pick, .inl (cI, 6, .inl o_pick')), (q_o_worth, .inl (cI, 6, .inl o_worth'))] r (va_A [(q_o, .inr (7, [.int o_thrown, .long o_trace, .ref q_o_text, .int o_typed, .int o_next, .int o_token, .int o_place, .int o_value, .int o_fault, .ref q_o_warmth, .ref q_o_side, .ref q_o_seconds, .int o_members, .int o_pairs, .int o_cold, .int o_fur, .int o_coughs, .int o_draftMembers, .int o_draftPairs, .int o_draftCold, .int o_draftFur, .int o_draftCoughs, .ref q_o_s, .ref q_o_kept, .ref q_o_isKept, .ref q_o_undos, .int o_undoMany, .ref q_o_seenAt, .ref q_o_seen, .int o_seenMany, .ref q_o_board, .ref q_o_pick, .ref q_o_worth, .ref q_o_best, .int o_chosen])), (q_o_seconds, .inl (cI, 12, .inl o_seconds)), (q_o_side, .inl (cI, 12, .inl o_side)), (q_o_s, .inl (cI, 10, .inl o_s)), (q_o_board, .inl (cI, 49, .inl o_board)), (q_o_pick, .inl (cI, 6, .inl o_pick)), (q_o_worth, .inl (cI, 6, .inl o_worth))] sz)) 0 0 (va_A [(q_o, .inr (7, [.int o_thrown, .long o_trace, .ref q_o_text, .int o_typed, .int o_next, .int o_token, .int o_place, .int o_value, .int o_fault, .ref q_o_warmth, .ref q_o_side, .ref q_o_seconds, .int o_members, .int o_pairs, .int o_cold, .int o_fur, .int o_coughs, .int o_draftMembers, .int o_draftPairs, .int o_draftCold, .int o_draftFur, .int o_draftCoughs, .ref q_o_s, .ref q_o_kept, .ref q_o_isKept, .ref q_o_undos, .int o_undoMany, .ref q_o_seenAt, .ref q_o_seen, .int o_seenMany, .ref q_o_board, .ref q_o_pick, .ref q_o_worth, .ref q_o_best, .int o_chosen])), (q_o_seconds, .inl (cI, 12, .inl o_seconds)), (q_o_side, .inl (cI, 12, .inl o_side)), (q_o_s, .inl (cI, 10, .inl o_s)), (q_o_board, .inl (cI, 49, .inl o_board)), (q_o_pick, .inl (cI, 6, .inl o_pick)), (q_o_worth, .inl (cI, 6, .inl o_worth))] sz) := by
  refine entM (l := l) (y := yX8_game) (ws := wsX8_game) (cc := cX8_game) (av := [.ref q_o, .int p1, .int p2]) (wc := [(q_o, .inr (7, [.int o_thrown, .long o_trace, .ref q_o_text, .int o_typed, .int o_next, .int o_token, .int o_place, .int o_value, .int o_fault, .ref q_o_warmth, .ref q_o_side, .ref q_o_seconds, .int o_members, .int o_pairs, .int o_cold, .int o_fur, .int o_coughs, .int o_draftMembers, .int o_draftPairs, .int o_draftCold, .int o_draftFur, .int o_draftCoughs, .ref q_o_s, .ref q_o_kept, .ref q_o_isKept, .ref q_o_undos, .int o_undoMany, .ref q_o_seenAt, .ref q_o_seen, .int o_seenMany, .ref q_o_board, .ref q_o_pick, .ref q_o_worth, .ref q_o_best, .int o_chosen])), (q_o_seconds, .inl (cI, 12, .inl o_seconds)), (q_o_side, .inl (cI, 12, .inl o_side)), (q_o_s, .inl (cI, 10, .inl o_s)), (q_o_board, .inl (cI, 49, .inl o_board)), (q_o_pick, .inl (cI, 6, .inl o_pick)), (q_o_worth, .inl (cI, 6, .inl o_worth))]) (sz := sz) (Qc := fun A => QI D [(q_o, .inr (7, [.int o_thrown', .long o_trace, .ref q_o_text, .int o_typed, .int o_next, .int o_token, .int o_place, .int o_value, .int o_fault, .ref q_o_warmth, .ref q_o_side, .ref q_o_seconds, .int o_members, .int o_pairs, .int o_cold, .int o_fur, .int o_coughs, .int o_draftMembers, .int o_draftPairs, .int o_draftCold, .int o_draftFur, .int o_draftCoughs, .ref q_o_s, .ref q_o_kept, .ref q_o_isKept, .ref q_o_undos, .int o_undoMany, .ref q_o_seenAt, .ref q_o_seen, .int o_seenMany, .ref q_o_board, .ref q_o_pick, .ref q_o_worth, .ref q_o_best, .int o_chosen'])), (q_o_seconds, .inl (cI, 12, .inl o_seconds)), (q_o_side, .inl (cI, 12, .inl o_side)), (q_o_s, .inl (cI, 10, .inl o_s)), (q_o_board, .inl (cI, 49, .inl o_board')), (q_o_pick, .inl (cI, 6, .inl o_pick')), (q_o_worth, .inl (cI, 6, .inl o_worth'))] r A) (by decide +kernel) rfl (Nat.le_of_ble_eq_true rfl) ?_
  intro A p e s m below meth c hx hb hr hml hown hlocks hts hK hA H locs hP hD hS ls hl
  have hown : s.vm.findClass RX8 = some m.cls := hown
  have hl : lv_has ls 4 [(0, .ref q_o), (1, .int p1), (2, .int p2)] := hl
  have hfix : CallFix p m c cX8_game 4 s ([.ref q_o, .int p1, .int p2] : List Value).toArray wsX8_game RX8 := ⟨hx, hb, hml, hown, hts⟩
  have hinX8 : ∀ w ∈ u_ws RX8 TX8 35, w ∈ wsX8_game := by decide +kernel
  have g63 := hts (.fieldLink RX8 63 "LastCoatModel" "thrown" "I") (by decide +kernel)
  have g212 := hts (.fieldLink RX8 212 "LastCoatModel" "chosen" "I") (by decide +kernel)
  unfold f_X8_game at hf
  refine lv_aload_n hx hb dX8_game_0 rfl (lv_at hl 0 rfl) ?_
  refine lv_iconst (v := 0) hx hb dX8_game_1 (by decide) ?_
  refine va_put (D := D) (ci := 7) (v := .int 0) (ty := .int) (C := RX8) (T := TX8) (N := 35) hx hb hts hinX8 tyX8 tyX8_ok nmX8 hown hK.1 hP hD hS 0 rfl rfl 0 (by decide) g63 (fun _ h9 => h9) rfl (by decide +kernel) rfl rfl (Nat.le_of_ble_eq_true rfl) dX8_game_2 (fun H locs hP hD hS => ?_)
  have hP : va_P D vwCl [(q_o, .inr (7, [.int 0, .long o_trace, .ref q_o_text, .int o_typed, .int o_next, .int o_token, .int o_place, .int o_value, .int o_fault, .ref q_o_warmth, .ref q_o_side, .ref q_o_seconds, .int o_members, .int o_pairs, .int o_cold, .int o_fur, .int o_coughs, .int o_draftMembers, .int o_draftPairs, .int o_draftCold, .int o_draftFur, .int o_draftCoughs, .ref q_o_s, .ref q_o_kept, .ref q_o_isKept, .ref q_o_undos, .int o_undoMany, .ref q_o_seenAt, .ref q_o_seen, .int o_seenMany, .ref q_o_board, .ref q_o_pick, .ref q_o_worth, .ref q_o_best, .int o_chosen])), (q_o_seconds, .inl (cI, 12, .inl o_seconds)), (q_o_side, .inl (cI, 12, .inl o_side)), (q_o_s, .inl (cI, 10, .inl o_s)), (q_o_board, .inl (cI, 49, .inl o_board)), (q_o_pick, .inl (cI, 6, .inl o_pick)), (q_o_worth, .inl (cI, 6, .inl o_worth))] H := hP
  have hD : va_D A [(q_o, .inr (7, [.int 0, .long o_trace, .ref q_o_text, .int o_typed, .int o_next, .int o_token, .int o_place, .int o_value, .int o_fault, .ref q_o_warmth, .ref q_o_side, .ref q_o_seconds, .int o_members, .int o_pairs, .int o_cold, .int o_fur, .int o_coughs, .int o_draftMembers, .int o_draftPairs, .int o_draftCold, .int o_draftFur, .int o_draftCoughs, .ref q_o_s, .ref q_o_kept, .ref q_o_isKept, .ref q_o_undos, .int o_undoMany, .ref q_o_seenAt, .ref q_o_seen, .int o_seenMany, .ref q_o_board, .ref q_o_pick, .ref q_o_worth, .ref q_o_best, .int o_chosen])), (q_o_seconds, .inl (cI, 12, .inl o_seconds)), (q_o_side, .inl (cI, 12, .inl o_side)), (q_o_s, .inl (cI, 10, .inl o_s)), (q_o_board, .inl (cI, 49, .inl o_board)), (q_o_pick, .inl (cI, 6, .inl o_pick)), (q_o_worth, .inl (cI, 6, .inl o_worth))] := hD
  refine lv_iload_n hx hb dX8_game_5 rfl (lv_at hl 1 rfl) ?_
  refine lv_iconst (v := 0) hx hb dX8_game_6 (by decide) ?_
  refine lv_iconst (v := 5) hx hb dX8_game_7 (by decide) ?_
  obtain ⟨r1, h2, hf⟩ := ob1_some hf
  refine roS (c_X8_in l D cB cI cZ cM cN p1 0 5 r1 h2) hfix (va_cwS 3 hts gX8_game_X8_in rfl rfl rfl (by decide +kernel) ⟨Nat.le_of_ble_eq_true rfl, Nat.le_of_ble_eq_true rfl⟩) (subC hP [] rfl) hK rfl hl.1 rfl (Nat.le_of_ble_eq_true rfl) dX8_game_8 ⟨Nat.zero_le _, Nat.zero_le _⟩ ?_
  refine lv_if_eq (tgt := 23) hx hb dX8_game_11 (by decide) (fun c3 => ?_) (fun c3 => ?_)
  · have hf := ite_p hf c3
    refine lv_iconst (v := (-1)) hx hb dX8_game_23 (by decide) ?_
    obtain ⟨e0_, e1_, e2_, e3_, e4_, e5_⟩ := tup6 hf
    have hP : va_P D vwCl [(q_o, .inr (7, [.int o_thrown', .long o_trace, .ref q_o_text, .int o_typed, .int o_next, .int o_token, .int o_place, .int o_value, .int o_fault, .ref q_o_warmth, .ref q_o_side, .ref q_o_seconds, .int o_members, .int o_pairs, .int o_cold, .int o_fur, .int o_coughs, .int o_draftMembers, .int o_draftPairs, .int o_draftCold, .int o_draftFur, .int o_draftCoughs, .ref q_o_s, .ref q_o_kept, .ref q_o_isKept, .ref q_o_undos, .int o_undoMany, .ref q_o_seenAt, .ref q_o_seen, .int o_seenMany, .ref q_o_board, .ref q_o_pick, .ref q_o_worth, .ref q_o_best, .int o_chosen'])), (q_o_seconds, .inl (cI, 12, .inl o_seconds)), (q_o_side, .inl (cI, 12, .inl o_side)), (q_o_s, .inl (cI, 10, .inl o_s)), (q_o_board, .inl (cI, 49, .inl o_board')), (q_o_pick, .inl (cI, 6, .inl o_pick')), (q_o_worth, .inl (cI, 6, .inl o_worth'))] H := by rw [← e1_, ← e2_, ← e3_, ← e4_, ← e5_]; exact hP
    have hD : va_D A [(q_o, .inr (7, [.int o_thrown', .long o_trace, .ref q_o_text, .int o_typed, .int o_next, .int o_token, .int o_place, .int o_value, .int o_fault, .ref q_o_warmth, .ref q_o_side, .ref q_o_seconds, .int o_members, .int o_pairs, .int o_cold, .int o_fur, .int o_coughs, .int o_draftMembers, .int o_draftPairs, .int o_draftCold, .int o_draftFur, .int o_draftCoughs, .ref q_o_s, .ref q_o_kept, .ref q_o_isKept, .ref q_o_undos, .int o_undoMany, .ref q_o_seenAt, .ref q_o_seen, .int o_seenMany, .ref q_o_board, .ref q_o_pick, .ref q_o_worth, .ref q_o_best, .int o_chosen'])), (q_o_seconds, .inl (cI, 12, .inl o_seconds)), (q_o_side, .inl (cI, 12, .inl o_side)), (q_o_s, .inl (cI, 10, .inl o_s)), (q_o_board, .inl (cI, 49, .inl o_board')), (q_o_pick, .inl (cI, 6, .inl o_pick')), (q_o_worth, .inl (cI, 6, .inl o_worth'))] := by rw [← e1_, ← e2_, ← e3_, ← e4_, ← e5_]; exact hD
    exact endMI hx hb hr hlocks rfl hP hD hS e0_ dX8_game_24
  · have hf := ite_n hf c3
    refine lv_iload_n hx hb dX8_game_14 rfl (lv_at hl 2 rfl) ?_
    refine lv_iconst (v := 0) hx hb dX8_game_15 (by decide) ?_
    refine lv_iconst (v := 1) hx hb dX8_game_16 (by decide) ?_
    obtain ⟨r4, h5, hf⟩ := ob1_some hf
    refine roS (c_X8_in l D cB cI cZ cM cN p2 0 1 r4 h5) hfix (va_cwS 3 hts gX8_game_X8_in rfl rfl rfl (by decide +kernel) ⟨Nat.le_of_ble_eq_true rfl, Nat.le_of_ble_eq_true rfl⟩) (subC hP [] rfl) hK rfl hl.1 rfl (Nat.le_of_ble_eq_true rfl) dX8_game_17 ⟨Nat.zero_le _, Nat.zero_le _⟩ ?_
    refine lv_if_ne (tgt := 25) hx hb dX8_game_20 (by decide) (fun c6 => ?_) (fun c6 => ?_)
    · have hf := ite_n hf c6
      refine lv_aload_n hx hb dX8_game_25 rfl (lv_at hl 0 rfl) ?_
      refine lv_iload_n hx hb dX8_game_26 rfl (lv_at hl 1 rfl) ?_
      obtain ⟨r7, m8, m9, m10, m11, h12, hf⟩ := ob5_some hf
      refine muV (wr := []) (ws1 := [(q_o, .inr (7, [.int 0, .long o_trace, .ref q_o_text, .int o_typed, .int o_next, .int o_token, .int o_place, .int o_value, .int o_fault, .ref q_o_warmth, .ref q_o_side, .ref q_o_seconds, .int o_members, .int o_pairs, .int o_cold, .int o_fur, .int o_coughs, .int o_draftMembers, .int o_draftPairs, .int o_draftCold, .int o_draftFur, .int o_draftCoughs, .ref q_o_s, .ref q_o_kept, .ref q_o_isKept, .ref q_o_undos, .int o_undoMany, .ref q_o_seenAt, .ref q_o_seen, .int o_seenMany, .ref q_o_board, .ref q_o_pick, .ref q_o_worth, .ref q_o_best, .int m8])), (q_o_seconds, .inl (cI, 12, .inl o_seconds)), (q_o_side, .inl (cI, 12, .inl o_side)), (q_o_s, .inl (cI, 10, .inl o_s)), (q_o_board, .inl (cI, 49, .inl m9)), (q_o_pick, .inl (cI, 6, .inl m10)), (q_o_worth, .inl (cI, 6, .inl m11))]) (c_X8_playedBy l D cB cI cZ cM cN q_o q_o_text q_o_warmth q_o_side q_o_seconds q_o_s q_o_kept q_o_isKept q_o_undos q_o_seenAt q_o_seen q_o_board q_o_pick q_o_worth q_o_best 0 o_trace o_typed o_next o_token o_place o_value o_fault o_members o_pairs o_cold o_fur o_coughs o_draftMembers o_draftPairs o_draftCold o_draftFur o_draftCoughs o_undoMany o_seenMany o_chosen o_seconds o_side o_s o_board o_pick o_worth p1 r7 m8 m9 m10 m11 H.size h12) hfix (cwV 1 hts gX8_game_X8_playedBy rfl rfl rfl (by decide +kernel) ⟨Nat.le_of_ble_eq_true rfl, Nat.le_of_ble_eq_true rfl⟩) hP hK hD hA hS [0, 1, 2, 3, 4, 5, 6] [] [0, 1, 2, 3, 4, 5, 6] rfl rfl rfl rfl (by decide) rfl rfl rfl rfl rfl rfl hl.1 rfl (Nat.le_of_ble_eq_true rfl) dX8_game_27 ⟨Nat.zero_le _, Nat.zero_le _⟩ (fun H locs hP hD hS => ?_)
      refine lv_istore_n (lv' := [(3, .int r7), (0, .ref q_o), (1, .int p1), (2, .int p2)]) hx hb dX8_game_30 rfl hl (by decide) rfl (fun ls hl => ?_)
      refine lv_iload_n hx hb dX8_game_31 rfl (lv_at hl 3 rfl) ?_
      refine lv_if_ne (tgt := 39) hx hb dX8_game_32 (by decide) (fun c13 => ?_) (fun c13 => ?_)
      · have hf := ite_n hf c13
        refine lv_aload_n hx hb dX8_game_39 rfl (lv_at hl 1 rfl) ?_
        refine va_get (D := D) (ci := 7) (v := .int m8) (C := RX8) (T := TX8) (N := 35) hx hb hts hinX8 hown hK.1 hP 0 rfl rfl 34 (by decide) g212 (fun _ h9 => h9) rfl dX8_game_40 ?_
        refine lv_bipush (v := 6) hx hb dX8_game_43 (by decide) ?_
        refine lv_icmp_ne (tgt := 53) hx hb dX8_game_45 (by decide) (fun c14 => ?_) (fun c14 => ?_)
        · have hf := ite_n hf c14
          refine lv_aload_n hx hb dX8_game_53 rfl (lv_at hl 1 rfl) ?_
          refine va_get (D := D) (ci := 7) (v := .int m8) (C := RX8) (T := TX8) (N := 35) hx hb hts hinX8 hown hK.1 hP 0 rfl rfl 34 (by decide) g212 (fun _ h9 => h9) rfl dX8_game_54 ?_
          obtain ⟨e0_, e1_, e2_, e3_, e4_, e5_⟩ := tup6 hf
          have hP : va_P D vwCl [(q_o, .inr (7, [.int o_thrown', .long o_trace, .ref q_o_text, .int o_typed, .int o_next, .int o_token, .int o_place, .int o_value, .int o_fault, .ref q_o_warmth, .ref q_o_side, .ref q_o_seconds, .int o_members, .int o_pairs, .int o_cold, .int o_fur, .int o_coughs, .int o_draftMembers, .int o_draftPairs, .int o_draftCold, .int o_draftFur, .int o_draftCoughs, .ref q_o_s, .ref q_o_kept, .ref q_o_isKept, .ref q_o_undos, .int o_undoMany, .ref q_o_seenAt, .ref q_o_seen, .int o_seenMany, .ref q_o_board, .ref q_o_pick, .ref q_o_worth, .ref q_o_best, .int o_chosen'])), (q_o_seconds, .inl (cI, 12, .inl o_seconds)), (q_o_side, .inl (cI, 12, .inl o_side)), (q_o_s, .inl (cI, 10, .inl o_s)), (q_o_board, .inl (cI, 49, .inl o_board')), (q_o_pick, .inl (cI, 6, .inl o_pick')), (q_o_worth, .inl (cI, 6, .inl o_worth'))] H := by rw [← e1_, ← e2_, ← e3_, ← e4_, ← e5_]; exact hP
          have hD : va_D A [(q_o, .inr (7, [.int o_thrown', .long o_trace, .ref q_o_text, .int o_typed, .int o_next, .int o_token, .int o_place, .int o_value, .int o_fault, .ref q_o_warmth, .ref q_o_side, .ref q_o_seconds, .int o_members, .int o_pairs, .int o_cold, .int o_fur, .int o_coughs, .int o_draftMembers, .int o_draftPairs, .int o_draftCold, .int o_draftFur, .int o_draftCoughs, .ref q_o_s, .ref q_o_kept, .ref q_o_isKept, .ref q_o_undos, .int o_undoMany, .ref q_o_seenAt, .ref q_o_seen, .int o_seenMany, .ref q_o_board, .ref q_o_pick, .ref q_o_worth, .ref q_o_best, .int o_chosen'])), (q_o_seconds, .inl (cI, 12, .inl o_seconds)), (q_o_side, .inl (cI, 12, .inl o_side)), (q_o_s, .inl (cI, 10, .inl o_s)), (q_o_board, .inl (cI, 49, .inl o_board')), (q_o_pick, .inl (cI, 6, .inl o_pick')), (q_o_worth, .inl (cI, 6, .inl o_worth'))] := by rw [← e1_, ← e2_, ← e3_, ← e4_, ← e5_]; exact hD
          exact endMI hx hb hr hlocks rfl hP hD hS e0_ dX8_game_57
        · have hf := ite_p hf c14
          refine lv_bipush (v := (-9)) hx hb dX8_game_48 (by decide) ?_
          refine lv_goto (tgt := 57) hx hb dX8_game_50 (by decide) ?_
          obtain ⟨e0_, e1_, e2_, e3_, e4_, e5_⟩ := tup6 hf
          have hP : va_P D vwCl [(q_o, .inr (7, [.int o_thrown', .long o_trace, .ref q_o_text, .int o_typed, .int o_next, .int o_token, .int o_place, .int o_value, .int o_fault, .ref q_o_warmth, .ref q_o_side, .ref q_o_seconds, .int o_members, .int o_pairs, .int o_cold, .int o_fur, .int o_coughs, .int o_draftMembers, .int o_draftPairs, .int o_draftCold, .int o_draftFur, .int o_draftCoughs, .ref q_o_s, .ref q_o_kept, .ref q_o_isKept, .ref q_o_undos, .int o_undoMany, .ref q_o_seenAt, .ref q_o_seen, .int o_seenMany, .ref q_o_board, .ref q_o_pick, .ref q_o_worth, .ref q_o_best, .int o_chosen'])), (q_o_seconds, .inl (cI, 12, .inl o_seconds)), (q_o_side, .inl (cI, 12, .inl o_side)), (q_o_s, .inl (cI, 10, .inl o_s)), (q_o_board, .inl (cI, 49, .inl o_board')), (q_o_pick, .inl (cI, 6, .inl o_pick')), (q_o_worth, .inl (cI, 6, .inl o_worth'))] H := by rw [← e1_, ← e2_, ← e3_, ← e4_, ← e5_]; exact hP
          have hD : va_D A [(q_o, .inr (7, [.int o_thrown', .long o_trace, .ref q_o_text, .int o_typed, .int o_next, .int o_token, .int o_place, .int o_value, .int o_fault, .ref q_o_warmth, .ref q_o_side, .ref q_o_seconds, .int o_members, .int o_pairs, .int o_cold, .int o_fur, .int o_coughs, .int o_draftMembers, .int o_draftPairs, .int o_draftCold, .int o_draftFur, .int o_draftCoughs, .ref q_o_s, .ref q_o_kept, .ref q_o_isKept, .ref q_o_undos, .int o_undoMany, .ref q_o_seenAt, .ref q_o_seen, .int o_seenMany, .ref q_o_board, .ref q_o_pick, .ref q_o_worth, .ref q_o_best, .int o_chosen'])), (q_o_seconds, .inl (cI, 12, .inl o_seconds)), (q_o_side, .inl (cI, 12, .inl o_side)), (q_o_s, .inl (cI, 10, .inl o_s)), (q_o_board, .inl (cI, 49, .inl o_board')), (q_o_pick, .inl (cI, 6, .inl o_pick')), (q_o_worth, .inl (cI, 6, .inl o_worth'))] := by rw [← e1_, ← e2_, ← e3_, ← e4_, ← e5_]; exact hD
          exact endMI hx hb hr hlocks rfl hP hD hS e0_ dX8_game_57
      · have hf := ite_p hf c13
        refine lv_iload_n hx hb dX8_game_35 rfl (lv_at hl 0 rfl) ?_
        refine lv_goto (tgt := 57) hx hb dX8_game_36 (by decide) ?_
        obtain ⟨e0_, e1_, e2_, e3_, e4_, e5_⟩ := tup6 hf
        have hP : va_P D vwCl [(q_o, .inr (7, [.int o_thrown', .long o_trace, .ref q_o_text, .int o_typed, .int o_next, .int o_token, .int o_place, .int o_value, .int o_fault, .ref q_o_warmth, .ref q_o_side, .ref q_o_seconds, .int o_members, .int o_pairs, .int o_cold, .int o_fur, .int o_coughs, .int o_draftMembers, .int o_draftPairs, .int o_draftCold, .int o_draftFur, .int o_draftCoughs, .ref q_o_s, .ref q_o_kept, .ref q_o_isKept, .ref q_o_undos, .int o_undoMany, .ref q_o_seenAt, .ref q_o_seen, .int o_seenMany, .ref q_o_board, .ref q_o_pick, .ref q_o_worth, .ref q_o_best, .int o_chosen'])), (q_o_seconds, .inl (cI, 12, .inl o_seconds)), (q_o_side, .inl (cI, 12, .inl o_side)), (q_o_s, .inl (cI, 10, .inl o_s)), (q_o_board, .inl (cI, 49, .inl o_board')), (q_o_pick, .inl (cI, 6, .inl o_pick')), (q_o_worth, .inl (cI, 6, .inl o_worth'))] H := by rw [← e1_, ← e2_, ← e3_, ← e4_, ← e5_]; exact hP
        have hD : va_D A [(q_o, .inr (7, [.int o_thrown', .long o_trace, .ref q_o_text, .int o_typed, .int o_next, .int o_token, .int o_place, .int o_value, .int o_fault, .ref q_o_warmth, .ref q_o_side, .ref q_o_seconds, .int o_members, .int o_pairs, .int o_cold, .int o_fur, .int o_coughs, .int o_draftMembers, .int o_draftPairs, .int o_draftCold, .int o_draftFur, .int o_draftCoughs, .ref q_o_s, .ref q_o_kept, .ref q_o_isKept, .ref q_o_undos, .int o_undoMany, .ref q_o_seenAt, .ref q_o_seen, .int o_seenMany, .ref q_o_board, .ref q_o_pick, .ref q_o_worth, .ref q_o_best, .int o_chosen'])), (q_o_seconds, .inl (cI, 12, .inl o_seconds)), (q_o_side, .inl (cI, 12, .inl o_side)), (q_o_s, .inl (cI, 10, .inl o_s)), (q_o_board, .inl (cI, 49, .inl o_board')), (q_o_pick, .inl (cI, 6, .inl o_pick')), (q_o_worth, .inl (cI, 6, .inl o_worth'))] := by rw [← e1_, ← e2_, ← e3_, ← e4_, ← e5_]; exact hD
        exact endMI hx hb hr hlocks rfl hP hD hS e0_ dX8_game_57
    · have hf := ite_p hf c6
      refine lv_iconst (v := (-1)) hx hb dX8_game_23 (by decide) ?_
      obtain ⟨e0_, e1_, e2_, e3_, e4_, e5_⟩ := tup6 hf
      have hP : va_P D vwCl [(q_o, .inr (7, [.int o_thrown', .long o_trace, .ref q_o_text, .int o_typed, .int o_next, .int o_token, .int o_place, .int o_value, .int o_fault, .ref q_o_warmth, .ref q_o_side, .ref q_o_seconds, .int o_members, .int o_pairs, .int o_cold, .int o_fur, .int o_coughs, .int o_draftMembers, .int o_draftPairs, .int o_draftCold, .int o_draftFur, .int o_draftCoughs, .ref q_o_s, .ref q_o_kept, .ref q_o_isKept, .ref q_o_undos, .int o_undoMany, .ref q_o_seenAt, .ref q_o_seen, .int o_seenMany, .ref q_o_board, .ref q_o_pick, .ref q_o_worth, .ref q_o_best, .int o_chosen'])), (q_o_seconds, .inl (cI, 12, .inl o_seconds)), (q_o_side, .inl (cI, 12, .inl o_side)), (q_o_s, .inl (cI, 10, .inl o_s)), (q_o_board, .inl (cI, 49, .inl o_board')), (q_o_pick, .inl (cI, 6, .inl o_pick')), (q_o_worth, .inl (cI, 6, .inl o_worth'))] H := by rw [← e1_, ← e2_, ← e3_, ← e4_, ← e5_]; exact hP
      have hD : va_D A [(q_o, .inr (7, [.int o_thrown', .long o_trace, .ref q_o_text, .int o_typed, .int o_next, .int o_token, .int o_place, .int o_value, .int o_fault, .ref q_o_warmth, .ref q_o_side, .ref q_o_seconds, .int o_members, .int o_pairs, .int o_cold, .int o_fur, .int o_coughs, .int o_draftMembers, .int o_draftPairs, .int o_draftCold, .int o_draftFur, .int o_draftCoughs, .ref q_o_s, .ref q_o_kept, .ref q_o_isKept, .ref q_o_undos, .int o_undoMany, .ref q_o_seenAt, .ref q_o_seen, .int o_seenMany, .ref q_o_board, .ref q_o_pick, .ref q_o_worth, .ref q_o_best, .int o_chosen'])), (q_o_seconds, .inl (cI, 12, .inl o_seconds)), (q_o_side, .inl (cI, 12, .inl o_side)), (q_o_s, .inl (cI, 10, .inl o_s)), (q_o_board, .inl (cI, 49, .inl o_board')), (q_o_pick, .inl (cI, 6, .inl o_pick')), (q_o_worth, .inl (cI, 6, .inl o_worth'))] := by rw [← e1_, ← e2_, ← e3_, ← e4_, ← e5_]; exact hD
      exact endMI hx hb hr hlocks rfl hP hD hS e0_ dX8_game_24
def f_X8_saw (o_members : Int32) (o_thrown : Int32) (o_seenMany : Int32) (o_seen : Nat → Int32) (o_seenAt : Nat → Int32) (p1 : Int32) (p2 : Int32) : Option (Int32 × Int32 × Int32 × (Nat → Int32) × (Nat → Int32)) :=
  ob1 (f_X8_in p1 0 5) fun r1 =>
  if r1 = 0 then (
    some ((-1), 0, o_seenMany, o_seen, o_seenAt)
  ) else (
    ob1 (f_X8_in p2 0 (((1 : Int32) <<< (o_members &&& 31)) - 1)) fun r4 =>
    if r4 = 0 then (
      some ((-1), 0, o_seenMany, o_seen, o_seenAt)
    ) else (
      if o_seenMany = 6 then (
        some ((-3), 0, o_seenMany, o_seen, o_seenAt)
      ) else (
        ing o_seenMany 6 <|
        bnd (upd o_seenAt o_seenMany.toNatClampNeg p1) fun w9 =>
        ing o_seenMany 6 <|
        bnd (upd o_seen o_seenMany.toNatClampNeg p2) fun w11 =>
        bnd (o_seenMany + 1) fun y12 =>
        some (y12, 0, y12, w11, w9)
      )
    )
  )
set_option maxHeartbeats 4000000 in
set_option maxRecDepth 100000 in
theorem c_X8_saw (l : Launch) (D : va_G) (cB cI cZ cM cN : ClassId) (q_o : Nat) (q_o_text : Nat) (q_o_warmth : Nat) (q_o_side : Nat) (q_o_seconds : Nat) (q_o_s : Nat) (q_o_kept : Nat) (q_o_isKept : Nat) (q_o_undos : Nat) (q_o_seenAt : Nat) (q_o_seen : Nat) (q_o_board : Nat) (q_o_pick : Nat) (q_o_worth : Nat) (q_o_best : Nat) (o_thrown : Int32) (o_trace : Int64) (o_typed : Int32) (o_next : Int32) (o_token : Int32) (o_place : Int32) (o_value : Int32) (o_fault : Int32) (o_members : Int32) (o_pairs : Int32) (o_cold : Int32) (o_fur : Int32) (o_coughs : Int32) (o_draftMembers : Int32) (o_draftPairs : Int32) (o_draftCold : Int32) (o_draftFur : Int32) (o_draftCoughs : Int32) (o_undoMany : Int32) (o_seenMany : Int32) (o_chosen : Int32) (o_seen : Nat → Int32) (o_seenAt : Nat → Int32) (p1 : Int32) (p2 : Int32) (r : Int32) (o_thrown' : Int32) (o_seenMany' : Int32) (o_seen' : Nat → Int32) (o_seenAt' : Nat → Int32) (sz : Nat) (hf : f_X8_saw o_members o_thrown o_seenMany o_seen o_seenAt p1 p2 = some (r, o_thrown', o_seenMany', o_seen', o_seenAt')) : Met l yX8_saw wsX8_saw ({ frames := 1, cells := 0, slots := 0, locals := 22 } : Room) (PM D cB cI cZ cM cN [.ref q_o, .int p1, .int p2] [(q_o, .inr (7, [.int o_thrown, .long o_trace, .ref q_o_text, .int o_typed, .int o_next, .int o_token, .int o_place, .int o_value, .int o_fault, .ref q_o_warmth, .ref q_o_side, .ref q_o_seconds, .int o_members, .int o_pairs, .int o_cold, .int o_fur, .int o_coughs, .int o_draftMembers, .int o_draftPairs, .int o_draftCold, .int o_draftFur, .int o_draftCoughs, .ref q_o_s, .ref q_o_kept, .ref q_o_isKept, .ref q_o_undos, .int o_undoMany, .ref q_o_seenAt, .ref q_o_seen, .int o_seenMany, .ref q_o_board, .ref q_o_pick, .ref q_o_worth, .ref q_o_best, .int o_chosen])), (q_o_seen, .inl (cI, 6, .inl o_seen)), (q_o_seenAt, .inl (cI, 6, .inl o_seenAt))] sz) (QI D [(q_o, .inr (7, [.int o_thrown', .long o_trace, .ref q_o_text, .int o_typed, .int o_next, .int o_token, .int o_place, .int o_value, .int o_fault, .ref q_o_warmth, .ref q_o_side, .ref q_o_seconds, .int o_members, .int o_pairs, .int o_cold, .int o_fur, .int o_coughs, .int o_draftMembers, .int o_draftPairs, .int o_draftCold, .int o_draftFur, .int o_draftCoughs, .ref q_o_s, .ref q_o_kept, .ref q_o_isKept, .ref q_o_undos, .int o_undoMany, .ref q_o_seenAt, .ref q_o_seen, .int o_seenMany', .ref q_o_board, .ref q_o_pick, .ref q_o_worth, .ref q_o_best, .int o_chosen])), (q_o_seen, .inl (cI, 6, .inl o_seen')), (q_o_seenAt, .inl (cI, 6, .inl o_seenAt'))] r (va_A [(q_o, .inr (7, [.int o_thrown, .long o_trace, .ref q_o_text, .int o_typed, .int o_next, .int o_token, .int o_place, .int o_value, .int o_fault, .ref q_o_warmth, .ref q_o_side, .ref q_o_seconds, .int o_members, .int o_pairs, .int o_cold, .int o_fur, .int o_coughs, .int o_draftMembers, .int o_draftPairs, .int o_draftCold, .int o_draftFur, .int o_draftCoughs, .ref q_o_s, .ref q_o_kept, .ref q_o_isKept, .ref q_o_undos, .int o_undoMany, .ref q_o_seenAt, .ref q_o_seen, .int o_seenMany, .ref q_o_board, .ref q_o_pick, .ref q_o_worth, .ref q_o_best, .int o_chosen])), (q_o_seen, .inl (cI, 6, .inl o_seen)), (q_o_seenAt, .inl (cI, 6, .inl o_seenAt))] sz)) 0 0 (va_A [(q_o, .inr (7, [.int o_thrown, .long o_trace, .ref q_o_text, .int o_typed, .int o_next, .int o_token, .int o_place, .int o_value, .int o_fault, .ref q_o_warmth, .ref q_o_side, .ref q_o_seconds, .int o_members, .int o_pairs, .int o_cold, .int o_fur, .int o_coughs, .int o_draftMembers, .int o_draftPairs, .int o_draftCold, .int o_draftFur, .int o_draftCoughs, .ref q_o_s, .ref q_o_kept, .ref q_o_isKept, .ref q_o_undos, .int o_undoMany, .ref q_o_seenAt, .ref q_o_seen, .int o_seenMany, .ref q_o_board, .ref q_o_pick, .ref q_o_worth, .ref q_o_best, .int o_chosen])), (q_o_seen, .inl (cI, 6, .inl o_seen)), (q_o_seenAt, .inl (cI, 6, .inl o_seenAt))] sz) := by
  refine entM (l := l) (y := yX8_saw) (ws := wsX8_saw) (cc := cX8_saw) (av := [.ref q_o, .int p1, .int p2]) (wc := [(q_o, .inr (7, [.int o_thrown, .long o_trace, .ref q_o_text, .int o_typed, .int o_next, .int o_token, .int o_place, .int o_value, .int o_fault, .ref q_o_warmth, .ref q_o_side, .ref q_o_seconds, .int o_members, .int o_pairs, .int o_cold, .int o_fur, .int o_coughs, .int o_draftMembers, .int o_draftPairs, .int o_draftCold, .int o_draftFur, .int o_draftCoughs, .ref q_o_s, .ref q_o_kept, .ref q_o_isKept, .ref q_o_undos, .int o_undoMany, .ref q_o_seenAt, .ref q_o_seen, .int o_seenMany, .ref q_o_board, .ref q_o_pick, .ref q_o_worth, .ref q_o_best, .int o_chosen])), (q_o_seen, .inl (cI, 6, .inl o_seen)), (q_o_seenAt, .inl (cI, 6, .inl o_seenAt))]) (sz := sz) (Qc := fun A => QI D [(q_o, .inr (7, [.int o_thrown', .long o_trace, .ref q_o_text, .int o_typed, .int o_next, .int o_token, .int o_place, .int o_value, .int o_fault, .ref q_o_warmth, .ref q_o_side, .ref q_o_seconds, .int o_members, .int o_pairs, .int o_cold, .int o_fur, .int o_coughs, .int o_draftMembers, .int o_draftPairs, .int o_draftCold, .int o_draftFur, .int o_draftCoughs, .ref q_o_s, .ref q_o_kept, .ref q_o_isKept, .ref q_o_undos, .int o_undoMany, .ref q_o_seenAt, .ref q_o_seen, .int o_seenMany', .ref q_o_board, .ref q_o_pick, .ref q_o_worth, .ref q_o_best, .int o_chosen])), (q_o_seen, .inl (cI, 6, .inl o_seen')), (q_o_seenAt, .inl (cI, 6, .inl o_seenAt'))] r A) (by decide +kernel) rfl (Nat.le_of_ble_eq_true rfl) ?_
  intro A p e s m below meth c hx hb hr hml hown hlocks hts hK hA H locs hP hD hS ls hl
  have hown : s.vm.findClass RX8 = some m.cls := hown
  have hl : lv_has ls 3 [(0, .ref q_o), (1, .int p1), (2, .int p2)] := hl
  have hfix : CallFix p m c cX8_saw 3 s ([.ref q_o, .int p1, .int p2] : List Value).toArray wsX8_saw RX8 := ⟨hx, hb, hml, hown, hts⟩
  have hinX8 : ∀ w ∈ u_ws RX8 TX8 35, w ∈ wsX8_saw := by decide +kernel
  have g63 := hts (.fieldLink RX8 63 "LastCoatModel" "thrown" "I") (by decide +kernel)
  have g145 := hts (.fieldLink RX8 145 "LastCoatModel" "members" "I") (by decide +kernel)
  have g154 := hts (.fieldLink RX8 154 "LastCoatModel" "seenMany" "I") (by decide +kernel)
  have g35 := hts (.fieldLink RX8 35 "LastCoatModel" "seenAt" "[I") (by decide +kernel)
  have g38 := hts (.fieldLink RX8 38 "LastCoatModel" "seen" "[I") (by decide +kernel)
  unfold f_X8_saw at hf
  refine lv_aload_n hx hb dX8_saw_0 rfl (lv_at hl 0 rfl) ?_
  refine lv_iconst (v := 0) hx hb dX8_saw_1 (by decide) ?_
  refine va_put (D := D) (ci := 7) (v := .int 0) (ty := .int) (C := RX8) (T := TX8) (N := 35) hx hb hts hinX8 tyX8 tyX8_ok nmX8 hown hK.1 hP hD hS 0 rfl rfl 0 (by decide) g63 (fun _ h9 => h9) rfl (by decide +kernel) rfl rfl (Nat.le_of_ble_eq_true rfl) dX8_saw_2 (fun H locs hP hD hS => ?_)
  have hP : va_P D vwCl [(q_o, .inr (7, [.int 0, .long o_trace, .ref q_o_text, .int o_typed, .int o_next, .int o_token, .int o_place, .int o_value, .int o_fault, .ref q_o_warmth, .ref q_o_side, .ref q_o_seconds, .int o_members, .int o_pairs, .int o_cold, .int o_fur, .int o_coughs, .int o_draftMembers, .int o_draftPairs, .int o_draftCold, .int o_draftFur, .int o_draftCoughs, .ref q_o_s, .ref q_o_kept, .ref q_o_isKept, .ref q_o_undos, .int o_undoMany, .ref q_o_seenAt, .ref q_o_seen, .int o_seenMany, .ref q_o_board, .ref q_o_pick, .ref q_o_worth, .ref q_o_best, .int o_chosen])), (q_o_seen, .inl (cI, 6, .inl o_seen)), (q_o_seenAt, .inl (cI, 6, .inl o_seenAt))] H := hP
  have hD : va_D A [(q_o, .inr (7, [.int 0, .long o_trace, .ref q_o_text, .int o_typed, .int o_next, .int o_token, .int o_place, .int o_value, .int o_fault, .ref q_o_warmth, .ref q_o_side, .ref q_o_seconds, .int o_members, .int o_pairs, .int o_cold, .int o_fur, .int o_coughs, .int o_draftMembers, .int o_draftPairs, .int o_draftCold, .int o_draftFur, .int o_draftCoughs, .ref q_o_s, .ref q_o_kept, .ref q_o_isKept, .ref q_o_undos, .int o_undoMany, .ref q_o_seenAt, .ref q_o_seen, .int o_seenMany, .ref q_o_board, .ref q_o_pick, .ref q_o_worth, .ref q_o_best, .int o_chosen])), (q_o_seen, .inl (cI, 6, .inl o_seen)), (q_o_seenAt, .inl (cI, 6, .inl o_seenAt))] := hD
  refine lv_iload_n hx hb dX8_saw_5 rfl (lv_at hl 1 rfl) ?_
  refine lv_iconst (v := 0) hx hb dX8_saw_6 (by decide) ?_
  refine lv_iconst (v := 5) hx hb dX8_saw_7 (by decide) ?_
  obtain ⟨r1, h2, hf⟩ := ob1_some hf
  refine roS (c_X8_in l D cB cI cZ cM cN p1 0 5 r1 h2) hfix (va_cwS 3 hts gX8_saw_X8_in rfl rfl rfl (by decide +kernel) ⟨Nat.le_of_ble_eq_true rfl, Nat.le_of_ble_eq_true rfl⟩) (subC hP [] rfl) hK rfl hl.1 rfl (Nat.le_of_ble_eq_true rfl) dX8_saw_8 ⟨Nat.zero_le _, Nat.zero_le _⟩ ?_
  refine lv_if_eq (tgt := 30) hx hb dX8_saw_11 (by decide) (fun c3 => ?_) (fun c3 => ?_)
  · have hf := ite_p hf c3
    refine lv_iconst (v := (-1)) hx hb dX8_saw_30 (by decide) ?_
    obtain ⟨e0_, e1_, e2_, e3_, e4_⟩ := tup5 hf
    have hP : va_P D vwCl [(q_o, .inr (7, [.int o_thrown', .long o_trace, .ref q_o_text, .int o_typed, .int o_next, .int o_token, .int o_place, .int o_value, .int o_fault, .ref q_o_warmth, .ref q_o_side, .ref q_o_seconds, .int o_members, .int o_pairs, .int o_cold, .int o_fur, .int o_coughs, .int o_draftMembers, .int o_draftPairs, .int o_draftCold, .int o_draftFur, .int o_draftCoughs, .ref q_o_s, .ref q_o_kept, .ref q_o_isKept, .ref q_o_undos, .int o_undoMany, .ref q_o_seenAt, .ref q_o_seen, .int o_seenMany', .ref q_o_board, .ref q_o_pick, .ref q_o_worth, .ref q_o_best, .int o_chosen])), (q_o_seen, .inl (cI, 6, .inl o_seen')), (q_o_seenAt, .inl (cI, 6, .inl o_seenAt'))] H := by rw [← e1_, ← e2_, ← e3_, ← e4_]; exact hP
    have hD : va_D A [(q_o, .inr (7, [.int o_thrown', .long o_trace, .ref q_o_text, .int o_typed, .int o_next, .int o_token, .int o_place, .int o_value, .int o_fault, .ref q_o_warmth, .ref q_o_side, .ref q_o_seconds, .int o_members, .int o_pairs, .int o_cold, .int o_fur, .int o_coughs, .int o_draftMembers, .int o_draftPairs, .int o_draftCold, .int o_draftFur, .int o_draftCoughs, .ref q_o_s, .ref q_o_kept, .ref q_o_isKept, .ref q_o_undos, .int o_undoMany, .ref q_o_seenAt, .ref q_o_seen, .int o_seenMany', .ref q_o_board, .ref q_o_pick, .ref q_o_worth, .ref q_o_best, .int o_chosen])), (q_o_seen, .inl (cI, 6, .inl o_seen')), (q_o_seenAt, .inl (cI, 6, .inl o_seenAt'))] := by rw [← e1_, ← e2_, ← e3_, ← e4_]; exact hD
    exact endMI hx hb hr hlocks rfl hP hD hS e0_ dX8_saw_31
  · have hf := ite_n hf c3
    refine lv_iload_n hx hb dX8_saw_14 rfl (lv_at hl 2 rfl) ?_
    refine lv_iconst (v := 0) hx hb dX8_saw_15 (by decide) ?_
    refine lv_iconst (v := 1) hx hb dX8_saw_16 (by decide) ?_
    refine lv_aload_n hx hb dX8_saw_17 rfl (lv_at hl 0 rfl) ?_
    refine va_get (D := D) (ci := 7) (v := .int o_members) (C := RX8) (T := TX8) (N := 35) hx hb hts hinX8 hown hK.1 hP 0 rfl rfl 12 (by decide) g145 (fun _ h9 => h9) rfl dX8_saw_18 ?_
    refine lv_ishl hx hb dX8_saw_21 ?_
    refine lv_iconst (v := 1) hx hb dX8_saw_22 (by decide) ?_
    refine lv_isub hx hb dX8_saw_23 ?_
    obtain ⟨r4, h5, hf⟩ := ob1_some hf
    refine roS (c_X8_in l D cB cI cZ cM cN p2 0 (((1 : Int32) <<< (o_members &&& 31)) - 1) r4 h5) hfix (va_cwS 3 hts gX8_saw_X8_in rfl rfl rfl (by decide +kernel) ⟨Nat.le_of_ble_eq_true rfl, Nat.le_of_ble_eq_true rfl⟩) (subC hP [] rfl) hK rfl hl.1 rfl (Nat.le_of_ble_eq_true rfl) dX8_saw_24 ⟨Nat.zero_le _, Nat.zero_le _⟩ ?_
    refine lv_if_ne (tgt := 32) hx hb dX8_saw_27 (by decide) (fun c6 => ?_) (fun c6 => ?_)
    · have hf := ite_n hf c6
      refine lv_aload_n hx hb dX8_saw_32 rfl (lv_at hl 0 rfl) ?_
      refine va_get (D := D) (ci := 7) (v := .int o_seenMany) (C := RX8) (T := TX8) (N := 35) hx hb hts hinX8 hown hK.1 hP 0 rfl rfl 29 (by decide) g154 (fun _ h9 => h9) rfl dX8_saw_33 ?_
      refine lv_bipush (v := 6) hx hb dX8_saw_36 (by decide) ?_
      refine lv_icmp_ne (tgt := 44) hx hb dX8_saw_38 (by decide) (fun c7 => ?_) (fun c7 => ?_)
      · have hf := ite_n hf c7
        refine lv_aload_n hx hb dX8_saw_44 rfl (lv_at hl 0 rfl) ?_
        refine va_get (D := D) (ci := 7) (v := .ref q_o_seenAt) (C := RX8) (T := TX8) (N := 35) hx hb hts hinX8 hown hK.1 hP 0 rfl rfl 27 (by decide) g35 (fun _ h9 => h9) rfl dX8_saw_45 ?_
        refine lv_aload_n hx hb dX8_saw_48 rfl (lv_at hl 0 rfl) ?_
        refine va_get (D := D) (ci := 7) (v := .int o_seenMany) (C := RX8) (T := TX8) (N := 35) hx hb hts hinX8 hown hK.1 hP 0 rfl rfl 29 (by decide) g154 (fun _ h9 => h9) rfl dX8_saw_49 ?_
        refine lv_iload_n hx hb dX8_saw_52 rfl (lv_at hl 1 rfl) ?_
        obtain ⟨g8, hf⟩ := ing_some hf
        refine va_iast hx hb hK.1 hP hD hS 2 1 rfl rfl g8 dX8_saw_53 (fun H locs hP hD hS => ?_)
        obtain ⟨w9, ew9⟩ : ∃ z : Nat → Int32, z = upd o_seenAt o_seenMany.toNatClampNeg p1 := ⟨_, rfl⟩
        have hf := bnd_at hf ew9
        have hP : va_P D vwCl [(q_o, .inr (7, [.int 0, .long o_trace, .ref q_o_text, .int o_typed, .int o_next, .int o_token, .int o_place, .int o_value, .int o_fault, .ref q_o_warmth, .ref q_o_side, .ref q_o_seconds, .int o_members, .int o_pairs, .int o_cold, .int o_fur, .int o_coughs, .int o_draftMembers, .int o_draftPairs, .int o_draftCold, .int o_draftFur, .int o_draftCoughs, .ref q_o_s, .ref q_o_kept, .ref q_o_isKept, .ref q_o_undos, .int o_undoMany, .ref q_o_seenAt, .ref q_o_seen, .int o_seenMany, .ref q_o_board, .ref q_o_pick, .ref q_o_worth, .ref q_o_best, .int o_chosen])), (q_o_seen, .inl (cI, 6, .inl o_seen)), (q_o_seenAt, .inl (cI, 6, .inl w9))] H := by rw [ew9]; exact hP
        have hD : va_D A [(q_o, .inr (7, [.int 0, .long o_trace, .ref q_o_text, .int o_typed, .int o_next, .int o_token, .int o_place, .int o_value, .int o_fault, .ref q_o_warmth, .ref q_o_side, .ref q_o_seconds, .int o_members, .int o_pairs, .int o_cold, .int o_fur, .int o_coughs, .int o_draftMembers, .int o_draftPairs, .int o_draftCold, .int o_draftFur, .int o_draftCoughs, .ref q_o_s, .ref q_o_kept, .ref q_o_isKept, .ref q_o_undos, .int o_undoMany, .ref q_o_seenAt, .ref q_o_seen, .int o_seenMany, .ref q_o_board, .ref q_o_pick, .ref q_o_worth, .ref q_o_best, .int o_chosen])), (q_o_seen, .inl (cI, 6, .inl o_seen)), (q_o_seenAt, .inl (cI, 6, .inl w9))] := by rw [ew9]; exact hD
        refine lv_aload_n hx hb dX8_saw_54 rfl (lv_at hl 0 rfl) ?_
        refine va_get (D := D) (ci := 7) (v := .ref q_o_seen) (C := RX8) (T := TX8) (N := 35) hx hb hts hinX8 hown hK.1 hP 0 rfl rfl 28 (by decide) g38 (fun _ h9 => h9) rfl dX8_saw_55 ?_
        refine lv_aload_n hx hb dX8_saw_58 rfl (lv_at hl 0 rfl) ?_
        refine va_get (D := D) (ci := 7) (v := .int o_seenMany) (C := RX8) (T := TX8) (N := 35) hx hb hts hinX8 hown hK.1 hP 0 rfl rfl 29 (by decide) g154 (fun _ h9 => h9) rfl dX8_saw_59 ?_
        refine lv_iload_n hx hb dX8_saw_62 rfl (lv_at hl 2 rfl) ?_
        obtain ⟨g10, hf⟩ := ing_some hf
        refine va_iast hx hb hK.1 hP hD hS 1 1 rfl rfl g10 dX8_saw_63 (fun H locs hP hD hS => ?_)
        obtain ⟨w11, ew11⟩ : ∃ z : Nat → Int32, z = upd o_seen o_seenMany.toNatClampNeg p2 := ⟨_, rfl⟩
        have hf := bnd_at hf ew11
        have hP : va_P D vwCl [(q_o, .inr (7, [.int 0, .long o_trace, .ref q_o_text, .int o_typed, .int o_next, .int o_token, .int o_place, .int o_value, .int o_fault, .ref q_o_warmth, .ref q_o_side, .ref q_o_seconds, .int o_members, .int o_pairs, .int o_cold, .int o_fur, .int o_coughs, .int o_draftMembers, .int o_draftPairs, .int o_draftCold, .int o_draftFur, .int o_draftCoughs, .ref q_o_s, .ref q_o_kept, .ref q_o_isKept, .ref q_o_undos, .int o_undoMany, .ref q_o_seenAt, .ref q_o_seen, .int o_seenMany, .ref q_o_board, .ref q_o_pick, .ref q_o_worth, .ref q_o_best, .int o_chosen])), (q_o_seen, .inl (cI, 6, .inl w11)), (q_o_seenAt, .inl (cI, 6, .inl w9))] H := by rw [ew11]; exact hP
        have hD : va_D A [(q_o, .inr (7, [.int 0, .long o_trace, .ref q_o_text, .int o_typed, .int o_next, .int o_token, .int o_place, .int o_value, .int o_fault, .ref q_o_warmth, .ref q_o_side, .ref q_o_seconds, .int o_members, .int o_pairs, .int o_cold, .int o_fur, .int o_coughs, .int o_draftMembers, .int o_draftPairs, .int o_draftCold, .int o_draftFur, .int o_draftCoughs, .ref q_o_s, .ref q_o_kept, .ref q_o_isKept, .ref q_o_undos, .int o_undoMany, .ref q_o_seenAt, .ref q_o_seen, .int o_seenMany, .ref q_o_board, .ref q_o_pick, .ref q_o_worth, .ref q_o_best, .int o_chosen])), (q_o_seen, .inl (cI, 6, .inl w11)), (q_o_seenAt, .inl (cI, 6, .inl w9))] := by rw [ew11]; exact hD
        refine lv_aload_n hx hb dX8_saw_64 rfl (lv_at hl 0 rfl) ?_
        refine lv_dup hx hb dX8_saw_65 rfl ?_
        refine va_get (D := D) (ci := 7) (v := .int o_seenMany) (C := RX8) (T := TX8) (N := 35) hx hb hts hinX8 hown hK.1 hP 0 rfl rfl 29 (by decide) g154 (fun _ h9 => h9) rfl dX8_saw_66 ?_
        refine lv_iconst (v := 1) hx hb dX8_saw_69 (by decide) ?_
        refine lv_iadd hx hb dX8_saw_70 ?_
        refine lv_topi (fun y12 ey12 => ?_)
        have hf := bnd_at hf ey12
        refine va_put (D := D) (ci := 7) (v := .int y12) (ty := .int) (C := RX8) (T := TX8) (N := 35) hx hb hts hinX8 tyX8 tyX8_ok nmX8 hown hK.1 hP hD hS 0 rfl rfl 29 (by decide) g154 (fun _ h9 => h9) rfl (by decide +kernel) rfl rfl (Nat.le_of_ble_eq_true rfl) dX8_saw_71 (fun H locs hP hD hS => ?_)
        have hP : va_P D vwCl [(q_o, .inr (7, [.int 0, .long o_trace, .ref q_o_text, .int o_typed, .int o_next, .int o_token, .int o_place, .int o_value, .int o_fault, .ref q_o_warmth, .ref q_o_side, .ref q_o_seconds, .int o_members, .int o_pairs, .int o_cold, .int o_fur, .int o_coughs, .int o_draftMembers, .int o_draftPairs, .int o_draftCold, .int o_draftFur, .int o_draftCoughs, .ref q_o_s, .ref q_o_kept, .ref q_o_isKept, .ref q_o_undos, .int o_undoMany, .ref q_o_seenAt, .ref q_o_seen, .int y12, .ref q_o_board, .ref q_o_pick, .ref q_o_worth, .ref q_o_best, .int o_chosen])), (q_o_seen, .inl (cI, 6, .inl w11)), (q_o_seenAt, .inl (cI, 6, .inl w9))] H := hP
        have hD : va_D A [(q_o, .inr (7, [.int 0, .long o_trace, .ref q_o_text, .int o_typed, .int o_next, .int o_token, .int o_place, .int o_value, .int o_fault, .ref q_o_warmth, .ref q_o_side, .ref q_o_seconds, .int o_members, .int o_pairs, .int o_cold, .int o_fur, .int o_coughs, .int o_draftMembers, .int o_draftPairs, .int o_draftCold, .int o_draftFur, .int o_draftCoughs, .ref q_o_s, .ref q_o_kept, .ref q_o_isKept, .ref q_o_undos, .int o_undoMany, .ref q_o_seenAt, .ref q_o_seen, .int y12, .ref q_o_board, .ref q_o_pick, .ref q_o_worth, .ref q_o_best, .int o_chosen])), (q_o_seen, .inl (cI, 6, .inl w11)), (q_o_seenAt, .inl (cI, 6, .inl w9))] := hD
        refine lv_aload_n hx hb dX8_saw_74 rfl (lv_at hl 0 rfl) ?_
        refine va_get (D := D) (ci := 7) (v := .int y12) (C := RX8) (T := TX8) (N := 35) hx hb hts hinX8 hown hK.1 hP 0 rfl rfl 29 (by decide) g154 (fun _ h9 => h9) rfl dX8_saw_75 ?_
        obtain ⟨e0_, e1_, e2_, e3_, e4_⟩ := tup5 hf
        have hP : va_P D vwCl [(q_o, .inr (7, [.int o_thrown', .long o_trace, .ref q_o_text, .int o_typed, .int o_next, .int o_token, .int o_place, .int o_value, .int o_fault, .ref q_o_warmth, .ref q_o_side, .ref q_o_seconds, .int o_members, .int o_pairs, .int o_cold, .int o_fur, .int o_coughs, .int o_draftMembers, .int o_draftPairs, .int o_draftCold, .int o_draftFur, .int o_draftCoughs, .ref q_o_s, .ref q_o_kept, .ref q_o_isKept, .ref q_o_undos, .int o_undoMany, .ref q_o_seenAt, .ref q_o_seen, .int o_seenMany', .ref q_o_board, .ref q_o_pick, .ref q_o_worth, .ref q_o_best, .int o_chosen])), (q_o_seen, .inl (cI, 6, .inl o_seen')), (q_o_seenAt, .inl (cI, 6, .inl o_seenAt'))] H := by rw [← e1_, ← e2_, ← e3_, ← e4_]; exact hP
        have hD : va_D A [(q_o, .inr (7, [.int o_thrown', .long o_trace, .ref q_o_text, .int o_typed, .int o_next, .int o_token, .int o_place, .int o_value, .int o_fault, .ref q_o_warmth, .ref q_o_side, .ref q_o_seconds, .int o_members, .int o_pairs, .int o_cold, .int o_fur, .int o_coughs, .int o_draftMembers, .int o_draftPairs, .int o_draftCold, .int o_draftFur, .int o_draftCoughs, .ref q_o_s, .ref q_o_kept, .ref q_o_isKept, .ref q_o_undos, .int o_undoMany, .ref q_o_seenAt, .ref q_o_seen, .int o_seenMany', .ref q_o_board, .ref q_o_pick, .ref q_o_worth, .ref q_o_best, .int o_chosen])), (q_o_seen, .inl (cI, 6, .inl o_seen')), (q_o_seenAt, .inl (cI, 6, .inl o_seenAt'))] := by rw [← e1_, ← e2_, ← e3_, ← e4_]; exact hD
        exact endMI hx hb hr hlocks rfl hP hD hS e0_ dX8_saw_78
      · have hf := ite_p hf c7
        refine lv_bipush (v := (-3)) hx hb dX8_saw_41 (by decide) ?_
        obtain ⟨e0_, e1_, e2_, e3_, e4_⟩ := tup5 hf
        have hP : va_P D vwCl [(q_o, .inr (7, [.int o_thrown', .long o_trace, .ref q_o_text, .int o_typed, .int o_next, .int o_token, .int o_place, .int o_value, .int o_fault, .ref q_o_warmth, .ref q_o_side, .ref q_o_seconds, .int o_members, .int o_pairs, .int o_cold, .int o_fur, .int o_coughs, .int o_draftMembers, .int o_draftPairs, .int o_draftCold, .int o_draftFur, .int o_draftCoughs, .ref q_o_s, .ref q_o_kept, .ref q_o_isKept, .ref q_o_undos, .int o_undoMany, .ref q_o_seenAt, .ref q_o_seen, .int o_seenMany', .ref q_o_board, .ref q_o_pick, .ref q_o_worth, .ref q_o_best, .int o_chosen])), (q_o_seen, .inl (cI, 6, .inl o_seen')), (q_o_seenAt, .inl (cI, 6, .inl o_seenAt'))] H := by rw [← e1_, ← e2_, ← e3_, ← e4_]; exact hP
        have hD : va_D A [(q_o, .inr (7, [.int o_thrown', .long o_trace, .ref q_o_text, .int o_typed, .int o_next, .int o_token, .int o_place, .int o_value, .int o_fault, .ref q_o_warmth, .ref q_o_side, .ref q_o_seconds, .int o_members, .int o_pairs, .int o_cold, .int o_fur, .int o_coughs, .int o_draftMembers, .int o_draftPairs, .int o_draftCold, .int o_draftFur, .int o_draftCoughs, .ref q_o_s, .ref q_o_kept, .ref q_o_isKept, .ref q_o_undos, .int o_undoMany, .ref q_o_seenAt, .ref q_o_seen, .int o_seenMany', .ref q_o_board, .ref q_o_pick, .ref q_o_worth, .ref q_o_best, .int o_chosen])), (q_o_seen, .inl (cI, 6, .inl o_seen')), (q_o_seenAt, .inl (cI, 6, .inl o_seenAt'))] := by rw [← e1_, ← e2_, ← e3_, ← e4_]; exact hD
        exact endMI hx hb hr hlocks rfl hP hD hS e0_ dX8_saw_43
    · have hf := ite_p hf c6
      refine lv_iconst (v := (-1)) hx hb dX8_saw_30 (by decide) ?_
      obtain ⟨e0_, e1_, e2_, e3_, e4_⟩ := tup5 hf
      have hP : va_P D vwCl [(q_o, .inr (7, [.int o_thrown', .long o_trace, .ref q_o_text, .int o_typed, .int o_next, .int o_token, .int o_place, .int o_value, .int o_fault, .ref q_o_warmth, .ref q_o_side, .ref q_o_seconds, .int o_members, .int o_pairs, .int o_cold, .int o_fur, .int o_coughs, .int o_draftMembers, .int o_draftPairs, .int o_draftCold, .int o_draftFur, .int o_draftCoughs, .ref q_o_s, .ref q_o_kept, .ref q_o_isKept, .ref q_o_undos, .int o_undoMany, .ref q_o_seenAt, .ref q_o_seen, .int o_seenMany', .ref q_o_board, .ref q_o_pick, .ref q_o_worth, .ref q_o_best, .int o_chosen])), (q_o_seen, .inl (cI, 6, .inl o_seen')), (q_o_seenAt, .inl (cI, 6, .inl o_seenAt'))] H := by rw [← e1_, ← e2_, ← e3_, ← e4_]; exact hP
      have hD : va_D A [(q_o, .inr (7, [.int o_thrown', .long o_trace, .ref q_o_text, .int o_typed, .int o_next, .int o_token, .int o_place, .int o_value, .int o_fault, .ref q_o_warmth, .ref q_o_side, .ref q_o_seconds, .int o_members, .int o_pairs, .int o_cold, .int o_fur, .int o_coughs, .int o_draftMembers, .int o_draftPairs, .int o_draftCold, .int o_draftFur, .int o_draftCoughs, .ref q_o_s, .ref q_o_kept, .ref q_o_isKept, .ref q_o_undos, .int o_undoMany, .ref q_o_seenAt, .ref q_o_seen, .int o_seenMany', .ref q_o_board, .ref q_o_pick, .ref q_o_worth, .ref q_o_best, .int o_chosen])), (q_o_seen, .inl (cI, 6, .inl o_seen')), (q_o_seenAt, .inl (cI, 6, .inl o_seenAt'))] := by rw [← e1_, ← e2_, ← e3_, ← e4_]; exact hD
      exact endMI hx hb hr hlocks rfl hP hD hS e0_ dX8_saw_31
def f_X8_forget (o_thrown : Int32) (o_seenMany : Int32) : Option (Int32 × Int32 × Int32) :=
  some (o_seenMany, 0, 0)
set_option maxHeartbeats 4000000 in
set_option maxRecDepth 100000 in
theorem c_X8_forget (l : Launch) (D : va_G) (cB cI cZ cM cN : ClassId) (q_o : Nat) (q_o_text : Nat) (q_o_warmth : Nat) (q_o_side : Nat) (q_o_seconds : Nat) (q_o_s : Nat) (q_o_kept : Nat) (q_o_isKept : Nat) (q_o_undos : Nat) (q_o_seenAt : Nat) (q_o_seen : Nat) (q_o_board : Nat) (q_o_pick : Nat) (q_o_worth : Nat) (q_o_best : Nat) (o_thrown : Int32) (o_trace : Int64) (o_typed : Int32) (o_next : Int32) (o_token : Int32) (o_place : Int32) (o_value : Int32) (o_fault : Int32) (o_members : Int32) (o_pairs : Int32) (o_cold : Int32) (o_fur : Int32) (o_coughs : Int32) (o_draftMembers : Int32) (o_draftPairs : Int32) (o_draftCold : Int32) (o_draftFur : Int32) (o_draftCoughs : Int32) (o_undoMany : Int32) (o_seenMany : Int32) (o_chosen : Int32) (r : Int32) (o_thrown' : Int32) (o_seenMany' : Int32) (sz : Nat) (hf : f_X8_forget o_thrown o_seenMany = some (r, o_thrown', o_seenMany')) : Met l yX8_forget wsX8_forget ({ frames := 0, cells := 0, slots := 0, locals := 0 } : Room) (PM D cB cI cZ cM cN [.ref q_o] [(q_o, .inr (7, [.int o_thrown, .long o_trace, .ref q_o_text, .int o_typed, .int o_next, .int o_token, .int o_place, .int o_value, .int o_fault, .ref q_o_warmth, .ref q_o_side, .ref q_o_seconds, .int o_members, .int o_pairs, .int o_cold, .int o_fur, .int o_coughs, .int o_draftMembers, .int o_draftPairs, .int o_draftCold, .int o_draftFur, .int o_draftCoughs, .ref q_o_s, .ref q_o_kept, .ref q_o_isKept, .ref q_o_undos, .int o_undoMany, .ref q_o_seenAt, .ref q_o_seen, .int o_seenMany, .ref q_o_board, .ref q_o_pick, .ref q_o_worth, .ref q_o_best, .int o_chosen]))] sz) (QI D [(q_o, .inr (7, [.int o_thrown', .long o_trace, .ref q_o_text, .int o_typed, .int o_next, .int o_token, .int o_place, .int o_value, .int o_fault, .ref q_o_warmth, .ref q_o_side, .ref q_o_seconds, .int o_members, .int o_pairs, .int o_cold, .int o_fur, .int o_coughs, .int o_draftMembers, .int o_draftPairs, .int o_draftCold, .int o_draftFur, .int o_draftCoughs, .ref q_o_s, .ref q_o_kept, .ref q_o_isKept, .ref q_o_undos, .int o_undoMany, .ref q_o_seenAt, .ref q_o_seen, .int o_seenMany', .ref q_o_board, .ref q_o_pick, .ref q_o_worth, .ref q_o_best, .int o_chosen]))] r (va_A [(q_o, .inr (7, [.int o_thrown, .long o_trace, .ref q_o_text, .int o_typed, .int o_next, .int o_token, .int o_place, .int o_value, .int o_fault, .ref q_o_warmth, .ref q_o_side, .ref q_o_seconds, .int o_members, .int o_pairs, .int o_cold, .int o_fur, .int o_coughs, .int o_draftMembers, .int o_draftPairs, .int o_draftCold, .int o_draftFur, .int o_draftCoughs, .ref q_o_s, .ref q_o_kept, .ref q_o_isKept, .ref q_o_undos, .int o_undoMany, .ref q_o_seenAt, .ref q_o_seen, .int o_seenMany, .ref q_o_board, .ref q_o_pick, .ref q_o_worth, .ref q_o_best, .int o_chosen]))] sz)) 0 0 (va_A [(q_o, .inr (7, [.int o_thrown, .long o_trace, .ref q_o_text, .int o_typed, .int o_next, .int o_token, .int o_place, .int o_value, .int o_fault, .ref q_o_warmth, .ref q_o_side, .ref q_o_seconds, .int o_members, .int o_pairs, .int o_cold, .int o_fur, .int o_coughs, .int o_draftMembers, .int o_draftPairs, .int o_draftCold, .int o_draftFur, .int o_draftCoughs, .ref q_o_s, .ref q_o_kept, .ref q_o_isKept, .ref q_o_undos, .int o_undoMany, .ref q_o_seenAt, .ref q_o_seen, .int o_seenMany, .ref q_o_board, .ref q_o_pick, .ref q_o_worth, .ref q_o_best, .int o_chosen]))] sz) := by
  refine entM (l := l) (y := yX8_forget) (ws := wsX8_forget) (cc := cX8_forget) (av := [.ref q_o]) (wc := [(q_o, .inr (7, [.int o_thrown, .long o_trace, .ref q_o_text, .int o_typed, .int o_next, .int o_token, .int o_place, .int o_value, .int o_fault, .ref q_o_warmth, .ref q_o_side, .ref q_o_seconds, .int o_members, .int o_pairs, .int o_cold, .int o_fur, .int o_coughs, .int o_draftMembers, .int o_draftPairs, .int o_draftCold, .int o_draftFur, .int o_draftCoughs, .ref q_o_s, .ref q_o_kept, .ref q_o_isKept, .ref q_o_undos, .int o_undoMany, .ref q_o_seenAt, .ref q_o_seen, .int o_seenMany, .ref q_o_board, .ref q_o_pick, .ref q_o_worth, .ref q_o_best, .int o_chosen]))]) (sz := sz) (Qc := fun A => QI D [(q_o, .inr (7, [.int o_thrown', .long o_trace, .ref q_o_text, .int o_typed, .int o_next, .int o_token, .int o_place, .int o_value, .int o_fault, .ref q_o_warmth, .ref q_o_side, .ref q_o_seconds, .int o_members, .int o_pairs, .int o_cold, .int o_fur, .int o_coughs, .int o_draftMembers, .int o_draftPairs, .int o_draftCold, .int o_draftFur, .int o_draftCoughs, .ref q_o_s, .ref q_o_kept, .ref q_o_isKept, .ref q_o_undos, .int o_undoMany, .ref q_o_seenAt, .ref q_o_seen, .int o_seenMany', .ref q_o_board, .ref q_o_pick, .ref q_o_worth, .ref q_o_best, .int o_chosen]))] r A) (by decide +kernel) rfl (Nat.le_of_ble_eq_true rfl) ?_
  intro A p e s m below meth c hx hb hr hml hown hlocks hts hK hA H locs hP hD hS ls hl
  have hown : s.vm.findClass RX8 = some m.cls := hown
  have hl : lv_has ls 2 [(0, .ref q_o)] := hl
  have hfix : CallFix p m c cX8_forget 2 s ([.ref q_o] : List Value).toArray wsX8_forget RX8 := ⟨hx, hb, hml, hown, hts⟩
  have hinX8 : ∀ w ∈ u_ws RX8 TX8 35, w ∈ wsX8_forget := by decide +kernel
  have g63 := hts (.fieldLink RX8 63 "LastCoatModel" "thrown" "I") (by decide +kernel)
  have g154 := hts (.fieldLink RX8 154 "LastCoatModel" "seenMany" "I") (by decide +kernel)
  unfold f_X8_forget at hf
  refine lv_aload_n hx hb dX8_forget_0 rfl (lv_at hl 0 rfl) ?_
  refine lv_iconst (v := 0) hx hb dX8_forget_1 (by decide) ?_
  refine va_put (D := D) (ci := 7) (v := .int 0) (ty := .int) (C := RX8) (T := TX8) (N := 35) hx hb hts hinX8 tyX8 tyX8_ok nmX8 hown hK.1 hP hD hS 0 rfl rfl 0 (by decide) g63 (fun _ h9 => h9) rfl (by decide +kernel) rfl rfl (Nat.le_of_ble_eq_true rfl) dX8_forget_2 (fun H locs hP hD hS => ?_)
  have hP : va_P D vwCl [(q_o, .inr (7, [.int 0, .long o_trace, .ref q_o_text, .int o_typed, .int o_next, .int o_token, .int o_place, .int o_value, .int o_fault, .ref q_o_warmth, .ref q_o_side, .ref q_o_seconds, .int o_members, .int o_pairs, .int o_cold, .int o_fur, .int o_coughs, .int o_draftMembers, .int o_draftPairs, .int o_draftCold, .int o_draftFur, .int o_draftCoughs, .ref q_o_s, .ref q_o_kept, .ref q_o_isKept, .ref q_o_undos, .int o_undoMany, .ref q_o_seenAt, .ref q_o_seen, .int o_seenMany, .ref q_o_board, .ref q_o_pick, .ref q_o_worth, .ref q_o_best, .int o_chosen]))] H := hP
  have hD : va_D A [(q_o, .inr (7, [.int 0, .long o_trace, .ref q_o_text, .int o_typed, .int o_next, .int o_token, .int o_place, .int o_value, .int o_fault, .ref q_o_warmth, .ref q_o_side, .ref q_o_seconds, .int o_members, .int o_pairs, .int o_cold, .int o_fur, .int o_coughs, .int o_draftMembers, .int o_draftPairs, .int o_draftCold, .int o_draftFur, .int o_draftCoughs, .ref q_o_s, .ref q_o_kept, .ref q_o_isKept, .ref q_o_undos, .int o_undoMany, .ref q_o_seenAt, .ref q_o_seen, .int o_seenMany, .ref q_o_board, .ref q_o_pick, .ref q_o_worth, .ref q_o_best, .int o_chosen]))] := hD
  refine lv_aload_n hx hb dX8_forget_5 rfl (lv_at hl 0 rfl) ?_
  refine va_get (D := D) (ci := 7) (v := .int o_seenMany) (C := RX8) (T := TX8) (N := 35) hx hb hts hinX8 hown hK.1 hP 0 rfl rfl 29 (by decide) g154 (fun _ h9 => h9) rfl dX8_forget_6 ?_
  refine lv_istore_n (lv' := [(1, .int o_seenMany), (0, .ref q_o)]) hx hb dX8_forget_9 rfl hl (by decide) rfl (fun ls hl => ?_)
  refine lv_aload_n hx hb dX8_forget_10 rfl (lv_at hl 1 rfl) ?_
  refine lv_iconst (v := 0) hx hb dX8_forget_11 (by decide) ?_
  refine va_put (D := D) (ci := 7) (v := .int 0) (ty := .int) (C := RX8) (T := TX8) (N := 35) hx hb hts hinX8 tyX8 tyX8_ok nmX8 hown hK.1 hP hD hS 0 rfl rfl 29 (by decide) g154 (fun _ h9 => h9) rfl (by decide +kernel) rfl rfl (Nat.le_of_ble_eq_true rfl) dX8_forget_12 (fun H locs hP hD hS => ?_)
  have hP : va_P D vwCl [(q_o, .inr (7, [.int 0, .long o_trace, .ref q_o_text, .int o_typed, .int o_next, .int o_token, .int o_place, .int o_value, .int o_fault, .ref q_o_warmth, .ref q_o_side, .ref q_o_seconds, .int o_members, .int o_pairs, .int o_cold, .int o_fur, .int o_coughs, .int o_draftMembers, .int o_draftPairs, .int o_draftCold, .int o_draftFur, .int o_draftCoughs, .ref q_o_s, .ref q_o_kept, .ref q_o_isKept, .ref q_o_undos, .int o_undoMany, .ref q_o_seenAt, .ref q_o_seen, .int 0, .ref q_o_board, .ref q_o_pick, .ref q_o_worth, .ref q_o_best, .int o_chosen]))] H := hP
  have hD : va_D A [(q_o, .inr (7, [.int 0, .long o_trace, .ref q_o_text, .int o_typed, .int o_next, .int o_token, .int o_place, .int o_value, .int o_fault, .ref q_o_warmth, .ref q_o_side, .ref q_o_seconds, .int o_members, .int o_pairs, .int o_cold, .int o_fur, .int o_coughs, .int o_draftMembers, .int o_draftPairs, .int o_draftCold, .int o_draftFur, .int o_draftCoughs, .ref q_o_s, .ref q_o_kept, .ref q_o_isKept, .ref q_o_undos, .int o_undoMany, .ref q_o_seenAt, .ref q_o_seen, .int 0, .ref q_o_board, .ref q_o_pick, .ref q_o_worth, .ref q_o_best, .int o_chosen]))] := hD
  refine lv_iload_n hx hb dX8_forget_15 rfl (lv_at hl 0 rfl) ?_
  obtain ⟨e0_, e1_, e2_⟩ := tup3 hf
  have hP : va_P D vwCl [(q_o, .inr (7, [.int o_thrown', .long o_trace, .ref q_o_text, .int o_typed, .int o_next, .int o_token, .int o_place, .int o_value, .int o_fault, .ref q_o_warmth, .ref q_o_side, .ref q_o_seconds, .int o_members, .int o_pairs, .int o_cold, .int o_fur, .int o_coughs, .int o_draftMembers, .int o_draftPairs, .int o_draftCold, .int o_draftFur, .int o_draftCoughs, .ref q_o_s, .ref q_o_kept, .ref q_o_isKept, .ref q_o_undos, .int o_undoMany, .ref q_o_seenAt, .ref q_o_seen, .int o_seenMany', .ref q_o_board, .ref q_o_pick, .ref q_o_worth, .ref q_o_best, .int o_chosen]))] H := by rw [← e1_, ← e2_]; exact hP
  have hD : va_D A [(q_o, .inr (7, [.int o_thrown', .long o_trace, .ref q_o_text, .int o_typed, .int o_next, .int o_token, .int o_place, .int o_value, .int o_fault, .ref q_o_warmth, .ref q_o_side, .ref q_o_seconds, .int o_members, .int o_pairs, .int o_cold, .int o_fur, .int o_coughs, .int o_draftMembers, .int o_draftPairs, .int o_draftCold, .int o_draftFur, .int o_draftCoughs, .ref q_o_s, .ref q_o_kept, .ref q_o_isKept, .ref q_o_undos, .int o_undoMany, .ref q_o_seenAt, .ref q_o_seen, .int o_seenMany', .ref q_o_board, .ref q_o_pick, .ref q_o_worth, .ref q_o_best, .int o_chosen]))] := by rw [← e1_, ← e2_]; exact hD
  exact endMI hx hb hr hlocks rfl hP hD hS e0_ dX8_forget_16
def f_X8_isAsSeen_98 (o_members : Int32) (o_seenMany : Int32) (o_seen : Nat → Int32) (o_seenAt : Nat → Int32) (o_board : Nat → Int32) (K4 : Int32 → Int32 → Int32 → Option (Int32)) (x1 : Int32) (x2 : Int32) (x3 : Int32) : Option (Int32) :=
  bnd (x3 + 1) fun y1 =>
  K4 x1 x2 y1
def f_X8_isAsSeen_91 (o_members : Int32) (o_seenMany : Int32) (o_seen : Nat → Int32) (o_seenAt : Nat → Int32) (o_board : Nat → Int32) (K4 : Int32 → Int32 → Int32 → Option (Int32)) (K15 : Int32 → Int32 → Int32 → Int32 → Option (Int32)) (x1 : Int32) (x3 : Int32) (x4 : Int32) (k0 : Int32) : Option (Int32) :=
  bnd (x4 + 1) fun y2 =>
  K15 x1 k0 x3 y2
def f_X8_isAsSeen_90 (o_members : Int32) (o_seenMany : Int32) (o_seen : Nat → Int32) (o_seenAt : Nat → Int32) (o_board : Nat → Int32) (K4 : Int32 → Int32 → Int32 → Option (Int32)) (K15 : Int32 → Int32 → Int32 → Int32 → Option (Int32)) (x1 : Int32) (x3 : Int32) (x4 : Int32) : Option (Int32) :=
  f_X8_isAsSeen_91 o_members o_seenMany o_seen o_seenAt o_board K4 K15 x1 x3 x4 0
def f_X8_isAsSeen_83 (o_members : Int32) (o_seenMany : Int32) (o_seen : Nat → Int32) (o_seenAt : Nat → Int32) (o_board : Nat → Int32) (K4 : Int32 → Int32 → Int32 → Option (Int32)) (K15 : Int32 → Int32 → Int32 → Int32 → Option (Int32)) (x1 : Int32) (x3 : Int32) (x4 : Int32) (k0 : Int32) (k1 : Int32) : Option (Int32) :=
  if k0 = k1 then (
    f_X8_isAsSeen_91 o_members o_seenMany o_seen o_seenAt o_board K4 K15 x1 x3 x4 1
  ) else (
    f_X8_isAsSeen_90 o_members o_seenMany o_seen o_seenAt o_board K4 K15 x1 x3 x4
  )
def f_X8_isAsSeen_63 (o_members : Int32) (o_seenMany : Int32) (o_seen : Nat → Int32) (o_seenAt : Nat → Int32) (o_board : Nat → Int32) (K4 : Int32 → Int32 → Int32 → Option (Int32)) (K15 : Int32 → Int32 → Int32 → Int32 → Option (Int32)) (x1 : Int32) (x3 : Int32) (x4 : Int32) (k0 : Int32) : Option (Int32) :=
  ing x3 6 <|
  if (((o_seen x3.toNatClampNeg) >>> (x4 &&& 31)) &&& 1) = 1 then (
    f_X8_isAsSeen_83 o_members o_seenMany o_seen o_seenAt o_board K4 K15 x1 x3 x4 k0 1
  ) else (
    f_X8_isAsSeen_83 o_members o_seenMany o_seen o_seenAt o_board K4 K15 x1 x3 x4 k0 0
  )
def f_X8_isAsSeen_15_b (o_members : Int32) (o_seenMany : Int32) (o_seen : Nat → Int32) (o_seenAt : Nat → Int32) (o_board : Nat → Int32) (K4 : Int32 → Int32 → Int32 → Option (Int32)) (K15 : Int32 → Int32 → Int32 → Int32 → Option (Int32)) (x1 : Int32) (x2 : Int32) (x3 : Int32) (x4 : Int32) : Option (Int32) :=
  if o_members ≤ x4 then (
    f_X8_isAsSeen_98 o_members o_seenMany o_seen o_seenAt o_board K4 x1 x2 x3
  ) else (
    ing x3 6 <|
    if x1 < (o_seenAt x3.toNatClampNeg) then (
      f_X8_isAsSeen_98 o_members o_seenMany o_seen o_seenAt o_board K4 x1 x2 x3
    ) else (
      if x2 = 0 then (
        f_X8_isAsSeen_90 o_members o_seenMany o_seen o_seenAt o_board K4 K15 x1 x3 x4
      ) else (
        ing x3 6 <|
        ing ((7 * (o_seenAt x3.toNatClampNeg)) + x4) 49 <|
        if (o_board ((7 * (o_seenAt x3.toNatClampNeg)) + x4).toNatClampNeg) = 0 then (
          f_X8_isAsSeen_63 o_members o_seenMany o_seen o_seenAt o_board K4 K15 x1 x3 x4 1
        ) else (
          f_X8_isAsSeen_63 o_members o_seenMany o_seen o_seenAt o_board K4 K15 x1 x3 x4 0
        )
      )
    )
  )
def f_X8_isAsSeen_15 (o_members : Int32) (o_seenMany : Int32) (o_seen : Nat → Int32) (o_seenAt : Nat → Int32) (o_board : Nat → Int32) (K4 : Int32 → Int32 → Int32 → Option (Int32)) : Nat → Int32 → Int32 → Int32 → Int32 → Option (Int32)
  | 0 => fun _ _ _ _ => none
  | n + 1 => f_X8_isAsSeen_15_b o_members o_seenMany o_seen o_seenAt o_board K4 (f_X8_isAsSeen_15 o_members o_seenMany o_seen o_seenAt o_board K4 n)
def f_X8_isAsSeen_4_b (o_members : Int32) (o_seenMany : Int32) (o_seen : Nat → Int32) (o_seenAt : Nat → Int32) (o_board : Nat → Int32) (K4 : Int32 → Int32 → Int32 → Option (Int32)) (x1 : Int32) (x2 : Int32) (x3 : Int32) : Option (Int32) :=
  if o_seenMany ≤ x3 then (
    zbg x2 <|
    some (x2)
  ) else (
    f_X8_isAsSeen_15 o_members o_seenMany o_seen o_seenAt o_board K4 FU x1 x2 x3 0
  )
def f_X8_isAsSeen_4 (o_members : Int32) (o_seenMany : Int32) (o_seen : Nat → Int32) (o_seenAt : Nat → Int32) (o_board : Nat → Int32) : Nat → Int32 → Int32 → Int32 → Option (Int32)
  | 0 => fun _ _ _ => none
  | n + 1 => f_X8_isAsSeen_4_b o_members o_seenMany o_seen o_seenAt o_board (f_X8_isAsSeen_4 o_members o_seenMany o_seen o_seenAt o_board n)
def f_X8_isAsSeen (o_members : Int32) (o_seenMany : Int32) (o_seen : Nat → Int32) (o_seenAt : Nat → Int32) (o_board : Nat → Int32) (p1 : Int32) : Option (Int32) :=
  f_X8_isAsSeen_4 o_members o_seenMany o_seen o_seenAt o_board FU p1 1 0
set_option maxHeartbeats 4000000 in
set_option maxRecDepth 100000 in
theorem c_X8_isAsSeen (l : Launch) (D : va_G) (cB cI cZ cM cN : ClassId) (q_o : Nat) (q_o_text : Nat) (q_o_warmth : Nat) (q_o_side : Nat) (q_o_seconds : Nat) (q_o_s : Nat) (q_o_kept : Nat) (q_o_isKept : Nat) (q_o_undos : Nat) (q_o_seenAt : Nat) (q_o_seen : Nat) (q_o_board : Nat) (q_o_pick : Nat) (q_o_worth : Nat) (q_o_best : Nat) (o_thrown : Int32) (o_trace : Int64) (o_typed : Int32) (o_next : Int32) (o_token : Int32) (o_place : Int32) (o_value : Int32) (o_fault : Int32) (o_members : Int32) (o_pairs : Int32) (o_cold : Int32) (o_fur : Int32) (o_coughs : Int32) (o_draftMembers : Int32) (o_draftPairs : Int32) (o_draftCold : Int32) (o_draftFur : Int32) (o_draftCoughs : Int32) (o_undoMany : Int32) (o_seenMany : Int32) (o_chosen : Int32) (o_seen : Nat → Int32) (o_seenAt : Nat → Int32) (o_board : Nat → Int32) (p1 : Int32) (r : Int32) (hf : f_X8_isAsSeen o_members o_seenMany o_seen o_seenAt o_board p1 = some r) : Met l yX8_isAsSeen wsX8_isAsSeen ({ frames := 0, cells := 0, slots := 0, locals := 0 } : Room) (PR D cB cI cZ cM cN [.ref q_o, .int p1] [(q_o, .inr (7, [.int o_thrown, .long o_trace, .ref q_o_text, .int o_typed, .int o_next, .int o_token, .int o_place, .int o_value, .int o_fault, .ref q_o_warmth, .ref q_o_side, .ref q_o_seconds, .int o_members, .int o_pairs, .int o_cold, .int o_fur, .int o_coughs, .int o_draftMembers, .int o_draftPairs, .int o_draftCold, .int o_draftFur, .int o_draftCoughs, .ref q_o_s, .ref q_o_kept, .ref q_o_isKept, .ref q_o_undos, .int o_undoMany, .ref q_o_seenAt, .ref q_o_seen, .int o_seenMany, .ref q_o_board, .ref q_o_pick, .ref q_o_worth, .ref q_o_best, .int o_chosen])), (q_o_seen, .inl (cI, 6, .inl o_seen)), (q_o_seenAt, .inl (cI, 6, .inl o_seenAt)), (q_o_board, .inl (cI, 49, .inl o_board))]) (RI r) 0 0 (fun _ => False) := by
  refine entR (by decide +kernel) rfl (Nat.le_of_ble_eq_true rfl) ?_
  intro p e s m below meth c hx hb hr hml hown hlocks hts hP hK ls hl
  have hown : s.vm.findClass RX8 = some m.cls := hown
  have hl : lv_has ls 5 [(0, .ref q_o), (1, .int p1)] := hl
  have hfix : CallFix p m c cX8_isAsSeen 5 s ([.ref q_o, .int p1] : List Value).toArray wsX8_isAsSeen RX8 := ⟨hx, hb, hml, hown, hts⟩
  have hinX8 : ∀ w ∈ u_ws RX8 TX8 35, w ∈ wsX8_isAsSeen := by decide +kernel
  have g38 := hts (.fieldLink RX8 38 "LastCoatModel" "seen" "[I") (by decide +kernel)
  have g145 := hts (.fieldLink RX8 145 "LastCoatModel" "members" "I") (by decide +kernel)
  have g35 := hts (.fieldLink RX8 35 "LastCoatModel" "seenAt" "[I") (by decide +kernel)
  have g41 := hts (.fieldLink RX8 41 "LastCoatModel" "board" "[I") (by decide +kernel)
  have g154 := hts (.fieldLink RX8 154 "LastCoatModel" "seenMany" "I") (by decide +kernel)
  have L4 : ∀ (n4 : Nat) (x1 : Int32) (x2 : Int32) (x3 : Int32) (ls : Array Slot), f_X8_isAsSeen_4 o_members o_seenMany o_seen o_seenAt o_board n4 x1 x2 x3 = some r → lv_has ls 5 [(0, .ref q_o), (1, .int x1), (2, .int x2), (3, .int x3)] → W p l e ({ frames := 0, cells := 0, slots := 0, locals := 0 } : Room) s m ([.ref q_o, .int p1] : List Value).toArray below meth c s.heap [] 0 0 (MQ below (RI r) ([.ref q_o, .int p1] : List Value).toArray s 0 0 (fun _ => False)) (F0 m 4 ls []) := by
    intro n4
    induction n4 with
    | zero =>
      intro x1 x2 x3 ls hf hl
      exact noneNe hf
    | succ n4 ih4 =>
      have L98 : ∀ (x1 : Int32) (x2 : Int32) (x3 : Int32) (ls : Array Slot), f_X8_isAsSeen_98 o_members o_seenMany o_seen o_seenAt o_board (f_X8_isAsSeen_4 o_members o_seenMany o_seen o_seenAt o_board n4) x1 x2 x3 = some r → lv_has ls 5 [(0, .ref q_o), (1, .int x1), (2, .int x2), (3, .int x3)] → W p l e ({ frames := 0, cells := 0, slots := 0, locals := 0 } : Room) s m ([.ref q_o, .int p1] : List Value).toArray below meth c s.heap [] 0 0 (MQ below (RI r) ([.ref q_o, .int p1] : List Value).toArray s 0 0 (fun _ => False)) (F0 m 98 ls []) := by
        intro x1 x2 x3 ls hf hl
        unfold f_X8_isAsSeen_98 at hf
        obtain ⟨y1, ey1⟩ : ∃ z : Int32, z = x3 + 1 := ⟨_, rfl⟩
        have hf := bnd_at hf ey1
        refine lv_iinc (v := y1) (lv' := [(3, .int y1), (0, .ref q_o), (1, .int x1), (2, .int x2)]) hx hb dX8_isAsSeen_98 hl (k := 3) rfl (by rw [ey1]; rfl) (by decide) rfl (fun ls hl => ?_)
        refine lv_goto (tgt := 4) hx hb dX8_isAsSeen_101 (by decide) ?_
        exact ih4 x1 x2 y1 ls hf (lv_sub hl [1, 2, 3, 0] rfl)
      have L15 : ∀ (n15 : Nat) (x1 : Int32) (x2 : Int32) (x3 : Int32) (x4 : Int32) (ls : Array Slot), f_X8_isAsSeen_15 o_members o_seenMany o_seen o_seenAt o_board (f_X8_isAsSeen_4 o_members o_seenMany o_seen o_seenAt o_board n4) n15 x1 x2 x3 x4 = some r → lv_has ls 5 [(0, .ref q_o), (1, .int x1), (2, .int x2), (3, .int x3), (4, .int x4)] → W p l e ({ frames := 0, cells := 0, slots := 0, locals := 0 } : Room) s m ([.ref q_o, .int p1] : List Value).toArray below meth c s.heap [] 0 0 (MQ below (RI r) ([.ref q_o, .int p1] : List Value).toArray s 0 0 (fun _ => False)) (F0 m 15 ls []) := by
        intro n15
        induction n15 with
        | zero =>
          intro x1 x2 x3 x4 ls hf hl
          exact noneNe hf
        | succ n15 ih15 =>
          have L91 : ∀ (x1 : Int32) (x3 : Int32) (x4 : Int32) (k0 : Int32) (ls : Array Slot), f_X8_isAsSeen_91 o_members o_seenMany o_seen o_seenAt o_board (f_X8_isAsSeen_4 o_members o_seenMany o_seen o_seenAt o_board n4) (f_X8_isAsSeen_15 o_members o_seenMany o_seen o_seenAt o_board (f_X8_isAsSeen_4 o_members o_seenMany o_seen o_seenAt o_board n4) n15) x1 x3 x4 k0 = some r → lv_has ls 5 [(0, .ref q_o), (1, .int x1), (3, .int x3), (4, .int x4)] → W p l e ({ frames := 0, cells := 0, slots := 0, locals := 0 } : Room) s m ([.ref q_o, .int p1] : List Value).toArray below meth c s.heap [] 0 0 (MQ below (RI r) ([.ref q_o, .int p1] : List Value).toArray s 0 0 (fun _ => False)) (F0 m 91 ls [.int k0]) := by
            intro x1 x3 x4 k0 ls hf hl
            unfold f_X8_isAsSeen_91 at hf
            refine lv_istore_n (lv' := [(2, .int k0), (0, .ref q_o), (1, .int x1), (3, .int x3), (4, .int x4)]) hx hb dX8_isAsSeen_91 rfl hl (by decide) rfl (fun ls hl => ?_)
            obtain ⟨y2, ey2⟩ : ∃ z : Int32, z = x4 + 1 := ⟨_, rfl⟩
            have hf := bnd_at hf ey2
            refine lv_iinc (v := y2) (lv' := [(4, .int y2), (2, .int k0), (0, .ref q_o), (1, .int x1), (3, .int x3)]) hx hb dX8_isAsSeen_92 hl (k := 4) rfl (by rw [ey2]; rfl) (by decide) rfl (fun ls hl => ?_)
            refine lv_goto (tgt := 15) hx hb dX8_isAsSeen_95 (by decide) ?_
            exact ih15 x1 k0 x3 y2 ls hf (lv_sub hl [2, 3, 1, 4, 0] rfl)
          have L90 : ∀ (x1 : Int32) (x3 : Int32) (x4 : Int32) (ls : Array Slot), f_X8_isAsSeen_90 o_members o_seenMany o_seen o_seenAt o_board (f_X8_isAsSeen_4 o_members o_seenMany o_seen o_seenAt o_board n4) (f_X8_isAsSeen_15 o_members o_seenMany o_seen o_seenAt o_board (f_X8_isAsSeen_4 o_members o_seenMany o_seen o_seenAt o_board n4) n15) x1 x3 x4 = some r → lv_has ls 5 [(0, .ref q_o), (1, .int x1), (3, .int x3), (4, .int x4)] → W p l e ({ frames := 0, cells := 0, slots := 0, locals := 0 } : Room) s m ([.ref q_o, .int p1] : List Value).toArray below meth c s.heap [] 0 0 (MQ below (RI r) ([.ref q_o, .int p1] : List Value).toArray s 0 0 (fun _ => False)) (F0 m 90 ls []) := by
            intro x1 x3 x4 ls hf hl
            unfold f_X8_isAsSeen_90 at hf
            refine lv_iconst (v := 0) hx hb dX8_isAsSeen_90 (by decide) ?_
            exact L91 x1 x3 x4 0 ls hf (lv_sub hl [0, 1, 2, 3] rfl)
          have L83 : ∀ (x1 : Int32) (x3 : Int32) (x4 : Int32) (k0 : Int32) (k1 : Int32) (ls : Array Slot), f_X8_isAsSeen_83 o_members o_seenMany o_seen o_seenAt o_board (f_X8_isAsSeen_4 o_members o_seenMany o_seen o_seenAt o_board n4) (f_X8_isAsSeen_15 o_members o_seenMany o_seen o_seenAt o_board (f_X8_isAsSeen_4 o_members o_seenMany o_seen o_seenAt o_board n4) n15) x1 x3 x4 k0 k1 = some r → lv_has ls 5 [(0, .ref q_o), (1, .int x1), (3, .int x3), (4, .int x4)] → W p l e ({ frames := 0, cells := 0, slots := 0, locals := 0 } : Room) s m ([.ref q_o, .int p1] : List Value).toArray below meth c s.heap [] 0 0 (MQ below (RI r) ([.ref q_o, .int p1] : List Value).toArray s 0 0 (fun _ => False)) (F0 m 83 ls [.int k1, .int k0]) := by
            intro x1 x3 x4 k0 k1 ls hf hl
            unfold f_X8_isAsSeen_83 at hf
            refine lv_icmp_ne (tgt := 90) hx hb dX8_isAsSeen_83 (by decide) (fun c3 => ?_) (fun c3 => ?_)
            · have hf := ite_n hf c3
              exact L90 x1 x3 x4 ls hf (lv_sub hl [0, 1, 2, 3] rfl)
            · have hf := ite_p hf c3
              refine lv_iconst (v := 1) hx hb dX8_isAsSeen_86 (by decide) ?_
              refine lv_goto (tgt := 91) hx hb dX8_isAsSeen_87 (by decide) ?_
              exact L91 x1 x3 x4 1 ls hf (lv_sub hl [0, 1, 2, 3] rfl)
          have L63 : ∀ (x1 : Int32) (x3 : Int32) (x4 : Int32) (k0 : Int32) (ls : Array Slot), f_X8_isAsSeen_63 o_members o_seenMany o_seen o_seenAt o_board (f_X8_isAsSeen_4 o_members o_seenMany o_seen o_seenAt o_board n4) (f_X8_isAsSeen_15 o_members o_seenMany o_seen o_seenAt o_board (f_X8_isAsSeen_4 o_members o_seenMany o_seen o_seenAt o_board n4) n15) x1 x3 x4 k0 = some r → lv_has ls 5 [(0, .ref q_o), (1, .int x1), (3, .int x3), (4, .int x4)] → W p l e ({ frames := 0, cells := 0, slots := 0, locals := 0 } : Room) s m ([.ref q_o, .int p1] : List Value).toArray below meth c s.heap [] 0 0 (MQ below (RI r) ([.ref q_o, .int p1] : List Value).toArray s 0 0 (fun _ => False)) (F0 m 63 ls [.int k0]) := by
            intro x1 x3 x4 k0 ls hf hl
            unfold f_X8_isAsSeen_63 at hf
            refine lv_aload_n hx hb dX8_isAsSeen_63 rfl (lv_at hl 0 rfl) ?_
            refine va_get (D := D) (ci := 7) (v := .ref q_o_seen) (C := RX8) (T := TX8) (N := 35) hx hb hts hinX8 hown hK.1 hP 0 rfl rfl 28 (by decide) g38 (fun _ h9 => h9) rfl dX8_isAsSeen_64 ?_
            refine lv_iload_n hx hb dX8_isAsSeen_67 rfl (lv_at hl 2 rfl) ?_
            obtain ⟨g4, hf⟩ := ing_some hf
            refine va_iald hx hb hK.1 hP 1 1 rfl rfl g4 dX8_isAsSeen_68 ?_
            refine lv_iload hx hb dX8_isAsSeen_69 (lv_at hl 3 rfl) ?_
            refine lv_ishr hx hb dX8_isAsSeen_71 ?_
            refine lv_iconst (v := 1) hx hb dX8_isAsSeen_72 (by decide) ?_
            refine lv_iand hx hb dX8_isAsSeen_73 ?_
            refine lv_iconst (v := 1) hx hb dX8_isAsSeen_74 (by decide) ?_
            refine lv_icmp_ne (tgt := 82) hx hb dX8_isAsSeen_75 (by decide) (fun c5 => ?_) (fun c5 => ?_)
            · have hf := ite_n hf c5
              refine lv_iconst (v := 0) hx hb dX8_isAsSeen_82 (by decide) ?_
              exact L83 x1 x3 x4 k0 0 ls hf (lv_sub hl [0, 1, 2, 3] rfl)
            · have hf := ite_p hf c5
              refine lv_iconst (v := 1) hx hb dX8_isAsSeen_78 (by decide) ?_
              refine lv_goto (tgt := 83) hx hb dX8_isAsSeen_79 (by decide) ?_
              exact L83 x1 x3 x4 k0 1 ls hf (lv_sub hl [0, 1, 2, 3] rfl)
          intro x1 x2 x3 x4 ls hf hl
          have hf : f_X8_isAsSeen_15_b o_members o_seenMany o_seen o_seenAt o_board (f_X8_isAsSeen_4 o_members o_seenMany o_seen o_seenAt o_board n4) (f_X8_isAsSeen_15 o_members o_seenMany o_seen o_seenAt o_board (f_X8_isAsSeen_4 o_members o_seenMany o_seen o_seenAt o_board n4) n15) x1 x2 x3 x4 = some r := hf
          unfold f_X8_isAsSeen_15_b at hf
          refine lv_iload hx hb dX8_isAsSeen_15 (lv_at hl 4 rfl) ?_
          refine lv_aload_n hx hb dX8_isAsSeen_17 rfl (lv_at hl 0 rfl) ?_
          refine va_get (D := D) (ci := 7) (v := .int o_members) (C := RX8) (T := TX8) (N := 35) hx hb hts hinX8 hown hK.1 hP 0 rfl rfl 12 (by decide) g145 (fun _ h9 => h9) rfl dX8_isAsSeen_18 ?_
          refine lv_icmp_ge (tgt := 98) hx hb dX8_isAsSeen_21 (by decide) (fun c6 => ?_) (fun c6 => ?_)
          · have hf := ite_p hf c6
            exact L98 x1 x2 x3 ls hf (lv_sub hl [0, 1, 2, 3] rfl)
          · have hf := ite_n hf c6
            refine lv_aload_n hx hb dX8_isAsSeen_24 rfl (lv_at hl 0 rfl) ?_
            refine va_get (D := D) (ci := 7) (v := .ref q_o_seenAt) (C := RX8) (T := TX8) (N := 35) hx hb hts hinX8 hown hK.1 hP 0 rfl rfl 27 (by decide) g35 (fun _ h9 => h9) rfl dX8_isAsSeen_25 ?_
            refine lv_iload_n hx hb dX8_isAsSeen_28 rfl (lv_at hl 3 rfl) ?_
            obtain ⟨g7, hf⟩ := ing_some hf
            refine va_iald hx hb hK.1 hP 2 1 rfl rfl g7 dX8_isAsSeen_29 ?_
            refine lv_iload_n hx hb dX8_isAsSeen_30 rfl (lv_at hl 1 rfl) ?_
            refine lv_icmp_gt (tgt := 98) hx hb dX8_isAsSeen_31 (by decide) (fun c8 => ?_) (fun c8 => ?_)
            · have hf := ite_p hf c8
              exact L98 x1 x2 x3 ls hf (lv_sub hl [0, 1, 2, 3] rfl)
            · have hf := ite_n hf c8
              refine lv_iload_n hx hb dX8_isAsSeen_34 rfl (lv_at hl 2 rfl) ?_
              refine lv_if_eq (tgt := 90) hx hb dX8_isAsSeen_35 (by decide) (fun c9 => ?_) (fun c9 => ?_)
              · have hf := ite_p hf c9
                exact L90 x1 x3 x4 ls hf (lv_sub hl [0, 1, 3, 4] rfl)
              · have hf := ite_n hf c9
                refine lv_aload_n hx hb dX8_isAsSeen_38 rfl (lv_at hl 0 rfl) ?_
                refine va_get (D := D) (ci := 7) (v := .ref q_o_board) (C := RX8) (T := TX8) (N := 35) hx hb hts hinX8 hown hK.1 hP 0 rfl rfl 30 (by decide) g41 (fun _ h9 => h9) rfl dX8_isAsSeen_39 ?_
                refine lv_bipush (v := 7) hx hb dX8_isAsSeen_42 (by decide) ?_
                refine lv_aload_n hx hb dX8_isAsSeen_44 rfl (lv_at hl 0 rfl) ?_
                refine va_get (D := D) (ci := 7) (v := .ref q_o_seenAt) (C := RX8) (T := TX8) (N := 35) hx hb hts hinX8 hown hK.1 hP 0 rfl rfl 27 (by decide) g35 (fun _ h9 => h9) rfl dX8_isAsSeen_45 ?_
                refine lv_iload_n hx hb dX8_isAsSeen_48 rfl (lv_at hl 3 rfl) ?_
                obtain ⟨g10, hf⟩ := ing_some hf
                refine va_iald hx hb hK.1 hP 2 1 rfl rfl g10 dX8_isAsSeen_49 ?_
                refine lv_imul hx hb dX8_isAsSeen_50 ?_
                refine lv_iload hx hb dX8_isAsSeen_51 (lv_at hl 4 rfl) ?_
                refine lv_iadd hx hb dX8_isAsSeen_53 ?_
                obtain ⟨g11, hf⟩ := ing_some hf
                refine va_iald hx hb hK.1 hP 3 1 rfl rfl g11 dX8_isAsSeen_54 ?_
                refine lv_if_ne (tgt := 62) hx hb dX8_isAsSeen_55 (by decide) (fun c12 => ?_) (fun c12 => ?_)
                · have hf := ite_n hf c12
                  refine lv_iconst (v := 0) hx hb dX8_isAsSeen_62 (by decide) ?_
                  exact L63 x1 x3 x4 0 ls hf (lv_sub hl [0, 1, 3, 4] rfl)
                · have hf := ite_p hf c12
                  refine lv_iconst (v := 1) hx hb dX8_isAsSeen_58 (by decide) ?_
                  refine lv_goto (tgt := 63) hx hb dX8_isAsSeen_59 (by decide) ?_
                  exact L63 x1 x3 x4 1 ls hf (lv_sub hl [0, 1, 3, 4] rfl)
      intro x1 x2 x3 ls hf hl
      have hf : f_X8_isAsSeen_4_b o_members o_seenMany o_seen o_seenAt o_board (f_X8_isAsSeen_4 o_members o_seenMany o_seen o_seenAt o_board n4) x1 x2 x3 = some r := hf
      unfold f_X8_isAsSeen_4_b at hf
      refine lv_iload_n hx hb dX8_isAsSeen_4 rfl (lv_at hl 3 rfl) ?_
      refine lv_aload_n hx hb dX8_isAsSeen_5 rfl (lv_at hl 0 rfl) ?_
      refine va_get (D := D) (ci := 7) (v := .int o_seenMany) (C := RX8) (T := TX8) (N := 35) hx hb hts hinX8 hown hK.1 hP 0 rfl rfl 29 (by decide) g154 (fun _ h9 => h9) rfl dX8_isAsSeen_6 ?_
      refine lv_icmp_ge (tgt := 104) hx hb dX8_isAsSeen_9 (by decide) (fun c13 => ?_) (fun c13 => ?_)
      · have hf := ite_p hf c13
        refine lv_iload_n hx hb dX8_isAsSeen_104 rfl (lv_at hl 2 rfl) ?_
        obtain ⟨g14, hf⟩ := zbg_some hf
        have e0_ := Option.some.inj hf
        exact endRI hx hb hr hlocks g14 e0_ dX8_isAsSeen_105
      · have hf := ite_n hf c13
        refine lv_iconst (v := 0) hx hb dX8_isAsSeen_12 (by decide) ?_
        refine lv_istore (lv' := [(4, .int 0), (0, .ref q_o), (1, .int x1), (2, .int x2), (3, .int x3)]) hx hb dX8_isAsSeen_13 hl (by decide) rfl (fun ls hl => ?_)
        exact L15 FU x1 x2 x3 0 ls hf (lv_sub hl [1, 2, 3, 4, 0] rfl)
  unfold f_X8_isAsSeen at hf
  refine lv_iconst (v := 1) hx hb dX8_isAsSeen_0 (by decide) ?_
  refine lv_istore_n (lv' := [(2, .int 1), (0, .ref q_o), (1, .int p1)]) hx hb dX8_isAsSeen_1 rfl hl (by decide) rfl (fun ls hl => ?_)
  refine lv_iconst (v := 0) hx hb dX8_isAsSeen_2 (by decide) ?_
  refine lv_istore_n (lv' := [(3, .int 0), (2, .int 1), (0, .ref q_o), (1, .int p1)]) hx hb dX8_isAsSeen_3 rfl hl (by decide) rfl (fun ls hl => ?_)
  exact L4 FU p1 1 0 ls hf (lv_sub hl [2, 3, 1, 0] rfl)
def f_X8_fits_105 (o_members : Int32) (o_cold : Int32) (o_fur : Int32) (o_seenMany : Int32) (o_warmth : Nat → Int32) (o_seen : Nat → Int32) (o_seconds : Nat → Int32) (o_seenAt : Nat → Int32) (K67 : Int32 → Int32 → Int32 → Int32 → (Nat → Int32) → (Nat → Int32) → (Option (Int32 × Int32 × (Nat → Int32) × (Nat → Int32)))) (x1 : Int32) (x3 : Int32) (k0 : Int32) (k1 : Int32) (o_thrown : Int32) (o_board : Nat → Int32) (o_pick : Nat → Int32) : Option (Int32 × Int32 × (Nat → Int32) × (Nat → Int32)) :=
  bnd (k0 + k1) fun y1 =>
  bnd (x3 + 1) fun y2 =>
  K67 x1 y1 y2 o_thrown o_board o_pick
def f_X8_fits_104 (o_members : Int32) (o_cold : Int32) (o_fur : Int32) (o_seenMany : Int32) (o_warmth : Nat → Int32) (o_seen : Nat → Int32) (o_seconds : Nat → Int32) (o_seenAt : Nat → Int32) (K67 : Int32 → Int32 → Int32 → Int32 → (Nat → Int32) → (Nat → Int32) → (Option (Int32 × Int32 × (Nat → Int32) × (Nat → Int32)))) (x1 : Int32) (x3 : Int32) (k0 : Int32) (o_thrown : Int32) (o_board : Nat → Int32) (o_pick : Nat → Int32) : Option (Int32 × Int32 × (Nat → Int32) × (Nat → Int32)) :=
  f_X8_fits_105 o_members o_cold o_fur o_seenMany o_warmth o_seen o_seconds o_seenAt K67 x1 x3 k0 0 o_thrown o_board o_pick
def f_X8_fits_67_b (o_members : Int32) (o_cold : Int32) (o_fur : Int32) (o_seenMany : Int32) (o_warmth : Nat → Int32) (o_seen : Nat → Int32) (o_seconds : Nat → Int32) (o_seenAt : Nat → Int32) (K67 : Int32 → Int32 → Int32 → Int32 → (Nat → Int32) → (Nat → Int32) → (Option (Int32 × Int32 × (Nat → Int32) × (Nat → Int32)))) (x1 : Int32) (x2 : Int32) (x3 : Int32) (o_thrown : Int32) (o_board : Nat → Int32) (o_pick : Nat → Int32) : Option (Int32 × Int32 × (Nat → Int32) × (Nat → Int32)) :=
  ob1 (f_X8_plans o_members x1) fun r3 =>
  if r3 ≤ x3 then (
    some (x2, o_thrown, o_board, o_pick)
  ) else (
    ob3 (f_X8_isPlan o_members o_cold o_seconds o_board o_pick x3 x1 ((-9)) o_fur) fun r6 m7 m8 =>
    if r6 = 0 then (
      f_X8_fits_104 o_members o_cold o_fur o_seenMany o_warmth o_seen o_seconds o_seenAt K67 x1 x3 x2 o_thrown m7 m8
    ) else (
      ob1 (f_X8_isAsSeen o_members o_seenMany o_seen o_seenAt m7 x1) fun r11 =>
      if r11 = 0 then (
        f_X8_fits_104 o_members o_cold o_fur o_seenMany o_warmth o_seen o_seconds o_seenAt K67 x1 x3 x2 o_thrown m7 m8
      ) else (
        f_X8_fits_105 o_members o_cold o_fur o_seenMany o_warmth o_seen o_seconds o_seenAt K67 x1 x3 x2 1 o_thrown m7 m8
      )
    )
  )
def f_X8_fits_67 (o_members : Int32) (o_cold : Int32) (o_fur : Int32) (o_seenMany : Int32) (o_warmth : Nat → Int32) (o_seen : Nat → Int32) (o_seconds : Nat → Int32) (o_seenAt : Nat → Int32) : Nat → Int32 → Int32 → Int32 → Int32 → (Nat → Int32) → (Nat → Int32) → (Option (Int32 × Int32 × (Nat → Int32) × (Nat → Int32)))
  | 0 => fun _ _ _ _ _ _ => none
  | n + 1 => f_X8_fits_67_b o_members o_cold o_fur o_seenMany o_warmth o_seen o_seconds o_seenAt (f_X8_fits_67 o_members o_cold o_fur o_seenMany o_warmth o_seen o_seconds o_seenAt n)
def f_X8_fits_47 (o_members : Int32) (o_cold : Int32) (o_fur : Int32) (o_seenMany : Int32) (o_warmth : Nat → Int32) (o_seen : Nat → Int32) (o_seconds : Nat → Int32) (o_seenAt : Nat → Int32) (K18 : Int32 → Int32 → Int32 → (Nat → Int32) → (Nat → Int32) → (Option (Int32 × Int32 × (Nat → Int32) × (Nat → Int32)))) (x1 : Int32) (x2 : Int32) (k1 : Int32) (k2 : Int32) (o_thrown : Int32) (o_board : Nat → Int32) (o_pick : Nat → Int32) : Option (Int32 × Int32 × (Nat → Int32) × (Nat → Int32)) :=
  ing k1 49 <|
  bnd (upd o_board k1.toNatClampNeg k2) fun w15 =>
  bnd (x2 + 1) fun y16 =>
  K18 x1 y16 o_thrown w15 o_pick
def f_X8_fits_18_b (o_members : Int32) (o_cold : Int32) (o_fur : Int32) (o_seenMany : Int32) (o_warmth : Nat → Int32) (o_seen : Nat → Int32) (o_seconds : Nat → Int32) (o_seenAt : Nat → Int32) (K18 : Int32 → Int32 → Int32 → (Nat → Int32) → (Nat → Int32) → (Option (Int32 × Int32 × (Nat → Int32) × (Nat → Int32)))) (x1 : Int32) (x2 : Int32) (o_thrown : Int32) (o_board : Nat → Int32) (o_pick : Nat → Int32) : Option (Int32 × Int32 × (Nat → Int32) × (Nat → Int32)) :=
  if (6 : Int32) ≤ x2 then (
    ing 6 49 <|
    bnd (upd o_board (6 : Int32).toNatClampNeg ((-9))) fun w19 =>
    f_X8_fits_67 o_members o_cold o_fur o_seenMany o_warmth o_seen o_seconds o_seenAt FU x1 0 0 o_thrown w19 o_pick
  ) else (
    if o_members ≤ x2 then (
      f_X8_fits_47 o_members o_cold o_fur o_seenMany o_warmth o_seen o_seconds o_seenAt K18 x1 x2 x2 0 o_thrown o_board o_pick
    ) else (
      ing x2 12 <|
      f_X8_fits_47 o_members o_cold o_fur o_seenMany o_warmth o_seen o_seconds o_seenAt K18 x1 x2 x2 (o_warmth x2.toNatClampNeg) o_thrown o_board o_pick
    )
  )
def f_X8_fits_18 (o_members : Int32) (o_cold : Int32) (o_fur : Int32) (o_seenMany : Int32) (o_warmth : Nat → Int32) (o_seen : Nat → Int32) (o_seconds : Nat → Int32) (o_seenAt : Nat → Int32) : Nat → Int32 → Int32 → Int32 → (Nat → Int32) → (Nat → Int32) → (Option (Int32 × Int32 × (Nat → Int32) × (Nat → Int32)))
  | 0 => fun _ _ _ _ _ => none
  | n + 1 => f_X8_fits_18_b o_members o_cold o_fur o_seenMany o_warmth o_seen o_seconds o_seenAt (f_X8_fits_18 o_members o_cold o_fur o_seenMany o_warmth o_seen o_seconds o_seenAt n)
def f_X8_fits (o_members : Int32) (o_cold : Int32) (o_fur : Int32) (o_seenMany : Int32) (o_warmth : Nat → Int32) (o_seen : Nat → Int32) (o_seconds : Nat → Int32) (o_seenAt : Nat → Int32) (o_thrown : Int32) (o_board : Nat → Int32) (o_pick : Nat → Int32) (p1 : Int32) : Option (Int32 × Int32 × (Nat → Int32) × (Nat → Int32)) :=
  ob1 (f_X8_in p1 0 5) fun r22 =>
  if r22 = 0 then (
    some ((-1), 0, o_board, o_pick)
  ) else (
    f_X8_fits_18 o_members o_cold o_fur o_seenMany o_warmth o_seen o_seconds o_seenAt FU p1 0 0 o_board o_pick
  )
set_option maxHeartbeats 4000000 in
set_option maxRecDepth 100000 in
theorem c_X8_fits (l : Launch) (D : va_G) (cB cI cZ cM cN : ClassId) (q_o : Nat) (q_o_text : Nat) (q_o_warmth : Nat) (q_o_side : Nat) (q_o_seconds : Nat) (q_o_s : Nat) (q_o_kept : Nat) (q_o_isKept : Nat) (q_o_undos : Nat) (q_o_seenAt : Nat) (q_o_seen : Nat) (q_o_board : Nat) (q_o_pick : Nat) (q_o_worth : Nat) (q_o_best : Nat) (o_thrown : Int32) (o_trace : Int64) (o_typed : Int32) (o_next : Int32) (o_token : Int32) (o_place : Int32) (o_value : Int32) (o_fault : Int32) (o_members : Int32) (o_pairs : Int32) (o_cold : Int32) (o_fur : Int32) (o_coughs : Int32) (o_draftMembers : Int32) (o_draftPairs : Int32) (o_draftCold : Int32) (o_draftFur : Int32) (o_draftCoughs : Int32) (o_undoMany : Int32) (o_seenMany : Int32) (o_chosen : Int32) (o_warmth : Nat → Int32) (o_seen : Nat → Int32) (o_seconds : Nat → Int32) (o_seenAt : Nat → Int32) (o_board : Nat → Int32) (o_pick : Nat → Int32) (p1 : Int32) (r : Int32) (o_thrown' : Int32) (o_board' : Nat → Int32) (o_pick' : Nat → Int32) (sz : Nat) (hf : f_X8_fits o_members o_cold o_fur o_seenMany o_warmth o_seen o_seconds o_seenAt o_thrown o_board o_pick p1 = some (r, o_thrown', o_board', o_pick')) : Met l yX8_fits wsX8_fits ({ frames := 3, cells := 0, slots := 0, locals := 79 } : Room) (PM D cB cI cZ cM cN [.ref q_o, .int p1] [(q_o, .inr (7, [.int o_thrown, .long o_trace, .ref q_o_text, .int o_typed, .int o_next, .int o_token, .int o_place, .int o_value, .int o_fault, .ref q_o_warmth, .ref q_o_side, .ref q_o_seconds, .int o_members, .int o_pairs, .int o_cold, .int o_fur, .int o_coughs, .int o_draftMembers, .int o_draftPairs, .int o_draftCold, .int o_draftFur, .int o_draftCoughs, .ref q_o_s, .ref q_o_kept, .ref q_o_isKept, .ref q_o_undos, .int o_undoMany, .ref q_o_seenAt, .ref q_o_seen, .int o_seenMany, .ref q_o_board, .ref q_o_pick, .ref q_o_worth, .ref q_o_best, .int o_chosen])), (q_o_warmth, .inl (cI, 12, .inl o_warmth)), (q_o_seen, .inl (cI, 6, .inl o_seen)), (q_o_seconds, .inl (cI, 12, .inl o_seconds)), (q_o_seenAt, .inl (cI, 6, .inl o_seenAt)), (q_o_board, .inl (cI, 49, .inl o_board)), (q_o_pick, .inl (cI, 6, .inl o_pick))] sz) (QI D [(q_o, .inr (7, [.int o_thrown', .long o_trace, .ref q_o_text, .int o_typed, .int o_next, .int o_token, .int o_place, .int o_value, .int o_fault, .ref q_o_warmth, .ref q_o_side, .ref q_o_seconds, .int o_members, .int o_pairs, .int o_cold, .int o_fur, .int o_coughs, .int o_draftMembers, .int o_draftPairs, .int o_draftCold, .int o_draftFur, .int o_draftCoughs, .ref q_o_s, .ref q_o_kept, .ref q_o_isKept, .ref q_o_undos, .int o_undoMany, .ref q_o_seenAt, .ref q_o_seen, .int o_seenMany, .ref q_o_board, .ref q_o_pick, .ref q_o_worth, .ref q_o_best, .int o_chosen])), (q_o_warmth, .inl (cI, 12, .inl o_warmth)), (q_o_seen, .inl (cI, 6, .inl o_seen)), (q_o_seconds, .inl (cI, 12, .inl o_seconds)), (q_o_seenAt, .inl (cI, 6, .inl o_seenAt)), (q_o_board, .inl (cI, 49, .inl o_board')), (q_o_pick, .inl (cI, 6, .inl o_pick'))] r (va_A [(q_o, .inr (7, [.int o_thrown, .long o_trace, .ref q_o_text, .int o_typed, .int o_next, .int o_token, .int o_place, .int o_value, .int o_fault, .ref q_o_warmth, .ref q_o_side, .ref q_o_seconds, .int o_members, .int o_pairs, .int o_cold, .int o_fur, .int o_coughs, .int o_draftMembers, .int o_draftPairs, .int o_draftCold, .int o_draftFur, .int o_draftCoughs, .ref q_o_s, .ref q_o_kept, .ref q_o_isKept, .ref q_o_undos, .int o_undoMany, .ref q_o_seenAt, .ref q_o_seen, .int o_seenMany, .ref q_o_board, .ref q_o_pick, .ref q_o_worth, .ref q_o_best, .int o_chosen])), (q_o_warmth, .inl (cI, 12, .inl o_warmth)), (q_o_seen, .inl (cI, 6, .inl o_seen)), (q_o_seconds, .inl (cI, 12, .inl o_seconds)), (q_o_seenAt, .inl (cI, 6, .inl o_seenAt)), (q_o_board, .inl (cI, 49, .inl o_board)), (q_o_pick, .inl (cI, 6, .inl o_pick))] sz)) 0 0 (va_A [(q_o, .inr (7, [.int o_thrown, .long o_trace, .ref q_o_text, .int o_typed, .int o_next, .int o_token, .int o_place, .int o_value, .int o_fault, .ref q_o_warmth, .ref q_o_side, .ref q_o_seconds, .int o_members, .int o_pairs, .int o_cold, .int o_fur, .int o_coughs, .int o_draftMembers, .int o_draftPairs, .int o_draftCold, .int o_draftFur, .int o_draftCoughs, .ref q_o_s, .ref q_o_kept, .ref q_o_isKept, .ref q_o_undos, .int o_undoMany, .ref q_o_seenAt, .ref q_o_seen, .int o_seenMany, .ref q_o_board, .ref q_o_pick, .ref q_o_worth, .ref q_o_best, .int o_chosen])), (q_o_warmth, .inl (cI, 12, .inl o_warmth)), (q_o_seen, .inl (cI, 6, .inl o_seen)), (q_o_seconds, .inl (cI, 12, .inl o_seconds)), (q_o_seenAt, .inl (cI, 6, .inl o_seenAt)), (q_o_board, .inl (cI, 49, .inl o_board)), (q_o_pick, .inl (cI, 6, .inl o_pick))] sz) := by
  refine entM (l := l) (y := yX8_fits) (ws := wsX8_fits) (cc := cX8_fits) (av := [.ref q_o, .int p1]) (wc := [(q_o, .inr (7, [.int o_thrown, .long o_trace, .ref q_o_text, .int o_typed, .int o_next, .int o_token, .int o_place, .int o_value, .int o_fault, .ref q_o_warmth, .ref q_o_side, .ref q_o_seconds, .int o_members, .int o_pairs, .int o_cold, .int o_fur, .int o_coughs, .int o_draftMembers, .int o_draftPairs, .int o_draftCold, .int o_draftFur, .int o_draftCoughs, .ref q_o_s, .ref q_o_kept, .ref q_o_isKept, .ref q_o_undos, .int o_undoMany, .ref q_o_seenAt, .ref q_o_seen, .int o_seenMany, .ref q_o_board, .ref q_o_pick, .ref q_o_worth, .ref q_o_best, .int o_chosen])), (q_o_warmth, .inl (cI, 12, .inl o_warmth)), (q_o_seen, .inl (cI, 6, .inl o_seen)), (q_o_seconds, .inl (cI, 12, .inl o_seconds)), (q_o_seenAt, .inl (cI, 6, .inl o_seenAt)), (q_o_board, .inl (cI, 49, .inl o_board)), (q_o_pick, .inl (cI, 6, .inl o_pick))]) (sz := sz) (Qc := fun A => QI D [(q_o, .inr (7, [.int o_thrown', .long o_trace, .ref q_o_text, .int o_typed, .int o_next, .int o_token, .int o_place, .int o_value, .int o_fault, .ref q_o_warmth, .ref q_o_side, .ref q_o_seconds, .int o_members, .int o_pairs, .int o_cold, .int o_fur, .int o_coughs, .int o_draftMembers, .int o_draftPairs, .int o_draftCold, .int o_draftFur, .int o_draftCoughs, .ref q_o_s, .ref q_o_kept, .ref q_o_isKept, .ref q_o_undos, .int o_undoMany, .ref q_o_seenAt, .ref q_o_seen, .int o_seenMany, .ref q_o_board, .ref q_o_pick, .ref q_o_worth, .ref q_o_best, .int o_chosen])), (q_o_warmth, .inl (cI, 12, .inl o_warmth)), (q_o_seen, .inl (cI, 6, .inl o_seen)), (q_o_seconds, .inl (cI, 12, .inl o_seconds)), (q_o_seenAt, .inl (cI, 6, .inl o_seenAt)), (q_o_board, .inl (cI, 49, .inl o_board')), (q_o_pick, .inl (cI, 6, .inl o_pick'))] r A) (by decide +kernel) rfl (Nat.le_of_ble_eq_true rfl) ?_
  intro A p e s m below meth c hx hb hr hml hown hlocks hts hK hA H locs hP hD hS ls hl
  have hown : s.vm.findClass RX8 = some m.cls := hown
  have hl : lv_has ls 4 [(0, .ref q_o), (1, .int p1)] := hl
  have hfix : CallFix p m c cX8_fits 4 s ([.ref q_o, .int p1] : List Value).toArray wsX8_fits RX8 := ⟨hx, hb, hml, hown, hts⟩
  have hinX8 : ∀ w ∈ u_ws RX8 TX8 35, w ∈ wsX8_fits := by decide +kernel
  have g57 := hts (.fieldLink RX8 57 "LastCoatModel" "fur" "I") (by decide +kernel)
  have g41 := hts (.fieldLink RX8 41 "LastCoatModel" "board" "[I") (by decide +kernel)
  have g145 := hts (.fieldLink RX8 145 "LastCoatModel" "members" "I") (by decide +kernel)
  have g13 := hts (.fieldLink RX8 13 "LastCoatModel" "warmth" "[I") (by decide +kernel)
  have g63 := hts (.fieldLink RX8 63 "LastCoatModel" "thrown" "I") (by decide +kernel)
  have L67 : ∀ (n67 : Nat) (x1 : Int32) (x2 : Int32) (x3 : Int32) (o_thrown : Int32) (o_board : Nat → Int32) (o_pick : Nat → Int32) (H : Heap) (locs : List Loc) (ls : Array Slot), f_X8_fits_67 o_members o_cold o_fur o_seenMany o_warmth o_seen o_seconds o_seenAt n67 x1 x2 x3 o_thrown o_board o_pick = some (r, o_thrown', o_board', o_pick') → va_P D vwCl [(q_o, .inr (7, [.int o_thrown, .long o_trace, .ref q_o_text, .int o_typed, .int o_next, .int o_token, .int o_place, .int o_value, .int o_fault, .ref q_o_warmth, .ref q_o_side, .ref q_o_seconds, .int o_members, .int o_pairs, .int o_cold, .int o_fur, .int o_coughs, .int o_draftMembers, .int o_draftPairs, .int o_draftCold, .int o_draftFur, .int o_draftCoughs, .ref q_o_s, .ref q_o_kept, .ref q_o_isKept, .ref q_o_undos, .int o_undoMany, .ref q_o_seenAt, .ref q_o_seen, .int o_seenMany, .ref q_o_board, .ref q_o_pick, .ref q_o_worth, .ref q_o_best, .int o_chosen])), (q_o_warmth, .inl (cI, 12, .inl o_warmth)), (q_o_seen, .inl (cI, 6, .inl o_seen)), (q_o_seconds, .inl (cI, 12, .inl o_seconds)), (q_o_seenAt, .inl (cI, 6, .inl o_seenAt)), (q_o_board, .inl (cI, 49, .inl o_board)), (q_o_pick, .inl (cI, 6, .inl o_pick))] H → va_D A [(q_o, .inr (7, [.int o_thrown, .long o_trace, .ref q_o_text, .int o_typed, .int o_next, .int o_token, .int o_place, .int o_value, .int o_fault, .ref q_o_warmth, .ref q_o_side, .ref q_o_seconds, .int o_members, .int o_pairs, .int o_cold, .int o_fur, .int o_coughs, .int o_draftMembers, .int o_draftPairs, .int o_draftCold, .int o_draftFur, .int o_draftCoughs, .ref q_o_s, .ref q_o_kept, .ref q_o_isKept, .ref q_o_undos, .int o_undoMany, .ref q_o_seenAt, .ref q_o_seen, .int o_seenMany, .ref q_o_board, .ref q_o_pick, .ref q_o_worth, .ref q_o_best, .int o_chosen])), (q_o_warmth, .inl (cI, 12, .inl o_warmth)), (q_o_seen, .inl (cI, 6, .inl o_seen)), (q_o_seconds, .inl (cI, 12, .inl o_seconds)), (q_o_seenAt, .inl (cI, 6, .inl o_seenAt)), (q_o_board, .inl (cI, 49, .inl o_board)), (q_o_pick, .inl (cI, 6, .inl o_pick))] → va_S A s.heap H locs → lv_has ls 4 [(0, .ref q_o), (1, .int x1), (2, .int x2), (3, .int x3)] → W p l e ({ frames := 3, cells := 0, slots := 0, locals := 79 } : Room) s m ([.ref q_o, .int p1] : List Value).toArray below meth c H locs 0 0 (MQ below (QI D [(q_o, .inr (7, [.int o_thrown', .long o_trace, .ref q_o_text, .int o_typed, .int o_next, .int o_token, .int o_place, .int o_value, .int o_fault, .ref q_o_warmth, .ref q_o_side, .ref q_o_seconds, .int o_members, .int o_pairs, .int o_cold, .int o_fur, .int o_coughs, .int o_draftMembers, .int o_draftPairs, .int o_draftCold, .int o_draftFur, .int o_draftCoughs, .ref q_o_s, .ref q_o_kept, .ref q_o_isKept, .ref q_o_undos, .int o_undoMany, .ref q_o_seenAt, .ref q_o_seen, .int o_seenMany, .ref q_o_board, .ref q_o_pick, .ref q_o_worth, .ref q_o_best, .int o_chosen])), (q_o_warmth, .inl (cI, 12, .inl o_warmth)), (q_o_seen, .inl (cI, 6, .inl o_seen)), (q_o_seconds, .inl (cI, 12, .inl o_seconds)), (q_o_seenAt, .inl (cI, 6, .inl o_seenAt)), (q_o_board, .inl (cI, 49, .inl o_board')), (q_o_pick, .inl (cI, 6, .inl o_pick'))] r A) ([.ref q_o, .int p1] : List Value).toArray s 0 0 A) (F0 m 67 ls []) := by
    intro n67
    induction n67 with
    | zero =>
      intro x1 x2 x3 o_thrown o_board o_pick H locs ls hf hP hD hS hl
      exact noneNe hf
    | succ n67 ih67 =>
      have L105 : ∀ (x1 : Int32) (x3 : Int32) (k0 : Int32) (k1 : Int32) (o_thrown : Int32) (o_board : Nat → Int32) (o_pick : Nat → Int32) (H : Heap) (locs : List Loc) (ls : Array Slot), f_X8_fits_105 o_members o_cold o_fur o_seenMany o_warmth o_seen o_seconds o_seenAt (f_X8_fits_67 o_members o_cold o_fur o_seenMany o_warmth o_seen o_seconds o_seenAt n67) x1 x3 k0 k1 o_thrown o_board o_pick = some (r, o_thrown', o_board', o_pick') → va_P D vwCl [(q_o, .inr (7, [.int o_thrown, .long o_trace, .ref q_o_text, .int o_typed, .int o_next, .int o_token, .int o_place, .int o_value, .int o_fault, .ref q_o_warmth, .ref q_o_side, .ref q_o_seconds, .int o_members, .int o_pairs, .int o_cold, .int o_fur, .int o_coughs, .int o_draftMembers, .int o_draftPairs, .int o_draftCold, .int o_draftFur, .int o_draftCoughs, .ref q_o_s, .ref q_o_kept, .ref q_o_isKept, .ref q_o_undos, .int o_undoMany, .ref q_o_seenAt, .ref q_o_seen, .int o_seenMany, .ref q_o_board, .ref q_o_pick, .ref q_o_worth, .ref q_o_best, .int o_chosen])), (q_o_warmth, .inl (cI, 12, .inl o_warmth)), (q_o_seen, .inl (cI, 6, .inl o_seen)), (q_o_seconds, .inl (cI, 12, .inl o_seconds)), (q_o_seenAt, .inl (cI, 6, .inl o_seenAt)), (q_o_board, .inl (cI, 49, .inl o_board)), (q_o_pick, .inl (cI, 6, .inl o_pick))] H → va_D A [(q_o, .inr (7, [.int o_thrown, .long o_trace, .ref q_o_text, .int o_typed, .int o_next, .int o_token, .int o_place, .int o_value, .int o_fault, .ref q_o_warmth, .ref q_o_side, .ref q_o_seconds, .int o_members, .int o_pairs, .int o_cold, .int o_fur, .int o_coughs, .int o_draftMembers, .int o_draftPairs, .int o_draftCold, .int o_draftFur, .int o_draftCoughs, .ref q_o_s, .ref q_o_kept, .ref q_o_isKept, .ref q_o_undos, .int o_undoMany, .ref q_o_seenAt, .ref q_o_seen, .int o_seenMany, .ref q_o_board, .ref q_o_pick, .ref q_o_worth, .ref q_o_best, .int o_chosen])), (q_o_warmth, .inl (cI, 12, .inl o_warmth)), (q_o_seen, .inl (cI, 6, .inl o_seen)), (q_o_seconds, .inl (cI, 12, .inl o_seconds)), (q_o_seenAt, .inl (cI, 6, .inl o_seenAt)), (q_o_board, .inl (cI, 49, .inl o_board)), (q_o_pick, .inl (cI, 6, .inl o_pick))] → va_S A s.heap H locs → lv_has ls 4 [(0, .ref q_o), (1, .int x1), (3, .int x3)] → W p l e ({ frames := 3, cells := 0, slots := 0, locals := 79 } : Room) s m ([.ref q_o, .int p1] : List Value).toArray below meth c H locs 0 0 (MQ below (QI D [(q_o, .inr (7, [.int o_thrown', .long o_trace, .ref q_o_text, .int o_typed, .int o_next, .int o_token, .int o_place, .int o_value, .int o_fault, .ref q_o_warmth, .ref q_o_side, .ref q_o_seconds, .int o_members, .int o_pairs, .int o_cold, .int o_fur, .int o_coughs, .int o_draftMembers, .int o_draftPairs, .int o_draftCold, .int o_draftFur, .int o_draftCoughs, .ref q_o_s, .ref q_o_kept, .ref q_o_isKept, .ref q_o_undos, .int o_undoMany, .ref q_o_seenAt, .ref q_o_seen, .int o_seenMany, .ref q_o_board, .ref q_o_pick, .ref q_o_worth, .ref q_o_best, .int o_chosen])), (q_o_warmth, .inl (cI, 12, .inl o_warmth)), (q_o_seen, .inl (cI, 6, .inl o_seen)), (q_o_seconds, .inl (cI, 12, .inl o_seconds)), (q_o_seenAt, .inl (cI, 6, .inl o_seenAt)), (q_o_board, .inl (cI, 49, .inl o_board')), (q_o_pick, .inl (cI, 6, .inl o_pick'))] r A) ([.ref q_o, .int p1] : List Value).toArray s 0 0 A) (F0 m 105 ls [.int k1, .int k0]) := by
        intro x1 x3 k0 k1 o_thrown o_board o_pick H locs ls hf hP hD hS hl
        unfold f_X8_fits_105 at hf
        refine lv_iadd hx hb dX8_fits_105 ?_
        refine lv_topi (fun y1 ey1 => ?_)
        have hf := bnd_at hf ey1
        refine lv_istore_n (lv' := [(2, .int y1), (0, .ref q_o), (1, .int x1), (3, .int x3)]) hx hb dX8_fits_106 rfl hl (by decide) rfl (fun ls hl => ?_)
        obtain ⟨y2, ey2⟩ : ∃ z : Int32, z = x3 + 1 := ⟨_, rfl⟩
        have hf := bnd_at hf ey2
        refine lv_iinc (v := y2) (lv' := [(3, .int y2), (2, .int y1), (0, .ref q_o), (1, .int x1)]) hx hb dX8_fits_107 hl (k := 3) rfl (by rw [ey2]; rfl) (by decide) rfl (fun ls hl => ?_)
        refine lv_goto (tgt := 67) hx hb dX8_fits_110 (by decide) ?_
        exact ih67 x1 y1 y2 o_thrown o_board o_pick _ _ ls hf hP hD hS (lv_sub hl [2, 3, 1, 0] rfl)
      have L104 : ∀ (x1 : Int32) (x3 : Int32) (k0 : Int32) (o_thrown : Int32) (o_board : Nat → Int32) (o_pick : Nat → Int32) (H : Heap) (locs : List Loc) (ls : Array Slot), f_X8_fits_104 o_members o_cold o_fur o_seenMany o_warmth o_seen o_seconds o_seenAt (f_X8_fits_67 o_members o_cold o_fur o_seenMany o_warmth o_seen o_seconds o_seenAt n67) x1 x3 k0 o_thrown o_board o_pick = some (r, o_thrown', o_board', o_pick') → va_P D vwCl [(q_o, .inr (7, [.int o_thrown, .long o_trace, .ref q_o_text, .int o_typed, .int o_next, .int o_token, .int o_place, .int o_value, .int o_fault, .ref q_o_warmth, .ref q_o_side, .ref q_o_seconds, .int o_members, .int o_pairs, .int o_cold, .int o_fur, .int o_coughs, .int o_draftMembers, .int o_draftPairs, .int o_draftCold, .int o_draftFur, .int o_draftCoughs, .ref q_o_s, .ref q_o_kept, .ref q_o_isKept, .ref q_o_undos, .int o_undoMany, .ref q_o_seenAt, .ref q_o_seen, .int o_seenMany, .ref q_o_board, .ref q_o_pick, .ref q_o_worth, .ref q_o_best, .int o_chosen])), (q_o_warmth, .inl (cI, 12, .inl o_warmth)), (q_o_seen, .inl (cI, 6, .inl o_seen)), (q_o_seconds, .inl (cI, 12, .inl o_seconds)), (q_o_seenAt, .inl (cI, 6, .inl o_seenAt)), (q_o_board, .inl (cI, 49, .inl o_board)), (q_o_pick, .inl (cI, 6, .inl o_pick))] H → va_D A [(q_o, .inr (7, [.int o_thrown, .long o_trace, .ref q_o_text, .int o_typed, .int o_next, .int o_token, .int o_place, .int o_value, .int o_fault, .ref q_o_warmth, .ref q_o_side, .ref q_o_seconds, .int o_members, .int o_pairs, .int o_cold, .int o_fur, .int o_coughs, .int o_draftMembers, .int o_draftPairs, .int o_draftCold, .int o_draftFur, .int o_draftCoughs, .ref q_o_s, .ref q_o_kept, .ref q_o_isKept, .ref q_o_undos, .int o_undoMany, .ref q_o_seenAt, .ref q_o_seen, .int o_seenMany, .ref q_o_board, .ref q_o_pick, .ref q_o_worth, .ref q_o_best, .int o_chosen])), (q_o_warmth, .inl (cI, 12, .inl o_warmth)), (q_o_seen, .inl (cI, 6, .inl o_seen)), (q_o_seconds, .inl (cI, 12, .inl o_seconds)), (q_o_seenAt, .inl (cI, 6, .inl o_seenAt)), (q_o_board, .inl (cI, 49, .inl o_board)), (q_o_pick, .inl (cI, 6, .inl o_pick))] → va_S A s.heap H locs → lv_has ls 4 [(0, .ref q_o), (1, .int x1), (3, .int x3)] → W p l e ({ frames := 3, cells := 0, slots := 0, locals := 79 } : Room) s m ([.ref q_o, .int p1] : List Value).toArray below meth c H locs 0 0 (MQ below (QI D [(q_o, .inr (7, [.int o_thrown', .long o_trace, .ref q_o_text, .int o_typed, .int o_next, .int o_token, .int o_place, .int o_value, .int o_fault, .ref q_o_warmth, .ref q_o_side, .ref q_o_seconds, .int o_members, .int o_pairs, .int o_cold, .int o_fur, .int o_coughs, .int o_draftMembers, .int o_draftPairs, .int o_draftCold, .int o_draftFur, .int o_draftCoughs, .ref q_o_s, .ref q_o_kept, .ref q_o_isKept, .ref q_o_undos, .int o_undoMany, .ref q_o_seenAt, .ref q_o_seen, .int o_seenMany, .ref q_o_board, .ref q_o_pick, .ref q_o_worth, .ref q_o_best, .int o_chosen])), (q_o_warmth, .inl (cI, 12, .inl o_warmth)), (q_o_seen, .inl (cI, 6, .inl o_seen)), (q_o_seconds, .inl (cI, 12, .inl o_seconds)), (q_o_seenAt, .inl (cI, 6, .inl o_seenAt)), (q_o_board, .inl (cI, 49, .inl o_board')), (q_o_pick, .inl (cI, 6, .inl o_pick'))] r A) ([.ref q_o, .int p1] : List Value).toArray s 0 0 A) (F0 m 104 ls [.int k0]) := by
        intro x1 x3 k0 o_thrown o_board o_pick H locs ls hf hP hD hS hl
        unfold f_X8_fits_104 at hf
        refine lv_iconst (v := 0) hx hb dX8_fits_104 (by decide) ?_
        exact L105 x1 x3 k0 0 o_thrown o_board o_pick _ _ ls hf hP hD hS (lv_sub hl [0, 1, 2] rfl)
      intro x1 x2 x3 o_thrown o_board o_pick H locs ls hf hP hD hS hl
      have hf : f_X8_fits_67_b o_members o_cold o_fur o_seenMany o_warmth o_seen o_seconds o_seenAt (f_X8_fits_67 o_members o_cold o_fur o_seenMany o_warmth o_seen o_seconds o_seenAt n67) x1 x2 x3 o_thrown o_board o_pick = some (r, o_thrown', o_board', o_pick') := hf
      unfold f_X8_fits_67_b at hf
      refine lv_iload_n hx hb dX8_fits_67 rfl (lv_at hl 3 rfl) ?_
      refine lv_aload_n hx hb dX8_fits_68 rfl (lv_at hl 0 rfl) ?_
      refine lv_iload_n hx hb dX8_fits_69 rfl (lv_at hl 1 rfl) ?_
      obtain ⟨r3, h4, hf⟩ := ob1_some hf
      refine roV (c_X8_plans l D cB cI cZ cM cN q_o q_o_text q_o_warmth q_o_side q_o_seconds q_o_s q_o_kept q_o_isKept q_o_undos q_o_seenAt q_o_seen q_o_board q_o_pick q_o_worth q_o_best o_thrown o_trace o_typed o_next o_token o_place o_value o_fault o_members o_pairs o_cold o_fur o_coughs o_draftMembers o_draftPairs o_draftCold o_draftFur o_draftCoughs o_undoMany o_seenMany o_chosen x1 r3 h4) hfix (cwV 1 hts gX8_fits_X8_plans rfl rfl rfl (by decide +kernel) ⟨Nat.le_of_ble_eq_true rfl, Nat.le_of_ble_eq_true rfl⟩) (subC hP [0] rfl) hK rfl rfl rfl rfl hl.1 rfl (Nat.le_of_ble_eq_true rfl) dX8_fits_70 ⟨Nat.zero_le _, Nat.zero_le _⟩ ?_
      refine lv_icmp_ge (tgt := 113) hx hb dX8_fits_73 (by decide) (fun c5 => ?_) (fun c5 => ?_)
      · have hf := ite_p hf c5
        refine lv_iload_n hx hb dX8_fits_113 rfl (lv_at hl 2 rfl) ?_
        obtain ⟨e0_, e1_, e2_, e3_⟩ := tup4 hf
        have hP : va_P D vwCl [(q_o, .inr (7, [.int o_thrown', .long o_trace, .ref q_o_text, .int o_typed, .int o_next, .int o_token, .int o_place, .int o_value, .int o_fault, .ref q_o_warmth, .ref q_o_side, .ref q_o_seconds, .int o_members, .int o_pairs, .int o_cold, .int o_fur, .int o_coughs, .int o_draftMembers, .int o_draftPairs, .int o_draftCold, .int o_draftFur, .int o_draftCoughs, .ref q_o_s, .ref q_o_kept, .ref q_o_isKept, .ref q_o_undos, .int o_undoMany, .ref q_o_seenAt, .ref q_o_seen, .int o_seenMany, .ref q_o_board, .ref q_o_pick, .ref q_o_worth, .ref q_o_best, .int o_chosen])), (q_o_warmth, .inl (cI, 12, .inl o_warmth)), (q_o_seen, .inl (cI, 6, .inl o_seen)), (q_o_seconds, .inl (cI, 12, .inl o_seconds)), (q_o_seenAt, .inl (cI, 6, .inl o_seenAt)), (q_o_board, .inl (cI, 49, .inl o_board')), (q_o_pick, .inl (cI, 6, .inl o_pick'))] H := by rw [← e1_, ← e2_, ← e3_]; exact hP
        have hD : va_D A [(q_o, .inr (7, [.int o_thrown', .long o_trace, .ref q_o_text, .int o_typed, .int o_next, .int o_token, .int o_place, .int o_value, .int o_fault, .ref q_o_warmth, .ref q_o_side, .ref q_o_seconds, .int o_members, .int o_pairs, .int o_cold, .int o_fur, .int o_coughs, .int o_draftMembers, .int o_draftPairs, .int o_draftCold, .int o_draftFur, .int o_draftCoughs, .ref q_o_s, .ref q_o_kept, .ref q_o_isKept, .ref q_o_undos, .int o_undoMany, .ref q_o_seenAt, .ref q_o_seen, .int o_seenMany, .ref q_o_board, .ref q_o_pick, .ref q_o_worth, .ref q_o_best, .int o_chosen])), (q_o_warmth, .inl (cI, 12, .inl o_warmth)), (q_o_seen, .inl (cI, 6, .inl o_seen)), (q_o_seconds, .inl (cI, 12, .inl o_seconds)), (q_o_seenAt, .inl (cI, 6, .inl o_seenAt)), (q_o_board, .inl (cI, 49, .inl o_board')), (q_o_pick, .inl (cI, 6, .inl o_pick'))] := by rw [← e1_, ← e2_, ← e3_]; exact hD
        exact endMI hx hb hr hlocks rfl hP hD hS e0_ dX8_fits_114
      · have hf := ite_n hf c5
        refine lv_iload_n hx hb dX8_fits_76 rfl (lv_at hl 2 rfl) ?_
        refine lv_aload_n hx hb dX8_fits_77 rfl (lv_at hl 0 rfl) ?_
        refine lv_iload_n hx hb dX8_fits_78 rfl (lv_at hl 3 rfl) ?_
        refine lv_iload_n hx hb dX8_fits_79 rfl (lv_at hl 1 rfl) ?_
        refine lv_bipush (v := (-9)) hx hb dX8_fits_80 (by decide) ?_
        refine lv_aload_n hx hb dX8_fits_82 rfl (lv_at hl 0 rfl) ?_
        refine va_get (D := D) (ci := 7) (v := .int o_fur) (C := RX8) (T := TX8) (N := 35) hx hb hts hinX8 hown hK.1 hP 0 rfl rfl 15 (by decide) g57 (fun _ h9 => h9) rfl dX8_fits_83 ?_
        obtain ⟨r6, m7, m8, h9, hf⟩ := ob3_some hf
        refine muV (wr := [(q_o_warmth, .inl (cI, 12, .inl o_warmth)), (q_o_seen, .inl (cI, 6, .inl o_seen)), (q_o_seenAt, .inl (cI, 6, .inl o_seenAt))]) (ws1 := [(q_o, .inr (7, [.int o_thrown, .long o_trace, .ref q_o_text, .int o_typed, .int o_next, .int o_token, .int o_place, .int o_value, .int o_fault, .ref q_o_warmth, .ref q_o_side, .ref q_o_seconds, .int o_members, .int o_pairs, .int o_cold, .int o_fur, .int o_coughs, .int o_draftMembers, .int o_draftPairs, .int o_draftCold, .int o_draftFur, .int o_draftCoughs, .ref q_o_s, .ref q_o_kept, .ref q_o_isKept, .ref q_o_undos, .int o_undoMany, .ref q_o_seenAt, .ref q_o_seen, .int o_seenMany, .ref q_o_board, .ref q_o_pick, .ref q_o_worth, .ref q_o_best, .int o_chosen])), (q_o_warmth, .inl (cI, 12, .inl o_warmth)), (q_o_seen, .inl (cI, 6, .inl o_seen)), (q_o_seconds, .inl (cI, 12, .inl o_seconds)), (q_o_seenAt, .inl (cI, 6, .inl o_seenAt)), (q_o_board, .inl (cI, 49, .inl m7)), (q_o_pick, .inl (cI, 6, .inl m8))]) (c_X8_isPlan l D cB cI cZ cM cN q_o q_o_text q_o_warmth q_o_side q_o_seconds q_o_s q_o_kept q_o_isKept q_o_undos q_o_seenAt q_o_seen q_o_board q_o_pick q_o_worth q_o_best o_thrown o_trace o_typed o_next o_token o_place o_value o_fault o_members o_pairs o_cold o_fur o_coughs o_draftMembers o_draftPairs o_draftCold o_draftFur o_draftCoughs o_undoMany o_seenMany o_chosen o_seconds o_board o_pick x3 x1 ((-9)) o_fur r6 m7 m8 H.size h9) hfix (cwV 4 hts gX8_fits_X8_isPlan rfl rfl rfl (by decide +kernel) ⟨Nat.le_of_ble_eq_true rfl, Nat.le_of_ble_eq_true rfl⟩) hP hK hD hA hS [0, 3, 5, 6] [1, 2, 4] [3, 0, 1, 4, 2, 5, 6] rfl rfl rfl rfl (by decide) rfl rfl rfl rfl rfl rfl hl.1 rfl (Nat.le_of_ble_eq_true rfl) dX8_fits_86 ⟨Nat.zero_le _, Nat.zero_le _⟩ (fun H locs hP hD hS => ?_)
        refine lv_if_eq (tgt := 104) hx hb dX8_fits_89 (by decide) (fun c10 => ?_) (fun c10 => ?_)
        · have hf := ite_p hf c10
          exact L104 x1 x3 x2 o_thrown m7 m8 _ _ ls hf hP hD hS (lv_sub hl [0, 1, 3] rfl)
        · have hf := ite_n hf c10
          refine lv_aload_n hx hb dX8_fits_92 rfl (lv_at hl 0 rfl) ?_
          refine lv_iload_n hx hb dX8_fits_93 rfl (lv_at hl 1 rfl) ?_
          obtain ⟨r11, h12, hf⟩ := ob1_some hf
          refine roV (c_X8_isAsSeen l D cB cI cZ cM cN q_o q_o_text q_o_warmth q_o_side q_o_seconds q_o_s q_o_kept q_o_isKept q_o_undos q_o_seenAt q_o_seen q_o_board q_o_pick q_o_worth q_o_best o_thrown o_trace o_typed o_next o_token o_place o_value o_fault o_members o_pairs o_cold o_fur o_coughs o_draftMembers o_draftPairs o_draftCold o_draftFur o_draftCoughs o_undoMany o_seenMany o_chosen o_seen o_seenAt m7 x1 r11 h12) hfix (cwV 1 hts gX8_fits_X8_isAsSeen rfl rfl rfl (by decide +kernel) ⟨Nat.le_of_ble_eq_true rfl, Nat.le_of_ble_eq_true rfl⟩) (subC hP [0, 2, 4, 5] rfl) hK rfl rfl rfl rfl hl.1 rfl (Nat.le_of_ble_eq_true rfl) dX8_fits_94 ⟨Nat.zero_le _, Nat.zero_le _⟩ ?_
          refine lv_if_eq (tgt := 104) hx hb dX8_fits_97 (by decide) (fun c13 => ?_) (fun c13 => ?_)
          · have hf := ite_p hf c13
            exact L104 x1 x3 x2 o_thrown m7 m8 _ _ ls hf hP hD hS (lv_sub hl [0, 1, 3] rfl)
          · have hf := ite_n hf c13
            refine lv_iconst (v := 1) hx hb dX8_fits_100 (by decide) ?_
            refine lv_goto (tgt := 105) hx hb dX8_fits_101 (by decide) ?_
            exact L105 x1 x3 x2 1 o_thrown m7 m8 _ _ ls hf hP hD hS (lv_sub hl [0, 1, 3] rfl)
  have L18 : ∀ (n18 : Nat) (x1 : Int32) (x2 : Int32) (o_thrown : Int32) (o_board : Nat → Int32) (o_pick : Nat → Int32) (H : Heap) (locs : List Loc) (ls : Array Slot), f_X8_fits_18 o_members o_cold o_fur o_seenMany o_warmth o_seen o_seconds o_seenAt n18 x1 x2 o_thrown o_board o_pick = some (r, o_thrown', o_board', o_pick') → va_P D vwCl [(q_o, .inr (7, [.int o_thrown, .long o_trace, .ref q_o_text, .int o_typed, .int o_next, .int o_token, .int o_place, .int o_value, .int o_fault, .ref q_o_warmth, .ref q_o_side, .ref q_o_seconds, .int o_members, .int o_pairs, .int o_cold, .int o_fur, .int o_coughs, .int o_draftMembers, .int o_draftPairs, .int o_draftCold, .int o_draftFur, .int o_draftCoughs, .ref q_o_s, .ref q_o_kept, .ref q_o_isKept, .ref q_o_undos, .int o_undoMany, .ref q_o_seenAt, .ref q_o_seen, .int o_seenMany, .ref q_o_board, .ref q_o_pick, .ref q_o_worth, .ref q_o_best, .int o_chosen])), (q_o_warmth, .inl (cI, 12, .inl o_warmth)), (q_o_seen, .inl (cI, 6, .inl o_seen)), (q_o_seconds, .inl (cI, 12, .inl o_seconds)), (q_o_seenAt, .inl (cI, 6, .inl o_seenAt)), (q_o_board, .inl (cI, 49, .inl o_board)), (q_o_pick, .inl (cI, 6, .inl o_pick))] H → va_D A [(q_o, .inr (7, [.int o_thrown, .long o_trace, .ref q_o_text, .int o_typed, .int o_next, .int o_token, .int o_place, .int o_value, .int o_fault, .ref q_o_warmth, .ref q_o_side, .ref q_o_seconds, .int o_members, .int o_pairs, .int o_cold, .int o_fur, .int o_coughs, .int o_draftMembers, .int o_draftPairs, .int o_draftCold, .int o_draftFur, .int o_draftCoughs, .ref q_o_s, .ref q_o_kept, .ref q_o_isKept, .ref q_o_undos, .int o_undoMany, .ref q_o_seenAt, .ref q_o_seen, .int o_seenMany, .ref q_o_board, .ref q_o_pick, .ref q_o_worth, .ref q_o_best, .int o_chosen])), (q_o_warmth, .inl (cI, 12, .inl o_warmth)), (q_o_seen, .inl (cI, 6, .inl o_seen)), (q_o_seconds, .inl (cI, 12, .inl o_seconds)), (q_o_seenAt, .inl (cI, 6, .inl o_seenAt)), (q_o_board, .inl (cI, 49, .inl o_board)), (q_o_pick, .inl (cI, 6, .inl o_pick))] → va_S A s.heap H locs → lv_has ls 4 [(0, .ref q_o), (1, .int x1), (2, .int x2)] → W p l e ({ frames := 3, cells := 0, slots := 0, locals := 79 } : Room) s m ([.ref q_o, .int p1] : List Value).toArray below meth c H locs 0 0 (MQ below (QI D [(q_o, .inr (7, [.int o_thrown', .long o_trace, .ref q_o_text, .int o_typed, .int o_next, .int o_token, .int o_place, .int o_value, .int o_fault, .ref q_o_warmth, .ref q_o_side, .ref q_o_seconds, .int o_members, .int o_pairs, .int o_cold, .int o_fur, .int o_coughs, .int o_draftMembers, .int o_draftPairs, .int o_draftCold, .int o_draftFur, .int o_draftCoughs, .ref q_o_s, .ref q_o_kept, .ref q_o_isKept, .ref q_o_undos, .int o_undoMany, .ref q_o_seenAt, .ref q_o_seen, .int o_seenMany, .ref q_o_board, .ref q_o_pick, .ref q_o_worth, .ref q_o_best, .int o_chosen])), (q_o_warmth, .inl (cI, 12, .inl o_warmth)), (q_o_seen, .inl (cI, 6, .inl o_seen)), (q_o_seconds, .inl (cI, 12, .inl o_seconds)), (q_o_seenAt, .inl (cI, 6, .inl o_seenAt)), (q_o_board, .inl (cI, 49, .inl o_board')), (q_o_pick, .inl (cI, 6, .inl o_pick'))] r A) ([.ref q_o, .int p1] : List Value).toArray s 0 0 A) (F0 m 18 ls []) := by
    intro n18
    induction n18 with
    | zero =>
      intro x1 x2 o_thrown o_board o_pick H locs ls hf hP hD hS hl
      exact noneNe hf
    | succ n18 ih18 =>
      have L47 : ∀ (x1 : Int32) (x2 : Int32) (k1 : Int32) (k2 : Int32) (o_thrown : Int32) (o_board : Nat → Int32) (o_pick : Nat → Int32) (H : Heap) (locs : List Loc) (ls : Array Slot), f_X8_fits_47 o_members o_cold o_fur o_seenMany o_warmth o_seen o_seconds o_seenAt (f_X8_fits_18 o_members o_cold o_fur o_seenMany o_warmth o_seen o_seconds o_seenAt n18) x1 x2 k1 k2 o_thrown o_board o_pick = some (r, o_thrown', o_board', o_pick') → va_P D vwCl [(q_o, .inr (7, [.int o_thrown, .long o_trace, .ref q_o_text, .int o_typed, .int o_next, .int o_token, .int o_place, .int o_value, .int o_fault, .ref q_o_warmth, .ref q_o_side, .ref q_o_seconds, .int o_members, .int o_pairs, .int o_cold, .int o_fur, .int o_coughs, .int o_draftMembers, .int o_draftPairs, .int o_draftCold, .int o_draftFur, .int o_draftCoughs, .ref q_o_s, .ref q_o_kept, .ref q_o_isKept, .ref q_o_undos, .int o_undoMany, .ref q_o_seenAt, .ref q_o_seen, .int o_seenMany, .ref q_o_board, .ref q_o_pick, .ref q_o_worth, .ref q_o_best, .int o_chosen])), (q_o_warmth, .inl (cI, 12, .inl o_warmth)), (q_o_seen, .inl (cI, 6, .inl o_seen)), (q_o_seconds, .inl (cI, 12, .inl o_seconds)), (q_o_seenAt, .inl (cI, 6, .inl o_seenAt)), (q_o_board, .inl (cI, 49, .inl o_board)), (q_o_pick, .inl (cI, 6, .inl o_pick))] H → va_D A [(q_o, .inr (7, [.int o_thrown, .long o_trace, .ref q_o_text, .int o_typed, .int o_next, .int o_token, .int o_place, .int o_value, .int o_fault, .ref q_o_warmth, .ref q_o_side, .ref q_o_seconds, .int o_members, .int o_pairs, .int o_cold, .int o_fur, .int o_coughs, .int o_draftMembers, .int o_draftPairs, .int o_draftCold, .int o_draftFur, .int o_draftCoughs, .ref q_o_s, .ref q_o_kept, .ref q_o_isKept, .ref q_o_undos, .int o_undoMany, .ref q_o_seenAt, .ref q_o_seen, .int o_seenMany, .ref q_o_board, .ref q_o_pick, .ref q_o_worth, .ref q_o_best, .int o_chosen])), (q_o_warmth, .inl (cI, 12, .inl o_warmth)), (q_o_seen, .inl (cI, 6, .inl o_seen)), (q_o_seconds, .inl (cI, 12, .inl o_seconds)), (q_o_seenAt, .inl (cI, 6, .inl o_seenAt)), (q_o_board, .inl (cI, 49, .inl o_board)), (q_o_pick, .inl (cI, 6, .inl o_pick))] → va_S A s.heap H locs → lv_has ls 4 [(0, .ref q_o), (1, .int x1), (2, .int x2)] → W p l e ({ frames := 3, cells := 0, slots := 0, locals := 79 } : Room) s m ([.ref q_o, .int p1] : List Value).toArray below meth c H locs 0 0 (MQ below (QI D [(q_o, .inr (7, [.int o_thrown', .long o_trace, .ref q_o_text, .int o_typed, .int o_next, .int o_token, .int o_place, .int o_value, .int o_fault, .ref q_o_warmth, .ref q_o_side, .ref q_o_seconds, .int o_members, .int o_pairs, .int o_cold, .int o_fur, .int o_coughs, .int o_draftMembers, .int o_draftPairs, .int o_draftCold, .int o_draftFur, .int o_draftCoughs, .ref q_o_s, .ref q_o_kept, .ref q_o_isKept, .ref q_o_undos, .int o_undoMany, .ref q_o_seenAt, .ref q_o_seen, .int o_seenMany, .ref q_o_board, .ref q_o_pick, .ref q_o_worth, .ref q_o_best, .int o_chosen])), (q_o_warmth, .inl (cI, 12, .inl o_warmth)), (q_o_seen, .inl (cI, 6, .inl o_seen)), (q_o_seconds, .inl (cI, 12, .inl o_seconds)), (q_o_seenAt, .inl (cI, 6, .inl o_seenAt)), (q_o_board, .inl (cI, 49, .inl o_board')), (q_o_pick, .inl (cI, 6, .inl o_pick'))] r A) ([.ref q_o, .int p1] : List Value).toArray s 0 0 A) (F0 m 47 ls [.int k2, .int k1, .ref q_o_board]) := by
        intro x1 x2 k1 k2 o_thrown o_board o_pick H locs ls hf hP hD hS hl
        unfold f_X8_fits_47 at hf
        obtain ⟨g14, hf⟩ := ing_some hf
        refine va_iast hx hb hK.1 hP hD hS 5 1 rfl rfl g14 dX8_fits_47 (fun H locs hP hD hS => ?_)
        obtain ⟨w15, ew15⟩ : ∃ z : Nat → Int32, z = upd o_board k1.toNatClampNeg k2 := ⟨_, rfl⟩
        have hf := bnd_at hf ew15
        have hP : va_P D vwCl [(q_o, .inr (7, [.int o_thrown, .long o_trace, .ref q_o_text, .int o_typed, .int o_next, .int o_token, .int o_place, .int o_value, .int o_fault, .ref q_o_warmth, .ref q_o_side, .ref q_o_seconds, .int o_members, .int o_pairs, .int o_cold, .int o_fur, .int o_coughs, .int o_draftMembers, .int o_draftPairs, .int o_draftCold, .int o_draftFur, .int o_draftCoughs, .ref q_o_s, .ref q_o_kept, .ref q_o_isKept, .ref q_o_undos, .int o_undoMany, .ref q_o_seenAt, .ref q_o_seen, .int o_seenMany, .ref q_o_board, .ref q_o_pick, .ref q_o_worth, .ref q_o_best, .int o_chosen])), (q_o_warmth, .inl (cI, 12, .inl o_warmth)), (q_o_seen, .inl (cI, 6, .inl o_seen)), (q_o_seconds, .inl (cI, 12, .inl o_seconds)), (q_o_seenAt, .inl (cI, 6, .inl o_seenAt)), (q_o_board, .inl (cI, 49, .inl w15)), (q_o_pick, .inl (cI, 6, .inl o_pick))] H := by rw [ew15]; exact hP
        have hD : va_D A [(q_o, .inr (7, [.int o_thrown, .long o_trace, .ref q_o_text, .int o_typed, .int o_next, .int o_token, .int o_place, .int o_value, .int o_fault, .ref q_o_warmth, .ref q_o_side, .ref q_o_seconds, .int o_members, .int o_pairs, .int o_cold, .int o_fur, .int o_coughs, .int o_draftMembers, .int o_draftPairs, .int o_draftCold, .int o_draftFur, .int o_draftCoughs, .ref q_o_s, .ref q_o_kept, .ref q_o_isKept, .ref q_o_undos, .int o_undoMany, .ref q_o_seenAt, .ref q_o_seen, .int o_seenMany, .ref q_o_board, .ref q_o_pick, .ref q_o_worth, .ref q_o_best, .int o_chosen])), (q_o_warmth, .inl (cI, 12, .inl o_warmth)), (q_o_seen, .inl (cI, 6, .inl o_seen)), (q_o_seconds, .inl (cI, 12, .inl o_seconds)), (q_o_seenAt, .inl (cI, 6, .inl o_seenAt)), (q_o_board, .inl (cI, 49, .inl w15)), (q_o_pick, .inl (cI, 6, .inl o_pick))] := by rw [ew15]; exact hD
        obtain ⟨y16, ey16⟩ : ∃ z : Int32, z = x2 + 1 := ⟨_, rfl⟩
        have hf := bnd_at hf ey16
        refine lv_iinc (v := y16) (lv' := [(2, .int y16), (0, .ref q_o), (1, .int x1)]) hx hb dX8_fits_48 hl (k := 2) rfl (by rw [ey16]; rfl) (by decide) rfl (fun ls hl => ?_)
        refine lv_goto (tgt := 18) hx hb dX8_fits_51 (by decide) ?_
        exact ih18 x1 y16 o_thrown w15 o_pick _ _ ls hf hP hD hS (lv_sub hl [1, 2, 0] rfl)
      intro x1 x2 o_thrown o_board o_pick H locs ls hf hP hD hS hl
      have hf : f_X8_fits_18_b o_members o_cold o_fur o_seenMany o_warmth o_seen o_seconds o_seenAt (f_X8_fits_18 o_members o_cold o_fur o_seenMany o_warmth o_seen o_seconds o_seenAt n18) x1 x2 o_thrown o_board o_pick = some (r, o_thrown', o_board', o_pick') := hf
      unfold f_X8_fits_18_b at hf
      refine lv_iload_n hx hb dX8_fits_18 rfl (lv_at hl 2 rfl) ?_
      refine lv_bipush (v := 6) hx hb dX8_fits_19 (by decide) ?_
      refine lv_icmp_ge (tgt := 54) hx hb dX8_fits_21 (by decide) (fun c17 => ?_) (fun c17 => ?_)
      · have hf := ite_p hf c17
        refine lv_aload_n hx hb dX8_fits_54 rfl (lv_at hl 0 rfl) ?_
        refine va_get (D := D) (ci := 7) (v := .ref q_o_board) (C := RX8) (T := TX8) (N := 35) hx hb hts hinX8 hown hK.1 hP 0 rfl rfl 30 (by decide) g41 (fun _ h9 => h9) rfl dX8_fits_55 ?_
        refine lv_bipush (v := 6) hx hb dX8_fits_58 (by decide) ?_
        refine lv_bipush (v := (-9)) hx hb dX8_fits_60 (by decide) ?_
        obtain ⟨g18, hf⟩ := ing_some hf
        refine va_iast hx hb hK.1 hP hD hS 5 1 rfl rfl g18 dX8_fits_62 (fun H locs hP hD hS => ?_)
        obtain ⟨w19, ew19⟩ : ∃ z : Nat → Int32, z = upd o_board (6 : Int32).toNatClampNeg ((-9)) := ⟨_, rfl⟩
        have hf := bnd_at hf ew19
        have hP : va_P D vwCl [(q_o, .inr (7, [.int o_thrown, .long o_trace, .ref q_o_text, .int o_typed, .int o_next, .int o_token, .int o_place, .int o_value, .int o_fault, .ref q_o_warmth, .ref q_o_side, .ref q_o_seconds, .int o_members, .int o_pairs, .int o_cold, .int o_fur, .int o_coughs, .int o_draftMembers, .int o_draftPairs, .int o_draftCold, .int o_draftFur, .int o_draftCoughs, .ref q_o_s, .ref q_o_kept, .ref q_o_isKept, .ref q_o_undos, .int o_undoMany, .ref q_o_seenAt, .ref q_o_seen, .int o_seenMany, .ref q_o_board, .ref q_o_pick, .ref q_o_worth, .ref q_o_best, .int o_chosen])), (q_o_warmth, .inl (cI, 12, .inl o_warmth)), (q_o_seen, .inl (cI, 6, .inl o_seen)), (q_o_seconds, .inl (cI, 12, .inl o_seconds)), (q_o_seenAt, .inl (cI, 6, .inl o_seenAt)), (q_o_board, .inl (cI, 49, .inl w19)), (q_o_pick, .inl (cI, 6, .inl o_pick))] H := by rw [ew19]; exact hP
        have hD : va_D A [(q_o, .inr (7, [.int o_thrown, .long o_trace, .ref q_o_text, .int o_typed, .int o_next, .int o_token, .int o_place, .int o_value, .int o_fault, .ref q_o_warmth, .ref q_o_side, .ref q_o_seconds, .int o_members, .int o_pairs, .int o_cold, .int o_fur, .int o_coughs, .int o_draftMembers, .int o_draftPairs, .int o_draftCold, .int o_draftFur, .int o_draftCoughs, .ref q_o_s, .ref q_o_kept, .ref q_o_isKept, .ref q_o_undos, .int o_undoMany, .ref q_o_seenAt, .ref q_o_seen, .int o_seenMany, .ref q_o_board, .ref q_o_pick, .ref q_o_worth, .ref q_o_best, .int o_chosen])), (q_o_warmth, .inl (cI, 12, .inl o_warmth)), (q_o_seen, .inl (cI, 6, .inl o_seen)), (q_o_seconds, .inl (cI, 12, .inl o_seconds)), (q_o_seenAt, .inl (cI, 6, .inl o_seenAt)), (q_o_board, .inl (cI, 49, .inl w19)), (q_o_pick, .inl (cI, 6, .inl o_pick))] := by rw [ew19]; exact hD
        refine lv_iconst (v := 0) hx hb dX8_fits_63 (by decide) ?_
        refine lv_istore_n (lv' := [(2, .int 0), (0, .ref q_o), (1, .int x1)]) hx hb dX8_fits_64 rfl hl (by decide) rfl (fun ls hl => ?_)
        refine lv_iconst (v := 0) hx hb dX8_fits_65 (by decide) ?_
        refine lv_istore_n (lv' := [(3, .int 0), (2, .int 0), (0, .ref q_o), (1, .int x1)]) hx hb dX8_fits_66 rfl hl (by decide) rfl (fun ls hl => ?_)
        exact L67 FU x1 0 0 o_thrown w19 o_pick _ _ ls hf hP hD hS (lv_sub hl [2, 3, 1, 0] rfl)
      · have hf := ite_n hf c17
        refine lv_aload_n hx hb dX8_fits_24 rfl (lv_at hl 0 rfl) ?_
        refine va_get (D := D) (ci := 7) (v := .ref q_o_board) (C := RX8) (T := TX8) (N := 35) hx hb hts hinX8 hown hK.1 hP 0 rfl rfl 30 (by decide) g41 (fun _ h9 => h9) rfl dX8_fits_25 ?_
        refine lv_iload_n hx hb dX8_fits_28 rfl (lv_at hl 2 rfl) ?_
        refine lv_iload_n hx hb dX8_fits_29 rfl (lv_at hl 2 rfl) ?_
        refine lv_aload_n hx hb dX8_fits_30 rfl (lv_at hl 0 rfl) ?_
        refine va_get (D := D) (ci := 7) (v := .int o_members) (C := RX8) (T := TX8) (N := 35) hx hb hts hinX8 hown hK.1 hP 0 rfl rfl 12 (by decide) g145 (fun _ h9 => h9) rfl dX8_fits_31 ?_
        refine lv_icmp_ge (tgt := 46) hx hb dX8_fits_34 (by decide) (fun c20 => ?_) (fun c20 => ?_)
        · have hf := ite_p hf c20
          refine lv_iconst (v := 0) hx hb dX8_fits_46 (by decide) ?_
          exact L47 x1 x2 x2 0 o_thrown o_board o_pick _ _ ls hf hP hD hS (lv_sub hl [0, 1, 2] rfl)
        · have hf := ite_n hf c20
          refine lv_aload_n hx hb dX8_fits_37 rfl (lv_at hl 0 rfl) ?_
          refine va_get (D := D) (ci := 7) (v := .ref q_o_warmth) (C := RX8) (T := TX8) (N := 35) hx hb hts hinX8 hown hK.1 hP 0 rfl rfl 9 (by decide) g13 (fun _ h9 => h9) rfl dX8_fits_38 ?_
          refine lv_iload_n hx hb dX8_fits_41 rfl (lv_at hl 2 rfl) ?_
          obtain ⟨g21, hf⟩ := ing_some hf
          refine va_iald hx hb hK.1 hP 1 1 rfl rfl g21 dX8_fits_42 ?_
          refine lv_goto (tgt := 47) hx hb dX8_fits_43 (by decide) ?_
          exact L47 x1 x2 x2 (o_warmth x2.toNatClampNeg) o_thrown o_board o_pick _ _ ls hf hP hD hS (lv_sub hl [0, 1, 2] rfl)
  unfold f_X8_fits at hf
  refine lv_aload_n hx hb dX8_fits_0 rfl (lv_at hl 0 rfl) ?_
  refine lv_iconst (v := 0) hx hb dX8_fits_1 (by decide) ?_
  refine va_put (D := D) (ci := 7) (v := .int 0) (ty := .int) (C := RX8) (T := TX8) (N := 35) hx hb hts hinX8 tyX8 tyX8_ok nmX8 hown hK.1 hP hD hS 0 rfl rfl 0 (by decide) g63 (fun _ h9 => h9) rfl (by decide +kernel) rfl rfl (Nat.le_of_ble_eq_true rfl) dX8_fits_2 (fun H locs hP hD hS => ?_)
  have hP : va_P D vwCl [(q_o, .inr (7, [.int 0, .long o_trace, .ref q_o_text, .int o_typed, .int o_next, .int o_token, .int o_place, .int o_value, .int o_fault, .ref q_o_warmth, .ref q_o_side, .ref q_o_seconds, .int o_members, .int o_pairs, .int o_cold, .int o_fur, .int o_coughs, .int o_draftMembers, .int o_draftPairs, .int o_draftCold, .int o_draftFur, .int o_draftCoughs, .ref q_o_s, .ref q_o_kept, .ref q_o_isKept, .ref q_o_undos, .int o_undoMany, .ref q_o_seenAt, .ref q_o_seen, .int o_seenMany, .ref q_o_board, .ref q_o_pick, .ref q_o_worth, .ref q_o_best, .int o_chosen])), (q_o_warmth, .inl (cI, 12, .inl o_warmth)), (q_o_seen, .inl (cI, 6, .inl o_seen)), (q_o_seconds, .inl (cI, 12, .inl o_seconds)), (q_o_seenAt, .inl (cI, 6, .inl o_seenAt)), (q_o_board, .inl (cI, 49, .inl o_board)), (q_o_pick, .inl (cI, 6, .inl o_pick))] H := hP
  have hD : va_D A [(q_o, .inr (7, [.int 0, .long o_trace, .ref q_o_text, .int o_typed, .int o_next, .int o_token, .int o_place, .int o_value, .int o_fault, .ref q_o_warmth, .ref q_o_side, .ref q_o_seconds, .int o_members, .int o_pairs, .int o_cold, .int o_fur, .int o_coughs, .int o_draftMembers, .int o_draftPairs, .int o_draftCold, .int o_draftFur, .int o_draftCoughs, .ref q_o_s, .ref q_o_kept, .ref q_o_isKept, .ref q_o_undos, .int o_undoMany, .ref q_o_seenAt, .ref q_o_seen, .int o_seenMany, .ref q_o_board, .ref q_o_pick, .ref q_o_worth, .ref q_o_best, .int o_chosen])), (q_o_warmth, .inl (cI, 12, .inl o_warmth)), (q_o_seen, .inl (cI, 6, .inl o_seen)), (q_o_seconds, .inl (cI, 12, .inl o_seconds)), (q_o_seenAt, .inl (cI, 6, .inl o_seenAt)), (q_o_board, .inl (cI, 49, .inl o_board)), (q_o_pick, .inl (cI, 6, .inl o_pick))] := hD
  refine lv_iload_n hx hb dX8_fits_5 rfl (lv_at hl 1 rfl) ?_
  refine lv_iconst (v := 0) hx hb dX8_fits_6 (by decide) ?_
  refine lv_iconst (v := 5) hx hb dX8_fits_7 (by decide) ?_
  obtain ⟨r22, h23, hf⟩ := ob1_some hf
  refine roS (c_X8_in l D cB cI cZ cM cN p1 0 5 r22 h23) hfix (va_cwS 3 hts gX8_fits_X8_in rfl rfl rfl (by decide +kernel) ⟨Nat.le_of_ble_eq_true rfl, Nat.le_of_ble_eq_true rfl⟩) (subC hP [] rfl) hK rfl hl.1 rfl (Nat.le_of_ble_eq_true rfl) dX8_fits_8 ⟨Nat.zero_le _, Nat.zero_le _⟩ ?_
  refine lv_if_ne (tgt := 16) hx hb dX8_fits_11 (by decide) (fun c24 => ?_) (fun c24 => ?_)
  · have hf := ite_n hf c24
    refine lv_iconst (v := 0) hx hb dX8_fits_16 (by decide) ?_
    refine lv_istore_n (lv' := [(2, .int 0), (0, .ref q_o), (1, .int p1)]) hx hb dX8_fits_17 rfl hl (by decide) rfl (fun ls hl => ?_)
    exact L18 FU p1 0 0 o_board o_pick _ _ ls hf hP hD hS (lv_sub hl [1, 2, 0] rfl)
  · have hf := ite_p hf c24
    refine lv_iconst (v := (-1)) hx hb dX8_fits_14 (by decide) ?_
    obtain ⟨e0_, e1_, e2_, e3_⟩ := tup4 hf
    have hP : va_P D vwCl [(q_o, .inr (7, [.int o_thrown', .long o_trace, .ref q_o_text, .int o_typed, .int o_next, .int o_token, .int o_place, .int o_value, .int o_fault, .ref q_o_warmth, .ref q_o_side, .ref q_o_seconds, .int o_members, .int o_pairs, .int o_cold, .int o_fur, .int o_coughs, .int o_draftMembers, .int o_draftPairs, .int o_draftCold, .int o_draftFur, .int o_draftCoughs, .ref q_o_s, .ref q_o_kept, .ref q_o_isKept, .ref q_o_undos, .int o_undoMany, .ref q_o_seenAt, .ref q_o_seen, .int o_seenMany, .ref q_o_board, .ref q_o_pick, .ref q_o_worth, .ref q_o_best, .int o_chosen])), (q_o_warmth, .inl (cI, 12, .inl o_warmth)), (q_o_seen, .inl (cI, 6, .inl o_seen)), (q_o_seconds, .inl (cI, 12, .inl o_seconds)), (q_o_seenAt, .inl (cI, 6, .inl o_seenAt)), (q_o_board, .inl (cI, 49, .inl o_board')), (q_o_pick, .inl (cI, 6, .inl o_pick'))] H := by rw [← e1_, ← e2_, ← e3_]; exact hP
    have hD : va_D A [(q_o, .inr (7, [.int o_thrown', .long o_trace, .ref q_o_text, .int o_typed, .int o_next, .int o_token, .int o_place, .int o_value, .int o_fault, .ref q_o_warmth, .ref q_o_side, .ref q_o_seconds, .int o_members, .int o_pairs, .int o_cold, .int o_fur, .int o_coughs, .int o_draftMembers, .int o_draftPairs, .int o_draftCold, .int o_draftFur, .int o_draftCoughs, .ref q_o_s, .ref q_o_kept, .ref q_o_isKept, .ref q_o_undos, .int o_undoMany, .ref q_o_seenAt, .ref q_o_seen, .int o_seenMany, .ref q_o_board, .ref q_o_pick, .ref q_o_worth, .ref q_o_best, .int o_chosen])), (q_o_warmth, .inl (cI, 12, .inl o_warmth)), (q_o_seen, .inl (cI, 6, .inl o_seen)), (q_o_seconds, .inl (cI, 12, .inl o_seconds)), (q_o_seenAt, .inl (cI, 6, .inl o_seenAt)), (q_o_board, .inl (cI, 49, .inl o_board')), (q_o_pick, .inl (cI, 6, .inl o_pick'))] := by rw [← e1_, ← e2_, ← e3_]; exact hD
    exact endMI hx hb hr hlocks rfl hP hD hS e0_ dX8_fits_15
def f_X8_rate_115 (o_members : Int32) (o_cold : Int32) (o_seconds : Nat → Int32) (o_s : Nat → Int32) (x1 : Int32) (x2 : Int32) (x3 : Int32) (x4 : Int32) (k1 : Int64) (k2 : Int64) (o_thrown : Int32) (o_trace : Int64) : Option (Int32 × Int32 × Int64) :=
  bnd (k1 + k2) fun y1 =>
  if x1 = 0 then (
    ing x2 10 <|
    some (o_s x2.toNatClampNeg, o_thrown, y1)
  ) else (
    if x1 = 1 then (
      some (x3, o_thrown, y1)
    ) else (
      if x1 = 2 then (
        some (x4, o_thrown, y1)
      ) else (
        if x1 = 3 then (
          some (2 * x3, o_thrown, y1)
        ) else (
          if x1 = 4 then (
            some (x4 + x2, o_thrown, y1)
          ) else (
            ing x2 10 <|
            ing 7 10 <|
            some ((o_s x2.toNatClampNeg) + (o_s (7 : Int32).toNatClampNeg), o_thrown, y1)
          )
        )
      )
    )
  )
def f_X8_rate (o_members : Int32) (o_cold : Int32) (o_seconds : Nat → Int32) (o_s : Nat → Int32) (o_thrown : Int32) (o_trace : Int64) (p1 : Int32) (p2 : Int32) : Option (Int32 × Int32 × Int64) :=
  ob1 (f_X8_in p1 0 5) fun r10 =>
  if r10 = 0 then (
    some ((-1000000), 0, o_trace)
  ) else (
    ob1 (f_X8_isMember o_members p2) fun r13 =>
    if r13 = 0 then (
      some ((-1000000), 0, o_trace)
    ) else (
      ing p2 10 <|
      ing p2 12 <|
      ob1 (f_X8_ones (o_seconds p2.toNatClampNeg)) fun r18 =>
      bnd ((o_s p2.toNatClampNeg) + r18) fun y20 =>
      ing p2 10 <|
      bnd ((o_s p2.toNatClampNeg) - o_cold) fun y22 =>
      if p1 = 0 then (
        f_X8_rate_115 o_members o_cold o_seconds o_s p1 p2 y20 y22 o_trace 1 0 o_trace
      ) else (
        if p1 = 1 then (
          f_X8_rate_115 o_members o_cold o_seconds o_s p1 p2 y20 y22 o_trace 11 0 o_trace
        ) else (
          if p1 = 2 then (
            f_X8_rate_115 o_members o_cold o_seconds o_s p1 p2 y20 y22 o_trace 101 0 o_trace
          ) else (
            if p1 = 3 then (
              f_X8_rate_115 o_members o_cold o_seconds o_s p1 p2 y20 y22 o_trace 1011 0 o_trace
            ) else (
              if p1 = 4 then (
                f_X8_rate_115 o_members o_cold o_seconds o_s p1 p2 y20 y22 o_trace 10101 0 o_trace
              ) else (
                f_X8_rate_115 o_members o_cold o_seconds o_s p1 p2 y20 y22 o_trace 100001 0 o_trace
              )
            )
          )
        )
      )
    )
  )
set_option maxHeartbeats 4000000 in
set_option maxRecDepth 100000 in
theorem c_X8_rate (l : Launch) (D : va_G) (cB cI cZ cM cN : ClassId) (q_o : Nat) (q_o_text : Nat) (q_o_warmth : Nat) (q_o_side : Nat) (q_o_seconds : Nat) (q_o_s : Nat) (q_o_kept : Nat) (q_o_isKept : Nat) (q_o_undos : Nat) (q_o_seenAt : Nat) (q_o_seen : Nat) (q_o_board : Nat) (q_o_pick : Nat) (q_o_worth : Nat) (q_o_best : Nat) (o_thrown : Int32) (o_trace : Int64) (o_typed : Int32) (o_next : Int32) (o_token : Int32) (o_place : Int32) (o_value : Int32) (o_fault : Int32) (o_members : Int32) (o_pairs : Int32) (o_cold : Int32) (o_fur : Int32) (o_coughs : Int32) (o_draftMembers : Int32) (o_draftPairs : Int32) (o_draftCold : Int32) (o_draftFur : Int32) (o_draftCoughs : Int32) (o_undoMany : Int32) (o_seenMany : Int32) (o_chosen : Int32) (o_seconds : Nat → Int32) (o_s : Nat → Int32) (p1 : Int32) (p2 : Int32) (r : Int32) (o_thrown' : Int32) (o_trace' : Int64) (sz : Nat) (hf : f_X8_rate o_members o_cold o_seconds o_s o_thrown o_trace p1 p2 = some (r, o_thrown', o_trace')) : Met l yX8_rate wsX8_rate ({ frames := 2, cells := 0, slots := 0, locals := 43 } : Room) (PM D cB cI cZ cM cN [.ref q_o, .int p1, .int p2] [(q_o, .inr (7, [.int o_thrown, .long o_trace, .ref q_o_text, .int o_typed, .int o_next, .int o_token, .int o_place, .int o_value, .int o_fault, .ref q_o_warmth, .ref q_o_side, .ref q_o_seconds, .int o_members, .int o_pairs, .int o_cold, .int o_fur, .int o_coughs, .int o_draftMembers, .int o_draftPairs, .int o_draftCold, .int o_draftFur, .int o_draftCoughs, .ref q_o_s, .ref q_o_kept, .ref q_o_isKept, .ref q_o_undos, .int o_undoMany, .ref q_o_seenAt, .ref q_o_seen, .int o_seenMany, .ref q_o_board, .ref q_o_pick, .ref q_o_worth, .ref q_o_best, .int o_chosen])), (q_o_seconds, .inl (cI, 12, .inl o_seconds)), (q_o_s, .inl (cI, 10, .inl o_s))] sz) (QI D [(q_o, .inr (7, [.int o_thrown', .long o_trace', .ref q_o_text, .int o_typed, .int o_next, .int o_token, .int o_place, .int o_value, .int o_fault, .ref q_o_warmth, .ref q_o_side, .ref q_o_seconds, .int o_members, .int o_pairs, .int o_cold, .int o_fur, .int o_coughs, .int o_draftMembers, .int o_draftPairs, .int o_draftCold, .int o_draftFur, .int o_draftCoughs, .ref q_o_s, .ref q_o_kept, .ref q_o_isKept, .ref q_o_undos, .int o_undoMany, .ref q_o_seenAt, .ref q_o_seen, .int o_seenMany, .ref q_o_board, .ref q_o_pick, .ref q_o_worth, .ref q_o_best, .int o_chosen])), (q_o_seconds, .inl (cI, 12, .inl o_seconds)), (q_o_s, .inl (cI, 10, .inl o_s))] r (va_A [(q_o, .inr (7, [.int o_thrown, .long o_trace, .ref q_o_text, .int o_typed, .int o_next, .int o_token, .int o_place, .int o_value, .int o_fault, .ref q_o_warmth, .ref q_o_side, .ref q_o_seconds, .int o_members, .int o_pairs, .int o_cold, .int o_fur, .int o_coughs, .int o_draftMembers, .int o_draftPairs, .int o_draftCold, .int o_draftFur, .int o_draftCoughs, .ref q_o_s, .ref q_o_kept, .ref q_o_isKept, .ref q_o_undos, .int o_undoMany, .ref q_o_seenAt, .ref q_o_seen, .int o_seenMany, .ref q_o_board, .ref q_o_pick, .ref q_o_worth, .ref q_o_best, .int o_chosen])), (q_o_seconds, .inl (cI, 12, .inl o_seconds)), (q_o_s, .inl (cI, 10, .inl o_s))] sz)) 0 0 (va_A [(q_o, .inr (7, [.int o_thrown, .long o_trace, .ref q_o_text, .int o_typed, .int o_next, .int o_token, .int o_place, .int o_value, .int o_fault, .ref q_o_warmth, .ref q_o_side, .ref q_o_seconds, .int o_members, .int o_pairs, .int o_cold, .int o_fur, .int o_coughs, .int o_draftMembers, .int o_draftPairs, .int o_draftCold, .int o_draftFur, .int o_draftCoughs, .ref q_o_s, .ref q_o_kept, .ref q_o_isKept, .ref q_o_undos, .int o_undoMany, .ref q_o_seenAt, .ref q_o_seen, .int o_seenMany, .ref q_o_board, .ref q_o_pick, .ref q_o_worth, .ref q_o_best, .int o_chosen])), (q_o_seconds, .inl (cI, 12, .inl o_seconds)), (q_o_s, .inl (cI, 10, .inl o_s))] sz) := by
  refine entM (l := l) (y := yX8_rate) (ws := wsX8_rate) (cc := cX8_rate) (av := [.ref q_o, .int p1, .int p2]) (wc := [(q_o, .inr (7, [.int o_thrown, .long o_trace, .ref q_o_text, .int o_typed, .int o_next, .int o_token, .int o_place, .int o_value, .int o_fault, .ref q_o_warmth, .ref q_o_side, .ref q_o_seconds, .int o_members, .int o_pairs, .int o_cold, .int o_fur, .int o_coughs, .int o_draftMembers, .int o_draftPairs, .int o_draftCold, .int o_draftFur, .int o_draftCoughs, .ref q_o_s, .ref q_o_kept, .ref q_o_isKept, .ref q_o_undos, .int o_undoMany, .ref q_o_seenAt, .ref q_o_seen, .int o_seenMany, .ref q_o_board, .ref q_o_pick, .ref q_o_worth, .ref q_o_best, .int o_chosen])), (q_o_seconds, .inl (cI, 12, .inl o_seconds)), (q_o_s, .inl (cI, 10, .inl o_s))]) (sz := sz) (Qc := fun A => QI D [(q_o, .inr (7, [.int o_thrown', .long o_trace', .ref q_o_text, .int o_typed, .int o_next, .int o_token, .int o_place, .int o_value, .int o_fault, .ref q_o_warmth, .ref q_o_side, .ref q_o_seconds, .int o_members, .int o_pairs, .int o_cold, .int o_fur, .int o_coughs, .int o_draftMembers, .int o_draftPairs, .int o_draftCold, .int o_draftFur, .int o_draftCoughs, .ref q_o_s, .ref q_o_kept, .ref q_o_isKept, .ref q_o_undos, .int o_undoMany, .ref q_o_seenAt, .ref q_o_seen, .int o_seenMany, .ref q_o_board, .ref q_o_pick, .ref q_o_worth, .ref q_o_best, .int o_chosen])), (q_o_seconds, .inl (cI, 12, .inl o_seconds)), (q_o_s, .inl (cI, 10, .inl o_s))] r A) (by decide +kernel) rfl (Nat.le_of_ble_eq_true rfl) ?_
  intro A p e s m below meth c hx hb hr hml hown hlocks hts hK hA H locs hP hD hS ls hl
  have hown : s.vm.findClass RX8 = some m.cls := hown
  have hl : lv_has ls 5 [(0, .ref q_o), (1, .int p1), (2, .int p2)] := hl
  have hfix : CallFix p m c cX8_rate 5 s ([.ref q_o, .int p1, .int p2] : List Value).toArray wsX8_rate RX8 := ⟨hx, hb, hml, hown, hts⟩
  have hinX8 : ∀ w ∈ u_ws RX8 TX8 35, w ∈ wsX8_rate := by decide +kernel
  have g232 := hts (.fieldLink RX8 232 "LastCoatModel" "trace" "J") (by decide +kernel)
  have g22 := hts (.fieldLink RX8 22 "LastCoatModel" "s" "[I") (by decide +kernel)
  have g63 := hts (.fieldLink RX8 63 "LastCoatModel" "thrown" "I") (by decide +kernel)
  have g231 := hts (.constant RX8 231 (-1000000)) (by decide +kernel)
  have g19 := hts (.fieldLink RX8 19 "LastCoatModel" "seconds" "[I") (by decide +kernel)
  have g53 := hts (.fieldLink RX8 53 "LastCoatModel" "cold" "I") (by decide +kernel)
  have g244 := hts (.constantLong RX8 244 (100001)) (by decide +kernel)
  have g242 := hts (.constantLong RX8 242 (10101)) (by decide +kernel)
  have g240 := hts (.constantLong RX8 240 (1011)) (by decide +kernel)
  have g238 := hts (.constantLong RX8 238 (101)) (by decide +kernel)
  have g236 := hts (.constantLong RX8 236 (11)) (by decide +kernel)
  have L115 : ∀ (x1 : Int32) (x2 : Int32) (x3 : Int32) (x4 : Int32) (k1 : Int64) (k2 : Int64) (o_thrown : Int32) (o_trace : Int64) (H : Heap) (locs : List Loc) (ls : Array Slot), f_X8_rate_115 o_members o_cold o_seconds o_s x1 x2 x3 x4 k1 k2 o_thrown o_trace = some (r, o_thrown', o_trace') → va_P D vwCl [(q_o, .inr (7, [.int o_thrown, .long o_trace, .ref q_o_text, .int o_typed, .int o_next, .int o_token, .int o_place, .int o_value, .int o_fault, .ref q_o_warmth, .ref q_o_side, .ref q_o_seconds, .int o_members, .int o_pairs, .int o_cold, .int o_fur, .int o_coughs, .int o_draftMembers, .int o_draftPairs, .int o_draftCold, .int o_draftFur, .int o_draftCoughs, .ref q_o_s, .ref q_o_kept, .ref q_o_isKept, .ref q_o_undos, .int o_undoMany, .ref q_o_seenAt, .ref q_o_seen, .int o_seenMany, .ref q_o_board, .ref q_o_pick, .ref q_o_worth, .ref q_o_best, .int o_chosen])), (q_o_seconds, .inl (cI, 12, .inl o_seconds)), (q_o_s, .inl (cI, 10, .inl o_s))] H → va_D A [(q_o, .inr (7, [.int o_thrown, .long o_trace, .ref q_o_text, .int o_typed, .int o_next, .int o_token, .int o_place, .int o_value, .int o_fault, .ref q_o_warmth, .ref q_o_side, .ref q_o_seconds, .int o_members, .int o_pairs, .int o_cold, .int o_fur, .int o_coughs, .int o_draftMembers, .int o_draftPairs, .int o_draftCold, .int o_draftFur, .int o_draftCoughs, .ref q_o_s, .ref q_o_kept, .ref q_o_isKept, .ref q_o_undos, .int o_undoMany, .ref q_o_seenAt, .ref q_o_seen, .int o_seenMany, .ref q_o_board, .ref q_o_pick, .ref q_o_worth, .ref q_o_best, .int o_chosen])), (q_o_seconds, .inl (cI, 12, .inl o_seconds)), (q_o_s, .inl (cI, 10, .inl o_s))] → va_S A s.heap H locs → lv_has ls 5 [(0, .ref q_o), (1, .int x1), (2, .int x2), (3, .int x3), (4, .int x4)] → W p l e ({ frames := 2, cells := 0, slots := 0, locals := 43 } : Room) s m ([.ref q_o, .int p1, .int p2] : List Value).toArray below meth c H locs 0 0 (MQ below (QI D [(q_o, .inr (7, [.int o_thrown', .long o_trace', .ref q_o_text, .int o_typed, .int o_next, .int o_token, .int o_place, .int o_value, .int o_fault, .ref q_o_warmth, .ref q_o_side, .ref q_o_seconds, .int o_members, .int o_pairs, .int o_cold, .int o_fur, .int o_coughs, .int o_draftMembers, .int o_draftPairs, .int o_draftCold, .int o_draftFur, .int o_draftCoughs, .ref q_o_s, .ref q_o_kept, .ref q_o_isKept, .ref q_o_undos, .int o_undoMany, .ref q_o_seenAt, .ref q_o_seen, .int o_seenMany, .ref q_o_board, .ref q_o_pick, .ref q_o_worth, .ref q_o_best, .int o_chosen])), (q_o_seconds, .inl (cI, 12, .inl o_seconds)), (q_o_s, .inl (cI, 10, .inl o_s))] r A) ([.ref q_o, .int p1, .int p2] : List Value).toArray s 0 0 A) (F0 m 115 ls [.long k2, .long k1, .ref q_o]) := by
    intro x1 x2 x3 x4 k1 k2 o_thrown o_trace H locs ls hf hP hD hS hl
    unfold f_X8_rate_115 at hf
    refine lv_ladd hx hb dX8_rate_115 ?_
    refine lv_topl (fun y1 ey1 => ?_)
    have hf := bnd_at hf ey1
    refine va_put (D := D) (ci := 7) (v := .long y1) (ty := .long) (C := RX8) (T := TX8) (N := 35) hx hb hts hinX8 tyX8 tyX8_ok nmX8 hown hK.1 hP hD hS 0 rfl rfl 1 (by decide) g232 (fun _ h9 => h9) rfl (by decide +kernel) rfl rfl (Nat.le_of_ble_eq_true rfl) dX8_rate_116 (fun H locs hP hD hS => ?_)
    have hP : va_P D vwCl [(q_o, .inr (7, [.int o_thrown, .long y1, .ref q_o_text, .int o_typed, .int o_next, .int o_token, .int o_place, .int o_value, .int o_fault, .ref q_o_warmth, .ref q_o_side, .ref q_o_seconds, .int o_members, .int o_pairs, .int o_cold, .int o_fur, .int o_coughs, .int o_draftMembers, .int o_draftPairs, .int o_draftCold, .int o_draftFur, .int o_draftCoughs, .ref q_o_s, .ref q_o_kept, .ref q_o_isKept, .ref q_o_undos, .int o_undoMany, .ref q_o_seenAt, .ref q_o_seen, .int o_seenMany, .ref q_o_board, .ref q_o_pick, .ref q_o_worth, .ref q_o_best, .int o_chosen])), (q_o_seconds, .inl (cI, 12, .inl o_seconds)), (q_o_s, .inl (cI, 10, .inl o_s))] H := hP
    have hD : va_D A [(q_o, .inr (7, [.int o_thrown, .long y1, .ref q_o_text, .int o_typed, .int o_next, .int o_token, .int o_place, .int o_value, .int o_fault, .ref q_o_warmth, .ref q_o_side, .ref q_o_seconds, .int o_members, .int o_pairs, .int o_cold, .int o_fur, .int o_coughs, .int o_draftMembers, .int o_draftPairs, .int o_draftCold, .int o_draftFur, .int o_draftCoughs, .ref q_o_s, .ref q_o_kept, .ref q_o_isKept, .ref q_o_undos, .int o_undoMany, .ref q_o_seenAt, .ref q_o_seen, .int o_seenMany, .ref q_o_board, .ref q_o_pick, .ref q_o_worth, .ref q_o_best, .int o_chosen])), (q_o_seconds, .inl (cI, 12, .inl o_seconds)), (q_o_s, .inl (cI, 10, .inl o_s))] := hD
    refine lv_iload_n hx hb dX8_rate_119 rfl (lv_at hl 1 rfl) ?_
    refine lv_if_ne (tgt := 132) hx hb dX8_rate_120 (by decide) (fun c2 => ?_) (fun c2 => ?_)
    · have hf := ite_n hf c2
      refine lv_iload_n hx hb dX8_rate_132 rfl (lv_at hl 1 rfl) ?_
      refine lv_iconst (v := 1) hx hb dX8_rate_133 (by decide) ?_
      refine lv_icmp_ne (tgt := 141) hx hb dX8_rate_134 (by decide) (fun c3 => ?_) (fun c3 => ?_)
      · have hf := ite_n hf c3
        refine lv_iload_n hx hb dX8_rate_141 rfl (lv_at hl 1 rfl) ?_
        refine lv_iconst (v := 2) hx hb dX8_rate_142 (by decide) ?_
        refine lv_icmp_ne (tgt := 151) hx hb dX8_rate_143 (by decide) (fun c4 => ?_) (fun c4 => ?_)
        · have hf := ite_n hf c4
          refine lv_iload_n hx hb dX8_rate_151 rfl (lv_at hl 1 rfl) ?_
          refine lv_iconst (v := 3) hx hb dX8_rate_152 (by decide) ?_
          refine lv_icmp_ne (tgt := 162) hx hb dX8_rate_153 (by decide) (fun c5 => ?_) (fun c5 => ?_)
          · have hf := ite_n hf c5
            refine lv_iload_n hx hb dX8_rate_162 rfl (lv_at hl 1 rfl) ?_
            refine lv_iconst (v := 4) hx hb dX8_rate_163 (by decide) ?_
            refine lv_icmp_ne (tgt := 174) hx hb dX8_rate_164 (by decide) (fun c6 => ?_) (fun c6 => ?_)
            · have hf := ite_n hf c6
              refine lv_aload_n hx hb dX8_rate_174 rfl (lv_at hl 0 rfl) ?_
              refine va_get (D := D) (ci := 7) (v := .ref q_o_s) (C := RX8) (T := TX8) (N := 35) hx hb hts hinX8 hown hK.1 hP 0 rfl rfl 22 (by decide) g22 (fun _ h9 => h9) rfl dX8_rate_175 ?_
              refine lv_iload_n hx hb dX8_rate_178 rfl (lv_at hl 2 rfl) ?_
              obtain ⟨g7, hf⟩ := ing_some hf
              refine va_iald hx hb hK.1 hP 2 1 rfl rfl g7 dX8_rate_179 ?_
              refine lv_aload_n hx hb dX8_rate_180 rfl (lv_at hl 0 rfl) ?_
              refine va_get (D := D) (ci := 7) (v := .ref q_o_s) (C := RX8) (T := TX8) (N := 35) hx hb hts hinX8 hown hK.1 hP 0 rfl rfl 22 (by decide) g22 (fun _ h9 => h9) rfl dX8_rate_181 ?_
              refine lv_bipush (v := 7) hx hb dX8_rate_184 (by decide) ?_
              obtain ⟨g8, hf⟩ := ing_some hf
              refine va_iald hx hb hK.1 hP 2 1 rfl rfl g8 dX8_rate_186 ?_
              refine lv_iadd hx hb dX8_rate_187 ?_
              obtain ⟨e0_, e1_, e2_⟩ := tup3 hf
              have hP : va_P D vwCl [(q_o, .inr (7, [.int o_thrown', .long o_trace', .ref q_o_text, .int o_typed, .int o_next, .int o_token, .int o_place, .int o_value, .int o_fault, .ref q_o_warmth, .ref q_o_side, .ref q_o_seconds, .int o_members, .int o_pairs, .int o_cold, .int o_fur, .int o_coughs, .int o_draftMembers, .int o_draftPairs, .int o_draftCold, .int o_draftFur, .int o_draftCoughs, .ref q_o_s, .ref q_o_kept, .ref q_o_isKept, .ref q_o_undos, .int o_undoMany, .ref q_o_seenAt, .ref q_o_seen, .int o_seenMany, .ref q_o_board, .ref q_o_pick, .ref q_o_worth, .ref q_o_best, .int o_chosen])), (q_o_seconds, .inl (cI, 12, .inl o_seconds)), (q_o_s, .inl (cI, 10, .inl o_s))] H := by rw [← e1_, ← e2_]; exact hP
              have hD : va_D A [(q_o, .inr (7, [.int o_thrown', .long o_trace', .ref q_o_text, .int o_typed, .int o_next, .int o_token, .int o_place, .int o_value, .int o_fault, .ref q_o_warmth, .ref q_o_side, .ref q_o_seconds, .int o_members, .int o_pairs, .int o_cold, .int o_fur, .int o_coughs, .int o_draftMembers, .int o_draftPairs, .int o_draftCold, .int o_draftFur, .int o_draftCoughs, .ref q_o_s, .ref q_o_kept, .ref q_o_isKept, .ref q_o_undos, .int o_undoMany, .ref q_o_seenAt, .ref q_o_seen, .int o_seenMany, .ref q_o_board, .ref q_o_pick, .ref q_o_worth, .ref q_o_best, .int o_chosen])), (q_o_seconds, .inl (cI, 12, .inl o_seconds)), (q_o_s, .inl (cI, 10, .inl o_s))] := by rw [← e1_, ← e2_]; exact hD
              exact endMI hx hb hr hlocks rfl hP hD hS e0_ dX8_rate_188
            · have hf := ite_p hf c6
              refine lv_iload hx hb dX8_rate_167 (lv_at hl 4 rfl) ?_
              refine lv_iload_n hx hb dX8_rate_169 rfl (lv_at hl 2 rfl) ?_
              refine lv_iadd hx hb dX8_rate_170 ?_
              refine lv_goto (tgt := 188) hx hb dX8_rate_171 (by decide) ?_
              obtain ⟨e0_, e1_, e2_⟩ := tup3 hf
              have hP : va_P D vwCl [(q_o, .inr (7, [.int o_thrown', .long o_trace', .ref q_o_text, .int o_typed, .int o_next, .int o_token, .int o_place, .int o_value, .int o_fault, .ref q_o_warmth, .ref q_o_side, .ref q_o_seconds, .int o_members, .int o_pairs, .int o_cold, .int o_fur, .int o_coughs, .int o_draftMembers, .int o_draftPairs, .int o_draftCold, .int o_draftFur, .int o_draftCoughs, .ref q_o_s, .ref q_o_kept, .ref q_o_isKept, .ref q_o_undos, .int o_undoMany, .ref q_o_seenAt, .ref q_o_seen, .int o_seenMany, .ref q_o_board, .ref q_o_pick, .ref q_o_worth, .ref q_o_best, .int o_chosen])), (q_o_seconds, .inl (cI, 12, .inl o_seconds)), (q_o_s, .inl (cI, 10, .inl o_s))] H := by rw [← e1_, ← e2_]; exact hP
              have hD : va_D A [(q_o, .inr (7, [.int o_thrown', .long o_trace', .ref q_o_text, .int o_typed, .int o_next, .int o_token, .int o_place, .int o_value, .int o_fault, .ref q_o_warmth, .ref q_o_side, .ref q_o_seconds, .int o_members, .int o_pairs, .int o_cold, .int o_fur, .int o_coughs, .int o_draftMembers, .int o_draftPairs, .int o_draftCold, .int o_draftFur, .int o_draftCoughs, .ref q_o_s, .ref q_o_kept, .ref q_o_isKept, .ref q_o_undos, .int o_undoMany, .ref q_o_seenAt, .ref q_o_seen, .int o_seenMany, .ref q_o_board, .ref q_o_pick, .ref q_o_worth, .ref q_o_best, .int o_chosen])), (q_o_seconds, .inl (cI, 12, .inl o_seconds)), (q_o_s, .inl (cI, 10, .inl o_s))] := by rw [← e1_, ← e2_]; exact hD
              exact endMI hx hb hr hlocks rfl hP hD hS e0_ dX8_rate_188
          · have hf := ite_p hf c5
            refine lv_iconst (v := 2) hx hb dX8_rate_156 (by decide) ?_
            refine lv_iload_n hx hb dX8_rate_157 rfl (lv_at hl 3 rfl) ?_
            refine lv_imul hx hb dX8_rate_158 ?_
            refine lv_goto (tgt := 188) hx hb dX8_rate_159 (by decide) ?_
            obtain ⟨e0_, e1_, e2_⟩ := tup3 hf
            have hP : va_P D vwCl [(q_o, .inr (7, [.int o_thrown', .long o_trace', .ref q_o_text, .int o_typed, .int o_next, .int o_token, .int o_place, .int o_value, .int o_fault, .ref q_o_warmth, .ref q_o_side, .ref q_o_seconds, .int o_members, .int o_pairs, .int o_cold, .int o_fur, .int o_coughs, .int o_draftMembers, .int o_draftPairs, .int o_draftCold, .int o_draftFur, .int o_draftCoughs, .ref q_o_s, .ref q_o_kept, .ref q_o_isKept, .ref q_o_undos, .int o_undoMany, .ref q_o_seenAt, .ref q_o_seen, .int o_seenMany, .ref q_o_board, .ref q_o_pick, .ref q_o_worth, .ref q_o_best, .int o_chosen])), (q_o_seconds, .inl (cI, 12, .inl o_seconds)), (q_o_s, .inl (cI, 10, .inl o_s))] H := by rw [← e1_, ← e2_]; exact hP
            have hD : va_D A [(q_o, .inr (7, [.int o_thrown', .long o_trace', .ref q_o_text, .int o_typed, .int o_next, .int o_token, .int o_place, .int o_value, .int o_fault, .ref q_o_warmth, .ref q_o_side, .ref q_o_seconds, .int o_members, .int o_pairs, .int o_cold, .int o_fur, .int o_coughs, .int o_draftMembers, .int o_draftPairs, .int o_draftCold, .int o_draftFur, .int o_draftCoughs, .ref q_o_s, .ref q_o_kept, .ref q_o_isKept, .ref q_o_undos, .int o_undoMany, .ref q_o_seenAt, .ref q_o_seen, .int o_seenMany, .ref q_o_board, .ref q_o_pick, .ref q_o_worth, .ref q_o_best, .int o_chosen])), (q_o_seconds, .inl (cI, 12, .inl o_seconds)), (q_o_s, .inl (cI, 10, .inl o_s))] := by rw [← e1_, ← e2_]; exact hD
            exact endMI hx hb hr hlocks rfl hP hD hS e0_ dX8_rate_188
        · have hf := ite_p hf c4
          refine lv_iload hx hb dX8_rate_146 (lv_at hl 4 rfl) ?_
          refine lv_goto (tgt := 188) hx hb dX8_rate_148 (by decide) ?_
          obtain ⟨e0_, e1_, e2_⟩ := tup3 hf
          have hP : va_P D vwCl [(q_o, .inr (7, [.int o_thrown', .long o_trace', .ref q_o_text, .int o_typed, .int o_next, .int o_token, .int o_place, .int o_value, .int o_fault, .ref q_o_warmth, .ref q_o_side, .ref q_o_seconds, .int o_members, .int o_pairs, .int o_cold, .int o_fur, .int o_coughs, .int o_draftMembers, .int o_draftPairs, .int o_draftCold, .int o_draftFur, .int o_draftCoughs, .ref q_o_s, .ref q_o_kept, .ref q_o_isKept, .ref q_o_undos, .int o_undoMany, .ref q_o_seenAt, .ref q_o_seen, .int o_seenMany, .ref q_o_board, .ref q_o_pick, .ref q_o_worth, .ref q_o_best, .int o_chosen])), (q_o_seconds, .inl (cI, 12, .inl o_seconds)), (q_o_s, .inl (cI, 10, .inl o_s))] H := by rw [← e1_, ← e2_]; exact hP
          have hD : va_D A [(q_o, .inr (7, [.int o_thrown', .long o_trace', .ref q_o_text, .int o_typed, .int o_next, .int o_token, .int o_place, .int o_value, .int o_fault, .ref q_o_warmth, .ref q_o_side, .ref q_o_seconds, .int o_members, .int o_pairs, .int o_cold, .int o_fur, .int o_coughs, .int o_draftMembers, .int o_draftPairs, .int o_draftCold, .int o_draftFur, .int o_draftCoughs, .ref q_o_s, .ref q_o_kept, .ref q_o_isKept, .ref q_o_undos, .int o_undoMany, .ref q_o_seenAt, .ref q_o_seen, .int o_seenMany, .ref q_o_board, .ref q_o_pick, .ref q_o_worth, .ref q_o_best, .int o_chosen])), (q_o_seconds, .inl (cI, 12, .inl o_seconds)), (q_o_s, .inl (cI, 10, .inl o_s))] := by rw [← e1_, ← e2_]; exact hD
          exact endMI hx hb hr hlocks rfl hP hD hS e0_ dX8_rate_188
      · have hf := ite_p hf c3
        refine lv_iload_n hx hb dX8_rate_137 rfl (lv_at hl 3 rfl) ?_
        refine lv_goto (tgt := 188) hx hb dX8_rate_138 (by decide) ?_
        obtain ⟨e0_, e1_, e2_⟩ := tup3 hf
        have hP : va_P D vwCl [(q_o, .inr (7, [.int o_thrown', .long o_trace', .ref q_o_text, .int o_typed, .int o_next, .int o_token, .int o_place, .int o_value, .int o_fault, .ref q_o_warmth, .ref q_o_side, .ref q_o_seconds, .int o_members, .int o_pairs, .int o_cold, .int o_fur, .int o_coughs, .int o_draftMembers, .int o_draftPairs, .int o_draftCold, .int o_draftFur, .int o_draftCoughs, .ref q_o_s, .ref q_o_kept, .ref q_o_isKept, .ref q_o_undos, .int o_undoMany, .ref q_o_seenAt, .ref q_o_seen, .int o_seenMany, .ref q_o_board, .ref q_o_pick, .ref q_o_worth, .ref q_o_best, .int o_chosen])), (q_o_seconds, .inl (cI, 12, .inl o_seconds)), (q_o_s, .inl (cI, 10, .inl o_s))] H := by rw [← e1_, ← e2_]; exact hP
        have hD : va_D A [(q_o, .inr (7, [.int o_thrown', .long o_trace', .ref q_o_text, .int o_typed, .int o_next, .int o_token, .int o_place, .int o_value, .int o_fault, .ref q_o_warmth, .ref q_o_side, .ref q_o_seconds, .int o_members, .int o_pairs, .int o_cold, .int o_fur, .int o_coughs, .int o_draftMembers, .int o_draftPairs, .int o_draftCold, .int o_draftFur, .int o_draftCoughs, .ref q_o_s, .ref q_o_kept, .ref q_o_isKept, .ref q_o_undos, .int o_undoMany, .ref q_o_seenAt, .ref q_o_seen, .int o_seenMany, .ref q_o_board, .ref q_o_pick, .ref q_o_worth, .ref q_o_best, .int o_chosen])), (q_o_seconds, .inl (cI, 12, .inl o_seconds)), (q_o_s, .inl (cI, 10, .inl o_s))] := by rw [← e1_, ← e2_]; exact hD
        exact endMI hx hb hr hlocks rfl hP hD hS e0_ dX8_rate_188
    · have hf := ite_p hf c2
      refine lv_aload_n hx hb dX8_rate_123 rfl (lv_at hl 0 rfl) ?_
      refine va_get (D := D) (ci := 7) (v := .ref q_o_s) (C := RX8) (T := TX8) (N := 35) hx hb hts hinX8 hown hK.1 hP 0 rfl rfl 22 (by decide) g22 (fun _ h9 => h9) rfl dX8_rate_124 ?_
      refine lv_iload_n hx hb dX8_rate_127 rfl (lv_at hl 2 rfl) ?_
      obtain ⟨g9, hf⟩ := ing_some hf
      refine va_iald hx hb hK.1 hP 2 1 rfl rfl g9 dX8_rate_128 ?_
      refine lv_goto (tgt := 188) hx hb dX8_rate_129 (by decide) ?_
      obtain ⟨e0_, e1_, e2_⟩ := tup3 hf
      have hP : va_P D vwCl [(q_o, .inr (7, [.int o_thrown', .long o_trace', .ref q_o_text, .int o_typed, .int o_next, .int o_token, .int o_place, .int o_value, .int o_fault, .ref q_o_warmth, .ref q_o_side, .ref q_o_seconds, .int o_members, .int o_pairs, .int o_cold, .int o_fur, .int o_coughs, .int o_draftMembers, .int o_draftPairs, .int o_draftCold, .int o_draftFur, .int o_draftCoughs, .ref q_o_s, .ref q_o_kept, .ref q_o_isKept, .ref q_o_undos, .int o_undoMany, .ref q_o_seenAt, .ref q_o_seen, .int o_seenMany, .ref q_o_board, .ref q_o_pick, .ref q_o_worth, .ref q_o_best, .int o_chosen])), (q_o_seconds, .inl (cI, 12, .inl o_seconds)), (q_o_s, .inl (cI, 10, .inl o_s))] H := by rw [← e1_, ← e2_]; exact hP
      have hD : va_D A [(q_o, .inr (7, [.int o_thrown', .long o_trace', .ref q_o_text, .int o_typed, .int o_next, .int o_token, .int o_place, .int o_value, .int o_fault, .ref q_o_warmth, .ref q_o_side, .ref q_o_seconds, .int o_members, .int o_pairs, .int o_cold, .int o_fur, .int o_coughs, .int o_draftMembers, .int o_draftPairs, .int o_draftCold, .int o_draftFur, .int o_draftCoughs, .ref q_o_s, .ref q_o_kept, .ref q_o_isKept, .ref q_o_undos, .int o_undoMany, .ref q_o_seenAt, .ref q_o_seen, .int o_seenMany, .ref q_o_board, .ref q_o_pick, .ref q_o_worth, .ref q_o_best, .int o_chosen])), (q_o_seconds, .inl (cI, 12, .inl o_seconds)), (q_o_s, .inl (cI, 10, .inl o_s))] := by rw [← e1_, ← e2_]; exact hD
      exact endMI hx hb hr hlocks rfl hP hD hS e0_ dX8_rate_188
  unfold f_X8_rate at hf
  refine lv_aload_n hx hb dX8_rate_0 rfl (lv_at hl 0 rfl) ?_
  refine lv_iconst (v := 0) hx hb dX8_rate_1 (by decide) ?_
  refine va_put (D := D) (ci := 7) (v := .int 0) (ty := .int) (C := RX8) (T := TX8) (N := 35) hx hb hts hinX8 tyX8 tyX8_ok nmX8 hown hK.1 hP hD hS 0 rfl rfl 0 (by decide) g63 (fun _ h9 => h9) rfl (by decide +kernel) rfl rfl (Nat.le_of_ble_eq_true rfl) dX8_rate_2 (fun H locs hP hD hS => ?_)
  have hP : va_P D vwCl [(q_o, .inr (7, [.int 0, .long o_trace, .ref q_o_text, .int o_typed, .int o_next, .int o_token, .int o_place, .int o_value, .int o_fault, .ref q_o_warmth, .ref q_o_side, .ref q_o_seconds, .int o_members, .int o_pairs, .int o_cold, .int o_fur, .int o_coughs, .int o_draftMembers, .int o_draftPairs, .int o_draftCold, .int o_draftFur, .int o_draftCoughs, .ref q_o_s, .ref q_o_kept, .ref q_o_isKept, .ref q_o_undos, .int o_undoMany, .ref q_o_seenAt, .ref q_o_seen, .int o_seenMany, .ref q_o_board, .ref q_o_pick, .ref q_o_worth, .ref q_o_best, .int o_chosen])), (q_o_seconds, .inl (cI, 12, .inl o_seconds)), (q_o_s, .inl (cI, 10, .inl o_s))] H := hP
  have hD : va_D A [(q_o, .inr (7, [.int 0, .long o_trace, .ref q_o_text, .int o_typed, .int o_next, .int o_token, .int o_place, .int o_value, .int o_fault, .ref q_o_warmth, .ref q_o_side, .ref q_o_seconds, .int o_members, .int o_pairs, .int o_cold, .int o_fur, .int o_coughs, .int o_draftMembers, .int o_draftPairs, .int o_draftCold, .int o_draftFur, .int o_draftCoughs, .ref q_o_s, .ref q_o_kept, .ref q_o_isKept, .ref q_o_undos, .int o_undoMany, .ref q_o_seenAt, .ref q_o_seen, .int o_seenMany, .ref q_o_board, .ref q_o_pick, .ref q_o_worth, .ref q_o_best, .int o_chosen])), (q_o_seconds, .inl (cI, 12, .inl o_seconds)), (q_o_s, .inl (cI, 10, .inl o_s))] := hD
  refine lv_iload_n hx hb dX8_rate_5 rfl (lv_at hl 1 rfl) ?_
  refine lv_iconst (v := 0) hx hb dX8_rate_6 (by decide) ?_
  refine lv_iconst (v := 5) hx hb dX8_rate_7 (by decide) ?_
  obtain ⟨r10, h11, hf⟩ := ob1_some hf
  refine roS (c_X8_in l D cB cI cZ cM cN p1 0 5 r10 h11) hfix (va_cwS 3 hts gX8_rate_X8_in rfl rfl rfl (by decide +kernel) ⟨Nat.le_of_ble_eq_true rfl, Nat.le_of_ble_eq_true rfl⟩) (subC hP [] rfl) hK rfl hl.1 rfl (Nat.le_of_ble_eq_true rfl) dX8_rate_8 ⟨Nat.zero_le _, Nat.zero_le _⟩ ?_
  refine lv_if_eq (tgt := 22) hx hb dX8_rate_11 (by decide) (fun c12 => ?_) (fun c12 => ?_)
  · have hf := ite_p hf c12
    refine lv_ldc (v := (-1000000)) hx hb hown g231 dX8_rate_22 ?_
    obtain ⟨e0_, e1_, e2_⟩ := tup3 hf
    have hP : va_P D vwCl [(q_o, .inr (7, [.int o_thrown', .long o_trace', .ref q_o_text, .int o_typed, .int o_next, .int o_token, .int o_place, .int o_value, .int o_fault, .ref q_o_warmth, .ref q_o_side, .ref q_o_seconds, .int o_members, .int o_pairs, .int o_cold, .int o_fur, .int o_coughs, .int o_draftMembers, .int o_draftPairs, .int o_draftCold, .int o_draftFur, .int o_draftCoughs, .ref q_o_s, .ref q_o_kept, .ref q_o_isKept, .ref q_o_undos, .int o_undoMany, .ref q_o_seenAt, .ref q_o_seen, .int o_seenMany, .ref q_o_board, .ref q_o_pick, .ref q_o_worth, .ref q_o_best, .int o_chosen])), (q_o_seconds, .inl (cI, 12, .inl o_seconds)), (q_o_s, .inl (cI, 10, .inl o_s))] H := by rw [← e1_, ← e2_]; exact hP
    have hD : va_D A [(q_o, .inr (7, [.int o_thrown', .long o_trace', .ref q_o_text, .int o_typed, .int o_next, .int o_token, .int o_place, .int o_value, .int o_fault, .ref q_o_warmth, .ref q_o_side, .ref q_o_seconds, .int o_members, .int o_pairs, .int o_cold, .int o_fur, .int o_coughs, .int o_draftMembers, .int o_draftPairs, .int o_draftCold, .int o_draftFur, .int o_draftCoughs, .ref q_o_s, .ref q_o_kept, .ref q_o_isKept, .ref q_o_undos, .int o_undoMany, .ref q_o_seenAt, .ref q_o_seen, .int o_seenMany, .ref q_o_board, .ref q_o_pick, .ref q_o_worth, .ref q_o_best, .int o_chosen])), (q_o_seconds, .inl (cI, 12, .inl o_seconds)), (q_o_s, .inl (cI, 10, .inl o_s))] := by rw [← e1_, ← e2_]; exact hD
    exact endMI hx hb hr hlocks rfl hP hD hS e0_ dX8_rate_24
  · have hf := ite_n hf c12
    refine lv_aload_n hx hb dX8_rate_14 rfl (lv_at hl 0 rfl) ?_
    refine lv_iload_n hx hb dX8_rate_15 rfl (lv_at hl 2 rfl) ?_
    obtain ⟨r13, h14, hf⟩ := ob1_some hf
    refine roV (c_X8_isMember l D cB cI cZ cM cN q_o q_o_text q_o_warmth q_o_side q_o_seconds q_o_s q_o_kept q_o_isKept q_o_undos q_o_seenAt q_o_seen q_o_board q_o_pick q_o_worth q_o_best 0 o_trace o_typed o_next o_token o_place o_value o_fault o_members o_pairs o_cold o_fur o_coughs o_draftMembers o_draftPairs o_draftCold o_draftFur o_draftCoughs o_undoMany o_seenMany o_chosen p2 r13 h14) hfix (cwV 1 hts gX8_rate_X8_isMember rfl rfl rfl (by decide +kernel) ⟨Nat.le_of_ble_eq_true rfl, Nat.le_of_ble_eq_true rfl⟩) (subC hP [0] rfl) hK rfl rfl rfl rfl hl.1 rfl (Nat.le_of_ble_eq_true rfl) dX8_rate_16 ⟨Nat.zero_le _, Nat.zero_le _⟩ ?_
    refine lv_if_ne (tgt := 25) hx hb dX8_rate_19 (by decide) (fun c15 => ?_) (fun c15 => ?_)
    · have hf := ite_n hf c15
      refine lv_aload_n hx hb dX8_rate_25 rfl (lv_at hl 0 rfl) ?_
      refine va_get (D := D) (ci := 7) (v := .ref q_o_s) (C := RX8) (T := TX8) (N := 35) hx hb hts hinX8 hown hK.1 hP 0 rfl rfl 22 (by decide) g22 (fun _ h9 => h9) rfl dX8_rate_26 ?_
      refine lv_iload_n hx hb dX8_rate_29 rfl (lv_at hl 2 rfl) ?_
      obtain ⟨g16, hf⟩ := ing_some hf
      refine va_iald hx hb hK.1 hP 2 1 rfl rfl g16 dX8_rate_30 ?_
      refine lv_aload_n hx hb dX8_rate_31 rfl (lv_at hl 0 rfl) ?_
      refine va_get (D := D) (ci := 7) (v := .ref q_o_seconds) (C := RX8) (T := TX8) (N := 35) hx hb hts hinX8 hown hK.1 hP 0 rfl rfl 11 (by decide) g19 (fun _ h9 => h9) rfl dX8_rate_32 ?_
      refine lv_iload_n hx hb dX8_rate_35 rfl (lv_at hl 2 rfl) ?_
      obtain ⟨g17, hf⟩ := ing_some hf
      refine va_iald hx hb hK.1 hP 1 1 rfl rfl g17 dX8_rate_36 ?_
      obtain ⟨r18, h19, hf⟩ := ob1_some hf
      refine roS (c_X8_ones l D cB cI cZ cM cN (o_seconds p2.toNatClampNeg) r18 h19) hfix (va_cwS 1 hts gX8_rate_X8_ones rfl rfl rfl (by decide +kernel) ⟨Nat.le_of_ble_eq_true rfl, Nat.le_of_ble_eq_true rfl⟩) (subC hP [] rfl) hK rfl hl.1 rfl (Nat.le_of_ble_eq_true rfl) dX8_rate_37 ⟨Nat.zero_le _, Nat.zero_le _⟩ ?_
      refine lv_iadd hx hb dX8_rate_40 ?_
      refine lv_topi (fun y20 ey20 => ?_)
      have hf := bnd_at hf ey20
      refine lv_istore_n (lv' := [(3, .int y20), (0, .ref q_o), (1, .int p1), (2, .int p2)]) hx hb dX8_rate_41 rfl hl (by decide) rfl (fun ls hl => ?_)
      refine lv_aload_n hx hb dX8_rate_42 rfl (lv_at hl 1 rfl) ?_
      refine va_get (D := D) (ci := 7) (v := .ref q_o_s) (C := RX8) (T := TX8) (N := 35) hx hb hts hinX8 hown hK.1 hP 0 rfl rfl 22 (by decide) g22 (fun _ h9 => h9) rfl dX8_rate_43 ?_
      refine lv_iload_n hx hb dX8_rate_46 rfl (lv_at hl 3 rfl) ?_
      obtain ⟨g21, hf⟩ := ing_some hf
      refine va_iald hx hb hK.1 hP 2 1 rfl rfl g21 dX8_rate_47 ?_
      refine lv_aload_n hx hb dX8_rate_48 rfl (lv_at hl 1 rfl) ?_
      refine va_get (D := D) (ci := 7) (v := .int o_cold) (C := RX8) (T := TX8) (N := 35) hx hb hts hinX8 hown hK.1 hP 0 rfl rfl 14 (by decide) g53 (fun _ h9 => h9) rfl dX8_rate_49 ?_
      refine lv_isub hx hb dX8_rate_52 ?_
      refine lv_topi (fun y22 ey22 => ?_)
      have hf := bnd_at hf ey22
      refine lv_istore (lv' := [(4, .int y22), (3, .int y20), (0, .ref q_o), (1, .int p1), (2, .int p2)]) hx hb dX8_rate_53 hl (by decide) rfl (fun ls hl => ?_)
      refine lv_aload_n hx hb dX8_rate_55 rfl (lv_at hl 2 rfl) ?_
      refine lv_dup hx hb dX8_rate_56 rfl ?_
      refine va_get (D := D) (ci := 7) (v := .long o_trace) (C := RX8) (T := TX8) (N := 35) hx hb hts hinX8 hown hK.1 hP 0 rfl rfl 1 (by decide) g232 (fun _ h9 => h9) rfl dX8_rate_57 ?_
      refine lv_iload_n hx hb dX8_rate_60 rfl (lv_at hl 3 rfl) ?_
      refine lv_if_ne (tgt := 68) hx hb dX8_rate_61 (by decide) (fun c23 => ?_) (fun c23 => ?_)
      · have hf := ite_n hf c23
        refine lv_iload_n hx hb dX8_rate_68 rfl (lv_at hl 3 rfl) ?_
        refine lv_iconst (v := 1) hx hb dX8_rate_69 (by decide) ?_
        refine lv_icmp_ne (tgt := 79) hx hb dX8_rate_70 (by decide) (fun c24 => ?_) (fun c24 => ?_)
        · have hf := ite_n hf c24
          refine lv_iload_n hx hb dX8_rate_79 rfl (lv_at hl 3 rfl) ?_
          refine lv_iconst (v := 2) hx hb dX8_rate_80 (by decide) ?_
          refine lv_icmp_ne (tgt := 90) hx hb dX8_rate_81 (by decide) (fun c25 => ?_) (fun c25 => ?_)
          · have hf := ite_n hf c25
            refine lv_iload_n hx hb dX8_rate_90 rfl (lv_at hl 3 rfl) ?_
            refine lv_iconst (v := 3) hx hb dX8_rate_91 (by decide) ?_
            refine lv_icmp_ne (tgt := 101) hx hb dX8_rate_92 (by decide) (fun c26 => ?_) (fun c26 => ?_)
            · have hf := ite_n hf c26
              refine lv_iload_n hx hb dX8_rate_101 rfl (lv_at hl 3 rfl) ?_
              refine lv_iconst (v := 4) hx hb dX8_rate_102 (by decide) ?_
              refine lv_icmp_ne (tgt := 112) hx hb dX8_rate_103 (by decide) (fun c27 => ?_) (fun c27 => ?_)
              · have hf := ite_n hf c27
                refine lv_ldc2 (v := 100001) hx hb hown g244 dX8_rate_112 ?_
                exact L115 p1 p2 y20 y22 o_trace 100001 0 o_trace _ _ ls hf hP hD hS (lv_sub hl [2, 3, 4, 1, 0] rfl)
              · have hf := ite_p hf c27
                refine lv_ldc2 (v := 10101) hx hb hown g242 dX8_rate_106 ?_
                refine lv_goto (tgt := 115) hx hb dX8_rate_109 (by decide) ?_
                exact L115 p1 p2 y20 y22 o_trace 10101 0 o_trace _ _ ls hf hP hD hS (lv_sub hl [2, 3, 4, 1, 0] rfl)
            · have hf := ite_p hf c26
              refine lv_ldc2 (v := 1011) hx hb hown g240 dX8_rate_95 ?_
              refine lv_goto (tgt := 115) hx hb dX8_rate_98 (by decide) ?_
              exact L115 p1 p2 y20 y22 o_trace 1011 0 o_trace _ _ ls hf hP hD hS (lv_sub hl [2, 3, 4, 1, 0] rfl)
          · have hf := ite_p hf c25
            refine lv_ldc2 (v := 101) hx hb hown g238 dX8_rate_84 ?_
            refine lv_goto (tgt := 115) hx hb dX8_rate_87 (by decide) ?_
            exact L115 p1 p2 y20 y22 o_trace 101 0 o_trace _ _ ls hf hP hD hS (lv_sub hl [2, 3, 4, 1, 0] rfl)
        · have hf := ite_p hf c24
          refine lv_ldc2 (v := 11) hx hb hown g236 dX8_rate_73 ?_
          refine lv_goto (tgt := 115) hx hb dX8_rate_76 (by decide) ?_
          exact L115 p1 p2 y20 y22 o_trace 11 0 o_trace _ _ ls hf hP hD hS (lv_sub hl [2, 3, 4, 1, 0] rfl)
      · have hf := ite_p hf c23
        refine lv_lconst (v := 1) hx hb dX8_rate_64 (by decide) ?_
        refine lv_goto (tgt := 115) hx hb dX8_rate_65 (by decide) ?_
        exact L115 p1 p2 y20 y22 o_trace 1 0 o_trace _ _ ls hf hP hD hS (lv_sub hl [2, 3, 4, 1, 0] rfl)
    · have hf := ite_p hf c15
      refine lv_ldc (v := (-1000000)) hx hb hown g231 dX8_rate_22 ?_
      obtain ⟨e0_, e1_, e2_⟩ := tup3 hf
      have hP : va_P D vwCl [(q_o, .inr (7, [.int o_thrown', .long o_trace', .ref q_o_text, .int o_typed, .int o_next, .int o_token, .int o_place, .int o_value, .int o_fault, .ref q_o_warmth, .ref q_o_side, .ref q_o_seconds, .int o_members, .int o_pairs, .int o_cold, .int o_fur, .int o_coughs, .int o_draftMembers, .int o_draftPairs, .int o_draftCold, .int o_draftFur, .int o_draftCoughs, .ref q_o_s, .ref q_o_kept, .ref q_o_isKept, .ref q_o_undos, .int o_undoMany, .ref q_o_seenAt, .ref q_o_seen, .int o_seenMany, .ref q_o_board, .ref q_o_pick, .ref q_o_worth, .ref q_o_best, .int o_chosen])), (q_o_seconds, .inl (cI, 12, .inl o_seconds)), (q_o_s, .inl (cI, 10, .inl o_s))] H := by rw [← e1_, ← e2_]; exact hP
      have hD : va_D A [(q_o, .inr (7, [.int o_thrown', .long o_trace', .ref q_o_text, .int o_typed, .int o_next, .int o_token, .int o_place, .int o_value, .int o_fault, .ref q_o_warmth, .ref q_o_side, .ref q_o_seconds, .int o_members, .int o_pairs, .int o_cold, .int o_fur, .int o_coughs, .int o_draftMembers, .int o_draftPairs, .int o_draftCold, .int o_draftFur, .int o_draftCoughs, .ref q_o_s, .ref q_o_kept, .ref q_o_isKept, .ref q_o_undos, .int o_undoMany, .ref q_o_seenAt, .ref q_o_seen, .int o_seenMany, .ref q_o_board, .ref q_o_pick, .ref q_o_worth, .ref q_o_best, .int o_chosen])), (q_o_seconds, .inl (cI, 12, .inl o_seconds)), (q_o_s, .inl (cI, 10, .inl o_s))] := by rw [← e1_, ← e2_]; exact hD
      exact endMI hx hb hr hlocks rfl hP hD hS e0_ dX8_rate_24
def f_X8_keep_18_b (o_s : Nat → Int32) (K18 : Int32 → Int32 → Int32 → (Nat → Int32) → (Nat → Int32) → (Option (Int32 × Int32 × (Nat → Int32) × (Nat → Int32)))) (x1 : Int32) (x2 : Int32) (o_thrown : Int32) (o_kept : Nat → Int32) (o_isKept : Nat → Int32) : Option (Int32 × Int32 × (Nat → Int32) × (Nat → Int32)) :=
  if (10 : Int32) ≤ x2 then (
    ing x1 2 <|
    bnd (upd o_isKept x1.toNatClampNeg (vp_nar .boolean 1)) fun w3 =>
    ing 8 10 <|
    some (o_s (8 : Int32).toNatClampNeg, o_thrown, o_kept, w3)
  ) else (
    ing x2 10 <|
    ing ((10 * x1) + x2) 20 <|
    bnd (upd o_kept ((10 * x1) + x2).toNatClampNeg (o_s x2.toNatClampNeg)) fun w7 =>
    bnd (x2 + 1) fun y8 =>
    K18 x1 y8 o_thrown w7 o_isKept
  )
def f_X8_keep_18 (o_s : Nat → Int32) : Nat → Int32 → Int32 → Int32 → (Nat → Int32) → (Nat → Int32) → (Option (Int32 × Int32 × (Nat → Int32) × (Nat → Int32)))
  | 0 => fun _ _ _ _ _ => none
  | n + 1 => f_X8_keep_18_b o_s (f_X8_keep_18 o_s n)
def f_X8_keep (o_s : Nat → Int32) (o_thrown : Int32) (o_kept : Nat → Int32) (o_isKept : Nat → Int32) (p1 : Int32) : Option (Int32 × Int32 × (Nat → Int32) × (Nat → Int32)) :=
  ob1 (f_X8_in p1 0 1) fun r9 =>
  if r9 = 0 then (
    some ((-1), 0, o_kept, o_isKept)
  ) else (
    f_X8_keep_18 o_s FU p1 0 0 o_kept o_isKept
  )
set_option maxHeartbeats 4000000 in
set_option maxRecDepth 100000 in
theorem c_X8_keep (l : Launch) (D : va_G) (cB cI cZ cM cN : ClassId) (q_o : Nat) (q_o_text : Nat) (q_o_warmth : Nat) (q_o_side : Nat) (q_o_seconds : Nat) (q_o_s : Nat) (q_o_kept : Nat) (q_o_isKept : Nat) (q_o_undos : Nat) (q_o_seenAt : Nat) (q_o_seen : Nat) (q_o_board : Nat) (q_o_pick : Nat) (q_o_worth : Nat) (q_o_best : Nat) (o_thrown : Int32) (o_trace : Int64) (o_typed : Int32) (o_next : Int32) (o_token : Int32) (o_place : Int32) (o_value : Int32) (o_fault : Int32) (o_members : Int32) (o_pairs : Int32) (o_cold : Int32) (o_fur : Int32) (o_coughs : Int32) (o_draftMembers : Int32) (o_draftPairs : Int32) (o_draftCold : Int32) (o_draftFur : Int32) (o_draftCoughs : Int32) (o_undoMany : Int32) (o_seenMany : Int32) (o_chosen : Int32) (o_kept : Nat → Int32) (o_s : Nat → Int32) (o_isKept : Nat → Int32) (p1 : Int32) (r : Int32) (o_thrown' : Int32) (o_kept' : Nat → Int32) (o_isKept' : Nat → Int32) (sz : Nat) (hf : f_X8_keep o_s o_thrown o_kept o_isKept p1 = some (r, o_thrown', o_kept', o_isKept')) : Met l yX8_keep wsX8_keep ({ frames := 1, cells := 0, slots := 0, locals := 22 } : Room) (PM D cB cI cZ cM cN [.ref q_o, .int p1] [(q_o, .inr (7, [.int o_thrown, .long o_trace, .ref q_o_text, .int o_typed, .int o_next, .int o_token, .int o_place, .int o_value, .int o_fault, .ref q_o_warmth, .ref q_o_side, .ref q_o_seconds, .int o_members, .int o_pairs, .int o_cold, .int o_fur, .int o_coughs, .int o_draftMembers, .int o_draftPairs, .int o_draftCold, .int o_draftFur, .int o_draftCoughs, .ref q_o_s, .ref q_o_kept, .ref q_o_isKept, .ref q_o_undos, .int o_undoMany, .ref q_o_seenAt, .ref q_o_seen, .int o_seenMany, .ref q_o_board, .ref q_o_pick, .ref q_o_worth, .ref q_o_best, .int o_chosen])), (q_o_kept, .inl (cI, 20, .inl o_kept)), (q_o_s, .inl (cI, 10, .inl o_s)), (q_o_isKept, .inl (cZ, 2, .inl o_isKept))] sz) (QI D [(q_o, .inr (7, [.int o_thrown', .long o_trace, .ref q_o_text, .int o_typed, .int o_next, .int o_token, .int o_place, .int o_value, .int o_fault, .ref q_o_warmth, .ref q_o_side, .ref q_o_seconds, .int o_members, .int o_pairs, .int o_cold, .int o_fur, .int o_coughs, .int o_draftMembers, .int o_draftPairs, .int o_draftCold, .int o_draftFur, .int o_draftCoughs, .ref q_o_s, .ref q_o_kept, .ref q_o_isKept, .ref q_o_undos, .int o_undoMany, .ref q_o_seenAt, .ref q_o_seen, .int o_seenMany, .ref q_o_board, .ref q_o_pick, .ref q_o_worth, .ref q_o_best, .int o_chosen])), (q_o_kept, .inl (cI, 20, .inl o_kept')), (q_o_s, .inl (cI, 10, .inl o_s)), (q_o_isKept, .inl (cZ, 2, .inl o_isKept'))] r (va_A [(q_o, .inr (7, [.int o_thrown, .long o_trace, .ref q_o_text, .int o_typed, .int o_next, .int o_token, .int o_place, .int o_value, .int o_fault, .ref q_o_warmth, .ref q_o_side, .ref q_o_seconds, .int o_members, .int o_pairs, .int o_cold, .int o_fur, .int o_coughs, .int o_draftMembers, .int o_draftPairs, .int o_draftCold, .int o_draftFur, .int o_draftCoughs, .ref q_o_s, .ref q_o_kept, .ref q_o_isKept, .ref q_o_undos, .int o_undoMany, .ref q_o_seenAt, .ref q_o_seen, .int o_seenMany, .ref q_o_board, .ref q_o_pick, .ref q_o_worth, .ref q_o_best, .int o_chosen])), (q_o_kept, .inl (cI, 20, .inl o_kept)), (q_o_s, .inl (cI, 10, .inl o_s)), (q_o_isKept, .inl (cZ, 2, .inl o_isKept))] sz)) 0 0 (va_A [(q_o, .inr (7, [.int o_thrown, .long o_trace, .ref q_o_text, .int o_typed, .int o_next, .int o_token, .int o_place, .int o_value, .int o_fault, .ref q_o_warmth, .ref q_o_side, .ref q_o_seconds, .int o_members, .int o_pairs, .int o_cold, .int o_fur, .int o_coughs, .int o_draftMembers, .int o_draftPairs, .int o_draftCold, .int o_draftFur, .int o_draftCoughs, .ref q_o_s, .ref q_o_kept, .ref q_o_isKept, .ref q_o_undos, .int o_undoMany, .ref q_o_seenAt, .ref q_o_seen, .int o_seenMany, .ref q_o_board, .ref q_o_pick, .ref q_o_worth, .ref q_o_best, .int o_chosen])), (q_o_kept, .inl (cI, 20, .inl o_kept)), (q_o_s, .inl (cI, 10, .inl o_s)), (q_o_isKept, .inl (cZ, 2, .inl o_isKept))] sz) := by
  refine entM (l := l) (y := yX8_keep) (ws := wsX8_keep) (cc := cX8_keep) (av := [.ref q_o, .int p1]) (wc := [(q_o, .inr (7, [.int o_thrown, .long o_trace, .ref q_o_text, .int o_typed, .int o_next, .int o_token, .int o_place, .int o_value, .int o_fault, .ref q_o_warmth, .ref q_o_side, .ref q_o_seconds, .int o_members, .int o_pairs, .int o_cold, .int o_fur, .int o_coughs, .int o_draftMembers, .int o_draftPairs, .int o_draftCold, .int o_draftFur, .int o_draftCoughs, .ref q_o_s, .ref q_o_kept, .ref q_o_isKept, .ref q_o_undos, .int o_undoMany, .ref q_o_seenAt, .ref q_o_seen, .int o_seenMany, .ref q_o_board, .ref q_o_pick, .ref q_o_worth, .ref q_o_best, .int o_chosen])), (q_o_kept, .inl (cI, 20, .inl o_kept)), (q_o_s, .inl (cI, 10, .inl o_s)), (q_o_isKept, .inl (cZ, 2, .inl o_isKept))]) (sz := sz) (Qc := fun A => QI D [(q_o, .inr (7, [.int o_thrown', .long o_trace, .ref q_o_text, .int o_typed, .int o_next, .int o_token, .int o_place, .int o_value, .int o_fault, .ref q_o_warmth, .ref q_o_side, .ref q_o_seconds, .int o_members, .int o_pairs, .int o_cold, .int o_fur, .int o_coughs, .int o_draftMembers, .int o_draftPairs, .int o_draftCold, .int o_draftFur, .int o_draftCoughs, .ref q_o_s, .ref q_o_kept, .ref q_o_isKept, .ref q_o_undos, .int o_undoMany, .ref q_o_seenAt, .ref q_o_seen, .int o_seenMany, .ref q_o_board, .ref q_o_pick, .ref q_o_worth, .ref q_o_best, .int o_chosen])), (q_o_kept, .inl (cI, 20, .inl o_kept')), (q_o_s, .inl (cI, 10, .inl o_s)), (q_o_isKept, .inl (cZ, 2, .inl o_isKept'))] r A) (by decide +kernel) rfl (Nat.le_of_ble_eq_true rfl) ?_
  intro A p e s m below meth c hx hb hr hml hown hlocks hts hK hA H locs hP hD hS ls hl
  have hown : s.vm.findClass RX8 = some m.cls := hown
  have hl : lv_has ls 3 [(0, .ref q_o), (1, .int p1)] := hl
  have hfix : CallFix p m c cX8_keep 3 s ([.ref q_o, .int p1] : List Value).toArray wsX8_keep RX8 := ⟨hx, hb, hml, hown, hts⟩
  have hinX8 : ∀ w ∈ u_ws RX8 TX8 35, w ∈ wsX8_keep := by decide +kernel
  have g28 := hts (.fieldLink RX8 28 "LastCoatModel" "isKept" "[Z") (by decide +kernel)
  have g22 := hts (.fieldLink RX8 22 "LastCoatModel" "s" "[I") (by decide +kernel)
  have g25 := hts (.fieldLink RX8 25 "LastCoatModel" "kept" "[I") (by decide +kernel)
  have g63 := hts (.fieldLink RX8 63 "LastCoatModel" "thrown" "I") (by decide +kernel)
  have L18 : ∀ (n18 : Nat) (x1 : Int32) (x2 : Int32) (o_thrown : Int32) (o_kept : Nat → Int32) (o_isKept : Nat → Int32) (H : Heap) (locs : List Loc) (ls : Array Slot), f_X8_keep_18 o_s n18 x1 x2 o_thrown o_kept o_isKept = some (r, o_thrown', o_kept', o_isKept') → va_P D vwCl [(q_o, .inr (7, [.int o_thrown, .long o_trace, .ref q_o_text, .int o_typed, .int o_next, .int o_token, .int o_place, .int o_value, .int o_fault, .ref q_o_warmth, .ref q_o_side, .ref q_o_seconds, .int o_members, .int o_pairs, .int o_cold, .int o_fur, .int o_coughs, .int o_draftMembers, .int o_draftPairs, .int o_draftCold, .int o_draftFur, .int o_draftCoughs, .ref q_o_s, .ref q_o_kept, .ref q_o_isKept, .ref q_o_undos, .int o_undoMany, .ref q_o_seenAt, .ref q_o_seen, .int o_seenMany, .ref q_o_board, .ref q_o_pick, .ref q_o_worth, .ref q_o_best, .int o_chosen])), (q_o_kept, .inl (cI, 20, .inl o_kept)), (q_o_s, .inl (cI, 10, .inl o_s)), (q_o_isKept, .inl (cZ, 2, .inl o_isKept))] H → va_D A [(q_o, .inr (7, [.int o_thrown, .long o_trace, .ref q_o_text, .int o_typed, .int o_next, .int o_token, .int o_place, .int o_value, .int o_fault, .ref q_o_warmth, .ref q_o_side, .ref q_o_seconds, .int o_members, .int o_pairs, .int o_cold, .int o_fur, .int o_coughs, .int o_draftMembers, .int o_draftPairs, .int o_draftCold, .int o_draftFur, .int o_draftCoughs, .ref q_o_s, .ref q_o_kept, .ref q_o_isKept, .ref q_o_undos, .int o_undoMany, .ref q_o_seenAt, .ref q_o_seen, .int o_seenMany, .ref q_o_board, .ref q_o_pick, .ref q_o_worth, .ref q_o_best, .int o_chosen])), (q_o_kept, .inl (cI, 20, .inl o_kept)), (q_o_s, .inl (cI, 10, .inl o_s)), (q_o_isKept, .inl (cZ, 2, .inl o_isKept))] → va_S A s.heap H locs → lv_has ls 3 [(0, .ref q_o), (1, .int x1), (2, .int x2)] → W p l e ({ frames := 1, cells := 0, slots := 0, locals := 22 } : Room) s m ([.ref q_o, .int p1] : List Value).toArray below meth c H locs 0 0 (MQ below (QI D [(q_o, .inr (7, [.int o_thrown', .long o_trace, .ref q_o_text, .int o_typed, .int o_next, .int o_token, .int o_place, .int o_value, .int o_fault, .ref q_o_warmth, .ref q_o_side, .ref q_o_seconds, .int o_members, .int o_pairs, .int o_cold, .int o_fur, .int o_coughs, .int o_draftMembers, .int o_draftPairs, .int o_draftCold, .int o_draftFur, .int o_draftCoughs, .ref q_o_s, .ref q_o_kept, .ref q_o_isKept, .ref q_o_undos, .int o_undoMany, .ref q_o_seenAt, .ref q_o_seen, .int o_seenMany, .ref q_o_board, .ref q_o_pick, .ref q_o_worth, .ref q_o_best, .int o_chosen])), (q_o_kept, .inl (cI, 20, .inl o_kept')), (q_o_s, .inl (cI, 10, .inl o_s)), (q_o_isKept, .inl (cZ, 2, .inl o_isKept'))] r A) ([.ref q_o, .int p1] : List Value).toArray s 0 0 A) (F0 m 18 ls []) := by
    intro n18
    induction n18 with
    | zero =>
      intro x1 x2 o_thrown o_kept o_isKept H locs ls hf hP hD hS hl
      exact noneNe hf
    | succ n18 ih18 =>
      intro x1 x2 o_thrown o_kept o_isKept H locs ls hf hP hD hS hl
      have hf : f_X8_keep_18_b o_s (f_X8_keep_18 o_s n18) x1 x2 o_thrown o_kept o_isKept = some (r, o_thrown', o_kept', o_isKept') := hf
      unfold f_X8_keep_18_b at hf
      refine lv_iload_n hx hb dX8_keep_18 rfl (lv_at hl 2 rfl) ?_
      refine lv_bipush (v := 10) hx hb dX8_keep_19 (by decide) ?_
      refine lv_icmp_ge (tgt := 47) hx hb dX8_keep_21 (by decide) (fun c1 => ?_) (fun c1 => ?_)
      · have hf := ite_p hf c1
        refine lv_aload_n hx hb dX8_keep_47 rfl (lv_at hl 0 rfl) ?_
        refine va_get (D := D) (ci := 7) (v := .ref q_o_isKept) (C := RX8) (T := TX8) (N := 35) hx hb hts hinX8 hown hK.1 hP 0 rfl rfl 24 (by decide) g28 (fun _ h9 => h9) rfl dX8_keep_48 ?_
        refine lv_iload_n hx hb dX8_keep_51 rfl (lv_at hl 1 rfl) ?_
        refine lv_iconst (v := 1) hx hb dX8_keep_52 (by decide) ?_
        obtain ⟨g2, hf⟩ := ing_some hf
        refine va_zast hx hb hK.1 hP hD hS 3 2 rfl rfl g2 dX8_keep_53 (fun H locs hP hD hS => ?_)
        obtain ⟨w3, ew3⟩ : ∃ z : Nat → Int32, z = upd o_isKept x1.toNatClampNeg (vp_nar .boolean 1) := ⟨_, rfl⟩
        have hf := bnd_at hf ew3
        have hP : va_P D vwCl [(q_o, .inr (7, [.int o_thrown, .long o_trace, .ref q_o_text, .int o_typed, .int o_next, .int o_token, .int o_place, .int o_value, .int o_fault, .ref q_o_warmth, .ref q_o_side, .ref q_o_seconds, .int o_members, .int o_pairs, .int o_cold, .int o_fur, .int o_coughs, .int o_draftMembers, .int o_draftPairs, .int o_draftCold, .int o_draftFur, .int o_draftCoughs, .ref q_o_s, .ref q_o_kept, .ref q_o_isKept, .ref q_o_undos, .int o_undoMany, .ref q_o_seenAt, .ref q_o_seen, .int o_seenMany, .ref q_o_board, .ref q_o_pick, .ref q_o_worth, .ref q_o_best, .int o_chosen])), (q_o_kept, .inl (cI, 20, .inl o_kept)), (q_o_s, .inl (cI, 10, .inl o_s)), (q_o_isKept, .inl (cZ, 2, .inl w3))] H := by rw [ew3]; exact hP
        have hD : va_D A [(q_o, .inr (7, [.int o_thrown, .long o_trace, .ref q_o_text, .int o_typed, .int o_next, .int o_token, .int o_place, .int o_value, .int o_fault, .ref q_o_warmth, .ref q_o_side, .ref q_o_seconds, .int o_members, .int o_pairs, .int o_cold, .int o_fur, .int o_coughs, .int o_draftMembers, .int o_draftPairs, .int o_draftCold, .int o_draftFur, .int o_draftCoughs, .ref q_o_s, .ref q_o_kept, .ref q_o_isKept, .ref q_o_undos, .int o_undoMany, .ref q_o_seenAt, .ref q_o_seen, .int o_seenMany, .ref q_o_board, .ref q_o_pick, .ref q_o_worth, .ref q_o_best, .int o_chosen])), (q_o_kept, .inl (cI, 20, .inl o_kept)), (q_o_s, .inl (cI, 10, .inl o_s)), (q_o_isKept, .inl (cZ, 2, .inl w3))] := by rw [ew3]; exact hD
        refine lv_aload_n hx hb dX8_keep_54 rfl (lv_at hl 0 rfl) ?_
        refine va_get (D := D) (ci := 7) (v := .ref q_o_s) (C := RX8) (T := TX8) (N := 35) hx hb hts hinX8 hown hK.1 hP 0 rfl rfl 22 (by decide) g22 (fun _ h9 => h9) rfl dX8_keep_55 ?_
        refine lv_bipush (v := 8) hx hb dX8_keep_58 (by decide) ?_
        obtain ⟨g4, hf⟩ := ing_some hf
        refine va_iald hx hb hK.1 hP 2 1 rfl rfl g4 dX8_keep_60 ?_
        obtain ⟨e0_, e1_, e2_, e3_⟩ := tup4 hf
        have hP : va_P D vwCl [(q_o, .inr (7, [.int o_thrown', .long o_trace, .ref q_o_text, .int o_typed, .int o_next, .int o_token, .int o_place, .int o_value, .int o_fault, .ref q_o_warmth, .ref q_o_side, .ref q_o_seconds, .int o_members, .int o_pairs, .int o_cold, .int o_fur, .int o_coughs, .int o_draftMembers, .int o_draftPairs, .int o_draftCold, .int o_draftFur, .int o_draftCoughs, .ref q_o_s, .ref q_o_kept, .ref q_o_isKept, .ref q_o_undos, .int o_undoMany, .ref q_o_seenAt, .ref q_o_seen, .int o_seenMany, .ref q_o_board, .ref q_o_pick, .ref q_o_worth, .ref q_o_best, .int o_chosen])), (q_o_kept, .inl (cI, 20, .inl o_kept')), (q_o_s, .inl (cI, 10, .inl o_s)), (q_o_isKept, .inl (cZ, 2, .inl o_isKept'))] H := by rw [← e1_, ← e2_, ← e3_]; exact hP
        have hD : va_D A [(q_o, .inr (7, [.int o_thrown', .long o_trace, .ref q_o_text, .int o_typed, .int o_next, .int o_token, .int o_place, .int o_value, .int o_fault, .ref q_o_warmth, .ref q_o_side, .ref q_o_seconds, .int o_members, .int o_pairs, .int o_cold, .int o_fur, .int o_coughs, .int o_draftMembers, .int o_draftPairs, .int o_draftCold, .int o_draftFur, .int o_draftCoughs, .ref q_o_s, .ref q_o_kept, .ref q_o_isKept, .ref q_o_undos, .int o_undoMany, .ref q_o_seenAt, .ref q_o_seen, .int o_seenMany, .ref q_o_board, .ref q_o_pick, .ref q_o_worth, .ref q_o_best, .int o_chosen])), (q_o_kept, .inl (cI, 20, .inl o_kept')), (q_o_s, .inl (cI, 10, .inl o_s)), (q_o_isKept, .inl (cZ, 2, .inl o_isKept'))] := by rw [← e1_, ← e2_, ← e3_]; exact hD
        exact endMI hx hb hr hlocks rfl hP hD hS e0_ dX8_keep_61
      · have hf := ite_n hf c1
        refine lv_aload_n hx hb dX8_keep_24 rfl (lv_at hl 0 rfl) ?_
        refine va_get (D := D) (ci := 7) (v := .ref q_o_kept) (C := RX8) (T := TX8) (N := 35) hx hb hts hinX8 hown hK.1 hP 0 rfl rfl 23 (by decide) g25 (fun _ h9 => h9) rfl dX8_keep_25 ?_
        refine lv_bipush (v := 10) hx hb dX8_keep_28 (by decide) ?_
        refine lv_iload_n hx hb dX8_keep_30 rfl (lv_at hl 1 rfl) ?_
        refine lv_imul hx hb dX8_keep_31 ?_
        refine lv_iload_n hx hb dX8_keep_32 rfl (lv_at hl 2 rfl) ?_
        refine lv_iadd hx hb dX8_keep_33 ?_
        refine lv_aload_n hx hb dX8_keep_34 rfl (lv_at hl 0 rfl) ?_
        refine va_get (D := D) (ci := 7) (v := .ref q_o_s) (C := RX8) (T := TX8) (N := 35) hx hb hts hinX8 hown hK.1 hP 0 rfl rfl 22 (by decide) g22 (fun _ h9 => h9) rfl dX8_keep_35 ?_
        refine lv_iload_n hx hb dX8_keep_38 rfl (lv_at hl 2 rfl) ?_
        obtain ⟨g5, hf⟩ := ing_some hf
        refine va_iald hx hb hK.1 hP 2 1 rfl rfl g5 dX8_keep_39 ?_
        obtain ⟨g6, hf⟩ := ing_some hf
        refine va_iast hx hb hK.1 hP hD hS 1 1 rfl rfl g6 dX8_keep_40 (fun H locs hP hD hS => ?_)
        obtain ⟨w7, ew7⟩ : ∃ z : Nat → Int32, z = upd o_kept ((10 * x1) + x2).toNatClampNeg (o_s x2.toNatClampNeg) := ⟨_, rfl⟩
        have hf := bnd_at hf ew7
        have hP : va_P D vwCl [(q_o, .inr (7, [.int o_thrown, .long o_trace, .ref q_o_text, .int o_typed, .int o_next, .int o_token, .int o_place, .int o_value, .int o_fault, .ref q_o_warmth, .ref q_o_side, .ref q_o_seconds, .int o_members, .int o_pairs, .int o_cold, .int o_fur, .int o_coughs, .int o_draftMembers, .int o_draftPairs, .int o_draftCold, .int o_draftFur, .int o_draftCoughs, .ref q_o_s, .ref q_o_kept, .ref q_o_isKept, .ref q_o_undos, .int o_undoMany, .ref q_o_seenAt, .ref q_o_seen, .int o_seenMany, .ref q_o_board, .ref q_o_pick, .ref q_o_worth, .ref q_o_best, .int o_chosen])), (q_o_kept, .inl (cI, 20, .inl w7)), (q_o_s, .inl (cI, 10, .inl o_s)), (q_o_isKept, .inl (cZ, 2, .inl o_isKept))] H := by rw [ew7]; exact hP
        have hD : va_D A [(q_o, .inr (7, [.int o_thrown, .long o_trace, .ref q_o_text, .int o_typed, .int o_next, .int o_token, .int o_place, .int o_value, .int o_fault, .ref q_o_warmth, .ref q_o_side, .ref q_o_seconds, .int o_members, .int o_pairs, .int o_cold, .int o_fur, .int o_coughs, .int o_draftMembers, .int o_draftPairs, .int o_draftCold, .int o_draftFur, .int o_draftCoughs, .ref q_o_s, .ref q_o_kept, .ref q_o_isKept, .ref q_o_undos, .int o_undoMany, .ref q_o_seenAt, .ref q_o_seen, .int o_seenMany, .ref q_o_board, .ref q_o_pick, .ref q_o_worth, .ref q_o_best, .int o_chosen])), (q_o_kept, .inl (cI, 20, .inl w7)), (q_o_s, .inl (cI, 10, .inl o_s)), (q_o_isKept, .inl (cZ, 2, .inl o_isKept))] := by rw [ew7]; exact hD
        obtain ⟨y8, ey8⟩ : ∃ z : Int32, z = x2 + 1 := ⟨_, rfl⟩
        have hf := bnd_at hf ey8
        refine lv_iinc (v := y8) (lv' := [(2, .int y8), (0, .ref q_o), (1, .int x1)]) hx hb dX8_keep_41 hl (k := 2) rfl (by rw [ey8]; rfl) (by decide) rfl (fun ls hl => ?_)
        refine lv_goto (tgt := 18) hx hb dX8_keep_44 (by decide) ?_
        exact ih18 x1 y8 o_thrown w7 o_isKept _ _ ls hf hP hD hS (lv_sub hl [1, 2, 0] rfl)
  unfold f_X8_keep at hf
  refine lv_aload_n hx hb dX8_keep_0 rfl (lv_at hl 0 rfl) ?_
  refine lv_iconst (v := 0) hx hb dX8_keep_1 (by decide) ?_
  refine va_put (D := D) (ci := 7) (v := .int 0) (ty := .int) (C := RX8) (T := TX8) (N := 35) hx hb hts hinX8 tyX8 tyX8_ok nmX8 hown hK.1 hP hD hS 0 rfl rfl 0 (by decide) g63 (fun _ h9 => h9) rfl (by decide +kernel) rfl rfl (Nat.le_of_ble_eq_true rfl) dX8_keep_2 (fun H locs hP hD hS => ?_)
  have hP : va_P D vwCl [(q_o, .inr (7, [.int 0, .long o_trace, .ref q_o_text, .int o_typed, .int o_next, .int o_token, .int o_place, .int o_value, .int o_fault, .ref q_o_warmth, .ref q_o_side, .ref q_o_seconds, .int o_members, .int o_pairs, .int o_cold, .int o_fur, .int o_coughs, .int o_draftMembers, .int o_draftPairs, .int o_draftCold, .int o_draftFur, .int o_draftCoughs, .ref q_o_s, .ref q_o_kept, .ref q_o_isKept, .ref q_o_undos, .int o_undoMany, .ref q_o_seenAt, .ref q_o_seen, .int o_seenMany, .ref q_o_board, .ref q_o_pick, .ref q_o_worth, .ref q_o_best, .int o_chosen])), (q_o_kept, .inl (cI, 20, .inl o_kept)), (q_o_s, .inl (cI, 10, .inl o_s)), (q_o_isKept, .inl (cZ, 2, .inl o_isKept))] H := hP
  have hD : va_D A [(q_o, .inr (7, [.int 0, .long o_trace, .ref q_o_text, .int o_typed, .int o_next, .int o_token, .int o_place, .int o_value, .int o_fault, .ref q_o_warmth, .ref q_o_side, .ref q_o_seconds, .int o_members, .int o_pairs, .int o_cold, .int o_fur, .int o_coughs, .int o_draftMembers, .int o_draftPairs, .int o_draftCold, .int o_draftFur, .int o_draftCoughs, .ref q_o_s, .ref q_o_kept, .ref q_o_isKept, .ref q_o_undos, .int o_undoMany, .ref q_o_seenAt, .ref q_o_seen, .int o_seenMany, .ref q_o_board, .ref q_o_pick, .ref q_o_worth, .ref q_o_best, .int o_chosen])), (q_o_kept, .inl (cI, 20, .inl o_kept)), (q_o_s, .inl (cI, 10, .inl o_s)), (q_o_isKept, .inl (cZ, 2, .inl o_isKept))] := hD
  refine lv_iload_n hx hb dX8_keep_5 rfl (lv_at hl 1 rfl) ?_
  refine lv_iconst (v := 0) hx hb dX8_keep_6 (by decide) ?_
  refine lv_iconst (v := 1) hx hb dX8_keep_7 (by decide) ?_
  obtain ⟨r9, h10, hf⟩ := ob1_some hf
  refine roS (c_X8_in l D cB cI cZ cM cN p1 0 1 r9 h10) hfix (va_cwS 3 hts gX8_keep_X8_in rfl rfl rfl (by decide +kernel) ⟨Nat.le_of_ble_eq_true rfl, Nat.le_of_ble_eq_true rfl⟩) (subC hP [] rfl) hK rfl hl.1 rfl (Nat.le_of_ble_eq_true rfl) dX8_keep_8 ⟨Nat.zero_le _, Nat.zero_le _⟩ ?_
  refine lv_if_ne (tgt := 16) hx hb dX8_keep_11 (by decide) (fun c11 => ?_) (fun c11 => ?_)
  · have hf := ite_n hf c11
    refine lv_iconst (v := 0) hx hb dX8_keep_16 (by decide) ?_
    refine lv_istore_n (lv' := [(2, .int 0), (0, .ref q_o), (1, .int p1)]) hx hb dX8_keep_17 rfl hl (by decide) rfl (fun ls hl => ?_)
    exact L18 FU p1 0 0 o_kept o_isKept _ _ ls hf hP hD hS (lv_sub hl [1, 2, 0] rfl)
  · have hf := ite_p hf c11
    refine lv_iconst (v := (-1)) hx hb dX8_keep_14 (by decide) ?_
    obtain ⟨e0_, e1_, e2_, e3_⟩ := tup4 hf
    have hP : va_P D vwCl [(q_o, .inr (7, [.int o_thrown', .long o_trace, .ref q_o_text, .int o_typed, .int o_next, .int o_token, .int o_place, .int o_value, .int o_fault, .ref q_o_warmth, .ref q_o_side, .ref q_o_seconds, .int o_members, .int o_pairs, .int o_cold, .int o_fur, .int o_coughs, .int o_draftMembers, .int o_draftPairs, .int o_draftCold, .int o_draftFur, .int o_draftCoughs, .ref q_o_s, .ref q_o_kept, .ref q_o_isKept, .ref q_o_undos, .int o_undoMany, .ref q_o_seenAt, .ref q_o_seen, .int o_seenMany, .ref q_o_board, .ref q_o_pick, .ref q_o_worth, .ref q_o_best, .int o_chosen])), (q_o_kept, .inl (cI, 20, .inl o_kept')), (q_o_s, .inl (cI, 10, .inl o_s)), (q_o_isKept, .inl (cZ, 2, .inl o_isKept'))] H := by rw [← e1_, ← e2_, ← e3_]; exact hP
    have hD : va_D A [(q_o, .inr (7, [.int o_thrown', .long o_trace, .ref q_o_text, .int o_typed, .int o_next, .int o_token, .int o_place, .int o_value, .int o_fault, .ref q_o_warmth, .ref q_o_side, .ref q_o_seconds, .int o_members, .int o_pairs, .int o_cold, .int o_fur, .int o_coughs, .int o_draftMembers, .int o_draftPairs, .int o_draftCold, .int o_draftFur, .int o_draftCoughs, .ref q_o_s, .ref q_o_kept, .ref q_o_isKept, .ref q_o_undos, .int o_undoMany, .ref q_o_seenAt, .ref q_o_seen, .int o_seenMany, .ref q_o_board, .ref q_o_pick, .ref q_o_worth, .ref q_o_best, .int o_chosen])), (q_o_kept, .inl (cI, 20, .inl o_kept')), (q_o_s, .inl (cI, 10, .inl o_s)), (q_o_isKept, .inl (cZ, 2, .inl o_isKept'))] := by rw [← e1_, ← e2_, ← e3_]; exact hD
    exact endMI hx hb hr hlocks rfl hP hD hS e0_ dX8_keep_15
def f_X8_back_30_b (o_kept : Nat → Int32) (o_isKept : Nat → Int32) (K30 : Int32 → Int32 → Int32 → Int32 → (Nat → Int32) → (Option (Int32 × Int32 × Int32 × (Nat → Int32)))) (x1 : Int32) (x2 : Int32) (o_thrown : Int32) (o_undoMany : Int32) (o_s : Nat → Int32) : Option (Int32 × Int32 × Int32 × (Nat → Int32)) :=
  if (10 : Int32) ≤ x2 then (
    ing 8 10 <|
    some (o_s (8 : Int32).toNatClampNeg, o_thrown, 0, o_s)
  ) else (
    ing ((10 * x1) + x2) 20 <|
    ing x2 10 <|
    bnd (upd o_s x2.toNatClampNeg (o_kept ((10 * x1) + x2).toNatClampNeg)) fun w5 =>
    bnd (x2 + 1) fun y6 =>
    K30 x1 y6 o_thrown o_undoMany w5
  )
def f_X8_back_30 (o_kept : Nat → Int32) (o_isKept : Nat → Int32) : Nat → Int32 → Int32 → Int32 → Int32 → (Nat → Int32) → (Option (Int32 × Int32 × Int32 × (Nat → Int32)))
  | 0 => fun _ _ _ _ _ => none
  | n + 1 => f_X8_back_30_b o_kept o_isKept (f_X8_back_30 o_kept o_isKept n)
def f_X8_back (o_kept : Nat → Int32) (o_isKept : Nat → Int32) (o_thrown : Int32) (o_undoMany : Int32) (o_s : Nat → Int32) (p1 : Int32) : Option (Int32 × Int32 × Int32 × (Nat → Int32)) :=
  ob1 (f_X8_in p1 0 1) fun r7 =>
  if r7 = 0 then (
    some ((-1), 0, o_undoMany, o_s)
  ) else (
    ing p1 2 <|
    if (o_isKept p1.toNatClampNeg) = 0 then (
      some ((-2), 0, o_undoMany, o_s)
    ) else (
      f_X8_back_30 o_kept o_isKept FU p1 0 0 o_undoMany o_s
    )
  )
set_option maxHeartbeats 4000000 in
set_option maxRecDepth 100000 in
theorem c_X8_back (l : Launch) (D : va_G) (cB cI cZ cM cN : ClassId) (q_o : Nat) (q_o_text : Nat) (q_o_warmth : Nat) (q_o_side : Nat) (q_o_seconds : Nat) (q_o_s : Nat) (q_o_kept : Nat) (q_o_isKept : Nat) (q_o_undos : Nat) (q_o_seenAt : Nat) (q_o_seen : Nat) (q_o_board : Nat) (q_o_pick : Nat) (q_o_worth : Nat) (q_o_best : Nat) (o_thrown : Int32) (o_trace : Int64) (o_typed : Int32) (o_next : Int32) (o_token : Int32) (o_place : Int32) (o_value : Int32) (o_fault : Int32) (o_members : Int32) (o_pairs : Int32) (o_cold : Int32) (o_fur : Int32) (o_coughs : Int32) (o_draftMembers : Int32) (o_draftPairs : Int32) (o_draftCold : Int32) (o_draftFur : Int32) (o_draftCoughs : Int32) (o_undoMany : Int32) (o_seenMany : Int32) (o_chosen : Int32) (o_kept : Nat → Int32) (o_s : Nat → Int32) (o_isKept : Nat → Int32) (p1 : Int32) (r : Int32) (o_thrown' : Int32) (o_undoMany' : Int32) (o_s' : Nat → Int32) (sz : Nat) (hf : f_X8_back o_kept o_isKept o_thrown o_undoMany o_s p1 = some (r, o_thrown', o_undoMany', o_s')) : Met l yX8_back wsX8_back ({ frames := 1, cells := 0, slots := 0, locals := 22 } : Room) (PM D cB cI cZ cM cN [.ref q_o, .int p1] [(q_o, .inr (7, [.int o_thrown, .long o_trace, .ref q_o_text, .int o_typed, .int o_next, .int o_token, .int o_place, .int o_value, .int o_fault, .ref q_o_warmth, .ref q_o_side, .ref q_o_seconds, .int o_members, .int o_pairs, .int o_cold, .int o_fur, .int o_coughs, .int o_draftMembers, .int o_draftPairs, .int o_draftCold, .int o_draftFur, .int o_draftCoughs, .ref q_o_s, .ref q_o_kept, .ref q_o_isKept, .ref q_o_undos, .int o_undoMany, .ref q_o_seenAt, .ref q_o_seen, .int o_seenMany, .ref q_o_board, .ref q_o_pick, .ref q_o_worth, .ref q_o_best, .int o_chosen])), (q_o_kept, .inl (cI, 20, .inl o_kept)), (q_o_s, .inl (cI, 10, .inl o_s)), (q_o_isKept, .inl (cZ, 2, .inl o_isKept))] sz) (QI D [(q_o, .inr (7, [.int o_thrown', .long o_trace, .ref q_o_text, .int o_typed, .int o_next, .int o_token, .int o_place, .int o_value, .int o_fault, .ref q_o_warmth, .ref q_o_side, .ref q_o_seconds, .int o_members, .int o_pairs, .int o_cold, .int o_fur, .int o_coughs, .int o_draftMembers, .int o_draftPairs, .int o_draftCold, .int o_draftFur, .int o_draftCoughs, .ref q_o_s, .ref q_o_kept, .ref q_o_isKept, .ref q_o_undos, .int o_undoMany', .ref q_o_seenAt, .ref q_o_seen, .int o_seenMany, .ref q_o_board, .ref q_o_pick, .ref q_o_worth, .ref q_o_best, .int o_chosen])), (q_o_kept, .inl (cI, 20, .inl o_kept)), (q_o_s, .inl (cI, 10, .inl o_s')), (q_o_isKept, .inl (cZ, 2, .inl o_isKept))] r (va_A [(q_o, .inr (7, [.int o_thrown, .long o_trace, .ref q_o_text, .int o_typed, .int o_next, .int o_token, .int o_place, .int o_value, .int o_fault, .ref q_o_warmth, .ref q_o_side, .ref q_o_seconds, .int o_members, .int o_pairs, .int o_cold, .int o_fur, .int o_coughs, .int o_draftMembers, .int o_draftPairs, .int o_draftCold, .int o_draftFur, .int o_draftCoughs, .ref q_o_s, .ref q_o_kept, .ref q_o_isKept, .ref q_o_undos, .int o_undoMany, .ref q_o_seenAt, .ref q_o_seen, .int o_seenMany, .ref q_o_board, .ref q_o_pick, .ref q_o_worth, .ref q_o_best, .int o_chosen])), (q_o_kept, .inl (cI, 20, .inl o_kept)), (q_o_s, .inl (cI, 10, .inl o_s)), (q_o_isKept, .inl (cZ, 2, .inl o_isKept))] sz)) 0 0 (va_A [(q_o, .inr (7, [.int o_thrown, .long o_trace, .ref q_o_text, .int o_typed, .int o_next, .int o_token, .int o_place, .int o_value, .int o_fault, .ref q_o_warmth, .ref q_o_side, .ref q_o_seconds, .int o_members, .int o_pairs, .int o_cold, .int o_fur, .int o_coughs, .int o_draftMembers, .int o_draftPairs, .int o_draftCold, .int o_draftFur, .int o_draftCoughs, .ref q_o_s, .ref q_o_kept, .ref q_o_isKept, .ref q_o_undos, .int o_undoMany, .ref q_o_seenAt, .ref q_o_seen, .int o_seenMany, .ref q_o_board, .ref q_o_pick, .ref q_o_worth, .ref q_o_best, .int o_chosen])), (q_o_kept, .inl (cI, 20, .inl o_kept)), (q_o_s, .inl (cI, 10, .inl o_s)), (q_o_isKept, .inl (cZ, 2, .inl o_isKept))] sz) := by
  refine entM (l := l) (y := yX8_back) (ws := wsX8_back) (cc := cX8_back) (av := [.ref q_o, .int p1]) (wc := [(q_o, .inr (7, [.int o_thrown, .long o_trace, .ref q_o_text, .int o_typed, .int o_next, .int o_token, .int o_place, .int o_value, .int o_fault, .ref q_o_warmth, .ref q_o_side, .ref q_o_seconds, .int o_members, .int o_pairs, .int o_cold, .int o_fur, .int o_coughs, .int o_draftMembers, .int o_draftPairs, .int o_draftCold, .int o_draftFur, .int o_draftCoughs, .ref q_o_s, .ref q_o_kept, .ref q_o_isKept, .ref q_o_undos, .int o_undoMany, .ref q_o_seenAt, .ref q_o_seen, .int o_seenMany, .ref q_o_board, .ref q_o_pick, .ref q_o_worth, .ref q_o_best, .int o_chosen])), (q_o_kept, .inl (cI, 20, .inl o_kept)), (q_o_s, .inl (cI, 10, .inl o_s)), (q_o_isKept, .inl (cZ, 2, .inl o_isKept))]) (sz := sz) (Qc := fun A => QI D [(q_o, .inr (7, [.int o_thrown', .long o_trace, .ref q_o_text, .int o_typed, .int o_next, .int o_token, .int o_place, .int o_value, .int o_fault, .ref q_o_warmth, .ref q_o_side, .ref q_o_seconds, .int o_members, .int o_pairs, .int o_cold, .int o_fur, .int o_coughs, .int o_draftMembers, .int o_draftPairs, .int o_draftCold, .int o_draftFur, .int o_draftCoughs, .ref q_o_s, .ref q_o_kept, .ref q_o_isKept, .ref q_o_undos, .int o_undoMany', .ref q_o_seenAt, .ref q_o_seen, .int o_seenMany, .ref q_o_board, .ref q_o_pick, .ref q_o_worth, .ref q_o_best, .int o_chosen])), (q_o_kept, .inl (cI, 20, .inl o_kept)), (q_o_s, .inl (cI, 10, .inl o_s')), (q_o_isKept, .inl (cZ, 2, .inl o_isKept))] r A) (by decide +kernel) rfl (Nat.le_of_ble_eq_true rfl) ?_
  intro A p e s m below meth c hx hb hr hml hown hlocks hts hK hA H locs hP hD hS ls hl
  have hown : s.vm.findClass RX8 = some m.cls := hown
  have hl : lv_has ls 3 [(0, .ref q_o), (1, .int p1)] := hl
  have hfix : CallFix p m c cX8_back 3 s ([.ref q_o, .int p1] : List Value).toArray wsX8_back RX8 := ⟨hx, hb, hml, hown, hts⟩
  have hinX8 : ∀ w ∈ u_ws RX8 TX8 35, w ∈ wsX8_back := by decide +kernel
  have g157 := hts (.fieldLink RX8 157 "LastCoatModel" "undoMany" "I") (by decide +kernel)
  have g22 := hts (.fieldLink RX8 22 "LastCoatModel" "s" "[I") (by decide +kernel)
  have g25 := hts (.fieldLink RX8 25 "LastCoatModel" "kept" "[I") (by decide +kernel)
  have g63 := hts (.fieldLink RX8 63 "LastCoatModel" "thrown" "I") (by decide +kernel)
  have g28 := hts (.fieldLink RX8 28 "LastCoatModel" "isKept" "[Z") (by decide +kernel)
  have L30 : ∀ (n30 : Nat) (x1 : Int32) (x2 : Int32) (o_thrown : Int32) (o_undoMany : Int32) (o_s : Nat → Int32) (H : Heap) (locs : List Loc) (ls : Array Slot), f_X8_back_30 o_kept o_isKept n30 x1 x2 o_thrown o_undoMany o_s = some (r, o_thrown', o_undoMany', o_s') → va_P D vwCl [(q_o, .inr (7, [.int o_thrown, .long o_trace, .ref q_o_text, .int o_typed, .int o_next, .int o_token, .int o_place, .int o_value, .int o_fault, .ref q_o_warmth, .ref q_o_side, .ref q_o_seconds, .int o_members, .int o_pairs, .int o_cold, .int o_fur, .int o_coughs, .int o_draftMembers, .int o_draftPairs, .int o_draftCold, .int o_draftFur, .int o_draftCoughs, .ref q_o_s, .ref q_o_kept, .ref q_o_isKept, .ref q_o_undos, .int o_undoMany, .ref q_o_seenAt, .ref q_o_seen, .int o_seenMany, .ref q_o_board, .ref q_o_pick, .ref q_o_worth, .ref q_o_best, .int o_chosen])), (q_o_kept, .inl (cI, 20, .inl o_kept)), (q_o_s, .inl (cI, 10, .inl o_s)), (q_o_isKept, .inl (cZ, 2, .inl o_isKept))] H → va_D A [(q_o, .inr (7, [.int o_thrown, .long o_trace, .ref q_o_text, .int o_typed, .int o_next, .int o_token, .int o_place, .int o_value, .int o_fault, .ref q_o_warmth, .ref q_o_side, .ref q_o_seconds, .int o_members, .int o_pairs, .int o_cold, .int o_fur, .int o_coughs, .int o_draftMembers, .int o_draftPairs, .int o_draftCold, .int o_draftFur, .int o_draftCoughs, .ref q_o_s, .ref q_o_kept, .ref q_o_isKept, .ref q_o_undos, .int o_undoMany, .ref q_o_seenAt, .ref q_o_seen, .int o_seenMany, .ref q_o_board, .ref q_o_pick, .ref q_o_worth, .ref q_o_best, .int o_chosen])), (q_o_kept, .inl (cI, 20, .inl o_kept)), (q_o_s, .inl (cI, 10, .inl o_s)), (q_o_isKept, .inl (cZ, 2, .inl o_isKept))] → va_S A s.heap H locs → lv_has ls 3 [(0, .ref q_o), (1, .int x1), (2, .int x2)] → W p l e ({ frames := 1, cells := 0, slots := 0, locals := 22 } : Room) s m ([.ref q_o, .int p1] : List Value).toArray below meth c H locs 0 0 (MQ below (QI D [(q_o, .inr (7, [.int o_thrown', .long o_trace, .ref q_o_text, .int o_typed, .int o_next, .int o_token, .int o_place, .int o_value, .int o_fault, .ref q_o_warmth, .ref q_o_side, .ref q_o_seconds, .int o_members, .int o_pairs, .int o_cold, .int o_fur, .int o_coughs, .int o_draftMembers, .int o_draftPairs, .int o_draftCold, .int o_draftFur, .int o_draftCoughs, .ref q_o_s, .ref q_o_kept, .ref q_o_isKept, .ref q_o_undos, .int o_undoMany', .ref q_o_seenAt, .ref q_o_seen, .int o_seenMany, .ref q_o_board, .ref q_o_pick, .ref q_o_worth, .ref q_o_best, .int o_chosen])), (q_o_kept, .inl (cI, 20, .inl o_kept)), (q_o_s, .inl (cI, 10, .inl o_s')), (q_o_isKept, .inl (cZ, 2, .inl o_isKept))] r A) ([.ref q_o, .int p1] : List Value).toArray s 0 0 A) (F0 m 30 ls []) := by
    intro n30
    induction n30 with
    | zero =>
      intro x1 x2 o_thrown o_undoMany o_s H locs ls hf hP hD hS hl
      exact noneNe hf
    | succ n30 ih30 =>
      intro x1 x2 o_thrown o_undoMany o_s H locs ls hf hP hD hS hl
      have hf : f_X8_back_30_b o_kept o_isKept (f_X8_back_30 o_kept o_isKept n30) x1 x2 o_thrown o_undoMany o_s = some (r, o_thrown', o_undoMany', o_s') := hf
      unfold f_X8_back_30_b at hf
      refine lv_iload_n hx hb dX8_back_30 rfl (lv_at hl 2 rfl) ?_
      refine lv_bipush (v := 10) hx hb dX8_back_31 (by decide) ?_
      refine lv_icmp_ge (tgt := 59) hx hb dX8_back_33 (by decide) (fun c1 => ?_) (fun c1 => ?_)
      · have hf := ite_p hf c1
        refine lv_aload_n hx hb dX8_back_59 rfl (lv_at hl 0 rfl) ?_
        refine lv_iconst (v := 0) hx hb dX8_back_60 (by decide) ?_
        refine va_put (D := D) (ci := 7) (v := .int 0) (ty := .int) (C := RX8) (T := TX8) (N := 35) hx hb hts hinX8 tyX8 tyX8_ok nmX8 hown hK.1 hP hD hS 0 rfl rfl 26 (by decide) g157 (fun _ h9 => h9) rfl (by decide +kernel) rfl rfl (Nat.le_of_ble_eq_true rfl) dX8_back_61 (fun H locs hP hD hS => ?_)
        have hP : va_P D vwCl [(q_o, .inr (7, [.int o_thrown, .long o_trace, .ref q_o_text, .int o_typed, .int o_next, .int o_token, .int o_place, .int o_value, .int o_fault, .ref q_o_warmth, .ref q_o_side, .ref q_o_seconds, .int o_members, .int o_pairs, .int o_cold, .int o_fur, .int o_coughs, .int o_draftMembers, .int o_draftPairs, .int o_draftCold, .int o_draftFur, .int o_draftCoughs, .ref q_o_s, .ref q_o_kept, .ref q_o_isKept, .ref q_o_undos, .int 0, .ref q_o_seenAt, .ref q_o_seen, .int o_seenMany, .ref q_o_board, .ref q_o_pick, .ref q_o_worth, .ref q_o_best, .int o_chosen])), (q_o_kept, .inl (cI, 20, .inl o_kept)), (q_o_s, .inl (cI, 10, .inl o_s)), (q_o_isKept, .inl (cZ, 2, .inl o_isKept))] H := hP
        have hD : va_D A [(q_o, .inr (7, [.int o_thrown, .long o_trace, .ref q_o_text, .int o_typed, .int o_next, .int o_token, .int o_place, .int o_value, .int o_fault, .ref q_o_warmth, .ref q_o_side, .ref q_o_seconds, .int o_members, .int o_pairs, .int o_cold, .int o_fur, .int o_coughs, .int o_draftMembers, .int o_draftPairs, .int o_draftCold, .int o_draftFur, .int o_draftCoughs, .ref q_o_s, .ref q_o_kept, .ref q_o_isKept, .ref q_o_undos, .int 0, .ref q_o_seenAt, .ref q_o_seen, .int o_seenMany, .ref q_o_board, .ref q_o_pick, .ref q_o_worth, .ref q_o_best, .int o_chosen])), (q_o_kept, .inl (cI, 20, .inl o_kept)), (q_o_s, .inl (cI, 10, .inl o_s)), (q_o_isKept, .inl (cZ, 2, .inl o_isKept))] := hD
        refine lv_aload_n hx hb dX8_back_64 rfl (lv_at hl 0 rfl) ?_
        refine va_get (D := D) (ci := 7) (v := .ref q_o_s) (C := RX8) (T := TX8) (N := 35) hx hb hts hinX8 hown hK.1 hP 0 rfl rfl 22 (by decide) g22 (fun _ h9 => h9) rfl dX8_back_65 ?_
        refine lv_bipush (v := 8) hx hb dX8_back_68 (by decide) ?_
        obtain ⟨g2, hf⟩ := ing_some hf
        refine va_iald hx hb hK.1 hP 2 1 rfl rfl g2 dX8_back_70 ?_
        obtain ⟨e0_, e1_, e2_, e3_⟩ := tup4 hf
        have hP : va_P D vwCl [(q_o, .inr (7, [.int o_thrown', .long o_trace, .ref q_o_text, .int o_typed, .int o_next, .int o_token, .int o_place, .int o_value, .int o_fault, .ref q_o_warmth, .ref q_o_side, .ref q_o_seconds, .int o_members, .int o_pairs, .int o_cold, .int o_fur, .int o_coughs, .int o_draftMembers, .int o_draftPairs, .int o_draftCold, .int o_draftFur, .int o_draftCoughs, .ref q_o_s, .ref q_o_kept, .ref q_o_isKept, .ref q_o_undos, .int o_undoMany', .ref q_o_seenAt, .ref q_o_seen, .int o_seenMany, .ref q_o_board, .ref q_o_pick, .ref q_o_worth, .ref q_o_best, .int o_chosen])), (q_o_kept, .inl (cI, 20, .inl o_kept)), (q_o_s, .inl (cI, 10, .inl o_s')), (q_o_isKept, .inl (cZ, 2, .inl o_isKept))] H := by rw [← e1_, ← e2_, ← e3_]; exact hP
        have hD : va_D A [(q_o, .inr (7, [.int o_thrown', .long o_trace, .ref q_o_text, .int o_typed, .int o_next, .int o_token, .int o_place, .int o_value, .int o_fault, .ref q_o_warmth, .ref q_o_side, .ref q_o_seconds, .int o_members, .int o_pairs, .int o_cold, .int o_fur, .int o_coughs, .int o_draftMembers, .int o_draftPairs, .int o_draftCold, .int o_draftFur, .int o_draftCoughs, .ref q_o_s, .ref q_o_kept, .ref q_o_isKept, .ref q_o_undos, .int o_undoMany', .ref q_o_seenAt, .ref q_o_seen, .int o_seenMany, .ref q_o_board, .ref q_o_pick, .ref q_o_worth, .ref q_o_best, .int o_chosen])), (q_o_kept, .inl (cI, 20, .inl o_kept)), (q_o_s, .inl (cI, 10, .inl o_s')), (q_o_isKept, .inl (cZ, 2, .inl o_isKept))] := by rw [← e1_, ← e2_, ← e3_]; exact hD
        exact endMI hx hb hr hlocks rfl hP hD hS e0_ dX8_back_71
      · have hf := ite_n hf c1
        refine lv_aload_n hx hb dX8_back_36 rfl (lv_at hl 0 rfl) ?_
        refine va_get (D := D) (ci := 7) (v := .ref q_o_s) (C := RX8) (T := TX8) (N := 35) hx hb hts hinX8 hown hK.1 hP 0 rfl rfl 22 (by decide) g22 (fun _ h9 => h9) rfl dX8_back_37 ?_
        refine lv_iload_n hx hb dX8_back_40 rfl (lv_at hl 2 rfl) ?_
        refine lv_aload_n hx hb dX8_back_41 rfl (lv_at hl 0 rfl) ?_
        refine va_get (D := D) (ci := 7) (v := .ref q_o_kept) (C := RX8) (T := TX8) (N := 35) hx hb hts hinX8 hown hK.1 hP 0 rfl rfl 23 (by decide) g25 (fun _ h9 => h9) rfl dX8_back_42 ?_
        refine lv_bipush (v := 10) hx hb dX8_back_45 (by decide) ?_
        refine lv_iload_n hx hb dX8_back_47 rfl (lv_at hl 1 rfl) ?_
        refine lv_imul hx hb dX8_back_48 ?_
        refine lv_iload_n hx hb dX8_back_49 rfl (lv_at hl 2 rfl) ?_
        refine lv_iadd hx hb dX8_back_50 ?_
        obtain ⟨g3, hf⟩ := ing_some hf
        refine va_iald hx hb hK.1 hP 1 1 rfl rfl g3 dX8_back_51 ?_
        obtain ⟨g4, hf⟩ := ing_some hf
        refine va_iast hx hb hK.1 hP hD hS 2 1 rfl rfl g4 dX8_back_52 (fun H locs hP hD hS => ?_)
        obtain ⟨w5, ew5⟩ : ∃ z : Nat → Int32, z = upd o_s x2.toNatClampNeg (o_kept ((10 * x1) + x2).toNatClampNeg) := ⟨_, rfl⟩
        have hf := bnd_at hf ew5
        have hP : va_P D vwCl [(q_o, .inr (7, [.int o_thrown, .long o_trace, .ref q_o_text, .int o_typed, .int o_next, .int o_token, .int o_place, .int o_value, .int o_fault, .ref q_o_warmth, .ref q_o_side, .ref q_o_seconds, .int o_members, .int o_pairs, .int o_cold, .int o_fur, .int o_coughs, .int o_draftMembers, .int o_draftPairs, .int o_draftCold, .int o_draftFur, .int o_draftCoughs, .ref q_o_s, .ref q_o_kept, .ref q_o_isKept, .ref q_o_undos, .int o_undoMany, .ref q_o_seenAt, .ref q_o_seen, .int o_seenMany, .ref q_o_board, .ref q_o_pick, .ref q_o_worth, .ref q_o_best, .int o_chosen])), (q_o_kept, .inl (cI, 20, .inl o_kept)), (q_o_s, .inl (cI, 10, .inl w5)), (q_o_isKept, .inl (cZ, 2, .inl o_isKept))] H := by rw [ew5]; exact hP
        have hD : va_D A [(q_o, .inr (7, [.int o_thrown, .long o_trace, .ref q_o_text, .int o_typed, .int o_next, .int o_token, .int o_place, .int o_value, .int o_fault, .ref q_o_warmth, .ref q_o_side, .ref q_o_seconds, .int o_members, .int o_pairs, .int o_cold, .int o_fur, .int o_coughs, .int o_draftMembers, .int o_draftPairs, .int o_draftCold, .int o_draftFur, .int o_draftCoughs, .ref q_o_s, .ref q_o_kept, .ref q_o_isKept, .ref q_o_undos, .int o_undoMany, .ref q_o_seenAt, .ref q_o_seen, .int o_seenMany, .ref q_o_board, .ref q_o_pick, .ref q_o_worth, .ref q_o_best, .int o_chosen])), (q_o_kept, .inl (cI, 20, .inl o_kept)), (q_o_s, .inl (cI, 10, .inl w5)), (q_o_isKept, .inl (cZ, 2, .inl o_isKept))] := by rw [ew5]; exact hD
        obtain ⟨y6, ey6⟩ : ∃ z : Int32, z = x2 + 1 := ⟨_, rfl⟩
        have hf := bnd_at hf ey6
        refine lv_iinc (v := y6) (lv' := [(2, .int y6), (0, .ref q_o), (1, .int x1)]) hx hb dX8_back_53 hl (k := 2) rfl (by rw [ey6]; rfl) (by decide) rfl (fun ls hl => ?_)
        refine lv_goto (tgt := 30) hx hb dX8_back_56 (by decide) ?_
        exact ih30 x1 y6 o_thrown o_undoMany w5 _ _ ls hf hP hD hS (lv_sub hl [1, 2, 0] rfl)
  unfold f_X8_back at hf
  refine lv_aload_n hx hb dX8_back_0 rfl (lv_at hl 0 rfl) ?_
  refine lv_iconst (v := 0) hx hb dX8_back_1 (by decide) ?_
  refine va_put (D := D) (ci := 7) (v := .int 0) (ty := .int) (C := RX8) (T := TX8) (N := 35) hx hb hts hinX8 tyX8 tyX8_ok nmX8 hown hK.1 hP hD hS 0 rfl rfl 0 (by decide) g63 (fun _ h9 => h9) rfl (by decide +kernel) rfl rfl (Nat.le_of_ble_eq_true rfl) dX8_back_2 (fun H locs hP hD hS => ?_)
  have hP : va_P D vwCl [(q_o, .inr (7, [.int 0, .long o_trace, .ref q_o_text, .int o_typed, .int o_next, .int o_token, .int o_place, .int o_value, .int o_fault, .ref q_o_warmth, .ref q_o_side, .ref q_o_seconds, .int o_members, .int o_pairs, .int o_cold, .int o_fur, .int o_coughs, .int o_draftMembers, .int o_draftPairs, .int o_draftCold, .int o_draftFur, .int o_draftCoughs, .ref q_o_s, .ref q_o_kept, .ref q_o_isKept, .ref q_o_undos, .int o_undoMany, .ref q_o_seenAt, .ref q_o_seen, .int o_seenMany, .ref q_o_board, .ref q_o_pick, .ref q_o_worth, .ref q_o_best, .int o_chosen])), (q_o_kept, .inl (cI, 20, .inl o_kept)), (q_o_s, .inl (cI, 10, .inl o_s)), (q_o_isKept, .inl (cZ, 2, .inl o_isKept))] H := hP
  have hD : va_D A [(q_o, .inr (7, [.int 0, .long o_trace, .ref q_o_text, .int o_typed, .int o_next, .int o_token, .int o_place, .int o_value, .int o_fault, .ref q_o_warmth, .ref q_o_side, .ref q_o_seconds, .int o_members, .int o_pairs, .int o_cold, .int o_fur, .int o_coughs, .int o_draftMembers, .int o_draftPairs, .int o_draftCold, .int o_draftFur, .int o_draftCoughs, .ref q_o_s, .ref q_o_kept, .ref q_o_isKept, .ref q_o_undos, .int o_undoMany, .ref q_o_seenAt, .ref q_o_seen, .int o_seenMany, .ref q_o_board, .ref q_o_pick, .ref q_o_worth, .ref q_o_best, .int o_chosen])), (q_o_kept, .inl (cI, 20, .inl o_kept)), (q_o_s, .inl (cI, 10, .inl o_s)), (q_o_isKept, .inl (cZ, 2, .inl o_isKept))] := hD
  refine lv_iload_n hx hb dX8_back_5 rfl (lv_at hl 1 rfl) ?_
  refine lv_iconst (v := 0) hx hb dX8_back_6 (by decide) ?_
  refine lv_iconst (v := 1) hx hb dX8_back_7 (by decide) ?_
  obtain ⟨r7, h8, hf⟩ := ob1_some hf
  refine roS (c_X8_in l D cB cI cZ cM cN p1 0 1 r7 h8) hfix (va_cwS 3 hts gX8_back_X8_in rfl rfl rfl (by decide +kernel) ⟨Nat.le_of_ble_eq_true rfl, Nat.le_of_ble_eq_true rfl⟩) (subC hP [] rfl) hK rfl hl.1 rfl (Nat.le_of_ble_eq_true rfl) dX8_back_8 ⟨Nat.zero_le _, Nat.zero_le _⟩ ?_
  refine lv_if_ne (tgt := 16) hx hb dX8_back_11 (by decide) (fun c9 => ?_) (fun c9 => ?_)
  · have hf := ite_n hf c9
    refine lv_aload_n hx hb dX8_back_16 rfl (lv_at hl 0 rfl) ?_
    refine va_get (D := D) (ci := 7) (v := .ref q_o_isKept) (C := RX8) (T := TX8) (N := 35) hx hb hts hinX8 hown hK.1 hP 0 rfl rfl 24 (by decide) g28 (fun _ h9 => h9) rfl dX8_back_17 ?_
    refine lv_iload_n hx hb dX8_back_20 rfl (lv_at hl 1 rfl) ?_
    obtain ⟨g10, hf⟩ := ing_some hf
    refine va_zald hx hb hK.1 hP 3 2 rfl rfl g10 dX8_back_21 ?_
    refine lv_if_ne (tgt := 28) hx hb dX8_back_22 (by decide) (fun c11 => ?_) (fun c11 => ?_)
    · have hf := ite_n hf c11
      refine lv_iconst (v := 0) hx hb dX8_back_28 (by decide) ?_
      refine lv_istore_n (lv' := [(2, .int 0), (0, .ref q_o), (1, .int p1)]) hx hb dX8_back_29 rfl hl (by decide) rfl (fun ls hl => ?_)
      exact L30 FU p1 0 0 o_undoMany o_s _ _ ls hf hP hD hS (lv_sub hl [1, 2, 0] rfl)
    · have hf := ite_p hf c11
      refine lv_bipush (v := (-2)) hx hb dX8_back_25 (by decide) ?_
      obtain ⟨e0_, e1_, e2_, e3_⟩ := tup4 hf
      have hP : va_P D vwCl [(q_o, .inr (7, [.int o_thrown', .long o_trace, .ref q_o_text, .int o_typed, .int o_next, .int o_token, .int o_place, .int o_value, .int o_fault, .ref q_o_warmth, .ref q_o_side, .ref q_o_seconds, .int o_members, .int o_pairs, .int o_cold, .int o_fur, .int o_coughs, .int o_draftMembers, .int o_draftPairs, .int o_draftCold, .int o_draftFur, .int o_draftCoughs, .ref q_o_s, .ref q_o_kept, .ref q_o_isKept, .ref q_o_undos, .int o_undoMany', .ref q_o_seenAt, .ref q_o_seen, .int o_seenMany, .ref q_o_board, .ref q_o_pick, .ref q_o_worth, .ref q_o_best, .int o_chosen])), (q_o_kept, .inl (cI, 20, .inl o_kept)), (q_o_s, .inl (cI, 10, .inl o_s')), (q_o_isKept, .inl (cZ, 2, .inl o_isKept))] H := by rw [← e1_, ← e2_, ← e3_]; exact hP
      have hD : va_D A [(q_o, .inr (7, [.int o_thrown', .long o_trace, .ref q_o_text, .int o_typed, .int o_next, .int o_token, .int o_place, .int o_value, .int o_fault, .ref q_o_warmth, .ref q_o_side, .ref q_o_seconds, .int o_members, .int o_pairs, .int o_cold, .int o_fur, .int o_coughs, .int o_draftMembers, .int o_draftPairs, .int o_draftCold, .int o_draftFur, .int o_draftCoughs, .ref q_o_s, .ref q_o_kept, .ref q_o_isKept, .ref q_o_undos, .int o_undoMany', .ref q_o_seenAt, .ref q_o_seen, .int o_seenMany, .ref q_o_board, .ref q_o_pick, .ref q_o_worth, .ref q_o_best, .int o_chosen])), (q_o_kept, .inl (cI, 20, .inl o_kept)), (q_o_s, .inl (cI, 10, .inl o_s')), (q_o_isKept, .inl (cZ, 2, .inl o_isKept))] := by rw [← e1_, ← e2_, ← e3_]; exact hD
      exact endMI hx hb hr hlocks rfl hP hD hS e0_ dX8_back_27
  · have hf := ite_p hf c9
    refine lv_iconst (v := (-1)) hx hb dX8_back_14 (by decide) ?_
    obtain ⟨e0_, e1_, e2_, e3_⟩ := tup4 hf
    have hP : va_P D vwCl [(q_o, .inr (7, [.int o_thrown', .long o_trace, .ref q_o_text, .int o_typed, .int o_next, .int o_token, .int o_place, .int o_value, .int o_fault, .ref q_o_warmth, .ref q_o_side, .ref q_o_seconds, .int o_members, .int o_pairs, .int o_cold, .int o_fur, .int o_coughs, .int o_draftMembers, .int o_draftPairs, .int o_draftCold, .int o_draftFur, .int o_draftCoughs, .ref q_o_s, .ref q_o_kept, .ref q_o_isKept, .ref q_o_undos, .int o_undoMany', .ref q_o_seenAt, .ref q_o_seen, .int o_seenMany, .ref q_o_board, .ref q_o_pick, .ref q_o_worth, .ref q_o_best, .int o_chosen])), (q_o_kept, .inl (cI, 20, .inl o_kept)), (q_o_s, .inl (cI, 10, .inl o_s')), (q_o_isKept, .inl (cZ, 2, .inl o_isKept))] H := by rw [← e1_, ← e2_, ← e3_]; exact hP
    have hD : va_D A [(q_o, .inr (7, [.int o_thrown', .long o_trace, .ref q_o_text, .int o_typed, .int o_next, .int o_token, .int o_place, .int o_value, .int o_fault, .ref q_o_warmth, .ref q_o_side, .ref q_o_seconds, .int o_members, .int o_pairs, .int o_cold, .int o_fur, .int o_coughs, .int o_draftMembers, .int o_draftPairs, .int o_draftCold, .int o_draftFur, .int o_draftCoughs, .ref q_o_s, .ref q_o_kept, .ref q_o_isKept, .ref q_o_undos, .int o_undoMany', .ref q_o_seenAt, .ref q_o_seen, .int o_seenMany, .ref q_o_board, .ref q_o_pick, .ref q_o_worth, .ref q_o_best, .int o_chosen])), (q_o_kept, .inl (cI, 20, .inl o_kept)), (q_o_s, .inl (cI, 10, .inl o_s')), (q_o_isKept, .inl (cZ, 2, .inl o_isKept))] := by rw [← e1_, ← e2_, ← e3_]; exact hD
    exact endMI hx hb hr hlocks rfl hP hD hS e0_ dX8_back_15
def f_X8_count (o_typed : Int32) (o_members : Int32) (o_pairs : Int32) (o_undoMany : Int32) (o_seenMany : Int32) (o_thrown : Int32) (p1 : Int32) : Option (Int32 × Int32) :=
  if p1 = 0 then (
    some (o_members, 0)
  ) else (
    if p1 = 1 then (
      some (o_pairs, 0)
    ) else (
      if p1 = 2 then (
        some (o_seenMany, 0)
      ) else (
        if p1 = 3 then (
          some (o_undoMany, 0)
        ) else (
          if p1 = 4 then (
            some (o_typed, 0)
          ) else (
            some ((-1), 0)
          )
        )
      )
    )
  )
set_option maxHeartbeats 4000000 in
set_option maxRecDepth 100000 in
theorem c_X8_count (l : Launch) (D : va_G) (cB cI cZ cM cN : ClassId) (q_o : Nat) (q_o_text : Nat) (q_o_warmth : Nat) (q_o_side : Nat) (q_o_seconds : Nat) (q_o_s : Nat) (q_o_kept : Nat) (q_o_isKept : Nat) (q_o_undos : Nat) (q_o_seenAt : Nat) (q_o_seen : Nat) (q_o_board : Nat) (q_o_pick : Nat) (q_o_worth : Nat) (q_o_best : Nat) (o_thrown : Int32) (o_trace : Int64) (o_typed : Int32) (o_next : Int32) (o_token : Int32) (o_place : Int32) (o_value : Int32) (o_fault : Int32) (o_members : Int32) (o_pairs : Int32) (o_cold : Int32) (o_fur : Int32) (o_coughs : Int32) (o_draftMembers : Int32) (o_draftPairs : Int32) (o_draftCold : Int32) (o_draftFur : Int32) (o_draftCoughs : Int32) (o_undoMany : Int32) (o_seenMany : Int32) (o_chosen : Int32) (p1 : Int32) (r : Int32) (o_thrown' : Int32) (sz : Nat) (hf : f_X8_count o_typed o_members o_pairs o_undoMany o_seenMany o_thrown p1 = some (r, o_thrown')) : Met l yX8_count wsX8_count ({ frames := 0, cells := 0, slots := 0, locals := 0 } : Room) (PM D cB cI cZ cM cN [.ref q_o, .int p1] [(q_o, .inr (7, [.int o_thrown, .long o_trace, .ref q_o_text, .int o_typed, .int o_next, .int o_token, .int o_place, .int o_value, .int o_fault, .ref q_o_warmth, .ref q_o_side, .ref q_o_seconds, .int o_members, .int o_pairs, .int o_cold, .int o_fur, .int o_coughs, .int o_draftMembers, .int o_draftPairs, .int o_draftCold, .int o_draftFur, .int o_draftCoughs, .ref q_o_s, .ref q_o_kept, .ref q_o_isKept, .ref q_o_undos, .int o_undoMany, .ref q_o_seenAt, .ref q_o_seen, .int o_seenMany, .ref q_o_board, .ref q_o_pick, .ref q_o_worth, .ref q_o_best, .int o_chosen]))] sz) (QI D [(q_o, .inr (7, [.int o_thrown', .long o_trace, .ref q_o_text, .int o_typed, .int o_next, .int o_token, .int o_place, .int o_value, .int o_fault, .ref q_o_warmth, .ref q_o_side, .ref q_o_seconds, .int o_members, .int o_pairs, .int o_cold, .int o_fur, .int o_coughs, .int o_draftMembers, .int o_draftPairs, .int o_draftCold, .int o_draftFur, .int o_draftCoughs, .ref q_o_s, .ref q_o_kept, .ref q_o_isKept, .ref q_o_undos, .int o_undoMany, .ref q_o_seenAt, .ref q_o_seen, .int o_seenMany, .ref q_o_board, .ref q_o_pick, .ref q_o_worth, .ref q_o_best, .int o_chosen]))] r (va_A [(q_o, .inr (7, [.int o_thrown, .long o_trace, .ref q_o_text, .int o_typed, .int o_next, .int o_token, .int o_place, .int o_value, .int o_fault, .ref q_o_warmth, .ref q_o_side, .ref q_o_seconds, .int o_members, .int o_pairs, .int o_cold, .int o_fur, .int o_coughs, .int o_draftMembers, .int o_draftPairs, .int o_draftCold, .int o_draftFur, .int o_draftCoughs, .ref q_o_s, .ref q_o_kept, .ref q_o_isKept, .ref q_o_undos, .int o_undoMany, .ref q_o_seenAt, .ref q_o_seen, .int o_seenMany, .ref q_o_board, .ref q_o_pick, .ref q_o_worth, .ref q_o_best, .int o_chosen]))] sz)) 0 0 (va_A [(q_o, .inr (7, [.int o_thrown, .long o_trace, .ref q_o_text, .int o_typed, .int o_next, .int o_token, .int o_place, .int o_value, .int o_fault, .ref q_o_warmth, .ref q_o_side, .ref q_o_seconds, .int o_members, .int o_pairs, .int o_cold, .int o_fur, .int o_coughs, .int o_draftMembers, .int o_draftPairs, .int o_draftCold, .int o_draftFur, .int o_draftCoughs, .ref q_o_s, .ref q_o_kept, .ref q_o_isKept, .ref q_o_undos, .int o_undoMany, .ref q_o_seenAt, .ref q_o_seen, .int o_seenMany, .ref q_o_board, .ref q_o_pick, .ref q_o_worth, .ref q_o_best, .int o_chosen]))] sz) := by
  refine entM (l := l) (y := yX8_count) (ws := wsX8_count) (cc := cX8_count) (av := [.ref q_o, .int p1]) (wc := [(q_o, .inr (7, [.int o_thrown, .long o_trace, .ref q_o_text, .int o_typed, .int o_next, .int o_token, .int o_place, .int o_value, .int o_fault, .ref q_o_warmth, .ref q_o_side, .ref q_o_seconds, .int o_members, .int o_pairs, .int o_cold, .int o_fur, .int o_coughs, .int o_draftMembers, .int o_draftPairs, .int o_draftCold, .int o_draftFur, .int o_draftCoughs, .ref q_o_s, .ref q_o_kept, .ref q_o_isKept, .ref q_o_undos, .int o_undoMany, .ref q_o_seenAt, .ref q_o_seen, .int o_seenMany, .ref q_o_board, .ref q_o_pick, .ref q_o_worth, .ref q_o_best, .int o_chosen]))]) (sz := sz) (Qc := fun A => QI D [(q_o, .inr (7, [.int o_thrown', .long o_trace, .ref q_o_text, .int o_typed, .int o_next, .int o_token, .int o_place, .int o_value, .int o_fault, .ref q_o_warmth, .ref q_o_side, .ref q_o_seconds, .int o_members, .int o_pairs, .int o_cold, .int o_fur, .int o_coughs, .int o_draftMembers, .int o_draftPairs, .int o_draftCold, .int o_draftFur, .int o_draftCoughs, .ref q_o_s, .ref q_o_kept, .ref q_o_isKept, .ref q_o_undos, .int o_undoMany, .ref q_o_seenAt, .ref q_o_seen, .int o_seenMany, .ref q_o_board, .ref q_o_pick, .ref q_o_worth, .ref q_o_best, .int o_chosen]))] r A) (by decide +kernel) rfl (Nat.le_of_ble_eq_true rfl) ?_
  intro A p e s m below meth c hx hb hr hml hown hlocks hts hK hA H locs hP hD hS ls hl
  have hown : s.vm.findClass RX8 = some m.cls := hown
  have hl : lv_has ls 2 [(0, .ref q_o), (1, .int p1)] := hl
  have hfix : CallFix p m c cX8_count 2 s ([.ref q_o, .int p1] : List Value).toArray wsX8_count RX8 := ⟨hx, hb, hml, hown, hts⟩
  have hinX8 : ∀ w ∈ u_ws RX8 TX8 35, w ∈ wsX8_count := by decide +kernel
  have g63 := hts (.fieldLink RX8 63 "LastCoatModel" "thrown" "I") (by decide +kernel)
  have g70 := hts (.fieldLink RX8 70 "LastCoatModel" "typed" "I") (by decide +kernel)
  have g157 := hts (.fieldLink RX8 157 "LastCoatModel" "undoMany" "I") (by decide +kernel)
  have g154 := hts (.fieldLink RX8 154 "LastCoatModel" "seenMany" "I") (by decide +kernel)
  have g148 := hts (.fieldLink RX8 148 "LastCoatModel" "pairs" "I") (by decide +kernel)
  have g145 := hts (.fieldLink RX8 145 "LastCoatModel" "members" "I") (by decide +kernel)
  unfold f_X8_count at hf
  refine lv_aload_n hx hb dX8_count_0 rfl (lv_at hl 0 rfl) ?_
  refine lv_iconst (v := 0) hx hb dX8_count_1 (by decide) ?_
  refine va_put (D := D) (ci := 7) (v := .int 0) (ty := .int) (C := RX8) (T := TX8) (N := 35) hx hb hts hinX8 tyX8 tyX8_ok nmX8 hown hK.1 hP hD hS 0 rfl rfl 0 (by decide) g63 (fun _ h9 => h9) rfl (by decide +kernel) rfl rfl (Nat.le_of_ble_eq_true rfl) dX8_count_2 (fun H locs hP hD hS => ?_)
  have hP : va_P D vwCl [(q_o, .inr (7, [.int 0, .long o_trace, .ref q_o_text, .int o_typed, .int o_next, .int o_token, .int o_place, .int o_value, .int o_fault, .ref q_o_warmth, .ref q_o_side, .ref q_o_seconds, .int o_members, .int o_pairs, .int o_cold, .int o_fur, .int o_coughs, .int o_draftMembers, .int o_draftPairs, .int o_draftCold, .int o_draftFur, .int o_draftCoughs, .ref q_o_s, .ref q_o_kept, .ref q_o_isKept, .ref q_o_undos, .int o_undoMany, .ref q_o_seenAt, .ref q_o_seen, .int o_seenMany, .ref q_o_board, .ref q_o_pick, .ref q_o_worth, .ref q_o_best, .int o_chosen]))] H := hP
  have hD : va_D A [(q_o, .inr (7, [.int 0, .long o_trace, .ref q_o_text, .int o_typed, .int o_next, .int o_token, .int o_place, .int o_value, .int o_fault, .ref q_o_warmth, .ref q_o_side, .ref q_o_seconds, .int o_members, .int o_pairs, .int o_cold, .int o_fur, .int o_coughs, .int o_draftMembers, .int o_draftPairs, .int o_draftCold, .int o_draftFur, .int o_draftCoughs, .ref q_o_s, .ref q_o_kept, .ref q_o_isKept, .ref q_o_undos, .int o_undoMany, .ref q_o_seenAt, .ref q_o_seen, .int o_seenMany, .ref q_o_board, .ref q_o_pick, .ref q_o_worth, .ref q_o_best, .int o_chosen]))] := hD
  refine lv_iload_n hx hb dX8_count_5 rfl (lv_at hl 1 rfl) ?_
  refine lv_if_ne (tgt := 16) hx hb dX8_count_6 (by decide) (fun c1 => ?_) (fun c1 => ?_)
  · have hf := ite_n hf c1
    refine lv_iload_n hx hb dX8_count_16 rfl (lv_at hl 1 rfl) ?_
    refine lv_iconst (v := 1) hx hb dX8_count_17 (by decide) ?_
    refine lv_icmp_ne (tgt := 28) hx hb dX8_count_18 (by decide) (fun c2 => ?_) (fun c2 => ?_)
    · have hf := ite_n hf c2
      refine lv_iload_n hx hb dX8_count_28 rfl (lv_at hl 1 rfl) ?_
      refine lv_iconst (v := 2) hx hb dX8_count_29 (by decide) ?_
      refine lv_icmp_ne (tgt := 40) hx hb dX8_count_30 (by decide) (fun c3 => ?_) (fun c3 => ?_)
      · have hf := ite_n hf c3
        refine lv_iload_n hx hb dX8_count_40 rfl (lv_at hl 1 rfl) ?_
        refine lv_iconst (v := 3) hx hb dX8_count_41 (by decide) ?_
        refine lv_icmp_ne (tgt := 52) hx hb dX8_count_42 (by decide) (fun c4 => ?_) (fun c4 => ?_)
        · have hf := ite_n hf c4
          refine lv_iload_n hx hb dX8_count_52 rfl (lv_at hl 1 rfl) ?_
          refine lv_iconst (v := 4) hx hb dX8_count_53 (by decide) ?_
          refine lv_icmp_ne (tgt := 64) hx hb dX8_count_54 (by decide) (fun c5 => ?_) (fun c5 => ?_)
          · have hf := ite_n hf c5
            refine lv_iconst (v := (-1)) hx hb dX8_count_64 (by decide) ?_
            obtain ⟨e0_, e1_⟩ := tup2 hf
            have hP : va_P D vwCl [(q_o, .inr (7, [.int o_thrown', .long o_trace, .ref q_o_text, .int o_typed, .int o_next, .int o_token, .int o_place, .int o_value, .int o_fault, .ref q_o_warmth, .ref q_o_side, .ref q_o_seconds, .int o_members, .int o_pairs, .int o_cold, .int o_fur, .int o_coughs, .int o_draftMembers, .int o_draftPairs, .int o_draftCold, .int o_draftFur, .int o_draftCoughs, .ref q_o_s, .ref q_o_kept, .ref q_o_isKept, .ref q_o_undos, .int o_undoMany, .ref q_o_seenAt, .ref q_o_seen, .int o_seenMany, .ref q_o_board, .ref q_o_pick, .ref q_o_worth, .ref q_o_best, .int o_chosen]))] H := by rw [← e1_]; exact hP
            have hD : va_D A [(q_o, .inr (7, [.int o_thrown', .long o_trace, .ref q_o_text, .int o_typed, .int o_next, .int o_token, .int o_place, .int o_value, .int o_fault, .ref q_o_warmth, .ref q_o_side, .ref q_o_seconds, .int o_members, .int o_pairs, .int o_cold, .int o_fur, .int o_coughs, .int o_draftMembers, .int o_draftPairs, .int o_draftCold, .int o_draftFur, .int o_draftCoughs, .ref q_o_s, .ref q_o_kept, .ref q_o_isKept, .ref q_o_undos, .int o_undoMany, .ref q_o_seenAt, .ref q_o_seen, .int o_seenMany, .ref q_o_board, .ref q_o_pick, .ref q_o_worth, .ref q_o_best, .int o_chosen]))] := by rw [← e1_]; exact hD
            exact endMI hx hb hr hlocks rfl hP hD hS e0_ dX8_count_65
          · have hf := ite_p hf c5
            refine lv_aload_n hx hb dX8_count_57 rfl (lv_at hl 0 rfl) ?_
            refine va_get (D := D) (ci := 7) (v := .int o_typed) (C := RX8) (T := TX8) (N := 35) hx hb hts hinX8 hown hK.1 hP 0 rfl rfl 3 (by decide) g70 (fun _ h9 => h9) rfl dX8_count_58 ?_
            refine lv_goto (tgt := 65) hx hb dX8_count_61 (by decide) ?_
            obtain ⟨e0_, e1_⟩ := tup2 hf
            have hP : va_P D vwCl [(q_o, .inr (7, [.int o_thrown', .long o_trace, .ref q_o_text, .int o_typed, .int o_next, .int o_token, .int o_place, .int o_value, .int o_fault, .ref q_o_warmth, .ref q_o_side, .ref q_o_seconds, .int o_members, .int o_pairs, .int o_cold, .int o_fur, .int o_coughs, .int o_draftMembers, .int o_draftPairs, .int o_draftCold, .int o_draftFur, .int o_draftCoughs, .ref q_o_s, .ref q_o_kept, .ref q_o_isKept, .ref q_o_undos, .int o_undoMany, .ref q_o_seenAt, .ref q_o_seen, .int o_seenMany, .ref q_o_board, .ref q_o_pick, .ref q_o_worth, .ref q_o_best, .int o_chosen]))] H := by rw [← e1_]; exact hP
            have hD : va_D A [(q_o, .inr (7, [.int o_thrown', .long o_trace, .ref q_o_text, .int o_typed, .int o_next, .int o_token, .int o_place, .int o_value, .int o_fault, .ref q_o_warmth, .ref q_o_side, .ref q_o_seconds, .int o_members, .int o_pairs, .int o_cold, .int o_fur, .int o_coughs, .int o_draftMembers, .int o_draftPairs, .int o_draftCold, .int o_draftFur, .int o_draftCoughs, .ref q_o_s, .ref q_o_kept, .ref q_o_isKept, .ref q_o_undos, .int o_undoMany, .ref q_o_seenAt, .ref q_o_seen, .int o_seenMany, .ref q_o_board, .ref q_o_pick, .ref q_o_worth, .ref q_o_best, .int o_chosen]))] := by rw [← e1_]; exact hD
            exact endMI hx hb hr hlocks rfl hP hD hS e0_ dX8_count_65
        · have hf := ite_p hf c4
          refine lv_aload_n hx hb dX8_count_45 rfl (lv_at hl 0 rfl) ?_
          refine va_get (D := D) (ci := 7) (v := .int o_undoMany) (C := RX8) (T := TX8) (N := 35) hx hb hts hinX8 hown hK.1 hP 0 rfl rfl 26 (by decide) g157 (fun _ h9 => h9) rfl dX8_count_46 ?_
          refine lv_goto (tgt := 65) hx hb dX8_count_49 (by decide) ?_
          obtain ⟨e0_, e1_⟩ := tup2 hf
          have hP : va_P D vwCl [(q_o, .inr (7, [.int o_thrown', .long o_trace, .ref q_o_text, .int o_typed, .int o_next, .int o_token, .int o_place, .int o_value, .int o_fault, .ref q_o_warmth, .ref q_o_side, .ref q_o_seconds, .int o_members, .int o_pairs, .int o_cold, .int o_fur, .int o_coughs, .int o_draftMembers, .int o_draftPairs, .int o_draftCold, .int o_draftFur, .int o_draftCoughs, .ref q_o_s, .ref q_o_kept, .ref q_o_isKept, .ref q_o_undos, .int o_undoMany, .ref q_o_seenAt, .ref q_o_seen, .int o_seenMany, .ref q_o_board, .ref q_o_pick, .ref q_o_worth, .ref q_o_best, .int o_chosen]))] H := by rw [← e1_]; exact hP
          have hD : va_D A [(q_o, .inr (7, [.int o_thrown', .long o_trace, .ref q_o_text, .int o_typed, .int o_next, .int o_token, .int o_place, .int o_value, .int o_fault, .ref q_o_warmth, .ref q_o_side, .ref q_o_seconds, .int o_members, .int o_pairs, .int o_cold, .int o_fur, .int o_coughs, .int o_draftMembers, .int o_draftPairs, .int o_draftCold, .int o_draftFur, .int o_draftCoughs, .ref q_o_s, .ref q_o_kept, .ref q_o_isKept, .ref q_o_undos, .int o_undoMany, .ref q_o_seenAt, .ref q_o_seen, .int o_seenMany, .ref q_o_board, .ref q_o_pick, .ref q_o_worth, .ref q_o_best, .int o_chosen]))] := by rw [← e1_]; exact hD
          exact endMI hx hb hr hlocks rfl hP hD hS e0_ dX8_count_65
      · have hf := ite_p hf c3
        refine lv_aload_n hx hb dX8_count_33 rfl (lv_at hl 0 rfl) ?_
        refine va_get (D := D) (ci := 7) (v := .int o_seenMany) (C := RX8) (T := TX8) (N := 35) hx hb hts hinX8 hown hK.1 hP 0 rfl rfl 29 (by decide) g154 (fun _ h9 => h9) rfl dX8_count_34 ?_
        refine lv_goto (tgt := 65) hx hb dX8_count_37 (by decide) ?_
        obtain ⟨e0_, e1_⟩ := tup2 hf
        have hP : va_P D vwCl [(q_o, .inr (7, [.int o_thrown', .long o_trace, .ref q_o_text, .int o_typed, .int o_next, .int o_token, .int o_place, .int o_value, .int o_fault, .ref q_o_warmth, .ref q_o_side, .ref q_o_seconds, .int o_members, .int o_pairs, .int o_cold, .int o_fur, .int o_coughs, .int o_draftMembers, .int o_draftPairs, .int o_draftCold, .int o_draftFur, .int o_draftCoughs, .ref q_o_s, .ref q_o_kept, .ref q_o_isKept, .ref q_o_undos, .int o_undoMany, .ref q_o_seenAt, .ref q_o_seen, .int o_seenMany, .ref q_o_board, .ref q_o_pick, .ref q_o_worth, .ref q_o_best, .int o_chosen]))] H := by rw [← e1_]; exact hP
        have hD : va_D A [(q_o, .inr (7, [.int o_thrown', .long o_trace, .ref q_o_text, .int o_typed, .int o_next, .int o_token, .int o_place, .int o_value, .int o_fault, .ref q_o_warmth, .ref q_o_side, .ref q_o_seconds, .int o_members, .int o_pairs, .int o_cold, .int o_fur, .int o_coughs, .int o_draftMembers, .int o_draftPairs, .int o_draftCold, .int o_draftFur, .int o_draftCoughs, .ref q_o_s, .ref q_o_kept, .ref q_o_isKept, .ref q_o_undos, .int o_undoMany, .ref q_o_seenAt, .ref q_o_seen, .int o_seenMany, .ref q_o_board, .ref q_o_pick, .ref q_o_worth, .ref q_o_best, .int o_chosen]))] := by rw [← e1_]; exact hD
        exact endMI hx hb hr hlocks rfl hP hD hS e0_ dX8_count_65
    · have hf := ite_p hf c2
      refine lv_aload_n hx hb dX8_count_21 rfl (lv_at hl 0 rfl) ?_
      refine va_get (D := D) (ci := 7) (v := .int o_pairs) (C := RX8) (T := TX8) (N := 35) hx hb hts hinX8 hown hK.1 hP 0 rfl rfl 13 (by decide) g148 (fun _ h9 => h9) rfl dX8_count_22 ?_
      refine lv_goto (tgt := 65) hx hb dX8_count_25 (by decide) ?_
      obtain ⟨e0_, e1_⟩ := tup2 hf
      have hP : va_P D vwCl [(q_o, .inr (7, [.int o_thrown', .long o_trace, .ref q_o_text, .int o_typed, .int o_next, .int o_token, .int o_place, .int o_value, .int o_fault, .ref q_o_warmth, .ref q_o_side, .ref q_o_seconds, .int o_members, .int o_pairs, .int o_cold, .int o_fur, .int o_coughs, .int o_draftMembers, .int o_draftPairs, .int o_draftCold, .int o_draftFur, .int o_draftCoughs, .ref q_o_s, .ref q_o_kept, .ref q_o_isKept, .ref q_o_undos, .int o_undoMany, .ref q_o_seenAt, .ref q_o_seen, .int o_seenMany, .ref q_o_board, .ref q_o_pick, .ref q_o_worth, .ref q_o_best, .int o_chosen]))] H := by rw [← e1_]; exact hP
      have hD : va_D A [(q_o, .inr (7, [.int o_thrown', .long o_trace, .ref q_o_text, .int o_typed, .int o_next, .int o_token, .int o_place, .int o_value, .int o_fault, .ref q_o_warmth, .ref q_o_side, .ref q_o_seconds, .int o_members, .int o_pairs, .int o_cold, .int o_fur, .int o_coughs, .int o_draftMembers, .int o_draftPairs, .int o_draftCold, .int o_draftFur, .int o_draftCoughs, .ref q_o_s, .ref q_o_kept, .ref q_o_isKept, .ref q_o_undos, .int o_undoMany, .ref q_o_seenAt, .ref q_o_seen, .int o_seenMany, .ref q_o_board, .ref q_o_pick, .ref q_o_worth, .ref q_o_best, .int o_chosen]))] := by rw [← e1_]; exact hD
      exact endMI hx hb hr hlocks rfl hP hD hS e0_ dX8_count_65
  · have hf := ite_p hf c1
    refine lv_aload_n hx hb dX8_count_9 rfl (lv_at hl 0 rfl) ?_
    refine va_get (D := D) (ci := 7) (v := .int o_members) (C := RX8) (T := TX8) (N := 35) hx hb hts hinX8 hown hK.1 hP 0 rfl rfl 12 (by decide) g145 (fun _ h9 => h9) rfl dX8_count_10 ?_
    refine lv_goto (tgt := 65) hx hb dX8_count_13 (by decide) ?_
    obtain ⟨e0_, e1_⟩ := tup2 hf
    have hP : va_P D vwCl [(q_o, .inr (7, [.int o_thrown', .long o_trace, .ref q_o_text, .int o_typed, .int o_next, .int o_token, .int o_place, .int o_value, .int o_fault, .ref q_o_warmth, .ref q_o_side, .ref q_o_seconds, .int o_members, .int o_pairs, .int o_cold, .int o_fur, .int o_coughs, .int o_draftMembers, .int o_draftPairs, .int o_draftCold, .int o_draftFur, .int o_draftCoughs, .ref q_o_s, .ref q_o_kept, .ref q_o_isKept, .ref q_o_undos, .int o_undoMany, .ref q_o_seenAt, .ref q_o_seen, .int o_seenMany, .ref q_o_board, .ref q_o_pick, .ref q_o_worth, .ref q_o_best, .int o_chosen]))] H := by rw [← e1_]; exact hP
    have hD : va_D A [(q_o, .inr (7, [.int o_thrown', .long o_trace, .ref q_o_text, .int o_typed, .int o_next, .int o_token, .int o_place, .int o_value, .int o_fault, .ref q_o_warmth, .ref q_o_side, .ref q_o_seconds, .int o_members, .int o_pairs, .int o_cold, .int o_fur, .int o_coughs, .int o_draftMembers, .int o_draftPairs, .int o_draftCold, .int o_draftFur, .int o_draftCoughs, .ref q_o_s, .ref q_o_kept, .ref q_o_isKept, .ref q_o_undos, .int o_undoMany, .ref q_o_seenAt, .ref q_o_seen, .int o_seenMany, .ref q_o_board, .ref q_o_pick, .ref q_o_worth, .ref q_o_best, .int o_chosen]))] := by rw [← e1_]; exact hD
    exact endMI hx hb hr hlocks rfl hP hD hS e0_ dX8_count_65
def f_X8_trace (o_trace : Int64) (o_thrown : Int32) : Option (Int64 × Int32) :=
  some (o_trace, 0)
set_option maxHeartbeats 4000000 in
set_option maxRecDepth 100000 in
theorem c_X8_trace (l : Launch) (D : va_G) (cB cI cZ cM cN : ClassId) (q_o : Nat) (q_o_text : Nat) (q_o_warmth : Nat) (q_o_side : Nat) (q_o_seconds : Nat) (q_o_s : Nat) (q_o_kept : Nat) (q_o_isKept : Nat) (q_o_undos : Nat) (q_o_seenAt : Nat) (q_o_seen : Nat) (q_o_board : Nat) (q_o_pick : Nat) (q_o_worth : Nat) (q_o_best : Nat) (o_thrown : Int32) (o_trace : Int64) (o_typed : Int32) (o_next : Int32) (o_token : Int32) (o_place : Int32) (o_value : Int32) (o_fault : Int32) (o_members : Int32) (o_pairs : Int32) (o_cold : Int32) (o_fur : Int32) (o_coughs : Int32) (o_draftMembers : Int32) (o_draftPairs : Int32) (o_draftCold : Int32) (o_draftFur : Int32) (o_draftCoughs : Int32) (o_undoMany : Int32) (o_seenMany : Int32) (o_chosen : Int32) (r : Int64) (o_thrown' : Int32) (sz : Nat) (hf : f_X8_trace o_trace o_thrown = some (r, o_thrown')) : Met l yX8_trace wsX8_trace ({ frames := 0, cells := 0, slots := 0, locals := 0 } : Room) (PM D cB cI cZ cM cN [.ref q_o] [(q_o, .inr (7, [.int o_thrown, .long o_trace, .ref q_o_text, .int o_typed, .int o_next, .int o_token, .int o_place, .int o_value, .int o_fault, .ref q_o_warmth, .ref q_o_side, .ref q_o_seconds, .int o_members, .int o_pairs, .int o_cold, .int o_fur, .int o_coughs, .int o_draftMembers, .int o_draftPairs, .int o_draftCold, .int o_draftFur, .int o_draftCoughs, .ref q_o_s, .ref q_o_kept, .ref q_o_isKept, .ref q_o_undos, .int o_undoMany, .ref q_o_seenAt, .ref q_o_seen, .int o_seenMany, .ref q_o_board, .ref q_o_pick, .ref q_o_worth, .ref q_o_best, .int o_chosen]))] sz) (QL D [(q_o, .inr (7, [.int o_thrown', .long o_trace, .ref q_o_text, .int o_typed, .int o_next, .int o_token, .int o_place, .int o_value, .int o_fault, .ref q_o_warmth, .ref q_o_side, .ref q_o_seconds, .int o_members, .int o_pairs, .int o_cold, .int o_fur, .int o_coughs, .int o_draftMembers, .int o_draftPairs, .int o_draftCold, .int o_draftFur, .int o_draftCoughs, .ref q_o_s, .ref q_o_kept, .ref q_o_isKept, .ref q_o_undos, .int o_undoMany, .ref q_o_seenAt, .ref q_o_seen, .int o_seenMany, .ref q_o_board, .ref q_o_pick, .ref q_o_worth, .ref q_o_best, .int o_chosen]))] r (va_A [(q_o, .inr (7, [.int o_thrown, .long o_trace, .ref q_o_text, .int o_typed, .int o_next, .int o_token, .int o_place, .int o_value, .int o_fault, .ref q_o_warmth, .ref q_o_side, .ref q_o_seconds, .int o_members, .int o_pairs, .int o_cold, .int o_fur, .int o_coughs, .int o_draftMembers, .int o_draftPairs, .int o_draftCold, .int o_draftFur, .int o_draftCoughs, .ref q_o_s, .ref q_o_kept, .ref q_o_isKept, .ref q_o_undos, .int o_undoMany, .ref q_o_seenAt, .ref q_o_seen, .int o_seenMany, .ref q_o_board, .ref q_o_pick, .ref q_o_worth, .ref q_o_best, .int o_chosen]))] sz)) 0 0 (va_A [(q_o, .inr (7, [.int o_thrown, .long o_trace, .ref q_o_text, .int o_typed, .int o_next, .int o_token, .int o_place, .int o_value, .int o_fault, .ref q_o_warmth, .ref q_o_side, .ref q_o_seconds, .int o_members, .int o_pairs, .int o_cold, .int o_fur, .int o_coughs, .int o_draftMembers, .int o_draftPairs, .int o_draftCold, .int o_draftFur, .int o_draftCoughs, .ref q_o_s, .ref q_o_kept, .ref q_o_isKept, .ref q_o_undos, .int o_undoMany, .ref q_o_seenAt, .ref q_o_seen, .int o_seenMany, .ref q_o_board, .ref q_o_pick, .ref q_o_worth, .ref q_o_best, .int o_chosen]))] sz) := by
  refine entM (l := l) (y := yX8_trace) (ws := wsX8_trace) (cc := cX8_trace) (av := [.ref q_o]) (wc := [(q_o, .inr (7, [.int o_thrown, .long o_trace, .ref q_o_text, .int o_typed, .int o_next, .int o_token, .int o_place, .int o_value, .int o_fault, .ref q_o_warmth, .ref q_o_side, .ref q_o_seconds, .int o_members, .int o_pairs, .int o_cold, .int o_fur, .int o_coughs, .int o_draftMembers, .int o_draftPairs, .int o_draftCold, .int o_draftFur, .int o_draftCoughs, .ref q_o_s, .ref q_o_kept, .ref q_o_isKept, .ref q_o_undos, .int o_undoMany, .ref q_o_seenAt, .ref q_o_seen, .int o_seenMany, .ref q_o_board, .ref q_o_pick, .ref q_o_worth, .ref q_o_best, .int o_chosen]))]) (sz := sz) (Qc := fun A => QL D [(q_o, .inr (7, [.int o_thrown', .long o_trace, .ref q_o_text, .int o_typed, .int o_next, .int o_token, .int o_place, .int o_value, .int o_fault, .ref q_o_warmth, .ref q_o_side, .ref q_o_seconds, .int o_members, .int o_pairs, .int o_cold, .int o_fur, .int o_coughs, .int o_draftMembers, .int o_draftPairs, .int o_draftCold, .int o_draftFur, .int o_draftCoughs, .ref q_o_s, .ref q_o_kept, .ref q_o_isKept, .ref q_o_undos, .int o_undoMany, .ref q_o_seenAt, .ref q_o_seen, .int o_seenMany, .ref q_o_board, .ref q_o_pick, .ref q_o_worth, .ref q_o_best, .int o_chosen]))] r A) (by decide +kernel) rfl (Nat.le_of_ble_eq_true rfl) ?_
  intro A p e s m below meth c hx hb hr hml hown hlocks hts hK hA H locs hP hD hS ls hl
  have hown : s.vm.findClass RX8 = some m.cls := hown
  have hl : lv_has ls 1 [(0, .ref q_o)] := hl
  have hfix : CallFix p m c cX8_trace 1 s ([.ref q_o] : List Value).toArray wsX8_trace RX8 := ⟨hx, hb, hml, hown, hts⟩
  have hinX8 : ∀ w ∈ u_ws RX8 TX8 35, w ∈ wsX8_trace := by decide +kernel
  have g63 := hts (.fieldLink RX8 63 "LastCoatModel" "thrown" "I") (by decide +kernel)
  have g232 := hts (.fieldLink RX8 232 "LastCoatModel" "trace" "J") (by decide +kernel)
  unfold f_X8_trace at hf
  refine lv_aload_n hx hb dX8_trace_0 rfl (lv_at hl 0 rfl) ?_
  refine lv_iconst (v := 0) hx hb dX8_trace_1 (by decide) ?_
  refine va_put (D := D) (ci := 7) (v := .int 0) (ty := .int) (C := RX8) (T := TX8) (N := 35) hx hb hts hinX8 tyX8 tyX8_ok nmX8 hown hK.1 hP hD hS 0 rfl rfl 0 (by decide) g63 (fun _ h9 => h9) rfl (by decide +kernel) rfl rfl (Nat.le_of_ble_eq_true rfl) dX8_trace_2 (fun H locs hP hD hS => ?_)
  have hP : va_P D vwCl [(q_o, .inr (7, [.int 0, .long o_trace, .ref q_o_text, .int o_typed, .int o_next, .int o_token, .int o_place, .int o_value, .int o_fault, .ref q_o_warmth, .ref q_o_side, .ref q_o_seconds, .int o_members, .int o_pairs, .int o_cold, .int o_fur, .int o_coughs, .int o_draftMembers, .int o_draftPairs, .int o_draftCold, .int o_draftFur, .int o_draftCoughs, .ref q_o_s, .ref q_o_kept, .ref q_o_isKept, .ref q_o_undos, .int o_undoMany, .ref q_o_seenAt, .ref q_o_seen, .int o_seenMany, .ref q_o_board, .ref q_o_pick, .ref q_o_worth, .ref q_o_best, .int o_chosen]))] H := hP
  have hD : va_D A [(q_o, .inr (7, [.int 0, .long o_trace, .ref q_o_text, .int o_typed, .int o_next, .int o_token, .int o_place, .int o_value, .int o_fault, .ref q_o_warmth, .ref q_o_side, .ref q_o_seconds, .int o_members, .int o_pairs, .int o_cold, .int o_fur, .int o_coughs, .int o_draftMembers, .int o_draftPairs, .int o_draftCold, .int o_draftFur, .int o_draftCoughs, .ref q_o_s, .ref q_o_kept, .ref q_o_isKept, .ref q_o_undos, .int o_undoMany, .ref q_o_seenAt, .ref q_o_seen, .int o_seenMany, .ref q_o_board, .ref q_o_pick, .ref q_o_worth, .ref q_o_best, .int o_chosen]))] := hD
  refine lv_aload_n hx hb dX8_trace_5 rfl (lv_at hl 0 rfl) ?_
  refine va_get (D := D) (ci := 7) (v := .long o_trace) (C := RX8) (T := TX8) (N := 35) hx hb hts hinX8 hown hK.1 hP 0 rfl rfl 1 (by decide) g232 (fun _ h9 => h9) rfl dX8_trace_6 ?_
  obtain ⟨e0_, e1_⟩ := tup2 hf
  have hP : va_P D vwCl [(q_o, .inr (7, [.int o_thrown', .long o_trace, .ref q_o_text, .int o_typed, .int o_next, .int o_token, .int o_place, .int o_value, .int o_fault, .ref q_o_warmth, .ref q_o_side, .ref q_o_seconds, .int o_members, .int o_pairs, .int o_cold, .int o_fur, .int o_coughs, .int o_draftMembers, .int o_draftPairs, .int o_draftCold, .int o_draftFur, .int o_draftCoughs, .ref q_o_s, .ref q_o_kept, .ref q_o_isKept, .ref q_o_undos, .int o_undoMany, .ref q_o_seenAt, .ref q_o_seen, .int o_seenMany, .ref q_o_board, .ref q_o_pick, .ref q_o_worth, .ref q_o_best, .int o_chosen]))] H := by rw [← e1_]; exact hP
  have hD : va_D A [(q_o, .inr (7, [.int o_thrown', .long o_trace, .ref q_o_text, .int o_typed, .int o_next, .int o_token, .int o_place, .int o_value, .int o_fault, .ref q_o_warmth, .ref q_o_side, .ref q_o_seconds, .int o_members, .int o_pairs, .int o_cold, .int o_fur, .int o_coughs, .int o_draftMembers, .int o_draftPairs, .int o_draftCold, .int o_draftFur, .int o_draftCoughs, .ref q_o_s, .ref q_o_kept, .ref q_o_isKept, .ref q_o_undos, .int o_undoMany, .ref q_o_seenAt, .ref q_o_seen, .int o_seenMany, .ref q_o_board, .ref q_o_pick, .ref q_o_worth, .ref q_o_best, .int o_chosen]))] := by rw [← e1_]; exact hD
  exact endML hx hb hr hlocks hP hD hS e0_ dX8_trace_9
