def f_X4_speaker (p0 : Int32) (p1 : Int32) : Option (Int32) :=
  some ((p1 >>> ((3 * p0) &&& 31)) &&& 7)
set_option maxHeartbeats 4000000 in
set_option maxRecDepth 100000 in
theorem c_X4_speaker (l : Launch) (D : va_G) (cB cI cZ cM cN : ClassId) (p0 : Int32) (p1 : Int32) (r : Int32) (hf : f_X4_speaker p0 p1 = some r) : Met l yX4_speaker wsX4_speaker ({ frames := 0, cells := 0, slots := 0, locals := 0 } : Room) (PR D cB cI cZ cM cN [.int p0, .int p1] []) (RI r) 0 0 (fun _ => False) := by
  refine entR (by decide +kernel) rfl (Nat.le_of_ble_eq_true rfl) ?_
  intro p e s m below meth c hx hb hr hml hown hlocks hts hP hK ls hl
  have hown : s.vm.findClass RX4 = some m.cls := hown
  have hl : lv_has ls 2 [(0, .int p0), (1, .int p1)] := hl
  have hfix : CallFix p m c cX4_speaker 2 s ([.int p0, .int p1] : List Value).toArray wsX4_speaker RX4 := ⟨hx, hb, hml, hown, hts⟩
  unfold f_X4_speaker at hf
  refine lv_iload_n hx hb dX4_speaker_0 rfl (lv_at hl 1 rfl) ?_
  refine lv_iconst (v := 3) hx hb dX4_speaker_1 (by decide) ?_
  refine lv_iload_n hx hb dX4_speaker_2 rfl (lv_at hl 0 rfl) ?_
  refine lv_imul hx hb dX4_speaker_3 ?_
  refine lv_ishr hx hb dX4_speaker_4 ?_
  refine lv_bipush (v := 7) hx hb dX4_speaker_5 (by decide) ?_
  refine lv_iand hx hb dX4_speaker_7 ?_
  have e0_ := Option.some.inj hf
  exact endRI hx hb hr hlocks rfl e0_ dX4_speaker_8
def f_X4_saved (p0 : Int32) : Option (Int32) :=
  some (p0 >>> ((15 : Int32) &&& 31))
set_option maxHeartbeats 4000000 in
set_option maxRecDepth 100000 in
theorem c_X4_saved (l : Launch) (D : va_G) (cB cI cZ cM cN : ClassId) (p0 : Int32) (r : Int32) (hf : f_X4_saved p0 = some r) : Met l yX4_saved wsX4_saved ({ frames := 0, cells := 0, slots := 0, locals := 0 } : Room) (PR D cB cI cZ cM cN [.int p0] []) (RI r) 0 0 (fun _ => False) := by
  refine entR (by decide +kernel) rfl (Nat.le_of_ble_eq_true rfl) ?_
  intro p e s m below meth c hx hb hr hml hown hlocks hts hP hK ls hl
  have hown : s.vm.findClass RX4 = some m.cls := hown
  have hl : lv_has ls 1 [(0, .int p0)] := hl
  have hfix : CallFix p m c cX4_saved 1 s ([.int p0] : List Value).toArray wsX4_saved RX4 := ⟨hx, hb, hml, hown, hts⟩
  unfold f_X4_saved at hf
  refine lv_iload_n hx hb dX4_saved_0 rfl (lv_at hl 0 rfl) ?_
  refine lv_bipush (v := 15) hx hb dX4_saved_1 (by decide) ?_
  refine lv_ishr hx hb dX4_saved_3 ?_
  have e0_ := Option.some.inj hf
  exact endRI hx hb hr hlocks rfl e0_ dX4_saved_4
def f_X4_withFirst (p0 : Int32) (p1 : Int32) : Option (Int32) :=
  some ((p1 <<< ((3 : Int32) &&& 31)) ||| p0)
set_option maxHeartbeats 4000000 in
set_option maxRecDepth 100000 in
theorem c_X4_withFirst (l : Launch) (D : va_G) (cB cI cZ cM cN : ClassId) (p0 : Int32) (p1 : Int32) (r : Int32) (hf : f_X4_withFirst p0 p1 = some r) : Met l yX4_withFirst wsX4_withFirst ({ frames := 0, cells := 0, slots := 0, locals := 0 } : Room) (PR D cB cI cZ cM cN [.int p0, .int p1] []) (RI r) 0 0 (fun _ => False) := by
  refine entR (by decide +kernel) rfl (Nat.le_of_ble_eq_true rfl) ?_
  intro p e s m below meth c hx hb hr hml hown hlocks hts hP hK ls hl
  have hown : s.vm.findClass RX4 = some m.cls := hown
  have hl : lv_has ls 2 [(0, .int p0), (1, .int p1)] := hl
  have hfix : CallFix p m c cX4_withFirst 2 s ([.int p0, .int p1] : List Value).toArray wsX4_withFirst RX4 := ⟨hx, hb, hml, hown, hts⟩
  unfold f_X4_withFirst at hf
  refine lv_iload_n hx hb dX4_withFirst_0 rfl (lv_at hl 1 rfl) ?_
  refine lv_iconst (v := 3) hx hb dX4_withFirst_1 (by decide) ?_
  refine lv_ishl hx hb dX4_withFirst_2 ?_
  refine lv_iload_n hx hb dX4_withFirst_3 rfl (lv_at hl 0 rfl) ?_
  refine lv_ior hx hb dX4_withFirst_4 ?_
  have e0_ := Option.some.inj hf
  exact endRI hx hb hr hlocks rfl e0_ dX4_withFirst_5
def f_X4_carrying_98 (a0_members : Int32) (a0_forMotion : Int32) (a0_cold : Int32) (a0_pairs : Int64) (Kself : Int32 → Int32 → Int32 → Int64 → Int32 → Int32 → Int32 → Int32 → Option (Int32)) (K36 : Int32 → Int32 → Int32 → Int32 → Int32 → Option (Int32)) (x1 : Int32) (x2 : Int32) (x3 : Int32) (x4 : Int32) (x5 : Int32) : Option (Int32) :=
  bnd (x5 + 1) fun y1 =>
  K36 x1 x2 x3 x4 y1
def f_X4_carrying_36_b (a0_members : Int32) (a0_forMotion : Int32) (a0_cold : Int32) (a0_pairs : Int64) (Kself : Int32 → Int32 → Int32 → Int64 → Int32 → Int32 → Int32 → Int32 → Option (Int32)) (K36 : Int32 → Int32 → Int32 → Int32 → Int32 → Option (Int32)) (x1 : Int32) (x2 : Int32) (x3 : Int32) (x4 : Int32) (x5 : Int32) : Option (Int32) :=
  if a0_members ≤ x5 then (
    some ((-9))
  ) else (
    if x5 = x3 then (
      f_X4_carrying_98 a0_members a0_forMotion a0_cold a0_pairs Kself K36 x1 x2 x3 x4 x5
    ) else (
      ob1 (f_X2_isFrozen x5 x1) fun r4 =>
      if r4 = 0 then (
        ob1 (f_X2_afterMinute a0_members a0_cold a0_pairs x1 x5 x2) fun r7 =>
        ob1 (Kself a0_members a0_forMotion a0_cold a0_pairs r7 x2 x3 (x4 - 1)) fun r9 =>
        if r9 = ((-9)) then (
          f_X4_carrying_98 a0_members a0_forMotion a0_cold a0_pairs Kself K36 x1 x2 x3 x4 x5
        ) else (
          ob1 (f_X4_withFirst x5 r9) fun r12 =>
          some (r12)
        )
      ) else (
        f_X4_carrying_98 a0_members a0_forMotion a0_cold a0_pairs Kself K36 x1 x2 x3 x4 x5
      )
    )
  )
def f_X4_carrying_36 (a0_members : Int32) (a0_forMotion : Int32) (a0_cold : Int32) (a0_pairs : Int64) (Kself : Int32 → Int32 → Int32 → Int64 → Int32 → Int32 → Int32 → Int32 → Option (Int32)) : Nat → Int32 → Int32 → Int32 → Int32 → Int32 → Option (Int32)
  | 0 => fun _ _ _ _ _ => none
  | n + 1 => f_X4_carrying_36_b a0_members a0_forMotion a0_cold a0_pairs Kself (f_X4_carrying_36 a0_members a0_forMotion a0_cold a0_pairs Kself n)
def f_X4_carrying_b (Kself : Int32 → Int32 → Int32 → Int64 → Int32 → Int32 → Int32 → Int32 → Option (Int32)) (a0_members : Int32) (a0_forMotion : Int32) (a0_cold : Int32) (a0_pairs : Int64) (p1 : Int32) (p2 : Int32) (p3 : Int32) (p4 : Int32) : Option (Int32) :=
  if (0 : Int32) < p4 then (
    ob1 (f_X2_mightBeCarried a0_members a0_forMotion a0_cold p1 p4) fun r15 =>
    if r15 = 0 then (
      some ((-9))
    ) else (
      f_X4_carrying_36 a0_members a0_forMotion a0_cold a0_pairs Kself FU p1 p2 p3 p4 0
    )
  ) else (
    ob1 (f_X2_isCarried a0_members a0_forMotion p1) fun r18 =>
    if r18 = 0 then (
      some ((-9))
    ) else (
      some (0)
    )
  )
def f_X4_carrying : Nat → Int32 → Int32 → Int32 → Int64 → Int32 → Int32 → Int32 → Int32 → Option (Int32)
  | 0 => fun _ _ _ _ _ _ _ _ => none
  | n + 1 => f_X4_carrying_b (f_X4_carrying n)
def rm_X4_carrying (n : Nat) : Room := { frames := 5 + n, cells := 0, slots := 0, locals := 127 + 26 * n }
set_option maxHeartbeats 4000000 in
set_option maxRecDepth 100000 in
theorem c_X4_carrying : ∀ (n : Nat) (l : Launch) (D : va_G) (cB cI cZ cM cN : ClassId) (q_a0 : Nat) (a0_members : Int32) (a0_firstWarmth : Int32) (a0_forMotion : Int32) (a0_cold : Int32) (a0_fur : Int32) (a0_coughs : Int32) (a0_seconds : Int32) (a0_pairs : Int64) (p1 : Int32) (p2 : Int32) (p3 : Int32) (p4 : Int32) (r : Int32) (hf : f_X4_carrying n a0_members a0_forMotion a0_cold a0_pairs p1 p2 p3 p4 = some r), Met l yX4_carrying wsX4_carrying (rm_X4_carrying n) (PR D cB cI cZ cM cN [.ref q_a0, .int p1, .int p2, .int p3, .int p4] [(q_a0, .inr (2, [.int a0_members, .int a0_firstWarmth, .int a0_forMotion, .int a0_cold, .int a0_fur, .int a0_coughs, .int a0_seconds, .long a0_pairs]))]) (RI r) 0 0 (fun _ => False) := by
  intro n l D cB cI cZ cM cN
  induction n with
  | zero =>
    intro q_a0 a0_members a0_firstWarmth a0_forMotion a0_cold a0_fur a0_coughs a0_seconds a0_pairs p1 p2 p3 p4 r hf
    exact noneNe hf
  | succ n ihr =>
    intro q_a0 a0_members a0_firstWarmth a0_forMotion a0_cold a0_fur a0_coughs a0_seconds a0_pairs p1 p2 p3 p4 r hf
    refine entR (by decide +kernel) rfl (Nat.le_of_ble_eq_true rfl) ?_
    intro p e s m below meth c hx hb hr hml hown hlocks hts hP hK ls hl
    have hown : s.vm.findClass RX4 = some m.cls := hown
    have hl : lv_has ls 7 [(0, .ref q_a0), (1, .int p1), (2, .int p2), (3, .int p3), (4, .int p4)] := hl
    have hfix : CallFix p m c cX4_carrying 7 s ([.ref q_a0, .int p1, .int p2, .int p3, .int p4] : List Value).toArray wsX4_carrying RX4 := ⟨hx, hb, hml, hown, hts⟩
    have hinX2 : ∀ w ∈ u_ws RX2 TX2 8, w ∈ wsX4_carrying := by decide +kernel
    have g34 := hK.2.use (A := ([.ref q_a0, .int p1, .int p2, .int p3, .int p4] : List Value).toArray) (w := Cond.fieldLinkNest "LastCoat$Plans" 34 "LastCoat$Parliament" "members" "I" "LastCoat") 3 rfl
    have L36 : ∀ (n36 : Nat) (x1 : Int32) (x2 : Int32) (x3 : Int32) (x4 : Int32) (x5 : Int32) (ls : Array Slot), f_X4_carrying_36 a0_members a0_forMotion a0_cold a0_pairs (f_X4_carrying n) n36 x1 x2 x3 x4 x5 = some r → lv_has ls 7 [(0, .ref q_a0), (1, .int x1), (2, .int x2), (3, .int x3), (4, .int x4), (5, .int x5)] → W p l e (rm_X4_carrying (n + 1)) s m ([.ref q_a0, .int p1, .int p2, .int p3, .int p4] : List Value).toArray below meth c s.heap [] 0 0 (MQ below (RI r) ([.ref q_a0, .int p1, .int p2, .int p3, .int p4] : List Value).toArray s 0 0 (fun _ => False)) (F0 m 36 ls []) := by
      intro n36
      induction n36 with
      | zero =>
        intro x1 x2 x3 x4 x5 ls hf hl
        exact noneNe hf
      | succ n36 ih36 =>
        have L98 : ∀ (x1 : Int32) (x2 : Int32) (x3 : Int32) (x4 : Int32) (x5 : Int32) (ls : Array Slot), f_X4_carrying_98 a0_members a0_forMotion a0_cold a0_pairs (f_X4_carrying n) (f_X4_carrying_36 a0_members a0_forMotion a0_cold a0_pairs (f_X4_carrying n) n36) x1 x2 x3 x4 x5 = some r → lv_has ls 7 [(0, .ref q_a0), (1, .int x1), (2, .int x2), (3, .int x3), (4, .int x4), (5, .int x5)] → W p l e (rm_X4_carrying (n + 1)) s m ([.ref q_a0, .int p1, .int p2, .int p3, .int p4] : List Value).toArray below meth c s.heap [] 0 0 (MQ below (RI r) ([.ref q_a0, .int p1, .int p2, .int p3, .int p4] : List Value).toArray s 0 0 (fun _ => False)) (F0 m 98 ls []) := by
          intro x1 x2 x3 x4 x5 ls hf hl
          unfold f_X4_carrying_98 at hf
          obtain ⟨y1, ey1⟩ : ∃ z : Int32, z = x5 + 1 := ⟨_, rfl⟩
          have hf := bnd_at hf ey1
          refine lv_iinc (v := y1) (lv' := [(5, .int y1), (0, .ref q_a0), (1, .int x1), (2, .int x2), (3, .int x3), (4, .int x4)]) hx hb dX4_carrying_98 hl (k := 5) rfl (by rw [ey1]; rfl) (by decide) rfl (fun ls hl => ?_)
          refine lv_goto (tgt := 36) hx hb dX4_carrying_101 (by decide) ?_
          exact ih36 x1 x2 x3 x4 y1 ls hf (lv_sub hl [1, 2, 3, 4, 5, 0] rfl)
        intro x1 x2 x3 x4 x5 ls hf hl
        have hf : f_X4_carrying_36_b a0_members a0_forMotion a0_cold a0_pairs (f_X4_carrying n) (f_X4_carrying_36 a0_members a0_forMotion a0_cold a0_pairs (f_X4_carrying n) n36) x1 x2 x3 x4 x5 = some r := hf
        unfold f_X4_carrying_36_b at hf
        refine lv_iload hx hb dX4_carrying_36 (lv_at hl 5 rfl) ?_
        refine lv_aload_n hx hb dX4_carrying_38 rfl (lv_at hl 0 rfl) ?_
        refine va_getN (D := D) (ci := 2) (v := .int a0_members) (C := RX2) (T := TX2) (N := 8) hx hb hts hinX2 hown hK.1 hP 0 rfl rfl 0 (by decide) g34 (fun _ h9 => h9) rfl dX4_carrying_39 ?_
        refine lv_icmp_ge (tgt := 104) hx hb dX4_carrying_42 (by decide) (fun c2 => ?_) (fun c2 => ?_)
        · have hf := ite_p hf c2
          refine lv_bipush (v := (-9)) hx hb dX4_carrying_104 (by decide) ?_
          have e0_ := Option.some.inj hf
          exact endRI hx hb hr hlocks rfl e0_ dX4_carrying_106
        · have hf := ite_n hf c2
          refine lv_iload hx hb dX4_carrying_45 (lv_at hl 5 rfl) ?_
          refine lv_iload_n hx hb dX4_carrying_47 rfl (lv_at hl 3 rfl) ?_
          refine lv_icmp_eq (tgt := 98) hx hb dX4_carrying_48 (by decide) (fun c3 => ?_) (fun c3 => ?_)
          · have hf := ite_p hf c3
            exact L98 x1 x2 x3 x4 x5 ls hf (lv_sub hl [0, 1, 2, 3, 4, 5] rfl)
          · have hf := ite_n hf c3
            refine lv_iload hx hb dX4_carrying_51 (lv_at hl 5 rfl) ?_
            refine lv_iload_n hx hb dX4_carrying_53 rfl (lv_at hl 1 rfl) ?_
            obtain ⟨r4, h5, hf⟩ := ob1_some hf
            refine roS (c_X2_isFrozen l D cB cI cZ cM cN x5 x1 r4 h5) hfix (va_cwS 2 hts gX4_carrying_X2_isFrozen rfl rfl rfl (by decide +kernel) ⟨(by simp only [rm_X4_carrying]; omega), (by simp only [rm_X4_carrying]; omega)⟩) (subC hP [] rfl) hK rfl hl.1 rfl (Nat.le_of_ble_eq_true rfl) dX4_carrying_54 ⟨Nat.zero_le _, Nat.zero_le _⟩ ?_
            refine lv_if_eq (tgt := 63) hx hb dX4_carrying_57 (by decide) (fun c6 => ?_) (fun c6 => ?_)
            · have hf := ite_p hf c6
              refine lv_aload_n hx hb dX4_carrying_63 rfl (lv_at hl 0 rfl) ?_
              refine lv_aload_n hx hb dX4_carrying_64 rfl (lv_at hl 0 rfl) ?_
              refine lv_iload_n hx hb dX4_carrying_65 rfl (lv_at hl 1 rfl) ?_
              refine lv_iload hx hb dX4_carrying_66 (lv_at hl 5 rfl) ?_
              refine lv_iload_n hx hb dX4_carrying_68 rfl (lv_at hl 2 rfl) ?_
              obtain ⟨r7, h8, hf⟩ := ob1_some hf
              refine roV (c_X2_afterMinute l D cB cI cZ cM cN q_a0 a0_members a0_firstWarmth a0_forMotion a0_cold a0_fur a0_coughs a0_seconds a0_pairs x1 x5 x2 r7 h8) hfix (cwV 3 hts gX4_carrying_X2_afterMinute rfl rfl rfl (by decide +kernel) ⟨(by simp only [rm_X4_carrying]; omega), (by simp only [rm_X4_carrying]; omega)⟩) (subC hP [0] rfl) hK rfl rfl rfl rfl hl.1 rfl (Nat.le_of_ble_eq_true rfl) dX4_carrying_69 ⟨Nat.zero_le _, Nat.zero_le _⟩ ?_
              refine lv_iload_n hx hb dX4_carrying_72 rfl (lv_at hl 2 rfl) ?_
              refine lv_iload_n hx hb dX4_carrying_73 rfl (lv_at hl 3 rfl) ?_
              refine lv_iload hx hb dX4_carrying_74 (lv_at hl 4 rfl) ?_
              refine lv_iconst (v := 1) hx hb dX4_carrying_76 (by decide) ?_
              refine lv_isub hx hb dX4_carrying_77 ?_
              obtain ⟨r9, h10, hf⟩ := ob1_some hf
              refine roS (ihr q_a0 a0_members a0_firstWarmth a0_forMotion a0_cold a0_fur a0_coughs a0_seconds a0_pairs r7 x2 x3 (x4 - 1) r9 h10) hfix (va_cwS 5 hts gX4_carrying_X4_carrying rfl rfl rfl (by decide +kernel) ⟨(by simp only [rm_X4_carrying]; omega), (by simp only [rm_X4_carrying]; omega)⟩) (subC hP [0] rfl) hK rfl hl.1 rfl (Nat.le_of_ble_eq_true rfl) dX4_carrying_78 ⟨Nat.zero_le _, Nat.zero_le _⟩ ?_
              refine lv_istore (lv' := [(6, .int r9), (0, .ref q_a0), (1, .int x1), (2, .int x2), (3, .int x3), (4, .int x4), (5, .int x5)]) hx hb dX4_carrying_81 hl (by decide) rfl (fun ls hl => ?_)
              refine lv_iload hx hb dX4_carrying_83 (lv_at hl 0 rfl) ?_
              refine lv_bipush (v := (-9)) hx hb dX4_carrying_85 (by decide) ?_
              refine lv_icmp_eq (tgt := 98) hx hb dX4_carrying_87 (by decide) (fun c11 => ?_) (fun c11 => ?_)
              · have hf := ite_p hf c11
                exact L98 x1 x2 x3 x4 x5 ls hf (lv_sub hl [1, 2, 3, 4, 5, 6] rfl)
              · have hf := ite_n hf c11
                refine lv_iload hx hb dX4_carrying_90 (lv_at hl 6 rfl) ?_
                refine lv_iload hx hb dX4_carrying_92 (lv_at hl 0 rfl) ?_
                obtain ⟨r12, h13, hf⟩ := ob1_some hf
                refine roS (c_X4_withFirst l D cB cI cZ cM cN x5 r9 r12 h13) hfix (va_cwS 2 hts gX4_carrying_X4_withFirst rfl rfl rfl (by decide +kernel) ⟨(by simp only [rm_X4_carrying]; omega), (by simp only [rm_X4_carrying]; omega)⟩) (subC hP [] rfl) hK rfl hl.1 rfl (Nat.le_of_ble_eq_true rfl) dX4_carrying_94 ⟨Nat.zero_le _, Nat.zero_le _⟩ ?_
                have e0_ := Option.some.inj hf
                exact endRI hx hb hr hlocks rfl e0_ dX4_carrying_97
            · have hf := ite_n hf c6
              refine lv_goto (tgt := 98) hx hb dX4_carrying_60 (by decide) ?_
              exact L98 x1 x2 x3 x4 x5 ls hf (lv_sub hl [0, 1, 2, 3, 4, 5] rfl)
    have hf : f_X4_carrying_b (f_X4_carrying n) a0_members a0_forMotion a0_cold a0_pairs p1 p2 p3 p4 = some r := hf
    unfold f_X4_carrying_b at hf
    refine lv_iload hx hb dX4_carrying_0 (lv_at hl 4 rfl) ?_
    refine lv_if_gt (tgt := 20) hx hb dX4_carrying_2 (by decide) (fun c14 => ?_) (fun c14 => ?_)
    · have hf := ite_p hf c14
      refine lv_aload_n hx hb dX4_carrying_20 rfl (lv_at hl 0 rfl) ?_
      refine lv_iload_n hx hb dX4_carrying_21 rfl (lv_at hl 1 rfl) ?_
      refine lv_iload hx hb dX4_carrying_22 (lv_at hl 4 rfl) ?_
      obtain ⟨r15, h16, hf⟩ := ob1_some hf
      refine roV (c_X2_mightBeCarried l D cB cI cZ cM cN q_a0 a0_members a0_firstWarmth a0_forMotion a0_cold a0_fur a0_coughs a0_seconds a0_pairs p1 p4 r15 h16) hfix (cwV 2 hts gX4_carrying_X2_mightBeCarried rfl rfl rfl (by decide +kernel) ⟨(by simp only [rm_X4_carrying]; omega), (by simp only [rm_X4_carrying]; omega)⟩) (subC hP [0] rfl) hK rfl rfl rfl rfl hl.1 rfl (Nat.le_of_ble_eq_true rfl) dX4_carrying_24 ⟨Nat.zero_le _, Nat.zero_le _⟩ ?_
      refine lv_if_ne (tgt := 33) hx hb dX4_carrying_27 (by decide) (fun c17 => ?_) (fun c17 => ?_)
      · have hf := ite_n hf c17
        refine lv_iconst (v := 0) hx hb dX4_carrying_33 (by decide) ?_
        refine lv_istore (lv' := [(5, .int 0), (0, .ref q_a0), (1, .int p1), (2, .int p2), (3, .int p3), (4, .int p4)]) hx hb dX4_carrying_34 hl (by decide) rfl (fun ls hl => ?_)
        exact L36 FU p1 p2 p3 p4 0 ls hf (lv_sub hl [1, 2, 3, 4, 5, 0] rfl)
      · have hf := ite_p hf c17
        refine lv_bipush (v := (-9)) hx hb dX4_carrying_30 (by decide) ?_
        have e0_ := Option.some.inj hf
        exact endRI hx hb hr hlocks rfl e0_ dX4_carrying_32
    · have hf := ite_n hf c14
      refine lv_aload_n hx hb dX4_carrying_5 rfl (lv_at hl 0 rfl) ?_
      refine lv_iload_n hx hb dX4_carrying_6 rfl (lv_at hl 1 rfl) ?_
      obtain ⟨r18, h19, hf⟩ := ob1_some hf
      refine roV (c_X2_isCarried l D cB cI cZ cM cN q_a0 a0_members a0_firstWarmth a0_forMotion a0_cold a0_fur a0_coughs a0_seconds a0_pairs p1 r18 h19) hfix (cwV 1 hts gX4_carrying_X2_isCarried rfl rfl rfl (by decide +kernel) ⟨(by simp only [rm_X4_carrying]; omega), (by simp only [rm_X4_carrying]; omega)⟩) (subC hP [0] rfl) hK rfl rfl rfl rfl hl.1 rfl (Nat.le_of_ble_eq_true rfl) dX4_carrying_7 ⟨Nat.zero_le _, Nat.zero_le _⟩ ?_
      refine lv_if_eq (tgt := 17) hx hb dX4_carrying_10 (by decide) (fun c20 => ?_) (fun c20 => ?_)
      · have hf := ite_p hf c20
        refine lv_bipush (v := (-9)) hx hb dX4_carrying_17 (by decide) ?_
        have e0_ := Option.some.inj hf
        exact endRI hx hb hr hlocks rfl e0_ dX4_carrying_19
      · have hf := ite_n hf c20
        refine lv_iconst (v := 0) hx hb dX4_carrying_13 (by decide) ?_
        refine lv_goto (tgt := 19) hx hb dX4_carrying_14 (by decide) ?_
        have e0_ := Option.some.inj hf
        exact endRI hx hb hr hlocks rfl e0_ dX4_carrying_19
def f_X4_fewestMinutes_2_b (a0_members : Int32) (a0_forMotion : Int32) (a0_cold : Int32) (a0_pairs : Int64) (a1_warmth : Int32) (a1_fur : Int32) (K2 : Int32 → Int32 → Option (Int32)) (x2 : Int32) (x3 : Int32) : Option (Int32) :=
  if (5 : Int32) < x3 then (
    some ((-9))
  ) else (
    ob1 (f_X4_carrying 8 a0_members a0_forMotion a0_cold a0_pairs a1_warmth a1_fur x2 x3) fun r2 =>
    if r2 = ((-9)) then (
      bnd (x3 + 1) fun y5 =>
      K2 x2 y5
    ) else (
      some (x3)
    )
  )
def f_X4_fewestMinutes_2 (a0_members : Int32) (a0_forMotion : Int32) (a0_cold : Int32) (a0_pairs : Int64) (a1_warmth : Int32) (a1_fur : Int32) : Nat → Int32 → Int32 → Option (Int32)
  | 0 => fun _ _ => none
  | n + 1 => f_X4_fewestMinutes_2_b a0_members a0_forMotion a0_cold a0_pairs a1_warmth a1_fur (f_X4_fewestMinutes_2 a0_members a0_forMotion a0_cold a0_pairs a1_warmth a1_fur n)
def f_X4_fewestMinutes (a0_members : Int32) (a0_forMotion : Int32) (a0_cold : Int32) (a0_pairs : Int64) (a1_warmth : Int32) (a1_fur : Int32) (p2 : Int32) : Option (Int32) :=
  f_X4_fewestMinutes_2 a0_members a0_forMotion a0_cold a0_pairs a1_warmth a1_fur FU p2 0
set_option maxHeartbeats 4000000 in
set_option maxRecDepth 100000 in
theorem c_X4_fewestMinutes (l : Launch) (D : va_G) (cB cI cZ cM cN : ClassId) (q_a0 : Nat) (q_a1 : Nat) (a0_members : Int32) (a0_firstWarmth : Int32) (a0_forMotion : Int32) (a0_cold : Int32) (a0_fur : Int32) (a0_coughs : Int32) (a0_seconds : Int32) (a0_pairs : Int64) (a1_warmth : Int32) (a1_wearer : Int32) (a1_fur : Int32) (a1_minutes : Int32) (a1_lot : Int32) (p2 : Int32) (r : Int32) (hf : f_X4_fewestMinutes a0_members a0_forMotion a0_cold a0_pairs a1_warmth a1_fur p2 = some r) : Met l yX4_fewestMinutes wsX4_fewestMinutes ({ frames := 14, cells := 0, slots := 0, locals := 361 } : Room) (PR D cB cI cZ cM cN [.ref q_a0, .ref q_a1, .int p2] [(q_a0, .inr (2, [.int a0_members, .int a0_firstWarmth, .int a0_forMotion, .int a0_cold, .int a0_fur, .int a0_coughs, .int a0_seconds, .long a0_pairs])), (q_a1, .inr (1, [.int a1_warmth, .int a1_wearer, .int a1_fur, .int a1_minutes, .int a1_lot]))]) (RI r) 0 0 (fun _ => False) := by
  refine entR (by decide +kernel) rfl (Nat.le_of_ble_eq_true rfl) ?_
  intro p e s m below meth c hx hb hr hml hown hlocks hts hP hK ls hl
  have hown : s.vm.findClass RX4 = some m.cls := hown
  have hl : lv_has ls 4 [(0, .ref q_a0), (1, .ref q_a1), (2, .int p2)] := hl
  have hfix : CallFix p m c cX4_fewestMinutes 4 s ([.ref q_a0, .ref q_a1, .int p2] : List Value).toArray wsX4_fewestMinutes RX4 := ⟨hx, hb, hml, hown, hts⟩
  have hinX1 : ∀ w ∈ u_ws RX1 TX1 5, w ∈ wsX4_fewestMinutes := by decide +kernel
  have g11 := hK.2.use (A := ([.ref q_a0, .ref q_a1, .int p2] : List Value).toArray) (w := Cond.fieldLinkNest "LastCoat$Plans" 11 "LastCoat$Now" "warmth" "I" "LastCoat") 17 rfl
  have g17 := hK.2.use (A := ([.ref q_a0, .ref q_a1, .int p2] : List Value).toArray) (w := Cond.fieldLinkNest "LastCoat$Plans" 17 "LastCoat$Now" "fur" "I" "LastCoat") 21 rfl
  have L2 : ∀ (n2 : Nat) (x2 : Int32) (x3 : Int32) (ls : Array Slot), f_X4_fewestMinutes_2 a0_members a0_forMotion a0_cold a0_pairs a1_warmth a1_fur n2 x2 x3 = some r → lv_has ls 4 [(0, .ref q_a0), (1, .ref q_a1), (2, .int x2), (3, .int x3)] → W p l e ({ frames := 14, cells := 0, slots := 0, locals := 361 } : Room) s m ([.ref q_a0, .ref q_a1, .int p2] : List Value).toArray below meth c s.heap [] 0 0 (MQ below (RI r) ([.ref q_a0, .ref q_a1, .int p2] : List Value).toArray s 0 0 (fun _ => False)) (F0 m 2 ls []) := by
    intro n2
    induction n2 with
    | zero =>
      intro x2 x3 ls hf hl
      exact noneNe hf
    | succ n2 ih2 =>
      intro x2 x3 ls hf hl
      have hf : f_X4_fewestMinutes_2_b a0_members a0_forMotion a0_cold a0_pairs a1_warmth a1_fur (f_X4_fewestMinutes_2 a0_members a0_forMotion a0_cold a0_pairs a1_warmth a1_fur n2) x2 x3 = some r := hf
      unfold f_X4_fewestMinutes_2_b at hf
      refine lv_iload_n hx hb dX4_fewestMinutes_2 rfl (lv_at hl 3 rfl) ?_
      refine lv_iconst (v := 5) hx hb dX4_fewestMinutes_3 (by decide) ?_
      refine lv_icmp_gt (tgt := 34) hx hb dX4_fewestMinutes_4 (by decide) (fun c1 => ?_) (fun c1 => ?_)
      · have hf := ite_p hf c1
        refine lv_bipush (v := (-9)) hx hb dX4_fewestMinutes_34 (by decide) ?_
        have e0_ := Option.some.inj hf
        exact endRI hx hb hr hlocks rfl e0_ dX4_fewestMinutes_36
      · have hf := ite_n hf c1
        refine lv_aload_n hx hb dX4_fewestMinutes_7 rfl (lv_at hl 0 rfl) ?_
        refine lv_aload_n hx hb dX4_fewestMinutes_8 rfl (lv_at hl 1 rfl) ?_
        refine va_getN (D := D) (ci := 1) (v := .int a1_warmth) (C := RX1) (T := TX1) (N := 5) hx hb hts hinX1 hown hK.1 hP 1 rfl rfl 0 (by decide) g11 (fun _ h9 => h9) rfl dX4_fewestMinutes_9 ?_
        refine lv_aload_n hx hb dX4_fewestMinutes_12 rfl (lv_at hl 1 rfl) ?_
        refine va_getN (D := D) (ci := 1) (v := .int a1_fur) (C := RX1) (T := TX1) (N := 5) hx hb hts hinX1 hown hK.1 hP 1 rfl rfl 2 (by decide) g17 (fun _ h9 => h9) rfl dX4_fewestMinutes_13 ?_
        refine lv_iload_n hx hb dX4_fewestMinutes_16 rfl (lv_at hl 2 rfl) ?_
        refine lv_iload_n hx hb dX4_fewestMinutes_17 rfl (lv_at hl 3 rfl) ?_
        obtain ⟨r2, h3, hf⟩ := ob1_some hf
        refine roS (c_X4_carrying 8 l D cB cI cZ cM cN q_a0 a0_members a0_firstWarmth a0_forMotion a0_cold a0_fur a0_coughs a0_seconds a0_pairs a1_warmth a1_fur x2 x3 r2 h3) hfix (va_cwS 5 hts gX4_fewestMinutes_X4_carrying rfl rfl rfl (by decide +kernel) ⟨Nat.le_of_ble_eq_true rfl, Nat.le_of_ble_eq_true rfl⟩) (subC hP [0] rfl) hK rfl hl.1 rfl (Nat.le_of_ble_eq_true rfl) dX4_fewestMinutes_18 ⟨Nat.zero_le _, Nat.zero_le _⟩ ?_
        refine lv_bipush (v := (-9)) hx hb dX4_fewestMinutes_21 (by decide) ?_
        refine lv_icmp_eq (tgt := 28) hx hb dX4_fewestMinutes_23 (by decide) (fun c4 => ?_) (fun c4 => ?_)
        · have hf := ite_p hf c4
          obtain ⟨y5, ey5⟩ : ∃ z : Int32, z = x3 + 1 := ⟨_, rfl⟩
          have hf := bnd_at hf ey5
          refine lv_iinc (v := y5) (lv' := [(3, .int y5), (0, .ref q_a0), (1, .ref q_a1), (2, .int x2)]) hx hb dX4_fewestMinutes_28 hl (k := 3) rfl (by rw [ey5]; rfl) (by decide) rfl (fun ls hl => ?_)
          refine lv_goto (tgt := 2) hx hb dX4_fewestMinutes_31 (by decide) ?_
          exact ih2 x2 y5 ls hf (lv_sub hl [1, 2, 3, 0] rfl)
        · have hf := ite_n hf c4
          refine lv_iload_n hx hb dX4_fewestMinutes_26 rfl (lv_at hl 3 rfl) ?_
          have e0_ := Option.some.inj hf
          exact endRI hx hb hr hlocks rfl e0_ dX4_fewestMinutes_27
  unfold f_X4_fewestMinutes at hf
  refine lv_iconst (v := 0) hx hb dX4_fewestMinutes_0 (by decide) ?_
  refine lv_istore_n (lv' := [(3, .int 0), (0, .ref q_a0), (1, .ref q_a1), (2, .int p2)]) hx hb dX4_fewestMinutes_1 rfl hl (by decide) rfl (fun ls hl => ?_)
  exact L2 FU p2 0 ls hf (lv_sub hl [1, 2, 3, 0] rfl)
def f_X4_firstToCarry (a0_members : Int32) (a0_forMotion : Int32) (a0_cold : Int32) (a0_pairs : Int64) (a1_warmth : Int32) (a1_fur : Int32) (p2 : Int32) : Option (Int32) :=
  ob1 (f_X4_carrying 8 a0_members a0_forMotion a0_cold a0_pairs a1_warmth a1_fur ((-9)) p2) fun r1 =>
  some (r1)
set_option maxHeartbeats 4000000 in
set_option maxRecDepth 100000 in
theorem c_X4_firstToCarry (l : Launch) (D : va_G) (cB cI cZ cM cN : ClassId) (q_a0 : Nat) (q_a1 : Nat) (a0_members : Int32) (a0_firstWarmth : Int32) (a0_forMotion : Int32) (a0_cold : Int32) (a0_fur : Int32) (a0_coughs : Int32) (a0_seconds : Int32) (a0_pairs : Int64) (a1_warmth : Int32) (a1_wearer : Int32) (a1_fur : Int32) (a1_minutes : Int32) (a1_lot : Int32) (p2 : Int32) (r : Int32) (hf : f_X4_firstToCarry a0_members a0_forMotion a0_cold a0_pairs a1_warmth a1_fur p2 = some r) : Met l yX4_firstToCarry wsX4_firstToCarry ({ frames := 14, cells := 0, slots := 0, locals := 361 } : Room) (PR D cB cI cZ cM cN [.ref q_a0, .ref q_a1, .int p2] [(q_a0, .inr (2, [.int a0_members, .int a0_firstWarmth, .int a0_forMotion, .int a0_cold, .int a0_fur, .int a0_coughs, .int a0_seconds, .long a0_pairs])), (q_a1, .inr (1, [.int a1_warmth, .int a1_wearer, .int a1_fur, .int a1_minutes, .int a1_lot]))]) (RI r) 0 0 (fun _ => False) := by
  refine entR (by decide +kernel) rfl (Nat.le_of_ble_eq_true rfl) ?_
  intro p e s m below meth c hx hb hr hml hown hlocks hts hP hK ls hl
  have hown : s.vm.findClass RX4 = some m.cls := hown
  have hl : lv_has ls 3 [(0, .ref q_a0), (1, .ref q_a1), (2, .int p2)] := hl
  have hfix : CallFix p m c cX4_firstToCarry 3 s ([.ref q_a0, .ref q_a1, .int p2] : List Value).toArray wsX4_firstToCarry RX4 := ⟨hx, hb, hml, hown, hts⟩
  have hinX1 : ∀ w ∈ u_ws RX1 TX1 5, w ∈ wsX4_firstToCarry := by decide +kernel
  have g11 := hK.2.use (A := ([.ref q_a0, .ref q_a1, .int p2] : List Value).toArray) (w := Cond.fieldLinkNest "LastCoat$Plans" 11 "LastCoat$Now" "warmth" "I" "LastCoat") 17 rfl
  have g17 := hK.2.use (A := ([.ref q_a0, .ref q_a1, .int p2] : List Value).toArray) (w := Cond.fieldLinkNest "LastCoat$Plans" 17 "LastCoat$Now" "fur" "I" "LastCoat") 21 rfl
  unfold f_X4_firstToCarry at hf
  refine lv_aload_n hx hb dX4_firstToCarry_0 rfl (lv_at hl 0 rfl) ?_
  refine lv_aload_n hx hb dX4_firstToCarry_1 rfl (lv_at hl 1 rfl) ?_
  refine va_getN (D := D) (ci := 1) (v := .int a1_warmth) (C := RX1) (T := TX1) (N := 5) hx hb hts hinX1 hown hK.1 hP 1 rfl rfl 0 (by decide) g11 (fun _ h9 => h9) rfl dX4_firstToCarry_2 ?_
  refine lv_aload_n hx hb dX4_firstToCarry_5 rfl (lv_at hl 1 rfl) ?_
  refine va_getN (D := D) (ci := 1) (v := .int a1_fur) (C := RX1) (T := TX1) (N := 5) hx hb hts hinX1 hown hK.1 hP 1 rfl rfl 2 (by decide) g17 (fun _ h9 => h9) rfl dX4_firstToCarry_6 ?_
  refine lv_bipush (v := (-9)) hx hb dX4_firstToCarry_9 (by decide) ?_
  refine lv_iload_n hx hb dX4_firstToCarry_11 rfl (lv_at hl 2 rfl) ?_
  obtain ⟨r1, h2, hf⟩ := ob1_some hf
  refine roS (c_X4_carrying 8 l D cB cI cZ cM cN q_a0 a0_members a0_firstWarmth a0_forMotion a0_cold a0_fur a0_coughs a0_seconds a0_pairs a1_warmth a1_fur ((-9)) p2 r1 h2) hfix (va_cwS 5 hts gX4_firstToCarry_X4_carrying rfl rfl rfl (by decide +kernel) ⟨Nat.le_of_ble_eq_true rfl, Nat.le_of_ble_eq_true rfl⟩) (subC hP [0] rfl) hK rfl hl.1 rfl (Nat.le_of_ble_eq_true rfl) dX4_firstToCarry_12 ⟨Nat.zero_le _, Nat.zero_le _⟩ ?_
  have e0_ := Option.some.inj hf
  exact endRI hx hb hr hlocks rfl e0_ dX4_firstToCarry_15
def f_X4_saving_119 (a0_members : Int32) (a0_cold : Int32) (a0_pairs : Int64) (Kself : Int32 → Int32 → Int64 → Int32 → Int32 → Int32 → Int32 → Option (Int32)) (K38 : Int32 → Int32 → Int32 → Int32 → Int32 → Int32 → Int32 → Option (Int32)) (x1 : Int32) (x2 : Int32) (x3 : Int32) (x5 : Int32) (x6 : Int32) (x7 : Int32) (x8 : Int32) : Option (Int32) :=
  bnd (x8 + 1) fun y1 =>
  K38 x1 x2 x3 x5 x6 x7 y1
def f_X4_saving_38_b (a0_members : Int32) (a0_cold : Int32) (a0_pairs : Int64) (Kself : Int32 → Int32 → Int64 → Int32 → Int32 → Int32 → Int32 → Option (Int32)) (K38 : Int32 → Int32 → Int32 → Int32 → Int32 → Int32 → Int32 → Option (Int32)) (x1 : Int32) (x2 : Int32) (x3 : Int32) (x5 : Int32) (x6 : Int32) (x7 : Int32) (x8 : Int32) : Option (Int32) :=
  if a0_members ≤ x8 then (
    some (x6)
  ) else (
    if x5 ≤ x7 then (
      some (x6)
    ) else (
      ob1 (f_X2_isFrozen x8 x1) fun r4 =>
      if r4 = 0 then (
        ob1 (f_X2_afterMinute a0_members a0_cold a0_pairs x1 x8 x2) fun r7 =>
        ob1 (Kself a0_members a0_cold a0_pairs r7 x2 (x3 - 1) x7) fun r9 =>
        if r9 = ((-9)) then (
          f_X4_saving_119 a0_members a0_cold a0_pairs Kself K38 x1 x2 x3 x5 x6 x7 x8
        ) else (
          ob1 (f_X4_saved r9) fun r12 =>
          ob1 (f_X4_withFirst x8 (r9 &&& 32767)) fun r14 =>
          bnd ((r12 <<< ((15 : Int32) &&& 31)) ||| r14) fun y16 =>
          f_X4_saving_119 a0_members a0_cold a0_pairs Kself K38 x1 x2 x3 x5 y16 r12 x8
        )
      ) else (
        f_X4_saving_119 a0_members a0_cold a0_pairs Kself K38 x1 x2 x3 x5 x6 x7 x8
      )
    )
  )
def f_X4_saving_38 (a0_members : Int32) (a0_cold : Int32) (a0_pairs : Int64) (Kself : Int32 → Int32 → Int64 → Int32 → Int32 → Int32 → Int32 → Option (Int32)) : Nat → Int32 → Int32 → Int32 → Int32 → Int32 → Int32 → Int32 → Option (Int32)
  | 0 => fun _ _ _ _ _ _ _ => none
  | n + 1 => f_X4_saving_38_b a0_members a0_cold a0_pairs Kself (f_X4_saving_38 a0_members a0_cold a0_pairs Kself n)
def f_X4_saving_b (Kself : Int32 → Int32 → Int64 → Int32 → Int32 → Int32 → Int32 → Option (Int32)) (a0_members : Int32) (a0_cold : Int32) (a0_pairs : Int64) (p1 : Int32) (p2 : Int32) (p3 : Int32) (p4 : Int32) : Option (Int32) :=
  ob1 (f_X2_notFrozen a0_members p1) fun r17 =>
  if p4 < r17 then (
    if (0 : Int32) < p3 then (
      f_X4_saving_38 a0_members a0_cold a0_pairs Kself FU p1 p2 p3 r17 ((-9)) p4 0
    ) else (
      some (r17 <<< ((15 : Int32) &&& 31))
    )
  ) else (
    some ((-9))
  )
def f_X4_saving : Nat → Int32 → Int32 → Int64 → Int32 → Int32 → Int32 → Int32 → Option (Int32)
  | 0 => fun _ _ _ _ _ _ _ => none
  | n + 1 => f_X4_saving_b (f_X4_saving n)
def rm_X4_saving (n : Nat) : Room := { frames := 5 + n, cells := 0, slots := 0, locals := 126 + 29 * n }
set_option maxHeartbeats 4000000 in
set_option maxRecDepth 100000 in
theorem c_X4_saving : ∀ (n : Nat) (l : Launch) (D : va_G) (cB cI cZ cM cN : ClassId) (q_a0 : Nat) (a0_members : Int32) (a0_firstWarmth : Int32) (a0_forMotion : Int32) (a0_cold : Int32) (a0_fur : Int32) (a0_coughs : Int32) (a0_seconds : Int32) (a0_pairs : Int64) (p1 : Int32) (p2 : Int32) (p3 : Int32) (p4 : Int32) (r : Int32) (hf : f_X4_saving n a0_members a0_cold a0_pairs p1 p2 p3 p4 = some r), Met l yX4_saving wsX4_saving (rm_X4_saving n) (PR D cB cI cZ cM cN [.ref q_a0, .int p1, .int p2, .int p3, .int p4] [(q_a0, .inr (2, [.int a0_members, .int a0_firstWarmth, .int a0_forMotion, .int a0_cold, .int a0_fur, .int a0_coughs, .int a0_seconds, .long a0_pairs]))]) (RI r) 0 0 (fun _ => False) := by
  intro n l D cB cI cZ cM cN
  induction n with
  | zero =>
    intro q_a0 a0_members a0_firstWarmth a0_forMotion a0_cold a0_fur a0_coughs a0_seconds a0_pairs p1 p2 p3 p4 r hf
    exact noneNe hf
  | succ n ihr =>
    intro q_a0 a0_members a0_firstWarmth a0_forMotion a0_cold a0_fur a0_coughs a0_seconds a0_pairs p1 p2 p3 p4 r hf
    refine entR (by decide +kernel) rfl (Nat.le_of_ble_eq_true rfl) ?_
    intro p e s m below meth c hx hb hr hml hown hlocks hts hP hK ls hl
    have hown : s.vm.findClass RX4 = some m.cls := hown
    have hl : lv_has ls 10 [(0, .ref q_a0), (1, .int p1), (2, .int p2), (3, .int p3), (4, .int p4)] := hl
    have hfix : CallFix p m c cX4_saving 10 s ([.ref q_a0, .int p1, .int p2, .int p3, .int p4] : List Value).toArray wsX4_saving RX4 := ⟨hx, hb, hml, hown, hts⟩
    have hinX2 : ∀ w ∈ u_ws RX2 TX2 8, w ∈ wsX4_saving := by decide +kernel
    have g34 := hK.2.use (A := ([.ref q_a0, .int p1, .int p2, .int p3, .int p4] : List Value).toArray) (w := Cond.fieldLinkNest "LastCoat$Plans" 34 "LastCoat$Parliament" "members" "I" "LastCoat") 3 rfl
    have L38 : ∀ (n38 : Nat) (x1 : Int32) (x2 : Int32) (x3 : Int32) (x5 : Int32) (x6 : Int32) (x7 : Int32) (x8 : Int32) (ls : Array Slot), f_X4_saving_38 a0_members a0_cold a0_pairs (f_X4_saving n) n38 x1 x2 x3 x5 x6 x7 x8 = some r → lv_has ls 10 [(0, .ref q_a0), (1, .int x1), (2, .int x2), (3, .int x3), (5, .int x5), (6, .int x6), (7, .int x7), (8, .int x8)] → W p l e (rm_X4_saving (n + 1)) s m ([.ref q_a0, .int p1, .int p2, .int p3, .int p4] : List Value).toArray below meth c s.heap [] 0 0 (MQ below (RI r) ([.ref q_a0, .int p1, .int p2, .int p3, .int p4] : List Value).toArray s 0 0 (fun _ => False)) (F0 m 38 ls []) := by
      intro n38
      induction n38 with
      | zero =>
        intro x1 x2 x3 x5 x6 x7 x8 ls hf hl
        exact noneNe hf
      | succ n38 ih38 =>
        have L119 : ∀ (x1 : Int32) (x2 : Int32) (x3 : Int32) (x5 : Int32) (x6 : Int32) (x7 : Int32) (x8 : Int32) (ls : Array Slot), f_X4_saving_119 a0_members a0_cold a0_pairs (f_X4_saving n) (f_X4_saving_38 a0_members a0_cold a0_pairs (f_X4_saving n) n38) x1 x2 x3 x5 x6 x7 x8 = some r → lv_has ls 10 [(0, .ref q_a0), (1, .int x1), (2, .int x2), (3, .int x3), (5, .int x5), (6, .int x6), (7, .int x7), (8, .int x8)] → W p l e (rm_X4_saving (n + 1)) s m ([.ref q_a0, .int p1, .int p2, .int p3, .int p4] : List Value).toArray below meth c s.heap [] 0 0 (MQ below (RI r) ([.ref q_a0, .int p1, .int p2, .int p3, .int p4] : List Value).toArray s 0 0 (fun _ => False)) (F0 m 119 ls []) := by
          intro x1 x2 x3 x5 x6 x7 x8 ls hf hl
          unfold f_X4_saving_119 at hf
          obtain ⟨y1, ey1⟩ : ∃ z : Int32, z = x8 + 1 := ⟨_, rfl⟩
          have hf := bnd_at hf ey1
          refine lv_iinc (v := y1) (lv' := [(8, .int y1), (0, .ref q_a0), (1, .int x1), (2, .int x2), (3, .int x3), (5, .int x5), (6, .int x6), (7, .int x7)]) hx hb dX4_saving_119 hl (k := 7) rfl (by rw [ey1]; rfl) (by decide) rfl (fun ls hl => ?_)
          refine lv_goto (tgt := 38) hx hb dX4_saving_122 (by decide) ?_
          exact ih38 x1 x2 x3 x5 x6 x7 y1 ls hf (lv_sub hl [1, 2, 3, 4, 5, 6, 7, 0] rfl)
        intro x1 x2 x3 x5 x6 x7 x8 ls hf hl
        have hf : f_X4_saving_38_b a0_members a0_cold a0_pairs (f_X4_saving n) (f_X4_saving_38 a0_members a0_cold a0_pairs (f_X4_saving n) n38) x1 x2 x3 x5 x6 x7 x8 = some r := hf
        unfold f_X4_saving_38_b at hf
        refine lv_iload hx hb dX4_saving_38 (lv_at hl 7 rfl) ?_
        refine lv_aload_n hx hb dX4_saving_40 rfl (lv_at hl 0 rfl) ?_
        refine va_getN (D := D) (ci := 2) (v := .int a0_members) (C := RX2) (T := TX2) (N := 8) hx hb hts hinX2 hown hK.1 hP 0 rfl rfl 0 (by decide) g34 (fun _ h9 => h9) rfl dX4_saving_41 ?_
        refine lv_icmp_ge (tgt := 125) hx hb dX4_saving_44 (by decide) (fun c2 => ?_) (fun c2 => ?_)
        · have hf := ite_p hf c2
          refine lv_iload hx hb dX4_saving_125 (lv_at hl 5 rfl) ?_
          have e0_ := Option.some.inj hf
          exact endRI hx hb hr hlocks rfl e0_ dX4_saving_127
        · have hf := ite_n hf c2
          refine lv_iload hx hb dX4_saving_47 (lv_at hl 6 rfl) ?_
          refine lv_iload hx hb dX4_saving_49 (lv_at hl 4 rfl) ?_
          refine lv_icmp_ge (tgt := 125) hx hb dX4_saving_51 (by decide) (fun c3 => ?_) (fun c3 => ?_)
          · have hf := ite_p hf c3
            refine lv_iload hx hb dX4_saving_125 (lv_at hl 5 rfl) ?_
            have e0_ := Option.some.inj hf
            exact endRI hx hb hr hlocks rfl e0_ dX4_saving_127
          · have hf := ite_n hf c3
            refine lv_iload hx hb dX4_saving_54 (lv_at hl 7 rfl) ?_
            refine lv_iload_n hx hb dX4_saving_56 rfl (lv_at hl 1 rfl) ?_
            obtain ⟨r4, h5, hf⟩ := ob1_some hf
            refine roS (c_X2_isFrozen l D cB cI cZ cM cN x8 x1 r4 h5) hfix (va_cwS 2 hts gX4_saving_X2_isFrozen rfl rfl rfl (by decide +kernel) ⟨(by simp only [rm_X4_saving]; omega), (by simp only [rm_X4_saving]; omega)⟩) (subC hP [] rfl) hK rfl hl.1 rfl (Nat.le_of_ble_eq_true rfl) dX4_saving_57 ⟨Nat.zero_le _, Nat.zero_le _⟩ ?_
            refine lv_if_eq (tgt := 66) hx hb dX4_saving_60 (by decide) (fun c6 => ?_) (fun c6 => ?_)
            · have hf := ite_p hf c6
              refine lv_aload_n hx hb dX4_saving_66 rfl (lv_at hl 0 rfl) ?_
              refine lv_aload_n hx hb dX4_saving_67 rfl (lv_at hl 0 rfl) ?_
              refine lv_iload_n hx hb dX4_saving_68 rfl (lv_at hl 1 rfl) ?_
              refine lv_iload hx hb dX4_saving_69 (lv_at hl 7 rfl) ?_
              refine lv_iload_n hx hb dX4_saving_71 rfl (lv_at hl 2 rfl) ?_
              obtain ⟨r7, h8, hf⟩ := ob1_some hf
              refine roV (c_X2_afterMinute l D cB cI cZ cM cN q_a0 a0_members a0_firstWarmth a0_forMotion a0_cold a0_fur a0_coughs a0_seconds a0_pairs x1 x8 x2 r7 h8) hfix (cwV 3 hts gX4_saving_X2_afterMinute rfl rfl rfl (by decide +kernel) ⟨(by simp only [rm_X4_saving]; omega), (by simp only [rm_X4_saving]; omega)⟩) (subC hP [0] rfl) hK rfl rfl rfl rfl hl.1 rfl (Nat.le_of_ble_eq_true rfl) dX4_saving_72 ⟨Nat.zero_le _, Nat.zero_le _⟩ ?_
              refine lv_iload_n hx hb dX4_saving_75 rfl (lv_at hl 2 rfl) ?_
              refine lv_iload_n hx hb dX4_saving_76 rfl (lv_at hl 3 rfl) ?_
              refine lv_iconst (v := 1) hx hb dX4_saving_77 (by decide) ?_
              refine lv_isub hx hb dX4_saving_78 ?_
              refine lv_iload hx hb dX4_saving_79 (lv_at hl 6 rfl) ?_
              obtain ⟨r9, h10, hf⟩ := ob1_some hf
              refine roS (ihr q_a0 a0_members a0_firstWarmth a0_forMotion a0_cold a0_fur a0_coughs a0_seconds a0_pairs r7 x2 (x3 - 1) x7 r9 h10) hfix (va_cwS 5 hts gX4_saving_X4_saving rfl rfl rfl (by decide +kernel) ⟨(by simp only [rm_X4_saving]; omega), (by simp only [rm_X4_saving]; omega)⟩) (subC hP [0] rfl) hK rfl hl.1 rfl (Nat.le_of_ble_eq_true rfl) dX4_saving_81 ⟨Nat.zero_le _, Nat.zero_le _⟩ ?_
              refine lv_istore (lv' := [(9, .int r9), (0, .ref q_a0), (1, .int x1), (2, .int x2), (3, .int x3), (5, .int x5), (6, .int x6), (7, .int x7), (8, .int x8)]) hx hb dX4_saving_84 hl (by decide) rfl (fun ls hl => ?_)
              refine lv_iload hx hb dX4_saving_86 (lv_at hl 0 rfl) ?_
              refine lv_bipush (v := (-9)) hx hb dX4_saving_88 (by decide) ?_
              refine lv_icmp_eq (tgt := 119) hx hb dX4_saving_90 (by decide) (fun c11 => ?_) (fun c11 => ?_)
              · have hf := ite_p hf c11
                exact L119 x1 x2 x3 x5 x6 x7 x8 ls hf (lv_sub hl [1, 2, 3, 4, 5, 6, 7, 8] rfl)
              · have hf := ite_n hf c11
                refine lv_iload hx hb dX4_saving_93 (lv_at hl 0 rfl) ?_
                obtain ⟨r12, h13, hf⟩ := ob1_some hf
                refine roS (c_X4_saved l D cB cI cZ cM cN r9 r12 h13) hfix (va_cwS 1 hts gX4_saving_X4_saved rfl rfl rfl (by decide +kernel) ⟨(by simp only [rm_X4_saving]; omega), (by simp only [rm_X4_saving]; omega)⟩) (subC hP [] rfl) hK rfl hl.1 rfl (Nat.le_of_ble_eq_true rfl) dX4_saving_95 ⟨Nat.zero_le _, Nat.zero_le _⟩ ?_
                refine lv_istore (lv' := [(7, .int r12), (9, .int r9), (0, .ref q_a0), (1, .int x1), (2, .int x2), (3, .int x3), (5, .int x5), (6, .int x6), (8, .int x8)]) hx hb dX4_saving_98 hl (by decide) rfl (fun ls hl => ?_)
                refine lv_iload hx hb dX4_saving_100 (lv_at hl 0 rfl) ?_
                refine lv_bipush (v := 15) hx hb dX4_saving_102 (by decide) ?_
                refine lv_ishl hx hb dX4_saving_104 ?_
                refine lv_iload hx hb dX4_saving_105 (lv_at hl 8 rfl) ?_
                refine lv_iload hx hb dX4_saving_107 (lv_at hl 1 rfl) ?_
                refine lv_sipush (v := 32767) hx hb dX4_saving_109 (by decide) ?_
                refine lv_iand hx hb dX4_saving_112 ?_
                obtain ⟨r14, h15, hf⟩ := ob1_some hf
                refine roS (c_X4_withFirst l D cB cI cZ cM cN x8 (r9 &&& 32767) r14 h15) hfix (va_cwS 2 hts gX4_saving_X4_withFirst rfl rfl rfl (by decide +kernel) ⟨(by simp only [rm_X4_saving]; omega), (by simp only [rm_X4_saving]; omega)⟩) (subC hP [] rfl) hK rfl hl.1 rfl (Nat.le_of_ble_eq_true rfl) dX4_saving_113 ⟨Nat.zero_le _, Nat.zero_le _⟩ ?_
                refine lv_ior hx hb dX4_saving_116 ?_
                refine lv_topi (fun y16 ey16 => ?_)
                have hf := bnd_at hf ey16
                refine lv_istore (lv' := [(6, .int y16), (7, .int r12), (9, .int r9), (0, .ref q_a0), (1, .int x1), (2, .int x2), (3, .int x3), (5, .int x5), (8, .int x8)]) hx hb dX4_saving_117 hl (by decide) rfl (fun ls hl => ?_)
                exact L119 x1 x2 x3 x5 y16 r12 x8 ls hf (lv_sub hl [3, 4, 5, 6, 7, 0, 1, 8] rfl)
            · have hf := ite_n hf c6
              refine lv_goto (tgt := 119) hx hb dX4_saving_63 (by decide) ?_
              exact L119 x1 x2 x3 x5 x6 x7 x8 ls hf (lv_sub hl [0, 1, 2, 3, 4, 5, 6, 7] rfl)
    have hf : f_X4_saving_b (f_X4_saving n) a0_members a0_cold a0_pairs p1 p2 p3 p4 = some r := hf
    unfold f_X4_saving_b at hf
    refine lv_aload_n hx hb dX4_saving_0 rfl (lv_at hl 0 rfl) ?_
    refine lv_iload_n hx hb dX4_saving_1 rfl (lv_at hl 1 rfl) ?_
    obtain ⟨r17, h18, hf⟩ := ob1_some hf
    refine roV (c_X2_notFrozen l D cB cI cZ cM cN q_a0 a0_members a0_firstWarmth a0_forMotion a0_cold a0_fur a0_coughs a0_seconds a0_pairs p1 r17 h18) hfix (cwV 1 hts gX4_saving_X2_notFrozen rfl rfl rfl (by decide +kernel) ⟨(by simp only [rm_X4_saving]; omega), (by simp only [rm_X4_saving]; omega)⟩) (subC hP [0] rfl) hK rfl rfl rfl rfl hl.1 rfl (Nat.le_of_ble_eq_true rfl) dX4_saving_2 ⟨Nat.zero_le _, Nat.zero_le _⟩ ?_
    refine lv_istore (lv' := [(5, .int r17), (0, .ref q_a0), (1, .int p1), (2, .int p2), (3, .int p3), (4, .int p4)]) hx hb dX4_saving_5 hl (by decide) rfl (fun ls hl => ?_)
    refine lv_iload hx hb dX4_saving_7 (lv_at hl 0 rfl) ?_
    refine lv_iload hx hb dX4_saving_9 (lv_at hl 5 rfl) ?_
    refine lv_icmp_gt (tgt := 17) hx hb dX4_saving_11 (by decide) (fun c19 => ?_) (fun c19 => ?_)
    · have hf := ite_p hf c19
      refine lv_iload_n hx hb dX4_saving_17 rfl (lv_at hl 4 rfl) ?_
      refine lv_if_gt (tgt := 27) hx hb dX4_saving_18 (by decide) (fun c20 => ?_) (fun c20 => ?_)
      · have hf := ite_p hf c20
        refine lv_bipush (v := (-9)) hx hb dX4_saving_27 (by decide) ?_
        refine lv_istore (lv' := [(6, .int ((-9))), (5, .int r17), (0, .ref q_a0), (1, .int p1), (2, .int p2), (3, .int p3), (4, .int p4)]) hx hb dX4_saving_29 hl (by decide) rfl (fun ls hl => ?_)
        refine lv_iload hx hb dX4_saving_31 (lv_at hl 6 rfl) ?_
        refine lv_istore (lv' := [(7, .int p4), (6, .int ((-9))), (5, .int r17), (0, .ref q_a0), (1, .int p1), (2, .int p2), (3, .int p3), (4, .int p4)]) hx hb dX4_saving_33 hl (by decide) rfl (fun ls hl => ?_)
        refine lv_iconst (v := 0) hx hb dX4_saving_35 (by decide) ?_
        refine lv_istore (lv' := [(8, .int 0), (7, .int p4), (6, .int ((-9))), (5, .int r17), (0, .ref q_a0), (1, .int p1), (2, .int p2), (3, .int p3), (4, .int p4)]) hx hb dX4_saving_36 hl (by decide) rfl (fun ls hl => ?_)
        exact L38 FU p1 p2 p3 r17 ((-9)) p4 0 ls hf (lv_sub hl [4, 5, 6, 7, 3, 2, 1, 0] rfl)
      · have hf := ite_n hf c20
        refine lv_iload hx hb dX4_saving_21 (lv_at hl 0 rfl) ?_
        refine lv_bipush (v := 15) hx hb dX4_saving_23 (by decide) ?_
        refine lv_ishl hx hb dX4_saving_25 ?_
        have e0_ := Option.some.inj hf
        exact endRI hx hb hr hlocks rfl e0_ dX4_saving_26
    · have hf := ite_n hf c19
      refine lv_bipush (v := (-9)) hx hb dX4_saving_14 (by decide) ?_
      have e0_ := Option.some.inj hf
      exact endRI hx hb hr hlocks rfl e0_ dX4_saving_16
def f_X4_firstToSave (a0_members : Int32) (a0_cold : Int32) (a0_pairs : Int64) (a1_warmth : Int32) (a1_fur : Int32) (p2 : Int32) : Option (Int32) :=
  ob1 (f_X4_saving 8 a0_members a0_cold a0_pairs a1_warmth a1_fur p2 ((-1))) fun r1 =>
  some (r1)
set_option maxHeartbeats 4000000 in
set_option maxRecDepth 100000 in
theorem c_X4_firstToSave (l : Launch) (D : va_G) (cB cI cZ cM cN : ClassId) (q_a0 : Nat) (q_a1 : Nat) (a0_members : Int32) (a0_firstWarmth : Int32) (a0_forMotion : Int32) (a0_cold : Int32) (a0_fur : Int32) (a0_coughs : Int32) (a0_seconds : Int32) (a0_pairs : Int64) (a1_warmth : Int32) (a1_wearer : Int32) (a1_fur : Int32) (a1_minutes : Int32) (a1_lot : Int32) (p2 : Int32) (r : Int32) (hf : f_X4_firstToSave a0_members a0_cold a0_pairs a1_warmth a1_fur p2 = some r) : Met l yX4_firstToSave wsX4_firstToSave ({ frames := 14, cells := 0, slots := 0, locals := 387 } : Room) (PR D cB cI cZ cM cN [.ref q_a0, .ref q_a1, .int p2] [(q_a0, .inr (2, [.int a0_members, .int a0_firstWarmth, .int a0_forMotion, .int a0_cold, .int a0_fur, .int a0_coughs, .int a0_seconds, .long a0_pairs])), (q_a1, .inr (1, [.int a1_warmth, .int a1_wearer, .int a1_fur, .int a1_minutes, .int a1_lot]))]) (RI r) 0 0 (fun _ => False) := by
  refine entR (by decide +kernel) rfl (Nat.le_of_ble_eq_true rfl) ?_
  intro p e s m below meth c hx hb hr hml hown hlocks hts hP hK ls hl
  have hown : s.vm.findClass RX4 = some m.cls := hown
  have hl : lv_has ls 3 [(0, .ref q_a0), (1, .ref q_a1), (2, .int p2)] := hl
  have hfix : CallFix p m c cX4_firstToSave 3 s ([.ref q_a0, .ref q_a1, .int p2] : List Value).toArray wsX4_firstToSave RX4 := ⟨hx, hb, hml, hown, hts⟩
  have hinX1 : ∀ w ∈ u_ws RX1 TX1 5, w ∈ wsX4_firstToSave := by decide +kernel
  have g11 := hK.2.use (A := ([.ref q_a0, .ref q_a1, .int p2] : List Value).toArray) (w := Cond.fieldLinkNest "LastCoat$Plans" 11 "LastCoat$Now" "warmth" "I" "LastCoat") 17 rfl
  have g17 := hK.2.use (A := ([.ref q_a0, .ref q_a1, .int p2] : List Value).toArray) (w := Cond.fieldLinkNest "LastCoat$Plans" 17 "LastCoat$Now" "fur" "I" "LastCoat") 21 rfl
  unfold f_X4_firstToSave at hf
  refine lv_aload_n hx hb dX4_firstToSave_0 rfl (lv_at hl 0 rfl) ?_
  refine lv_aload_n hx hb dX4_firstToSave_1 rfl (lv_at hl 1 rfl) ?_
  refine va_getN (D := D) (ci := 1) (v := .int a1_warmth) (C := RX1) (T := TX1) (N := 5) hx hb hts hinX1 hown hK.1 hP 1 rfl rfl 0 (by decide) g11 (fun _ h9 => h9) rfl dX4_firstToSave_2 ?_
  refine lv_aload_n hx hb dX4_firstToSave_5 rfl (lv_at hl 1 rfl) ?_
  refine va_getN (D := D) (ci := 1) (v := .int a1_fur) (C := RX1) (T := TX1) (N := 5) hx hb hts hinX1 hown hK.1 hP 1 rfl rfl 2 (by decide) g17 (fun _ h9 => h9) rfl dX4_firstToSave_6 ?_
  refine lv_iload_n hx hb dX4_firstToSave_9 rfl (lv_at hl 2 rfl) ?_
  refine lv_iconst (v := (-1)) hx hb dX4_firstToSave_10 (by decide) ?_
  obtain ⟨r1, h2, hf⟩ := ob1_some hf
  refine roS (c_X4_saving 8 l D cB cI cZ cM cN q_a0 a0_members a0_firstWarmth a0_forMotion a0_cold a0_fur a0_coughs a0_seconds a0_pairs a1_warmth a1_fur p2 ((-1)) r1 h2) hfix (va_cwS 5 hts gX4_firstToSave_X4_saving rfl rfl rfl (by decide +kernel) ⟨Nat.le_of_ble_eq_true rfl, Nat.le_of_ble_eq_true rfl⟩) (subC hP [0] rfl) hK rfl hl.1 rfl (Nat.le_of_ble_eq_true rfl) dX4_firstToSave_11 ⟨Nat.zero_le _, Nat.zero_le _⟩ ?_
  have e0_ := Option.some.inj hf
  exact endRI hx hb hr hlocks rfl e0_ dX4_firstToSave_14
def f_X4_winning_96 (a0_members : Int32) (a0_forMotion : Int32) (a0_cold : Int32) (a0_pairs : Int64) (Kself : Int32 → Int32 → Int32 → Int64 → Int32 → Int32 → Int32 → Int32 → Int32 → Option (Int32)) (K17 : Int32 → Int32 → Int32 → Int32 → Int32 → Int32 → Int32 → Option (Int32)) (x1 : Int32) (x2 : Int32) (x3 : Int32) (x4 : Int32) (x5 : Int32) (x6 : Int32) (x7 : Int32) : Option (Int32) :=
  bnd (x7 + 1) fun y1 =>
  K17 x1 x2 x3 x4 x5 x6 y1
def f_X4_winning_90 (a0_members : Int32) (a0_forMotion : Int32) (a0_cold : Int32) (a0_pairs : Int64) (Kself : Int32 → Int32 → Int32 → Int64 → Int32 → Int32 → Int32 → Int32 → Int32 → Option (Int32)) (K17 : Int32 → Int32 → Int32 → Int32 → Int32 → Int32 → Int32 → Option (Int32)) (x1 : Int32) (x2 : Int32) (x3 : Int32) (x4 : Int32) (x5 : Int32) (x6 : Int32) (x7 : Int32) (x8 : Int32) (k0 : Int32) (k1 : Int32) : Option (Int32) :=
  if k0 = k1 then (
    zbg x8 <|
    some (x8)
  ) else (
    f_X4_winning_96 a0_members a0_forMotion a0_cold a0_pairs Kself K17 x1 x2 x3 x4 x5 x6 x7
  )
def f_X4_winning_17_b (a0_members : Int32) (a0_forMotion : Int32) (a0_cold : Int32) (a0_pairs : Int64) (Kself : Int32 → Int32 → Int32 → Int64 → Int32 → Int32 → Int32 → Int32 → Int32 → Option (Int32)) (K17 : Int32 → Int32 → Int32 → Int32 → Int32 → Int32 → Int32 → Option (Int32)) (x1 : Int32) (x2 : Int32) (x3 : Int32) (x4 : Int32) (x5 : Int32) (x6 : Int32) (x7 : Int32) : Option (Int32) :=
  if a0_members ≤ x7 then (
    if x6 = 0 then (
      ob1 (f_X2_afterMinute a0_members a0_cold a0_pairs x1 x2 x3) fun r6 =>
      ob1 (Kself a0_members a0_forMotion a0_cold a0_pairs r6 x2 x3 (1 - x4) (x5 - 1)) fun r8 =>
      zbg r8 <|
      some (r8)
    ) else (
      if x4 = 0 then (
        some (1)
      ) else (
        some (0)
      )
    )
  ) else (
    ob1 (f_X2_sideOf a0_forMotion x7) fun r12 =>
    if r12 = x4 then (
      ob1 (f_X2_isFrozen x7 x1) fun r15 =>
      if r15 = 0 then (
        ob1 (f_X2_afterMinute a0_members a0_cold a0_pairs x1 x7 x3) fun r18 =>
        ob1 (Kself a0_members a0_forMotion a0_cold a0_pairs r18 x7 x3 (1 - x4) (x5 - 1)) fun r20 =>
        if x4 = 1 then (
          f_X4_winning_90 a0_members a0_forMotion a0_cold a0_pairs Kself K17 x1 x2 x3 x4 x5 1 x7 r20 r20 1
        ) else (
          f_X4_winning_90 a0_members a0_forMotion a0_cold a0_pairs Kself K17 x1 x2 x3 x4 x5 1 x7 r20 r20 0
        )
      ) else (
        f_X4_winning_96 a0_members a0_forMotion a0_cold a0_pairs Kself K17 x1 x2 x3 x4 x5 x6 x7
      )
    ) else (
      f_X4_winning_96 a0_members a0_forMotion a0_cold a0_pairs Kself K17 x1 x2 x3 x4 x5 x6 x7
    )
  )
def f_X4_winning_17 (a0_members : Int32) (a0_forMotion : Int32) (a0_cold : Int32) (a0_pairs : Int64) (Kself : Int32 → Int32 → Int32 → Int64 → Int32 → Int32 → Int32 → Int32 → Int32 → Option (Int32)) : Nat → Int32 → Int32 → Int32 → Int32 → Int32 → Int32 → Int32 → Option (Int32)
  | 0 => fun _ _ _ _ _ _ _ => none
  | n + 1 => f_X4_winning_17_b a0_members a0_forMotion a0_cold a0_pairs Kself (f_X4_winning_17 a0_members a0_forMotion a0_cold a0_pairs Kself n)
def f_X4_winning_b (Kself : Int32 → Int32 → Int32 → Int64 → Int32 → Int32 → Int32 → Int32 → Int32 → Option (Int32)) (a0_members : Int32) (a0_forMotion : Int32) (a0_cold : Int32) (a0_pairs : Int64) (p1 : Int32) (p2 : Int32) (p3 : Int32) (p4 : Int32) (p5 : Int32) : Option (Int32) :=
  if (0 : Int32) < p5 then (
    f_X4_winning_17 a0_members a0_forMotion a0_cold a0_pairs Kself FU p1 p2 p3 p4 p5 0 0
  ) else (
    ob1 (f_X2_isCarried a0_members a0_forMotion p1) fun r24 =>
    zbg r24 <|
    some (r24)
  )
def f_X4_winning : Nat → Int32 → Int32 → Int32 → Int64 → Int32 → Int32 → Int32 → Int32 → Int32 → Option (Int32)
  | 0 => fun _ _ _ _ _ _ _ _ _ => none
  | n + 1 => f_X4_winning_b (f_X4_winning n)
def rm_X4_winning (n : Nat) : Room := { frames := 5 + n, cells := 0, slots := 0, locals := 127 + 28 * n }
set_option maxHeartbeats 4000000 in
set_option maxRecDepth 100000 in
theorem c_X4_winning : ∀ (n : Nat) (l : Launch) (D : va_G) (cB cI cZ cM cN : ClassId) (q_a0 : Nat) (a0_members : Int32) (a0_firstWarmth : Int32) (a0_forMotion : Int32) (a0_cold : Int32) (a0_fur : Int32) (a0_coughs : Int32) (a0_seconds : Int32) (a0_pairs : Int64) (p1 : Int32) (p2 : Int32) (p3 : Int32) (p4 : Int32) (p5 : Int32) (r : Int32) (hf : f_X4_winning n a0_members a0_forMotion a0_cold a0_pairs p1 p2 p3 p4 p5 = some r), Met l yX4_winning wsX4_winning (rm_X4_winning n) (PR D cB cI cZ cM cN [.ref q_a0, .int p1, .int p2, .int p3, .int p4, .int p5] [(q_a0, .inr (2, [.int a0_members, .int a0_firstWarmth, .int a0_forMotion, .int a0_cold, .int a0_fur, .int a0_coughs, .int a0_seconds, .long a0_pairs]))]) (RI r) 0 0 (fun _ => False) := by
  intro n l D cB cI cZ cM cN
  induction n with
  | zero =>
    intro q_a0 a0_members a0_firstWarmth a0_forMotion a0_cold a0_fur a0_coughs a0_seconds a0_pairs p1 p2 p3 p4 p5 r hf
    exact noneNe hf
  | succ n ihr =>
    intro q_a0 a0_members a0_firstWarmth a0_forMotion a0_cold a0_fur a0_coughs a0_seconds a0_pairs p1 p2 p3 p4 p5 r hf
    refine entR (by decide +kernel) rfl (Nat.le_of_ble_eq_true rfl) ?_
    intro p e s m below meth c hx hb hr hml hown hlocks hts hP hK ls hl
    have hown : s.vm.findClass RX4 = some m.cls := hown
    have hl : lv_has ls 9 [(0, .ref q_a0), (1, .int p1), (2, .int p2), (3, .int p3), (4, .int p4), (5, .int p5)] := hl
    have hfix : CallFix p m c cX4_winning 9 s ([.ref q_a0, .int p1, .int p2, .int p3, .int p4, .int p5] : List Value).toArray wsX4_winning RX4 := ⟨hx, hb, hml, hown, hts⟩
    have hinX2 : ∀ w ∈ u_ws RX2 TX2 8, w ∈ wsX4_winning := by decide +kernel
    have g34 := hK.2.use (A := ([.ref q_a0, .int p1, .int p2, .int p3, .int p4, .int p5] : List Value).toArray) (w := Cond.fieldLinkNest "LastCoat$Plans" 34 "LastCoat$Parliament" "members" "I" "LastCoat") 3 rfl
    have L17 : ∀ (n17 : Nat) (x1 : Int32) (x2 : Int32) (x3 : Int32) (x4 : Int32) (x5 : Int32) (x6 : Int32) (x7 : Int32) (ls : Array Slot), f_X4_winning_17 a0_members a0_forMotion a0_cold a0_pairs (f_X4_winning n) n17 x1 x2 x3 x4 x5 x6 x7 = some r → lv_has ls 9 [(0, .ref q_a0), (1, .int x1), (2, .int x2), (3, .int x3), (4, .int x4), (5, .int x5), (6, .int x6), (7, .int x7)] → W p l e (rm_X4_winning (n + 1)) s m ([.ref q_a0, .int p1, .int p2, .int p3, .int p4, .int p5] : List Value).toArray below meth c s.heap [] 0 0 (MQ below (RI r) ([.ref q_a0, .int p1, .int p2, .int p3, .int p4, .int p5] : List Value).toArray s 0 0 (fun _ => False)) (F0 m 17 ls []) := by
      intro n17
      induction n17 with
      | zero =>
        intro x1 x2 x3 x4 x5 x6 x7 ls hf hl
        exact noneNe hf
      | succ n17 ih17 =>
        have L96 : ∀ (x1 : Int32) (x2 : Int32) (x3 : Int32) (x4 : Int32) (x5 : Int32) (x6 : Int32) (x7 : Int32) (ls : Array Slot), f_X4_winning_96 a0_members a0_forMotion a0_cold a0_pairs (f_X4_winning n) (f_X4_winning_17 a0_members a0_forMotion a0_cold a0_pairs (f_X4_winning n) n17) x1 x2 x3 x4 x5 x6 x7 = some r → lv_has ls 9 [(0, .ref q_a0), (1, .int x1), (2, .int x2), (3, .int x3), (4, .int x4), (5, .int x5), (6, .int x6), (7, .int x7)] → W p l e (rm_X4_winning (n + 1)) s m ([.ref q_a0, .int p1, .int p2, .int p3, .int p4, .int p5] : List Value).toArray below meth c s.heap [] 0 0 (MQ below (RI r) ([.ref q_a0, .int p1, .int p2, .int p3, .int p4, .int p5] : List Value).toArray s 0 0 (fun _ => False)) (F0 m 96 ls []) := by
          intro x1 x2 x3 x4 x5 x6 x7 ls hf hl
          unfold f_X4_winning_96 at hf
          obtain ⟨y1, ey1⟩ : ∃ z : Int32, z = x7 + 1 := ⟨_, rfl⟩
          have hf := bnd_at hf ey1
          refine lv_iinc (v := y1) (lv' := [(7, .int y1), (0, .ref q_a0), (1, .int x1), (2, .int x2), (3, .int x3), (4, .int x4), (5, .int x5), (6, .int x6)]) hx hb dX4_winning_96 hl (k := 7) rfl (by rw [ey1]; rfl) (by decide) rfl (fun ls hl => ?_)
          refine lv_goto (tgt := 17) hx hb dX4_winning_99 (by decide) ?_
          exact ih17 x1 x2 x3 x4 x5 x6 y1 ls hf (lv_sub hl [1, 2, 3, 4, 5, 6, 7, 0] rfl)
        have L90 : ∀ (x1 : Int32) (x2 : Int32) (x3 : Int32) (x4 : Int32) (x5 : Int32) (x6 : Int32) (x7 : Int32) (x8 : Int32) (k0 : Int32) (k1 : Int32) (ls : Array Slot), f_X4_winning_90 a0_members a0_forMotion a0_cold a0_pairs (f_X4_winning n) (f_X4_winning_17 a0_members a0_forMotion a0_cold a0_pairs (f_X4_winning n) n17) x1 x2 x3 x4 x5 x6 x7 x8 k0 k1 = some r → lv_has ls 9 [(0, .ref q_a0), (1, .int x1), (2, .int x2), (3, .int x3), (4, .int x4), (5, .int x5), (6, .int x6), (7, .int x7), (8, .int x8)] → W p l e (rm_X4_winning (n + 1)) s m ([.ref q_a0, .int p1, .int p2, .int p3, .int p4, .int p5] : List Value).toArray below meth c s.heap [] 0 0 (MQ below (RI r) ([.ref q_a0, .int p1, .int p2, .int p3, .int p4, .int p5] : List Value).toArray s 0 0 (fun _ => False)) (F0 m 90 ls [.int k1, .int k0]) := by
          intro x1 x2 x3 x4 x5 x6 x7 x8 k0 k1 ls hf hl
          unfold f_X4_winning_90 at hf
          refine lv_icmp_ne (tgt := 96) hx hb dX4_winning_90 (by decide) (fun c2 => ?_) (fun c2 => ?_)
          · have hf := ite_n hf c2
            exact L96 x1 x2 x3 x4 x5 x6 x7 ls hf (lv_sub hl [0, 1, 2, 3, 4, 5, 6, 7] rfl)
          · have hf := ite_p hf c2
            refine lv_iload hx hb dX4_winning_93 (lv_at hl 8 rfl) ?_
            obtain ⟨g3, hf⟩ := zbg_some hf
            have e0_ := Option.some.inj hf
            exact endRI hx hb hr hlocks g3 e0_ dX4_winning_95
        intro x1 x2 x3 x4 x5 x6 x7 ls hf hl
        have hf : f_X4_winning_17_b a0_members a0_forMotion a0_cold a0_pairs (f_X4_winning n) (f_X4_winning_17 a0_members a0_forMotion a0_cold a0_pairs (f_X4_winning n) n17) x1 x2 x3 x4 x5 x6 x7 = some r := hf
        unfold f_X4_winning_17_b at hf
        refine lv_iload hx hb dX4_winning_17 (lv_at hl 7 rfl) ?_
        refine lv_aload_n hx hb dX4_winning_19 rfl (lv_at hl 0 rfl) ?_
        refine va_getN (D := D) (ci := 2) (v := .int a0_members) (C := RX2) (T := TX2) (N := 8) hx hb hts hinX2 hown hK.1 hP 0 rfl rfl 0 (by decide) g34 (fun _ h9 => h9) rfl dX4_winning_20 ?_
        refine lv_icmp_ge (tgt := 102) hx hb dX4_winning_23 (by decide) (fun c4 => ?_) (fun c4 => ?_)
        · have hf := ite_p hf c4
          refine lv_iload hx hb dX4_winning_102 (lv_at hl 6 rfl) ?_
          refine lv_if_eq (tgt := 118) hx hb dX4_winning_104 (by decide) (fun c5 => ?_) (fun c5 => ?_)
          · have hf := ite_p hf c5
            refine lv_aload_n hx hb dX4_winning_118 rfl (lv_at hl 0 rfl) ?_
            refine lv_aload_n hx hb dX4_winning_119 rfl (lv_at hl 0 rfl) ?_
            refine lv_iload_n hx hb dX4_winning_120 rfl (lv_at hl 1 rfl) ?_
            refine lv_iload_n hx hb dX4_winning_121 rfl (lv_at hl 2 rfl) ?_
            refine lv_iload_n hx hb dX4_winning_122 rfl (lv_at hl 3 rfl) ?_
            obtain ⟨r6, h7, hf⟩ := ob1_some hf
            refine roV (c_X2_afterMinute l D cB cI cZ cM cN q_a0 a0_members a0_firstWarmth a0_forMotion a0_cold a0_fur a0_coughs a0_seconds a0_pairs x1 x2 x3 r6 h7) hfix (cwV 3 hts gX4_winning_X2_afterMinute rfl rfl rfl (by decide +kernel) ⟨(by simp only [rm_X4_winning]; omega), (by simp only [rm_X4_winning]; omega)⟩) (subC hP [0] rfl) hK rfl rfl rfl rfl hl.1 rfl (Nat.le_of_ble_eq_true rfl) dX4_winning_123 ⟨Nat.zero_le _, Nat.zero_le _⟩ ?_
            refine lv_iload_n hx hb dX4_winning_126 rfl (lv_at hl 2 rfl) ?_
            refine lv_iload_n hx hb dX4_winning_127 rfl (lv_at hl 3 rfl) ?_
            refine lv_iconst (v := 1) hx hb dX4_winning_128 (by decide) ?_
            refine lv_iload hx hb dX4_winning_129 (lv_at hl 4 rfl) ?_
            refine lv_isub hx hb dX4_winning_131 ?_
            refine lv_iload hx hb dX4_winning_132 (lv_at hl 5 rfl) ?_
            refine lv_iconst (v := 1) hx hb dX4_winning_134 (by decide) ?_
            refine lv_isub hx hb dX4_winning_135 ?_
            obtain ⟨r8, h9, hf⟩ := ob1_some hf
            refine roS (ihr q_a0 a0_members a0_firstWarmth a0_forMotion a0_cold a0_fur a0_coughs a0_seconds a0_pairs r6 x2 x3 (1 - x4) (x5 - 1) r8 h9) hfix (va_cwS 6 hts gX4_winning_X4_winning rfl rfl rfl (by decide +kernel) ⟨(by simp only [rm_X4_winning]; omega), (by simp only [rm_X4_winning]; omega)⟩) (subC hP [0] rfl) hK rfl hl.1 rfl (Nat.le_of_ble_eq_true rfl) dX4_winning_136 ⟨Nat.zero_le _, Nat.zero_le _⟩ ?_
            obtain ⟨g10, hf⟩ := zbg_some hf
            have e0_ := Option.some.inj hf
            exact endRI hx hb hr hlocks g10 e0_ dX4_winning_139
          · have hf := ite_n hf c5
            refine lv_iload hx hb dX4_winning_107 (lv_at hl 4 rfl) ?_
            refine lv_if_ne (tgt := 116) hx hb dX4_winning_109 (by decide) (fun c11 => ?_) (fun c11 => ?_)
            · have hf := ite_n hf c11
              refine lv_iconst (v := 0) hx hb dX4_winning_116 (by decide) ?_
              have e0_ := Option.some.inj hf
              exact endRI hx hb hr hlocks rfl e0_ dX4_winning_117
            · have hf := ite_p hf c11
              refine lv_iconst (v := 1) hx hb dX4_winning_112 (by decide) ?_
              refine lv_goto (tgt := 117) hx hb dX4_winning_113 (by decide) ?_
              have e0_ := Option.some.inj hf
              exact endRI hx hb hr hlocks rfl e0_ dX4_winning_117
        · have hf := ite_n hf c4
          refine lv_aload_n hx hb dX4_winning_26 rfl (lv_at hl 0 rfl) ?_
          refine lv_iload hx hb dX4_winning_27 (lv_at hl 7 rfl) ?_
          obtain ⟨r12, h13, hf⟩ := ob1_some hf
          refine roV (c_X2_sideOf l D cB cI cZ cM cN q_a0 a0_members a0_firstWarmth a0_forMotion a0_cold a0_fur a0_coughs a0_seconds a0_pairs x7 r12 h13) hfix (cwV 1 hts gX4_winning_X2_sideOf rfl rfl rfl (by decide +kernel) ⟨(by simp only [rm_X4_winning]; omega), (by simp only [rm_X4_winning]; omega)⟩) (subC hP [0] rfl) hK rfl rfl rfl rfl hl.1 rfl (Nat.le_of_ble_eq_true rfl) dX4_winning_29 ⟨Nat.zero_le _, Nat.zero_le _⟩ ?_
          refine lv_iload hx hb dX4_winning_32 (lv_at hl 4 rfl) ?_
          refine lv_icmp_ne (tgt := 96) hx hb dX4_winning_34 (by decide) (fun c14 => ?_) (fun c14 => ?_)
          · have hf := ite_n hf c14
            exact L96 x1 x2 x3 x4 x5 x6 x7 ls hf (lv_sub hl [0, 1, 2, 3, 4, 5, 6, 7] rfl)
          · have hf := ite_p hf c14
            refine lv_iload hx hb dX4_winning_37 (lv_at hl 7 rfl) ?_
            refine lv_iload_n hx hb dX4_winning_39 rfl (lv_at hl 1 rfl) ?_
            obtain ⟨r15, h16, hf⟩ := ob1_some hf
            refine roS (c_X2_isFrozen l D cB cI cZ cM cN x7 x1 r15 h16) hfix (va_cwS 2 hts gX4_winning_X2_isFrozen rfl rfl rfl (by decide +kernel) ⟨(by simp only [rm_X4_winning]; omega), (by simp only [rm_X4_winning]; omega)⟩) (subC hP [] rfl) hK rfl hl.1 rfl (Nat.le_of_ble_eq_true rfl) dX4_winning_40 ⟨Nat.zero_le _, Nat.zero_le _⟩ ?_
            refine lv_if_eq (tgt := 49) hx hb dX4_winning_43 (by decide) (fun c17 => ?_) (fun c17 => ?_)
            · have hf := ite_p hf c17
              refine lv_iconst (v := 1) hx hb dX4_winning_49 (by decide) ?_
              refine lv_istore (lv' := [(6, .int 1), (0, .ref q_a0), (1, .int x1), (2, .int x2), (3, .int x3), (4, .int x4), (5, .int x5), (7, .int x7)]) hx hb dX4_winning_50 hl (by decide) rfl (fun ls hl => ?_)
              refine lv_aload_n hx hb dX4_winning_52 rfl (lv_at hl 1 rfl) ?_
              refine lv_aload_n hx hb dX4_winning_53 rfl (lv_at hl 1 rfl) ?_
              refine lv_iload_n hx hb dX4_winning_54 rfl (lv_at hl 2 rfl) ?_
              refine lv_iload hx hb dX4_winning_55 (lv_at hl 7 rfl) ?_
              refine lv_iload_n hx hb dX4_winning_57 rfl (lv_at hl 4 rfl) ?_
              obtain ⟨r18, h19, hf⟩ := ob1_some hf
              refine roV (c_X2_afterMinute l D cB cI cZ cM cN q_a0 a0_members a0_firstWarmth a0_forMotion a0_cold a0_fur a0_coughs a0_seconds a0_pairs x1 x7 x3 r18 h19) hfix (cwV 3 hts gX4_winning_X2_afterMinute rfl rfl rfl (by decide +kernel) ⟨(by simp only [rm_X4_winning]; omega), (by simp only [rm_X4_winning]; omega)⟩) (subC hP [0] rfl) hK rfl rfl rfl rfl hl.1 rfl (Nat.le_of_ble_eq_true rfl) dX4_winning_58 ⟨Nat.zero_le _, Nat.zero_le _⟩ ?_
              refine lv_iload hx hb dX4_winning_61 (lv_at hl 7 rfl) ?_
              refine lv_iload_n hx hb dX4_winning_63 rfl (lv_at hl 4 rfl) ?_
              refine lv_iconst (v := 1) hx hb dX4_winning_64 (by decide) ?_
              refine lv_iload hx hb dX4_winning_65 (lv_at hl 5 rfl) ?_
              refine lv_isub hx hb dX4_winning_67 ?_
              refine lv_iload hx hb dX4_winning_68 (lv_at hl 6 rfl) ?_
              refine lv_iconst (v := 1) hx hb dX4_winning_70 (by decide) ?_
              refine lv_isub hx hb dX4_winning_71 ?_
              obtain ⟨r20, h21, hf⟩ := ob1_some hf
              refine roS (ihr q_a0 a0_members a0_firstWarmth a0_forMotion a0_cold a0_fur a0_coughs a0_seconds a0_pairs r18 x7 x3 (1 - x4) (x5 - 1) r20 h21) hfix (va_cwS 6 hts gX4_winning_X4_winning rfl rfl rfl (by decide +kernel) ⟨(by simp only [rm_X4_winning]; omega), (by simp only [rm_X4_winning]; omega)⟩) (subC hP [0] rfl) hK rfl hl.1 rfl (Nat.le_of_ble_eq_true rfl) dX4_winning_72 ⟨Nat.zero_le _, Nat.zero_le _⟩ ?_
              refine lv_istore (lv' := [(8, .int r20), (6, .int 1), (0, .ref q_a0), (1, .int x1), (2, .int x2), (3, .int x3), (4, .int x4), (5, .int x5), (7, .int x7)]) hx hb dX4_winning_75 hl (by decide) rfl (fun ls hl => ?_)
              refine lv_iload hx hb dX4_winning_77 (lv_at hl 0 rfl) ?_
              refine lv_iload hx hb dX4_winning_79 (lv_at hl 6 rfl) ?_
              refine lv_iconst (v := 1) hx hb dX4_winning_81 (by decide) ?_
              refine lv_icmp_ne (tgt := 89) hx hb dX4_winning_82 (by decide) (fun c22 => ?_) (fun c22 => ?_)
              · have hf := ite_n hf c22
                refine lv_iconst (v := 0) hx hb dX4_winning_89 (by decide) ?_
                exact L90 x1 x2 x3 x4 x5 1 x7 r20 r20 0 ls hf (lv_sub hl [2, 3, 4, 5, 6, 7, 1, 8, 0] rfl)
              · have hf := ite_p hf c22
                refine lv_iconst (v := 1) hx hb dX4_winning_85 (by decide) ?_
                refine lv_goto (tgt := 90) hx hb dX4_winning_86 (by decide) ?_
                exact L90 x1 x2 x3 x4 x5 1 x7 r20 r20 1 ls hf (lv_sub hl [2, 3, 4, 5, 6, 7, 1, 8, 0] rfl)
            · have hf := ite_n hf c17
              refine lv_goto (tgt := 96) hx hb dX4_winning_46 (by decide) ?_
              exact L96 x1 x2 x3 x4 x5 x6 x7 ls hf (lv_sub hl [0, 1, 2, 3, 4, 5, 6, 7] rfl)
    have hf : f_X4_winning_b (f_X4_winning n) a0_members a0_forMotion a0_cold a0_pairs p1 p2 p3 p4 p5 = some r := hf
    unfold f_X4_winning_b at hf
    refine lv_iload hx hb dX4_winning_0 (lv_at hl 5 rfl) ?_
    refine lv_if_gt (tgt := 11) hx hb dX4_winning_2 (by decide) (fun c23 => ?_) (fun c23 => ?_)
    · have hf := ite_p hf c23
      refine lv_iconst (v := 0) hx hb dX4_winning_11 (by decide) ?_
      refine lv_istore (lv' := [(6, .int 0), (0, .ref q_a0), (1, .int p1), (2, .int p2), (3, .int p3), (4, .int p4), (5, .int p5)]) hx hb dX4_winning_12 hl (by decide) rfl (fun ls hl => ?_)
      refine lv_iconst (v := 0) hx hb dX4_winning_14 (by decide) ?_
      refine lv_istore (lv' := [(7, .int 0), (6, .int 0), (0, .ref q_a0), (1, .int p1), (2, .int p2), (3, .int p3), (4, .int p4), (5, .int p5)]) hx hb dX4_winning_15 hl (by decide) rfl (fun ls hl => ?_)
      exact L17 FU p1 p2 p3 p4 p5 0 0 ls hf (lv_sub hl [2, 3, 4, 5, 6, 7, 1, 0] rfl)
    · have hf := ite_n hf c23
      refine lv_aload_n hx hb dX4_winning_5 rfl (lv_at hl 0 rfl) ?_
      refine lv_iload_n hx hb dX4_winning_6 rfl (lv_at hl 1 rfl) ?_
      obtain ⟨r24, h25, hf⟩ := ob1_some hf
      refine roV (c_X2_isCarried l D cB cI cZ cM cN q_a0 a0_members a0_firstWarmth a0_forMotion a0_cold a0_fur a0_coughs a0_seconds a0_pairs p1 r24 h25) hfix (cwV 1 hts gX4_winning_X2_isCarried rfl rfl rfl (by decide +kernel) ⟨(by simp only [rm_X4_winning]; omega), (by simp only [rm_X4_winning]; omega)⟩) (subC hP [0] rfl) hK rfl rfl rfl rfl hl.1 rfl (Nat.le_of_ble_eq_true rfl) dX4_winning_7 ⟨Nat.zero_le _, Nat.zero_le _⟩ ?_
      obtain ⟨g26, hf⟩ := zbg_some hf
      have e0_ := Option.some.inj hf
      exact endRI hx hb hr hlocks g26 e0_ dX4_winning_10
def f_X4_isWon (a0_members : Int32) (a0_forMotion : Int32) (a0_cold : Int32) (a0_pairs : Int64) (a1_warmth : Int32) (a1_wearer : Int32) (a1_fur : Int32) (p2 : Int32) : Option (Int32) :=
  ob1 (f_X4_winning 8 a0_members a0_forMotion a0_cold a0_pairs a1_warmth a1_wearer a1_fur 1 p2) fun r1 =>
  zbg r1 <|
  some (r1)
set_option maxHeartbeats 4000000 in
set_option maxRecDepth 100000 in
theorem c_X4_isWon (l : Launch) (D : va_G) (cB cI cZ cM cN : ClassId) (q_a0 : Nat) (q_a1 : Nat) (a0_members : Int32) (a0_firstWarmth : Int32) (a0_forMotion : Int32) (a0_cold : Int32) (a0_fur : Int32) (a0_coughs : Int32) (a0_seconds : Int32) (a0_pairs : Int64) (a1_warmth : Int32) (a1_wearer : Int32) (a1_fur : Int32) (a1_minutes : Int32) (a1_lot : Int32) (p2 : Int32) (r : Int32) (hf : f_X4_isWon a0_members a0_forMotion a0_cold a0_pairs a1_warmth a1_wearer a1_fur p2 = some r) : Met l yX4_isWon wsX4_isWon ({ frames := 14, cells := 0, slots := 0, locals := 379 } : Room) (PR D cB cI cZ cM cN [.ref q_a0, .ref q_a1, .int p2] [(q_a0, .inr (2, [.int a0_members, .int a0_firstWarmth, .int a0_forMotion, .int a0_cold, .int a0_fur, .int a0_coughs, .int a0_seconds, .long a0_pairs])), (q_a1, .inr (1, [.int a1_warmth, .int a1_wearer, .int a1_fur, .int a1_minutes, .int a1_lot]))]) (RI r) 0 0 (fun _ => False) := by
  refine entR (by decide +kernel) rfl (Nat.le_of_ble_eq_true rfl) ?_
  intro p e s m below meth c hx hb hr hml hown hlocks hts hP hK ls hl
  have hown : s.vm.findClass RX4 = some m.cls := hown
  have hl : lv_has ls 3 [(0, .ref q_a0), (1, .ref q_a1), (2, .int p2)] := hl
  have hfix : CallFix p m c cX4_isWon 3 s ([.ref q_a0, .ref q_a1, .int p2] : List Value).toArray wsX4_isWon RX4 := ⟨hx, hb, hml, hown, hts⟩
  have hinX1 : ∀ w ∈ u_ws RX1 TX1 5, w ∈ wsX4_isWon := by decide +kernel
  have g11 := hK.2.use (A := ([.ref q_a0, .ref q_a1, .int p2] : List Value).toArray) (w := Cond.fieldLinkNest "LastCoat$Plans" 11 "LastCoat$Now" "warmth" "I" "LastCoat") 17 rfl
  have g58 := hK.2.use (A := ([.ref q_a0, .ref q_a1, .int p2] : List Value).toArray) (w := Cond.fieldLinkNest "LastCoat$Plans" 58 "LastCoat$Now" "wearer" "I" "LastCoat") 20 rfl
  have g17 := hK.2.use (A := ([.ref q_a0, .ref q_a1, .int p2] : List Value).toArray) (w := Cond.fieldLinkNest "LastCoat$Plans" 17 "LastCoat$Now" "fur" "I" "LastCoat") 21 rfl
  unfold f_X4_isWon at hf
  refine lv_aload_n hx hb dX4_isWon_0 rfl (lv_at hl 0 rfl) ?_
  refine lv_aload_n hx hb dX4_isWon_1 rfl (lv_at hl 1 rfl) ?_
  refine va_getN (D := D) (ci := 1) (v := .int a1_warmth) (C := RX1) (T := TX1) (N := 5) hx hb hts hinX1 hown hK.1 hP 1 rfl rfl 0 (by decide) g11 (fun _ h9 => h9) rfl dX4_isWon_2 ?_
  refine lv_aload_n hx hb dX4_isWon_5 rfl (lv_at hl 1 rfl) ?_
  refine va_getN (D := D) (ci := 1) (v := .int a1_wearer) (C := RX1) (T := TX1) (N := 5) hx hb hts hinX1 hown hK.1 hP 1 rfl rfl 1 (by decide) g58 (fun _ h9 => h9) rfl dX4_isWon_6 ?_
  refine lv_aload_n hx hb dX4_isWon_9 rfl (lv_at hl 1 rfl) ?_
  refine va_getN (D := D) (ci := 1) (v := .int a1_fur) (C := RX1) (T := TX1) (N := 5) hx hb hts hinX1 hown hK.1 hP 1 rfl rfl 2 (by decide) g17 (fun _ h9 => h9) rfl dX4_isWon_10 ?_
  refine lv_iconst (v := 1) hx hb dX4_isWon_13 (by decide) ?_
  refine lv_iload_n hx hb dX4_isWon_14 rfl (lv_at hl 2 rfl) ?_
  obtain ⟨r1, h2, hf⟩ := ob1_some hf
  refine roS (c_X4_winning 8 l D cB cI cZ cM cN q_a0 a0_members a0_firstWarmth a0_forMotion a0_cold a0_fur a0_coughs a0_seconds a0_pairs a1_warmth a1_wearer a1_fur 1 p2 r1 h2) hfix (va_cwS 6 hts gX4_isWon_X4_winning rfl rfl rfl (by decide +kernel) ⟨Nat.le_of_ble_eq_true rfl, Nat.le_of_ble_eq_true rfl⟩) (subC hP [0] rfl) hK rfl hl.1 rfl (Nat.le_of_ble_eq_true rfl) dX4_isWon_15 ⟨Nat.zero_le _, Nat.zero_le _⟩ ?_
  obtain ⟨g3, hf⟩ := zbg_some hf
  have e0_ := Option.some.inj hf
  exact endRI hx hb hr hlocks g3 e0_ dX4_isWon_18
def f_X4_firstToWin_68 (a0_members : Int32) (a0_forMotion : Int32) (a0_cold : Int32) (a0_pairs : Int64) (a1_warmth : Int32) (a1_fur : Int32) (K9 : Int32 → Int32 → Option (Int32)) (x2 : Int32) (x3 : Int32) : Option (Int32) :=
  bnd (x3 + 1) fun y1 =>
  K9 x2 y1
def f_X4_firstToWin_9_b (a0_members : Int32) (a0_forMotion : Int32) (a0_cold : Int32) (a0_pairs : Int64) (a1_warmth : Int32) (a1_fur : Int32) (K9 : Int32 → Int32 → Option (Int32)) (x2 : Int32) (x3 : Int32) : Option (Int32) :=
  if a0_members ≤ x3 then (
    some ((-9))
  ) else (
    ob1 (f_X2_sideOf a0_forMotion x3) fun r3 =>
    if r3 = 1 then (
      ob1 (f_X2_isFrozen x3 a1_warmth) fun r6 =>
      if r6 = 0 then (
        ob1 (f_X2_afterMinute a0_members a0_cold a0_pairs a1_warmth x3 a1_fur) fun r9 =>
        ob1 (f_X4_winning 8 a0_members a0_forMotion a0_cold a0_pairs r9 x3 a1_fur 0 (x2 - 1)) fun r11 =>
        if r11 = 0 then (
          f_X4_firstToWin_68 a0_members a0_forMotion a0_cold a0_pairs a1_warmth a1_fur K9 x2 x3
        ) else (
          some (x3)
        )
      ) else (
        f_X4_firstToWin_68 a0_members a0_forMotion a0_cold a0_pairs a1_warmth a1_fur K9 x2 x3
      )
    ) else (
      f_X4_firstToWin_68 a0_members a0_forMotion a0_cold a0_pairs a1_warmth a1_fur K9 x2 x3
    )
  )
def f_X4_firstToWin_9 (a0_members : Int32) (a0_forMotion : Int32) (a0_cold : Int32) (a0_pairs : Int64) (a1_warmth : Int32) (a1_fur : Int32) : Nat → Int32 → Int32 → Option (Int32)
  | 0 => fun _ _ => none
  | n + 1 => f_X4_firstToWin_9_b a0_members a0_forMotion a0_cold a0_pairs a1_warmth a1_fur (f_X4_firstToWin_9 a0_members a0_forMotion a0_cold a0_pairs a1_warmth a1_fur n)
def f_X4_firstToWin (a0_members : Int32) (a0_forMotion : Int32) (a0_cold : Int32) (a0_pairs : Int64) (a1_warmth : Int32) (a1_fur : Int32) (p2 : Int32) : Option (Int32) :=
  if (0 : Int32) < p2 then (
    f_X4_firstToWin_9 a0_members a0_forMotion a0_cold a0_pairs a1_warmth a1_fur FU p2 0
  ) else (
    some ((-9))
  )
set_option maxHeartbeats 4000000 in
set_option maxRecDepth 100000 in
theorem c_X4_firstToWin (l : Launch) (D : va_G) (cB cI cZ cM cN : ClassId) (q_a0 : Nat) (q_a1 : Nat) (a0_members : Int32) (a0_firstWarmth : Int32) (a0_forMotion : Int32) (a0_cold : Int32) (a0_fur : Int32) (a0_coughs : Int32) (a0_seconds : Int32) (a0_pairs : Int64) (a1_warmth : Int32) (a1_wearer : Int32) (a1_fur : Int32) (a1_minutes : Int32) (a1_lot : Int32) (p2 : Int32) (r : Int32) (hf : f_X4_firstToWin a0_members a0_forMotion a0_cold a0_pairs a1_warmth a1_fur p2 = some r) : Met l yX4_firstToWin wsX4_firstToWin ({ frames := 14, cells := 0, slots := 0, locals := 379 } : Room) (PR D cB cI cZ cM cN [.ref q_a0, .ref q_a1, .int p2] [(q_a0, .inr (2, [.int a0_members, .int a0_firstWarmth, .int a0_forMotion, .int a0_cold, .int a0_fur, .int a0_coughs, .int a0_seconds, .long a0_pairs])), (q_a1, .inr (1, [.int a1_warmth, .int a1_wearer, .int a1_fur, .int a1_minutes, .int a1_lot]))]) (RI r) 0 0 (fun _ => False) := by
  refine entR (by decide +kernel) rfl (Nat.le_of_ble_eq_true rfl) ?_
  intro p e s m below meth c hx hb hr hml hown hlocks hts hP hK ls hl
  have hown : s.vm.findClass RX4 = some m.cls := hown
  have hl : lv_has ls 4 [(0, .ref q_a0), (1, .ref q_a1), (2, .int p2)] := hl
  have hfix : CallFix p m c cX4_firstToWin 4 s ([.ref q_a0, .ref q_a1, .int p2] : List Value).toArray wsX4_firstToWin RX4 := ⟨hx, hb, hml, hown, hts⟩
  have hinX2 : ∀ w ∈ u_ws RX2 TX2 8, w ∈ wsX4_firstToWin := by decide +kernel
  have hinX1 : ∀ w ∈ u_ws RX1 TX1 5, w ∈ wsX4_firstToWin := by decide +kernel
  have g34 := hK.2.use (A := ([.ref q_a0, .ref q_a1, .int p2] : List Value).toArray) (w := Cond.fieldLinkNest "LastCoat$Plans" 34 "LastCoat$Parliament" "members" "I" "LastCoat") 3 rfl
  have g11 := hK.2.use (A := ([.ref q_a0, .ref q_a1, .int p2] : List Value).toArray) (w := Cond.fieldLinkNest "LastCoat$Plans" 11 "LastCoat$Now" "warmth" "I" "LastCoat") 17 rfl
  have g17 := hK.2.use (A := ([.ref q_a0, .ref q_a1, .int p2] : List Value).toArray) (w := Cond.fieldLinkNest "LastCoat$Plans" 17 "LastCoat$Now" "fur" "I" "LastCoat") 21 rfl
  have L9 : ∀ (n9 : Nat) (x2 : Int32) (x3 : Int32) (ls : Array Slot), f_X4_firstToWin_9 a0_members a0_forMotion a0_cold a0_pairs a1_warmth a1_fur n9 x2 x3 = some r → lv_has ls 4 [(0, .ref q_a0), (1, .ref q_a1), (2, .int x2), (3, .int x3)] → W p l e ({ frames := 14, cells := 0, slots := 0, locals := 379 } : Room) s m ([.ref q_a0, .ref q_a1, .int p2] : List Value).toArray below meth c s.heap [] 0 0 (MQ below (RI r) ([.ref q_a0, .ref q_a1, .int p2] : List Value).toArray s 0 0 (fun _ => False)) (F0 m 9 ls []) := by
    intro n9
    induction n9 with
    | zero =>
      intro x2 x3 ls hf hl
      exact noneNe hf
    | succ n9 ih9 =>
      have L68 : ∀ (x2 : Int32) (x3 : Int32) (ls : Array Slot), f_X4_firstToWin_68 a0_members a0_forMotion a0_cold a0_pairs a1_warmth a1_fur (f_X4_firstToWin_9 a0_members a0_forMotion a0_cold a0_pairs a1_warmth a1_fur n9) x2 x3 = some r → lv_has ls 4 [(0, .ref q_a0), (1, .ref q_a1), (2, .int x2), (3, .int x3)] → W p l e ({ frames := 14, cells := 0, slots := 0, locals := 379 } : Room) s m ([.ref q_a0, .ref q_a1, .int p2] : List Value).toArray below meth c s.heap [] 0 0 (MQ below (RI r) ([.ref q_a0, .ref q_a1, .int p2] : List Value).toArray s 0 0 (fun _ => False)) (F0 m 68 ls []) := by
        intro x2 x3 ls hf hl
        unfold f_X4_firstToWin_68 at hf
        obtain ⟨y1, ey1⟩ : ∃ z : Int32, z = x3 + 1 := ⟨_, rfl⟩
        have hf := bnd_at hf ey1
        refine lv_iinc (v := y1) (lv' := [(3, .int y1), (0, .ref q_a0), (1, .ref q_a1), (2, .int x2)]) hx hb dX4_firstToWin_68 hl (k := 3) rfl (by rw [ey1]; rfl) (by decide) rfl (fun ls hl => ?_)
        refine lv_goto (tgt := 9) hx hb dX4_firstToWin_71 (by decide) ?_
        exact ih9 x2 y1 ls hf (lv_sub hl [1, 2, 3, 0] rfl)
      intro x2 x3 ls hf hl
      have hf : f_X4_firstToWin_9_b a0_members a0_forMotion a0_cold a0_pairs a1_warmth a1_fur (f_X4_firstToWin_9 a0_members a0_forMotion a0_cold a0_pairs a1_warmth a1_fur n9) x2 x3 = some r := hf
      unfold f_X4_firstToWin_9_b at hf
      refine lv_iload_n hx hb dX4_firstToWin_9 rfl (lv_at hl 3 rfl) ?_
      refine lv_aload_n hx hb dX4_firstToWin_10 rfl (lv_at hl 0 rfl) ?_
      refine va_getN (D := D) (ci := 2) (v := .int a0_members) (C := RX2) (T := TX2) (N := 8) hx hb hts hinX2 hown hK.1 hP 0 rfl rfl 0 (by decide) g34 (fun _ h9 => h9) rfl dX4_firstToWin_11 ?_
      refine lv_icmp_ge (tgt := 74) hx hb dX4_firstToWin_14 (by decide) (fun c2 => ?_) (fun c2 => ?_)
      · have hf := ite_p hf c2
        refine lv_bipush (v := (-9)) hx hb dX4_firstToWin_74 (by decide) ?_
        have e0_ := Option.some.inj hf
        exact endRI hx hb hr hlocks rfl e0_ dX4_firstToWin_76
      · have hf := ite_n hf c2
        refine lv_aload_n hx hb dX4_firstToWin_17 rfl (lv_at hl 0 rfl) ?_
        refine lv_iload_n hx hb dX4_firstToWin_18 rfl (lv_at hl 3 rfl) ?_
        obtain ⟨r3, h4, hf⟩ := ob1_some hf
        refine roV (c_X2_sideOf l D cB cI cZ cM cN q_a0 a0_members a0_firstWarmth a0_forMotion a0_cold a0_fur a0_coughs a0_seconds a0_pairs x3 r3 h4) hfix (cwV 1 hts gX4_firstToWin_X2_sideOf rfl rfl rfl (by decide +kernel) ⟨Nat.le_of_ble_eq_true rfl, Nat.le_of_ble_eq_true rfl⟩) (subC hP [0] rfl) hK rfl rfl rfl rfl hl.1 rfl (Nat.le_of_ble_eq_true rfl) dX4_firstToWin_19 ⟨Nat.zero_le _, Nat.zero_le _⟩ ?_
        refine lv_iconst (v := 1) hx hb dX4_firstToWin_22 (by decide) ?_
        refine lv_icmp_ne (tgt := 68) hx hb dX4_firstToWin_23 (by decide) (fun c5 => ?_) (fun c5 => ?_)
        · have hf := ite_n hf c5
          exact L68 x2 x3 ls hf (lv_sub hl [0, 1, 2, 3] rfl)
        · have hf := ite_p hf c5
          refine lv_iload_n hx hb dX4_firstToWin_26 rfl (lv_at hl 3 rfl) ?_
          refine lv_aload_n hx hb dX4_firstToWin_27 rfl (lv_at hl 1 rfl) ?_
          refine va_getN (D := D) (ci := 1) (v := .int a1_warmth) (C := RX1) (T := TX1) (N := 5) hx hb hts hinX1 hown hK.1 hP 1 rfl rfl 0 (by decide) g11 (fun _ h9 => h9) rfl dX4_firstToWin_28 ?_
          obtain ⟨r6, h7, hf⟩ := ob1_some hf
          refine roS (c_X2_isFrozen l D cB cI cZ cM cN x3 a1_warmth r6 h7) hfix (va_cwS 2 hts gX4_firstToWin_X2_isFrozen rfl rfl rfl (by decide +kernel) ⟨Nat.le_of_ble_eq_true rfl, Nat.le_of_ble_eq_true rfl⟩) (subC hP [] rfl) hK rfl hl.1 rfl (Nat.le_of_ble_eq_true rfl) dX4_firstToWin_31 ⟨Nat.zero_le _, Nat.zero_le _⟩ ?_
          refine lv_if_ne (tgt := 68) hx hb dX4_firstToWin_34 (by decide) (fun c8 => ?_) (fun c8 => ?_)
          · have hf := ite_n hf c8
            exact L68 x2 x3 ls hf (lv_sub hl [0, 1, 2, 3] rfl)
          · have hf := ite_p hf c8
            refine lv_aload_n hx hb dX4_firstToWin_37 rfl (lv_at hl 0 rfl) ?_
            refine lv_aload_n hx hb dX4_firstToWin_38 rfl (lv_at hl 0 rfl) ?_
            refine lv_aload_n hx hb dX4_firstToWin_39 rfl (lv_at hl 1 rfl) ?_
            refine va_getN (D := D) (ci := 1) (v := .int a1_warmth) (C := RX1) (T := TX1) (N := 5) hx hb hts hinX1 hown hK.1 hP 1 rfl rfl 0 (by decide) g11 (fun _ h9 => h9) rfl dX4_firstToWin_40 ?_
            refine lv_iload_n hx hb dX4_firstToWin_43 rfl (lv_at hl 3 rfl) ?_
            refine lv_aload_n hx hb dX4_firstToWin_44 rfl (lv_at hl 1 rfl) ?_
            refine va_getN (D := D) (ci := 1) (v := .int a1_fur) (C := RX1) (T := TX1) (N := 5) hx hb hts hinX1 hown hK.1 hP 1 rfl rfl 2 (by decide) g17 (fun _ h9 => h9) rfl dX4_firstToWin_45 ?_
            obtain ⟨r9, h10, hf⟩ := ob1_some hf
            refine roV (c_X2_afterMinute l D cB cI cZ cM cN q_a0 a0_members a0_firstWarmth a0_forMotion a0_cold a0_fur a0_coughs a0_seconds a0_pairs a1_warmth x3 a1_fur r9 h10) hfix (cwV 3 hts gX4_firstToWin_X2_afterMinute rfl rfl rfl (by decide +kernel) ⟨Nat.le_of_ble_eq_true rfl, Nat.le_of_ble_eq_true rfl⟩) (subC hP [0] rfl) hK rfl rfl rfl rfl hl.1 rfl (Nat.le_of_ble_eq_true rfl) dX4_firstToWin_48 ⟨Nat.zero_le _, Nat.zero_le _⟩ ?_
            refine lv_iload_n hx hb dX4_firstToWin_51 rfl (lv_at hl 3 rfl) ?_
            refine lv_aload_n hx hb dX4_firstToWin_52 rfl (lv_at hl 1 rfl) ?_
            refine va_getN (D := D) (ci := 1) (v := .int a1_fur) (C := RX1) (T := TX1) (N := 5) hx hb hts hinX1 hown hK.1 hP 1 rfl rfl 2 (by decide) g17 (fun _ h9 => h9) rfl dX4_firstToWin_53 ?_
            refine lv_iconst (v := 0) hx hb dX4_firstToWin_56 (by decide) ?_
            refine lv_iload_n hx hb dX4_firstToWin_57 rfl (lv_at hl 2 rfl) ?_
            refine lv_iconst (v := 1) hx hb dX4_firstToWin_58 (by decide) ?_
            refine lv_isub hx hb dX4_firstToWin_59 ?_
            obtain ⟨r11, h12, hf⟩ := ob1_some hf
            refine roS (c_X4_winning 8 l D cB cI cZ cM cN q_a0 a0_members a0_firstWarmth a0_forMotion a0_cold a0_fur a0_coughs a0_seconds a0_pairs r9 x3 a1_fur 0 (x2 - 1) r11 h12) hfix (va_cwS 6 hts gX4_firstToWin_X4_winning rfl rfl rfl (by decide +kernel) ⟨Nat.le_of_ble_eq_true rfl, Nat.le_of_ble_eq_true rfl⟩) (subC hP [0] rfl) hK rfl hl.1 rfl (Nat.le_of_ble_eq_true rfl) dX4_firstToWin_60 ⟨Nat.zero_le _, Nat.zero_le _⟩ ?_
            refine lv_if_eq (tgt := 68) hx hb dX4_firstToWin_63 (by decide) (fun c13 => ?_) (fun c13 => ?_)
            · have hf := ite_p hf c13
              exact L68 x2 x3 ls hf (lv_sub hl [0, 1, 2, 3] rfl)
            · have hf := ite_n hf c13
              refine lv_iload_n hx hb dX4_firstToWin_66 rfl (lv_at hl 3 rfl) ?_
              have e0_ := Option.some.inj hf
              exact endRI hx hb hr hlocks rfl e0_ dX4_firstToWin_67
  unfold f_X4_firstToWin at hf
  refine lv_iload_n hx hb dX4_firstToWin_0 rfl (lv_at hl 2 rfl) ?_
  refine lv_if_gt (tgt := 7) hx hb dX4_firstToWin_1 (by decide) (fun c14 => ?_) (fun c14 => ?_)
  · have hf := ite_p hf c14
    refine lv_iconst (v := 0) hx hb dX4_firstToWin_7 (by decide) ?_
    refine lv_istore_n (lv' := [(3, .int 0), (0, .ref q_a0), (1, .ref q_a1), (2, .int p2)]) hx hb dX4_firstToWin_8 rfl hl (by decide) rfl (fun ls hl => ?_)
    exact L9 FU p2 0 ls hf (lv_sub hl [1, 2, 3, 0] rfl)
  · have hf := ite_n hf c14
    refine lv_bipush (v := (-9)) hx hb dX4_firstToWin_4 (by decide) ?_
    have e0_ := Option.some.inj hf
    exact endRI hx hb hr hlocks rfl e0_ dX4_firstToWin_6
def f_X4_fittingFrom_73 (a0_members : Int32) (a0_cold : Int32) (a0_fur : Int32) (a0_pairs : Int64) (a1_known : Int32) (a1_sets : Nat → Int32) (a1_minutes : Nat → Int32) (Kself : Int32 → Int32 → Int32 → Int64 → Int32 → (Nat → Int32) → (Nat → Int32) → Int32 → Int32 → Int32 → Option (Int32)) (K29 : Int32 → Int32 → Int32 → Int32 → Int32 → Option (Int32)) (x2 : Int32) (x3 : Int32) (x4 : Int32) (x5 : Int32) (x6 : Int32) : Option (Int32) :=
  bnd (x6 + 1) fun y1 =>
  K29 x2 x3 x4 x5 y1
def f_X4_fittingFrom_29_b (a0_members : Int32) (a0_cold : Int32) (a0_fur : Int32) (a0_pairs : Int64) (a1_known : Int32) (a1_sets : Nat → Int32) (a1_minutes : Nat → Int32) (Kself : Int32 → Int32 → Int32 → Int64 → Int32 → (Nat → Int32) → (Nat → Int32) → Int32 → Int32 → Int32 → Option (Int32)) (K29 : Int32 → Int32 → Int32 → Int32 → Int32 → Option (Int32)) (x2 : Int32) (x3 : Int32) (x4 : Int32) (x5 : Int32) (x6 : Int32) : Option (Int32) :=
  if a0_members ≤ x6 then (
    some (x5)
  ) else (
    ob1 (f_X2_isFrozen x6 x2) fun r3 =>
    if r3 = 0 then (
      ob1 (f_X2_afterMinute a0_members a0_cold a0_pairs x2 x6 a0_fur) fun r6 =>
      ob1 (Kself a0_members a0_cold a0_fur a0_pairs a1_known a1_sets a1_minutes r6 (x3 + 1) x4) fun r8 =>
      bnd (x5 + r8) fun y10 =>
      f_X4_fittingFrom_73 a0_members a0_cold a0_fur a0_pairs a1_known a1_sets a1_minutes Kself K29 x2 x3 x4 y10 x6
    ) else (
      f_X4_fittingFrom_73 a0_members a0_cold a0_fur a0_pairs a1_known a1_sets a1_minutes Kself K29 x2 x3 x4 x5 x6
    )
  )
def f_X4_fittingFrom_29 (a0_members : Int32) (a0_cold : Int32) (a0_fur : Int32) (a0_pairs : Int64) (a1_known : Int32) (a1_sets : Nat → Int32) (a1_minutes : Nat → Int32) (Kself : Int32 → Int32 → Int32 → Int64 → Int32 → (Nat → Int32) → (Nat → Int32) → Int32 → Int32 → Int32 → Option (Int32)) : Nat → Int32 → Int32 → Int32 → Int32 → Int32 → Option (Int32)
  | 0 => fun _ _ _ _ _ => none
  | n + 1 => f_X4_fittingFrom_29_b a0_members a0_cold a0_fur a0_pairs a1_known a1_sets a1_minutes Kself (f_X4_fittingFrom_29 a0_members a0_cold a0_fur a0_pairs a1_known a1_sets a1_minutes Kself n)
def f_X4_fittingFrom_b (Kself : Int32 → Int32 → Int32 → Int64 → Int32 → (Nat → Int32) → (Nat → Int32) → Int32 → Int32 → Int32 → Option (Int32)) (a0_members : Int32) (a0_cold : Int32) (a0_fur : Int32) (a0_pairs : Int64) (a1_known : Int32) (a1_sets : Nat → Int32) (a1_minutes : Nat → Int32) (p2 : Int32) (p3 : Int32) (p4 : Int32) : Option (Int32) :=
  ob1 (f_X2_frozen a0_members p2) fun r11 =>
  ob1 (f_X5_allowsBehind a1_known a1_sets a1_minutes p3 r11) fun r13 =>
  if r13 = 0 then (
    some (0)
  ) else (
    if p3 < p4 then (
      f_X4_fittingFrom_29 a0_members a0_cold a0_fur a0_pairs a1_known a1_sets a1_minutes Kself FU p2 p3 p4 0 0
    ) else (
      some (1)
    )
  )
def f_X4_fittingFrom : Nat → Int32 → Int32 → Int32 → Int64 → Int32 → (Nat → Int32) → (Nat → Int32) → Int32 → Int32 → Int32 → Option (Int32)
  | 0 => fun _ _ _ _ _ _ _ _ _ _ => none
  | n + 1 => f_X4_fittingFrom_b (f_X4_fittingFrom n)
def rm_X4_fittingFrom (n : Nat) : Room := { frames := 4 + n, cells := 0, slots := 0, locals := 105 + 26 * n }
set_option maxHeartbeats 4000000 in
set_option maxRecDepth 100000 in
theorem c_X4_fittingFrom : ∀ (n : Nat) (l : Launch) (D : va_G) (cB cI cZ cM cN : ClassId) (q_a0 : Nat) (q_a1 : Nat) (q_a1_minutes : Nat) (q_a1_sets : Nat) (a0_members : Int32) (a0_firstWarmth : Int32) (a0_forMotion : Int32) (a0_cold : Int32) (a0_fur : Int32) (a0_coughs : Int32) (a0_seconds : Int32) (a0_pairs : Int64) (a1_known : Int32) (a1_sets : Nat → Int32) (a1_minutes : Nat → Int32) (p2 : Int32) (p3 : Int32) (p4 : Int32) (r : Int32) (hf : f_X4_fittingFrom n a0_members a0_cold a0_fur a0_pairs a1_known a1_sets a1_minutes p2 p3 p4 = some r), Met l yX4_fittingFrom wsX4_fittingFrom (rm_X4_fittingFrom n) (PR D cB cI cZ cM cN [.ref q_a0, .ref q_a1, .int p2, .int p3, .int p4] [(q_a0, .inr (2, [.int a0_members, .int a0_firstWarmth, .int a0_forMotion, .int a0_cold, .int a0_fur, .int a0_coughs, .int a0_seconds, .long a0_pairs])), (q_a1, .inr (4, [.ref q_a1_minutes, .ref q_a1_sets, .int a1_known])), (q_a1_sets, .inl (cI, 6, .inl a1_sets)), (q_a1_minutes, .inl (cI, 6, .inl a1_minutes))]) (RI r) 0 0 (fun _ => False) := by
  intro n l D cB cI cZ cM cN
  induction n with
  | zero =>
    intro q_a0 q_a1 q_a1_minutes q_a1_sets a0_members a0_firstWarmth a0_forMotion a0_cold a0_fur a0_coughs a0_seconds a0_pairs a1_known a1_sets a1_minutes p2 p3 p4 r hf
    exact noneNe hf
  | succ n ihr =>
    intro q_a0 q_a1 q_a1_minutes q_a1_sets a0_members a0_firstWarmth a0_forMotion a0_cold a0_fur a0_coughs a0_seconds a0_pairs a1_known a1_sets a1_minutes p2 p3 p4 r hf
    refine entR (by decide +kernel) rfl (Nat.le_of_ble_eq_true rfl) ?_
    intro p e s m below meth c hx hb hr hml hown hlocks hts hP hK ls hl
    have hown : s.vm.findClass RX4 = some m.cls := hown
    have hl : lv_has ls 7 [(0, .ref q_a0), (1, .ref q_a1), (2, .int p2), (3, .int p3), (4, .int p4)] := hl
    have hfix : CallFix p m c cX4_fittingFrom 7 s ([.ref q_a0, .ref q_a1, .int p2, .int p3, .int p4] : List Value).toArray wsX4_fittingFrom RX4 := ⟨hx, hb, hml, hown, hts⟩
    have hinX2 : ∀ w ∈ u_ws RX2 TX2 8, w ∈ wsX4_fittingFrom := by decide +kernel
    have g34 := hK.2.use (A := ([.ref q_a0, .ref q_a1, .int p2, .int p3, .int p4] : List Value).toArray) (w := Cond.fieldLinkNest "LastCoat$Plans" 34 "LastCoat$Parliament" "members" "I" "LastCoat") 3 rfl
    have g83 := hK.2.use (A := ([.ref q_a0, .ref q_a1, .int p2, .int p3, .int p4] : List Value).toArray) (w := Cond.fieldLinkNest "LastCoat$Plans" 83 "LastCoat$Parliament" "fur" "I" "LastCoat") 10 rfl
    have L29 : ∀ (n29 : Nat) (x2 : Int32) (x3 : Int32) (x4 : Int32) (x5 : Int32) (x6 : Int32) (ls : Array Slot), f_X4_fittingFrom_29 a0_members a0_cold a0_fur a0_pairs a1_known a1_sets a1_minutes (f_X4_fittingFrom n) n29 x2 x3 x4 x5 x6 = some r → lv_has ls 7 [(0, .ref q_a0), (1, .ref q_a1), (2, .int x2), (3, .int x3), (4, .int x4), (5, .int x5), (6, .int x6)] → W p l e (rm_X4_fittingFrom (n + 1)) s m ([.ref q_a0, .ref q_a1, .int p2, .int p3, .int p4] : List Value).toArray below meth c s.heap [] 0 0 (MQ below (RI r) ([.ref q_a0, .ref q_a1, .int p2, .int p3, .int p4] : List Value).toArray s 0 0 (fun _ => False)) (F0 m 29 ls []) := by
      intro n29
      induction n29 with
      | zero =>
        intro x2 x3 x4 x5 x6 ls hf hl
        exact noneNe hf
      | succ n29 ih29 =>
        have L73 : ∀ (x2 : Int32) (x3 : Int32) (x4 : Int32) (x5 : Int32) (x6 : Int32) (ls : Array Slot), f_X4_fittingFrom_73 a0_members a0_cold a0_fur a0_pairs a1_known a1_sets a1_minutes (f_X4_fittingFrom n) (f_X4_fittingFrom_29 a0_members a0_cold a0_fur a0_pairs a1_known a1_sets a1_minutes (f_X4_fittingFrom n) n29) x2 x3 x4 x5 x6 = some r → lv_has ls 7 [(0, .ref q_a0), (1, .ref q_a1), (2, .int x2), (3, .int x3), (4, .int x4), (5, .int x5), (6, .int x6)] → W p l e (rm_X4_fittingFrom (n + 1)) s m ([.ref q_a0, .ref q_a1, .int p2, .int p3, .int p4] : List Value).toArray below meth c s.heap [] 0 0 (MQ below (RI r) ([.ref q_a0, .ref q_a1, .int p2, .int p3, .int p4] : List Value).toArray s 0 0 (fun _ => False)) (F0 m 73 ls []) := by
          intro x2 x3 x4 x5 x6 ls hf hl
          unfold f_X4_fittingFrom_73 at hf
          obtain ⟨y1, ey1⟩ : ∃ z : Int32, z = x6 + 1 := ⟨_, rfl⟩
          have hf := bnd_at hf ey1
          refine lv_iinc (v := y1) (lv' := [(6, .int y1), (0, .ref q_a0), (1, .ref q_a1), (2, .int x2), (3, .int x3), (4, .int x4), (5, .int x5)]) hx hb dX4_fittingFrom_73 hl (k := 6) rfl (by rw [ey1]; rfl) (by decide) rfl (fun ls hl => ?_)
          refine lv_goto (tgt := 29) hx hb dX4_fittingFrom_76 (by decide) ?_
          exact ih29 x2 x3 x4 x5 y1 ls hf (lv_sub hl [1, 2, 3, 4, 5, 6, 0] rfl)
        intro x2 x3 x4 x5 x6 ls hf hl
        have hf : f_X4_fittingFrom_29_b a0_members a0_cold a0_fur a0_pairs a1_known a1_sets a1_minutes (f_X4_fittingFrom n) (f_X4_fittingFrom_29 a0_members a0_cold a0_fur a0_pairs a1_known a1_sets a1_minutes (f_X4_fittingFrom n) n29) x2 x3 x4 x5 x6 = some r := hf
        unfold f_X4_fittingFrom_29_b at hf
        refine lv_iload hx hb dX4_fittingFrom_29 (lv_at hl 6 rfl) ?_
        refine lv_aload_n hx hb dX4_fittingFrom_31 rfl (lv_at hl 0 rfl) ?_
        refine va_getN (D := D) (ci := 2) (v := .int a0_members) (C := RX2) (T := TX2) (N := 8) hx hb hts hinX2 hown hK.1 hP 0 rfl rfl 0 (by decide) g34 (fun _ h9 => h9) rfl dX4_fittingFrom_32 ?_
        refine lv_icmp_ge (tgt := 79) hx hb dX4_fittingFrom_35 (by decide) (fun c2 => ?_) (fun c2 => ?_)
        · have hf := ite_p hf c2
          refine lv_iload hx hb dX4_fittingFrom_79 (lv_at hl 5 rfl) ?_
          have e0_ := Option.some.inj hf
          exact endRI hx hb hr hlocks rfl e0_ dX4_fittingFrom_81
        · have hf := ite_n hf c2
          refine lv_iload hx hb dX4_fittingFrom_38 (lv_at hl 6 rfl) ?_
          refine lv_iload_n hx hb dX4_fittingFrom_40 rfl (lv_at hl 2 rfl) ?_
          obtain ⟨r3, h4, hf⟩ := ob1_some hf
          refine roS (c_X2_isFrozen l D cB cI cZ cM cN x6 x2 r3 h4) hfix (va_cwS 2 hts gX4_fittingFrom_X2_isFrozen rfl rfl rfl (by decide +kernel) ⟨(by simp only [rm_X4_fittingFrom]; omega), (by simp only [rm_X4_fittingFrom]; omega)⟩) (subC hP [] rfl) hK rfl hl.1 rfl (Nat.le_of_ble_eq_true rfl) dX4_fittingFrom_41 ⟨Nat.zero_le _, Nat.zero_le _⟩ ?_
          refine lv_if_ne (tgt := 73) hx hb dX4_fittingFrom_44 (by decide) (fun c5 => ?_) (fun c5 => ?_)
          · have hf := ite_n hf c5
            exact L73 x2 x3 x4 x5 x6 ls hf (lv_sub hl [0, 1, 2, 3, 4, 5, 6] rfl)
          · have hf := ite_p hf c5
            refine lv_iload hx hb dX4_fittingFrom_47 (lv_at hl 5 rfl) ?_
            refine lv_aload_n hx hb dX4_fittingFrom_49 rfl (lv_at hl 0 rfl) ?_
            refine lv_aload_n hx hb dX4_fittingFrom_50 rfl (lv_at hl 1 rfl) ?_
            refine lv_aload_n hx hb dX4_fittingFrom_51 rfl (lv_at hl 0 rfl) ?_
            refine lv_iload_n hx hb dX4_fittingFrom_52 rfl (lv_at hl 2 rfl) ?_
            refine lv_iload hx hb dX4_fittingFrom_53 (lv_at hl 6 rfl) ?_
            refine lv_aload_n hx hb dX4_fittingFrom_55 rfl (lv_at hl 0 rfl) ?_
            refine va_getN (D := D) (ci := 2) (v := .int a0_fur) (C := RX2) (T := TX2) (N := 8) hx hb hts hinX2 hown hK.1 hP 0 rfl rfl 4 (by decide) g83 (fun _ h9 => h9) rfl dX4_fittingFrom_56 ?_
            obtain ⟨r6, h7, hf⟩ := ob1_some hf
            refine roV (c_X2_afterMinute l D cB cI cZ cM cN q_a0 a0_members a0_firstWarmth a0_forMotion a0_cold a0_fur a0_coughs a0_seconds a0_pairs x2 x6 a0_fur r6 h7) hfix (cwV 3 hts gX4_fittingFrom_X2_afterMinute rfl rfl rfl (by decide +kernel) ⟨(by simp only [rm_X4_fittingFrom]; omega), (by simp only [rm_X4_fittingFrom]; omega)⟩) (subC hP [0] rfl) hK rfl rfl rfl rfl hl.1 rfl (Nat.le_of_ble_eq_true rfl) dX4_fittingFrom_59 ⟨Nat.zero_le _, Nat.zero_le _⟩ ?_
            refine lv_iload_n hx hb dX4_fittingFrom_62 rfl (lv_at hl 3 rfl) ?_
            refine lv_iconst (v := 1) hx hb dX4_fittingFrom_63 (by decide) ?_
            refine lv_iadd hx hb dX4_fittingFrom_64 ?_
            refine lv_iload hx hb dX4_fittingFrom_65 (lv_at hl 4 rfl) ?_
            obtain ⟨r8, h9, hf⟩ := ob1_some hf
            refine roS (ihr q_a0 q_a1 q_a1_minutes q_a1_sets a0_members a0_firstWarmth a0_forMotion a0_cold a0_fur a0_coughs a0_seconds a0_pairs a1_known a1_sets a1_minutes r6 (x3 + 1) x4 r8 h9) hfix (va_cwS 5 hts gX4_fittingFrom_X4_fittingFrom rfl rfl rfl (by decide +kernel) ⟨(by simp only [rm_X4_fittingFrom]; omega), (by simp only [rm_X4_fittingFrom]; omega)⟩) (subC hP [0, 1, 2, 3] rfl) hK rfl hl.1 rfl (Nat.le_of_ble_eq_true rfl) dX4_fittingFrom_67 ⟨Nat.zero_le _, Nat.zero_le _⟩ ?_
            refine lv_iadd hx hb dX4_fittingFrom_70 ?_
            refine lv_topi (fun y10 ey10 => ?_)
            have hf := bnd_at hf ey10
            refine lv_istore (lv' := [(5, .int y10), (0, .ref q_a0), (1, .ref q_a1), (2, .int x2), (3, .int x3), (4, .int x4), (6, .int x6)]) hx hb dX4_fittingFrom_71 hl (by decide) rfl (fun ls hl => ?_)
            exact L73 x2 x3 x4 y10 x6 ls hf (lv_sub hl [1, 2, 3, 4, 5, 0, 6] rfl)
    have hf : f_X4_fittingFrom_b (f_X4_fittingFrom n) a0_members a0_cold a0_fur a0_pairs a1_known a1_sets a1_minutes p2 p3 p4 = some r := hf
    unfold f_X4_fittingFrom_b at hf
    refine lv_aload_n hx hb dX4_fittingFrom_0 rfl (lv_at hl 1 rfl) ?_
    refine lv_iload_n hx hb dX4_fittingFrom_1 rfl (lv_at hl 3 rfl) ?_
    refine lv_aload_n hx hb dX4_fittingFrom_2 rfl (lv_at hl 0 rfl) ?_
    refine lv_iload_n hx hb dX4_fittingFrom_3 rfl (lv_at hl 2 rfl) ?_
    obtain ⟨r11, h12, hf⟩ := ob1_some hf
    refine roV (c_X2_frozen l D cB cI cZ cM cN q_a0 a0_members a0_firstWarmth a0_forMotion a0_cold a0_fur a0_coughs a0_seconds a0_pairs p2 r11 h12) hfix (cwV 1 hts gX4_fittingFrom_X2_frozen rfl rfl rfl (by decide +kernel) ⟨(by simp only [rm_X4_fittingFrom]; omega), (by simp only [rm_X4_fittingFrom]; omega)⟩) (subC hP [0] rfl) hK rfl rfl rfl rfl hl.1 rfl (Nat.le_of_ble_eq_true rfl) dX4_fittingFrom_4 ⟨Nat.zero_le _, Nat.zero_le _⟩ ?_
    obtain ⟨r13, h14, hf⟩ := ob1_some hf
    refine roV (c_X5_allowsBehind l D cB cI cZ cM cN q_a1 q_a1_minutes q_a1_sets a1_known a1_sets a1_minutes p3 r11 r13 h14) hfix (cwV 2 hts gX4_fittingFrom_X5_allowsBehind rfl rfl rfl (by decide +kernel) ⟨(by simp only [rm_X4_fittingFrom]; omega), (by simp only [rm_X4_fittingFrom]; omega)⟩) (subC hP [1, 2, 3] rfl) hK rfl rfl rfl rfl hl.1 rfl (Nat.le_of_ble_eq_true rfl) dX4_fittingFrom_7 ⟨Nat.zero_le _, Nat.zero_le _⟩ ?_
    refine lv_if_ne (tgt := 15) hx hb dX4_fittingFrom_10 (by decide) (fun c15 => ?_) (fun c15 => ?_)
    · have hf := ite_n hf c15
      refine lv_iload_n hx hb dX4_fittingFrom_15 rfl (lv_at hl 3 rfl) ?_
      refine lv_iload hx hb dX4_fittingFrom_16 (lv_at hl 4 rfl) ?_
      refine lv_icmp_lt (tgt := 23) hx hb dX4_fittingFrom_18 (by decide) (fun c16 => ?_) (fun c16 => ?_)
      · have hf := ite_p hf c16
        refine lv_iconst (v := 0) hx hb dX4_fittingFrom_23 (by decide) ?_
        refine lv_istore (lv' := [(5, .int 0), (0, .ref q_a0), (1, .ref q_a1), (2, .int p2), (3, .int p3), (4, .int p4)]) hx hb dX4_fittingFrom_24 hl (by decide) rfl (fun ls hl => ?_)
        refine lv_iconst (v := 0) hx hb dX4_fittingFrom_26 (by decide) ?_
        refine lv_istore (lv' := [(6, .int 0), (5, .int 0), (0, .ref q_a0), (1, .ref q_a1), (2, .int p2), (3, .int p3), (4, .int p4)]) hx hb dX4_fittingFrom_27 hl (by decide) rfl (fun ls hl => ?_)
        exact L29 FU p2 p3 p4 0 0 ls hf (lv_sub hl [2, 3, 4, 5, 6, 1, 0] rfl)
      · have hf := ite_n hf c16
        refine lv_iconst (v := 1) hx hb dX4_fittingFrom_21 (by decide) ?_
        have e0_ := Option.some.inj hf
        exact endRI hx hb hr hlocks rfl e0_ dX4_fittingFrom_22
    · have hf := ite_p hf c15
      refine lv_iconst (v := 0) hx hb dX4_fittingFrom_13 (by decide) ?_
      have e0_ := Option.some.inj hf
      exact endRI hx hb hr hlocks rfl e0_ dX4_fittingFrom_14
def f_X4_fitting (a0_members : Int32) (a0_firstWarmth : Int32) (a0_cold : Int32) (a0_fur : Int32) (a0_pairs : Int64) (a1_known : Int32) (a1_sets : Nat → Int32) (a1_minutes : Nat → Int32) (p2 : Int32) : Option (Int32) :=
  ob1 (f_X4_fittingFrom 8 a0_members a0_cold a0_fur a0_pairs a1_known a1_sets a1_minutes a0_firstWarmth 0 p2) fun r1 =>
  some (r1)
set_option maxHeartbeats 4000000 in
set_option maxRecDepth 100000 in
theorem c_X4_fitting (l : Launch) (D : va_G) (cB cI cZ cM cN : ClassId) (q_a0 : Nat) (q_a1 : Nat) (q_a1_minutes : Nat) (q_a1_sets : Nat) (a0_members : Int32) (a0_firstWarmth : Int32) (a0_forMotion : Int32) (a0_cold : Int32) (a0_fur : Int32) (a0_coughs : Int32) (a0_seconds : Int32) (a0_pairs : Int64) (a1_known : Int32) (a1_sets : Nat → Int32) (a1_minutes : Nat → Int32) (p2 : Int32) (r : Int32) (hf : f_X4_fitting a0_members a0_firstWarmth a0_cold a0_fur a0_pairs a1_known a1_sets a1_minutes p2 = some r) : Met l yX4_fitting wsX4_fitting ({ frames := 13, cells := 0, slots := 0, locals := 339 } : Room) (PR D cB cI cZ cM cN [.ref q_a0, .ref q_a1, .int p2] [(q_a0, .inr (2, [.int a0_members, .int a0_firstWarmth, .int a0_forMotion, .int a0_cold, .int a0_fur, .int a0_coughs, .int a0_seconds, .long a0_pairs])), (q_a1, .inr (4, [.ref q_a1_minutes, .ref q_a1_sets, .int a1_known])), (q_a1_sets, .inl (cI, 6, .inl a1_sets)), (q_a1_minutes, .inl (cI, 6, .inl a1_minutes))]) (RI r) 0 0 (fun _ => False) := by
  refine entR (by decide +kernel) rfl (Nat.le_of_ble_eq_true rfl) ?_
  intro p e s m below meth c hx hb hr hml hown hlocks hts hP hK ls hl
  have hown : s.vm.findClass RX4 = some m.cls := hown
  have hl : lv_has ls 3 [(0, .ref q_a0), (1, .ref q_a1), (2, .int p2)] := hl
  have hfix : CallFix p m c cX4_fitting 3 s ([.ref q_a0, .ref q_a1, .int p2] : List Value).toArray wsX4_fitting RX4 := ⟨hx, hb, hml, hown, hts⟩
  have hinX2 : ∀ w ∈ u_ws RX2 TX2 8, w ∈ wsX4_fitting := by decide +kernel
  have g68 := hK.2.use (A := ([.ref q_a0, .ref q_a1, .int p2] : List Value).toArray) (w := Cond.fieldLinkNest "LastCoat$Plans" 68 "LastCoat$Parliament" "firstWarmth" "I" "LastCoat") 5 rfl
  unfold f_X4_fitting at hf
  refine lv_aload_n hx hb dX4_fitting_0 rfl (lv_at hl 0 rfl) ?_
  refine lv_aload_n hx hb dX4_fitting_1 rfl (lv_at hl 1 rfl) ?_
  refine lv_aload_n hx hb dX4_fitting_2 rfl (lv_at hl 0 rfl) ?_
  refine va_getN (D := D) (ci := 2) (v := .int a0_firstWarmth) (C := RX2) (T := TX2) (N := 8) hx hb hts hinX2 hown hK.1 hP 0 rfl rfl 1 (by decide) g68 (fun _ h9 => h9) rfl dX4_fitting_3 ?_
  refine lv_iconst (v := 0) hx hb dX4_fitting_6 (by decide) ?_
  refine lv_iload_n hx hb dX4_fitting_7 rfl (lv_at hl 2 rfl) ?_
  obtain ⟨r1, h2, hf⟩ := ob1_some hf
  refine roS (c_X4_fittingFrom 8 l D cB cI cZ cM cN q_a0 q_a1 q_a1_minutes q_a1_sets a0_members a0_firstWarmth a0_forMotion a0_cold a0_fur a0_coughs a0_seconds a0_pairs a1_known a1_sets a1_minutes a0_firstWarmth 0 p2 r1 h2) hfix (va_cwS 5 hts gX4_fitting_X4_fittingFrom rfl rfl rfl (by decide +kernel) ⟨Nat.le_of_ble_eq_true rfl, Nat.le_of_ble_eq_true rfl⟩) (subC hP [0, 1, 2, 3] rfl) hK rfl hl.1 rfl (Nat.le_of_ble_eq_true rfl) dX4_fitting_8 ⟨Nat.zero_le _, Nat.zero_le _⟩ ?_
  have e0_ := Option.some.inj hf
  exact endRI hx hb hr hlocks rfl e0_ dX4_fitting_11
