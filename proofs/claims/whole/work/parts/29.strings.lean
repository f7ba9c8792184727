/-! the five words of the text: the JDK's members on them -/
def slens : List Nat := [6, 7, 4, 3, 6]
def sbyts : List (List Int32) := [[109, 101, 109, 98, 101, 114], [115, 101, 99, 111, 110, 100, 115], [99, 111, 108, 100], [102, 117, 114], [99, 111, 117, 103, 104, 115]]
def sln (i : Nat) : Int32 := nI (slens.getD i 0)
def sch (i : Nat) (k : Int32) : Int32 := ((sbyts.getD i []).getD k.toNatClampNeg 0) &&& 255
abbrev NA : Nat → Prop := fun _ => False
abbrev rvq (q : Option Nat) : Value := match q with | none => .null | some a => .ref a
def KS (adK adV : Nat → Nat) (qf : Option Nat) (A : Nat → Prop) (U : State) (H : Heap) : Prop := vk_S 5 slens sbyts adK adV A U H ∧ va_Z "java/lang/String" "COMPACT_STRINGS" "Z" (.int 1) A U H ∧ va_Z "jdk/internal/util/Preconditions" "SIOOBE_FORMATTER" "Ljava/util/function/BiFunction;" (rvq qf) A U H
theorem KS.moved {adK adV : Nat → Nat} {qf : Option Nat} {A : Nat → Prop} {u U : State} {H : Heap} (hvm : u.vm.Alike U.vm) (h : KS adK adV qf A u H) : KS adK adV qf A U H := ⟨h.1.moved hvm, h.2.1.moved hvm, h.2.2.moved hvm⟩
theorem KS.kept {adK adV : Nat → Nat} {qf : Option Nat} {A : Nat → Prop} {U : State} {H H1 : Heap} (h : KS adK adV qf A U H) (hq : ∀ a : Nat, a < H.size → ¬ A a → H1[a]? = H[a]?) : KS adK adV qf A U H1 := ⟨h.1.kept hq, h.2.1.kept hq, h.2.2.kept hq⟩
theorem KS.narrow {adK adV : Nat → Nat} {qf : Option Nat} {A B : Nat → Prop} {U : State} {H : Heap} (h : KS adK adV qf A U H) (hAB : ∀ q, B q → A q) : KS adK adV qf B U H := ⟨h.1.narrow hAB, h.2.1.narrow hAB, h.2.2.narrow hAB⟩
def PSt (adK adV : Nat → Nat) (qf : Option Nat) (av : List Value) : Array Value → State → Prop := va_Pc av (fun U => KS adK adV qf NA U U.heap)
theorem PSt.blind {adK adV : Nat → Nat} {qf : Option Nat} {av : List Value} : FrameBlind (PSt adK adV qf av) := fun a U g mk q => ⟨q.1, q.2.moved (u := U) (U := U.calling g mk a) (Vm.Alike.refl U.vm)⟩
theorem PSt.at_ {adK adV : Nat → Nat} {qf : Option Nat} {As : List Value} {s : State} {H : Heap} (h : KS adK adV qf NA s H) : ∀ U : State, U.heap = H → s.WarmedH U.vm → PSt adK adV qf As As.toArray U := fun U hU hW => ⟨rfl, by show KS adK adV qf NA U U.heap; rw [hU]; exact h.moved hW.alike⟩
theorem s_lens_lt (i : Nat) : slens.getD i 0 < 2 ^ 31 := by
  rcases Nat.lt_or_ge i 5 with q | q
  · rcases (show i = 0 ∨ i = 1 ∨ i = 2 ∨ i = 3 ∨ i = 4 by omega) with rfl | rfl | rfl | rfl | rfl <;> decide
  · rw [List.getD_eq_getElem?_getD, List.getElem?_eq_none (by simpa [slens] using q)]; decide
set_option maxHeartbeats 4000000 in
set_option maxRecDepth 100000 in
theorem c_coder (l : Launch) (adK adV : Nat → Nat) (qf : Option Nat) (i : Nat) (hi : i < 5) : Met l yJ0_coder_7d493 wsJ0_coder_7d493 ({ frames := 0, cells := 0, slots := 0, locals := 0 } : Room) (PSt adK adV qf [.ref (adK i)]) (RI 0) 0 0 (fun _ => False) := by
  refine entG (by decide +kernel) rfl (Nat.le_of_ble_eq_true rfl) ?_
  intro p e s m below meth c hx hb hr hml hown hlocks _ hts hB ls hl
  have hB : KS adK adV qf NA s s.heap := hB
  have hown : s.vm.findClass RJ0 = some m.cls := hown
  have hl : lv_has ls 1 [(0, .ref (adK i))] := hl
  have hfix : CallFix p m c cJ0_coder_7d493 1 s ([.ref (adK i)] : List Value).toArray wsJ0_coder_7d493 RJ0 := ⟨hx, hb, hml, hown, hts⟩
  have g38 := hts (.fieldLink RJ0 38 "java/lang/String" "COMPACT_STRINGS" "Z") (by decide +kernel)
  have g15 := hts (.fieldLink RJ0 15 "java/lang/String" "coder" "B") (by decide +kernel)
  obtain ⟨hs, hz, hq⟩ := id hB
  refine va_gets hx hb hz va_S.rf hown g38 (fun _ h9 => h9) dJ0_coder_7d493_0 ?_
  refine lv_if_eq (tgt := 13) hx hb dJ0_coder_7d493_3 (by decide) (fun c => absurd c (by decide)) (fun _ => ?_)
  refine lv_aload_n hx hb dJ0_coder_7d493_6 rfl (lv_at hl 0 rfl) ?_
  refine vk_getf hx hb (hs.1 i hi).2.1 va_S.rf hown g15 (fun _ h9 => h9) dJ0_coder_7d493_7 ?_
  refine lv_goto (tgt := 14) hx hb dJ0_coder_7d493_10 (by decide) ?_
  exact endRI hx hb hr hlocks rfl rfl dJ0_coder_7d493_14
set_option maxHeartbeats 4000000 in
set_option maxRecDepth 100000 in
theorem c_isLatin1 (l : Launch) (adK adV : Nat → Nat) (qf : Option Nat) (i : Nat) (hi : i < 5) : Met l yJ0_isLatin1_aae02 wsJ0_isLatin1_aae02 ({ frames := 0, cells := 0, slots := 0, locals := 0 } : Room) (PSt adK adV qf [.ref (adK i)]) (RI 1) 0 0 (fun _ => False) := by
  refine entG (by decide +kernel) rfl (Nat.le_of_ble_eq_true rfl) ?_
  intro p e s m below meth c hx hb hr hml hown hlocks _ hts hB ls hl
  have hB : KS adK adV qf NA s s.heap := hB
  have hown : s.vm.findClass RJ0 = some m.cls := hown
  have hl : lv_has ls 1 [(0, .ref (adK i))] := hl
  have hfix : CallFix p m c cJ0_isLatin1_aae02 1 s ([.ref (adK i)] : List Value).toArray wsJ0_isLatin1_aae02 RJ0 := ⟨hx, hb, hml, hown, hts⟩
  have g38 := hts (.fieldLink RJ0 38 "java/lang/String" "COMPACT_STRINGS" "Z") (by decide +kernel)
  have g15 := hts (.fieldLink RJ0 15 "java/lang/String" "coder" "B") (by decide +kernel)
  obtain ⟨hs, hz, hq⟩ := id hB
  refine va_gets hx hb hz va_S.rf hown g38 (fun _ h9 => h9) dJ0_isLatin1_aae02_0 ?_
  refine lv_if_eq (tgt := 17) hx hb dJ0_isLatin1_aae02_3 (by decide) (fun c => absurd c (by decide)) (fun _ => ?_)
  refine lv_aload_n hx hb dJ0_isLatin1_aae02_6 rfl (lv_at hl 0 rfl) ?_
  refine vk_getf hx hb (hs.1 i hi).2.1 va_S.rf hown g15 (fun _ h9 => h9) dJ0_isLatin1_aae02_7 ?_
  refine lv_if_ne (tgt := 17) hx hb dJ0_isLatin1_aae02_10 (by decide) (fun c => absurd rfl c) (fun _ => ?_)
  refine lv_iconst (v := 1) hx hb dJ0_isLatin1_aae02_13 (by decide) ?_
  refine lv_goto (tgt := 18) hx hb dJ0_isLatin1_aae02_14 (by decide) ?_
  exact endRI hx hb hr hlocks rfl rfl dJ0_isLatin1_aae02_18
set_option maxHeartbeats 4000000 in
set_option maxRecDepth 100000 in
theorem c_strlen (l : Launch) (adK adV : Nat → Nat) (qf : Option Nat) (i : Nat) (hi : i < 5) : Met l yJ0_length_8abf5 wsJ0_length_8abf5 ({ frames := 1, cells := 0, slots := 0, locals := 20 } : Room) (PSt adK adV qf [.ref (adK i)]) (RI (sln i)) 0 0 (fun _ => False) := by
  refine entG (by decide +kernel) rfl (Nat.le_of_ble_eq_true rfl) ?_
  intro p e s m below meth c hx hb hr hml hown hlocks _ hts hB ls hl
  have hB : KS adK adV qf NA s s.heap := hB
  have hown : s.vm.findClass RJ0 = some m.cls := hown
  have hl : lv_has ls 1 [(0, .ref (adK i))] := hl
  have hfix : CallFix p m c cJ0_length_8abf5 1 s ([.ref (adK i)] : List Value).toArray wsJ0_length_8abf5 RJ0 := ⟨hx, hb, hml, hown, hts⟩
  have g9 := hts (.fieldLink RJ0 9 "java/lang/String" "value" "[B") (by decide +kernel)
  obtain ⟨hs, hz, hq⟩ := id hB
  refine lv_aload_n hx hb dJ0_length_8abf5_0 rfl (lv_at hl 0 rfl) ?_
  refine vk_getf hx hb (hs.1 i hi).2.2.1 va_S.rf hown g9 (fun _ h9 => h9) dJ0_length_8abf5_1 ?_
  refine va_tlen (v := sln i) hx hb (hs.1 i hi).2.2.2 va_S.rf rfl dJ0_length_8abf5_4 ?_
  refine lv_aload_n hx hb dJ0_length_8abf5_5 rfl (lv_at hl 0 rfl) ?_
  refine vp_callSi (W.runV (As := []) (rest := [.int (sln i)]) hfix (c_coder l adK adV qf i hi) (cwV 0 hts gJ0_length_8abf5_J0_coder_7d493 rfl rfl rfl (by decide +kernel) ⟨Nat.le_of_ble_eq_true rfl, Nat.le_of_ble_eq_true rfl⟩) ⟨PSt.blind, vk_recv hs hi va_S.rf, PSt.at_ hB⟩ rfl rfl hl.1 rfl (lv_room (Nat.le_of_ble_eq_true rfl)) dJ0_length_8abf5_6 ⟨Nat.zero_le _, Nat.zero_le _⟩) (fun z hz0 => ?_)
  subst hz0
  refine lv_ishr hx hb dJ0_length_8abf5_9 ?_
  exact endRI hx hb hr hlocks rfl (sb_shr0 _) dJ0_length_8abf5_10
set_option maxHeartbeats 4000000 in
set_option maxRecDepth 100000 in
theorem c_chk3 (l : Launch) (adK adV : Nat → Nat) (qf : Option Nat) (i n : Int32) (q : Nat) (h0 : ¬ i < 0) (h1 : i < n) : Met l yJ3_checkIndex_8e157 wsJ3_checkIndex_8e157 ({ frames := 0, cells := 0, slots := 0, locals := 0 } : Room) (PSt adK adV qf [.int i, .int n, .ref q]) (RI i) 0 0 (fun _ => False) := by
  refine entG (by decide +kernel) rfl (Nat.le_of_ble_eq_true rfl) ?_
  intro p e s m below meth c hx hb hr hml hown hlocks _ hts hB ls hl
  have hB : KS adK adV qf NA s s.heap := hB
  have hown : s.vm.findClass RJ3 = some m.cls := hown
  have hl : lv_has ls 3 [(0, .int i), (1, .int n), (2, .ref q)] := hl
  have hfix : CallFix p m c cJ3_checkIndex_8e157 3 s ([.int i, .int n, .ref q] : List Value).toArray wsJ3_checkIndex_8e157 RJ3 := ⟨hx, hb, hml, hown, hts⟩
  obtain ⟨hs, hz, hq⟩ := id hB
  refine lv_iload_n hx hb dJ3_checkIndex_8e157_0 rfl (lv_at hl 0 rfl) ?_
  refine lv_if_lt (tgt := 9) hx hb dJ3_checkIndex_8e157_1 (by decide) (fun c => absurd c h0) (fun _ => ?_)
  refine lv_iload_n hx hb dJ3_checkIndex_8e157_4 rfl (lv_at hl 0 rfl) ?_
  refine lv_iload_n hx hb dJ3_checkIndex_8e157_5 rfl (lv_at hl 1 rfl) ?_
  refine lv_icmp_lt (tgt := 16) hx hb dJ3_checkIndex_8e157_6 (by decide) (fun _ => ?_) (fun c => absurd h1 c)
  refine lv_iload_n hx hb dJ3_checkIndex_8e157_16 rfl (lv_at hl 0 rfl) ?_
  exact endRI hx hb hr hlocks rfl rfl dJ3_checkIndex_8e157_17
set_option maxHeartbeats 4000000 in
set_option maxRecDepth 100000 in
theorem c_chk3n (l : Launch) (adK adV : Nat → Nat) (qf : Option Nat) (i n : Int32) (h0 : ¬ i < 0) (h1 : i < n) : Met l yJ3_checkIndex_8e157 wsJ3_checkIndex_8e157 ({ frames := 0, cells := 0, slots := 0, locals := 0 } : Room) (PSt adK adV qf [.int i, .int n, .null]) (RI i) 0 0 (fun _ => False) := by
  refine entG (by decide +kernel) rfl (Nat.le_of_ble_eq_true rfl) ?_
  intro p e s m below meth c hx hb hr hml hown hlocks _ hts hB ls hl
  have hB : KS adK adV qf NA s s.heap := hB
  have hown : s.vm.findClass RJ3 = some m.cls := hown
  have hl : lv_has ls 3 [(0, .int i), (1, .int n), (2, .null)] := hl
  have hfix : CallFix p m c cJ3_checkIndex_8e157 3 s ([.int i, .int n, .null] : List Value).toArray wsJ3_checkIndex_8e157 RJ3 := ⟨hx, hb, hml, hown, hts⟩
  obtain ⟨hs, hz, hq⟩ := id hB
  refine lv_iload_n hx hb dJ3_checkIndex_8e157_0 rfl (lv_at hl 0 rfl) ?_
  refine lv_if_lt (tgt := 9) hx hb dJ3_checkIndex_8e157_1 (by decide) (fun c => absurd c h0) (fun _ => ?_)
  refine lv_iload_n hx hb dJ3_checkIndex_8e157_4 rfl (lv_at hl 0 rfl) ?_
  refine lv_iload_n hx hb dJ3_checkIndex_8e157_5 rfl (lv_at hl 1 rfl) ?_
  refine lv_icmp_lt (tgt := 16) hx hb dJ3_checkIndex_8e157_6 (by decide) (fun _ => ?_) (fun c => absurd h1 c)
  refine lv_iload_n hx hb dJ3_checkIndex_8e157_16 rfl (lv_at hl 0 rfl) ?_
  exact endRI hx hb hr hlocks rfl rfl dJ3_checkIndex_8e157_17
set_option maxHeartbeats 4000000 in
set_option maxRecDepth 100000 in
theorem c_chk2 (l : Launch) (adK adV : Nat → Nat) (qf : Option Nat) (i n : Int32) (h0 : ¬ i < 0) (h1 : i < n) : Met l yJ0_checkIndex_df160 wsJ0_checkIndex_df160 ({ frames := 1, cells := 0, slots := 0, locals := 22 } : Room) (PSt adK adV qf [.int i, .int n]) (va_Sv (fun _ => True)) 0 0 (fun _ => False) := by
  refine entG (by decide +kernel) rfl (Nat.le_of_ble_eq_true rfl) ?_
  intro p e s m below meth c hx hb hr hml hown hlocks _ hts hB ls hl
  have hB : KS adK adV qf NA s s.heap := hB
  have hown : s.vm.findClass RJ0 = some m.cls := hown
  have hl : lv_has ls 2 [(0, .int i), (1, .int n)] := hl
  have hfix : CallFix p m c cJ0_checkIndex_df160 2 s ([.int i, .int n] : List Value).toArray wsJ0_checkIndex_df160 RJ0 := ⟨hx, hb, hml, hown, hts⟩
  have g1053 := hts (.fieldLink RJ0 1053 "jdk/internal/util/Preconditions" "SIOOBE_FORMATTER" "Ljava/util/function/BiFunction;") (by decide +kernel)
  obtain ⟨hs, hz, hq⟩ := id hB
  cases qf with
  | none =>
    have hq : va_Z "jdk/internal/util/Preconditions" "SIOOBE_FORMATTER" "Ljava/util/function/BiFunction;" .null NA s s.heap := hq
    refine lv_iload_n hx hb dJ0_checkIndex_df160_0 rfl (lv_at hl 0 rfl) ?_
    refine lv_iload_n hx hb dJ0_checkIndex_df160_1 rfl (lv_at hl 1 rfl) ?_
    refine va_gets hx hb hq va_S.rf hown g1053 (fun _ h9 => h9) dJ0_checkIndex_df160_2 ?_
    refine vp_callSi (W.runS (As := [.int i, .int n, .null]) (rest := []) hfix (c_chk3n l adK adV none i n h0 h1) (va_cwS 3 hts gJ0_checkIndex_df160_J3_checkIndex_8e157 rfl rfl rfl (by decide +kernel) ⟨Nat.le_of_ble_eq_true rfl, Nat.le_of_ble_eq_true rfl⟩) ⟨PSt.blind, PSt.at_ hB⟩ rfl rfl hl.1 rfl (lv_room (Nat.le_of_ble_eq_true rfl)) dJ0_checkIndex_df160_5 ⟨Nat.zero_le _, Nat.zero_le _⟩) (fun z hz0 => ?_)
    refine lv_pop hx hb dJ0_checkIndex_df160_8 rfl ?_
    exact W.vret hx hb hr (fun t ht hW => ⟨rfl, trivial, ht⟩) (fun q h => absurd h List.not_mem_nil) dJ0_checkIndex_df160_9 hlocks
  | some q =>
    have hq : va_Z "jdk/internal/util/Preconditions" "SIOOBE_FORMATTER" "Ljava/util/function/BiFunction;" (.ref q) NA s s.heap := hq
    refine lv_iload_n hx hb dJ0_checkIndex_df160_0 rfl (lv_at hl 0 rfl) ?_
    refine lv_iload_n hx hb dJ0_checkIndex_df160_1 rfl (lv_at hl 1 rfl) ?_
    refine va_gets hx hb hq va_S.rf hown g1053 (fun _ h9 => h9) dJ0_checkIndex_df160_2 ?_
    refine vp_callSi (W.runS (As := [.int i, .int n, .ref q]) (rest := []) hfix (c_chk3 l adK adV (some q) i n q h0 h1) (va_cwS 3 hts gJ0_checkIndex_df160_J3_checkIndex_8e157 rfl rfl rfl (by decide +kernel) ⟨Nat.le_of_ble_eq_true rfl, Nat.le_of_ble_eq_true rfl⟩) ⟨PSt.blind, PSt.at_ hB⟩ rfl rfl hl.1 rfl (lv_room (Nat.le_of_ble_eq_true rfl)) dJ0_checkIndex_df160_5 ⟨Nat.zero_le _, Nat.zero_le _⟩) (fun z hz0 => ?_)
    refine lv_pop hx hb dJ0_checkIndex_df160_8 rfl ?_
    exact W.vret hx hb hr (fun t ht hW => ⟨rfl, trivial, ht⟩) (fun q h => absurd h List.not_mem_nil) dJ0_checkIndex_df160_9 hlocks
set_option maxHeartbeats 4000000 in
set_option maxRecDepth 100000 in
theorem c_charAt1 (l : Launch) (adK adV : Nat → Nat) (qf : Option Nat) (i : Nat) (hi : i < 5) (k : Int32) (hk : vp_in k (slens.getD i 0)) : Met l yJ1_charAt_3b067 wsJ1_charAt_3b067 ({ frames := 2, cells := 0, slots := 0, locals := 43 } : Room) (PSt adK adV qf [.ref (adV i), .int k]) (RI (sch i k)) 0 0 (fun _ => False) := by
  refine entG (by decide +kernel) rfl (Nat.le_of_ble_eq_true rfl) ?_
  intro p e s m below meth c hx hb hr hml hown hlocks _ hts hB ls hl
  have hB : KS adK adV qf NA s s.heap := hB
  have hown : s.vm.findClass RJ1 = some m.cls := hown
  have hl : lv_has ls 2 [(0, .ref (adV i)), (1, .int k)] := hl
  have hfix : CallFix p m c cJ1_charAt_3b067 2 s ([.ref (adV i), .int k] : List Value).toArray wsJ1_charAt_3b067 RJ1 := ⟨hx, hb, hml, hown, hts⟩
  obtain ⟨hs, hz, hq⟩ := id hB
  have hkk : ¬ k < 0 ∧ k < sln i := by
    obtain ⟨j, hj, rfl⟩ := vp_in_of hk (s_lens_lt i)
    exact ⟨nI_pos (Nat.lt_trans hj (s_lens_lt i)), nI_lt hj (s_lens_lt i)⟩
  refine lv_iload_n hx hb dJ1_charAt_3b067_0 rfl (lv_at hl 1 rfl) ?_
  refine lv_aload_n hx hb dJ1_charAt_3b067_1 rfl (lv_at hl 0 rfl) ?_
  refine va_tlen (v := sln i) hx hb (hs.1 i hi).2.2.2 va_S.rf rfl dJ1_charAt_3b067_2 ?_
  refine va_csv (W.runS (As := [.int k, .int (sln i)]) (rest := []) hfix (c_chk2 l adK adV qf k (sln i) hkk.1 hkk.2) (va_cwS 2 hts gJ1_charAt_3b067_J0_checkIndex_df160 rfl rfl rfl (by decide +kernel) ⟨Nat.le_of_ble_eq_true rfl, Nat.le_of_ble_eq_true rfl⟩) ⟨PSt.blind, PSt.at_ hB⟩ rfl rfl hl.1 rfl (lv_room (Nat.le_of_ble_eq_true rfl)) dJ1_charAt_3b067_3 ⟨Nat.zero_le _, Nat.zero_le _⟩) (fun _ => ?_)
  refine lv_aload_n hx hb dJ1_charAt_3b067_6 rfl (lv_at hl 0 rfl) ?_
  refine lv_iload_n hx hb dJ1_charAt_3b067_7 rfl (lv_at hl 1 rfl) ?_
  refine va_tb (v := .int ((sbyts.getD i []).getD k.toNatClampNeg 0)) hx hb (hs.1 i hi).2.2.2 va_S.rf hk rfl dJ1_charAt_3b067_8 ?_
  refine lv_sipush (v := 255) hx hb dJ1_charAt_3b067_9 (by decide) ?_
  refine lv_iand hx hb dJ1_charAt_3b067_12 ?_
  refine lv_i2c (v := sch i k) hx hb dJ1_charAt_3b067_13 (sc_c2 _) ?_
  exact endRI hx hb hr hlocks (sc_nar _) rfl dJ1_charAt_3b067_14
set_option maxHeartbeats 4000000 in
set_option maxRecDepth 100000 in
theorem c_charAt0 (l : Launch) (adK adV : Nat → Nat) (qf : Option Nat) (i : Nat) (hi : i < 5) (k : Int32) (hk : vp_in k (slens.getD i 0)) : Met l yJ0_charAt_5068e wsJ0_charAt_5068e ({ frames := 3, cells := 0, slots := 0, locals := 64 } : Room) (PSt adK adV qf [.ref (adK i), .int k]) (RI (sch i k)) 0 0 (fun _ => False) := by
  refine entG (by decide +kernel) rfl (Nat.le_of_ble_eq_true rfl) ?_
  intro p e s m below meth c hx hb hr hml hown hlocks _ hts hB ls hl
  have hB : KS adK adV qf NA s s.heap := hB
  have hown : s.vm.findClass RJ0 = some m.cls := hown
  have hl : lv_has ls 2 [(0, .ref (adK i)), (1, .int k)] := hl
  have hfix : CallFix p m c cJ0_charAt_5068e 2 s ([.ref (adK i), .int k] : List Value).toArray wsJ0_charAt_5068e RJ0 := ⟨hx, hb, hml, hown, hts⟩
  have g9 := hts (.fieldLink RJ0 9 "java/lang/String" "value" "[B") (by decide +kernel)
  obtain ⟨hs, hz, hq⟩ := id hB
  refine lv_aload_n hx hb dJ0_charAt_5068e_0 rfl (lv_at hl 0 rfl) ?_
  refine vp_callSi (W.runV (As := []) (rest := []) hfix (c_isLatin1 l adK adV qf i hi) (cwV 0 hts gJ0_charAt_5068e_J0_isLatin1_aae02 rfl rfl rfl (by decide +kernel) ⟨Nat.le_of_ble_eq_true rfl, Nat.le_of_ble_eq_true rfl⟩) ⟨PSt.blind, vk_recv hs hi va_S.rf, PSt.at_ hB⟩ rfl rfl hl.1 rfl (lv_room (Nat.le_of_ble_eq_true rfl)) dJ0_charAt_5068e_1 ⟨Nat.zero_le _, Nat.zero_le _⟩) (fun z hz0 => ?_)
  subst hz0
  refine lv_if_eq (tgt := 16) hx hb dJ0_charAt_5068e_4 (by decide) (fun c => absurd c (by decide)) (fun _ => ?_)
  refine lv_aload_n hx hb dJ0_charAt_5068e_7 rfl (lv_at hl 0 rfl) ?_
  refine vk_getf hx hb (hs.1 i hi).2.2.1 va_S.rf hown g9 (fun _ h9 => h9) dJ0_charAt_5068e_8 ?_
  refine lv_iload_n hx hb dJ0_charAt_5068e_11 rfl (lv_at hl 1 rfl) ?_
  refine vp_callSi (W.runS (As := [.ref (adV i), .int k]) (rest := []) hfix (c_charAt1 l adK adV qf i hi k hk) (va_cwS 2 hts gJ0_charAt_5068e_J1_charAt_3b067 rfl rfl rfl (by decide +kernel) ⟨Nat.le_of_ble_eq_true rfl, Nat.le_of_ble_eq_true rfl⟩) ⟨PSt.blind, PSt.at_ hB⟩ rfl rfl hl.1 rfl (lv_room (Nat.le_of_ble_eq_true rfl)) dJ0_charAt_5068e_12 ⟨Nat.zero_le _, Nat.zero_le _⟩) (fun z hz0 => ?_)
  subst hz0
  exact endRI hx hb hr hlocks (sc_nar _) rfl dJ0_charAt_5068e_15
/-! methods that read the words -/
def sw (r : Int32) (a b : Nat) : Nat := if 0 ≤ r then b else a
def STK (adK : Nat → Nat) (U : State) : Prop := vk_R "LastCoat$Text" 109 "member" (adK 0) U ∧ vk_R "LastCoat$Text" 115 "seconds" (adK 1) U ∧ vk_R "LastCoat$Text" 116 "cold" (adK 2) U ∧ vk_R "LastCoat$Text" 117 "fur" (adK 3) U ∧ vk_R "LastCoat$Text" 118 "coughs" (adK 4) U
theorem STK.warm {adK : Nat → Nat} {s U : State} (hW : s.WarmedH U.vm) (h : STK adK s) : STK adK U := ⟨h.1.warm hW, h.2.1.warm hW, h.2.2.1.warm hW, h.2.2.2.1.warm hW, h.2.2.2.2.warm hW⟩
theorem STK.same {adK : Nat → Nat} {u U : State} (hv : U.vm = u.vm) (h : STK adK u) : STK adK U := ⟨h.1.same hv, h.2.1.same hv, h.2.2.1.same hv, h.2.2.2.1.same hv, h.2.2.2.2.same hv⟩
section MYSTR
variable {p : Program} {l : Launch} {e : Env} {R : Room} {s : State} {m : MethodId} {args : Array Value} {below : List Frame} {meth : Method} {c : Code} {H : Heap} {locs : List Loc} {cells slots : Nat} {Q : State → Prop}
variable {cc : ByteArray} {pc : Nat} {ls : Array Slot} {rest st0 : List Value} {D : va_G} {cB cI cZ cM cN : ClassId} {adK adV : Nat → Nat} {qf : Option Nat}
def PRs (D : va_G) (cB cI cZ cM cN : ClassId) (adK adV : Nat → Nat) (qf : Option Nat) (av : List Value) (wc : va_W) : Array Value → State → Prop := va_Pc av (fun U => va_P D vwCl wc U.heap ∧ KK D cB cI cZ cM cN U ∧ KS adK adV qf NA U U.heap ∧ STK adK U)
def PMs (D : va_G) (cB cI cZ cM cN : ClassId) (adK adV : Nat → Nat) (qf : Option Nat) (av : List Value) (wc : va_W) (sz : Nat) : Array Value → State → Prop := va_Pc av (fun U => U.heap.size = sz ∧ va_P D vwCl wc U.heap ∧ KK D cB cI cZ cM cN U ∧ va_D (fun _ => True) wc ∧ KS adK adV qf (va_A wc sz) U U.heap ∧ STK adK U)
theorem PRs.blind {av : List Value} {wc : va_W} : FrameBlind (PRs D cB cI cZ cM cN adK adV qf av wc) := fun a U g mk q => ⟨q.1, q.2.1, q.2.2.1.call g mk a, q.2.2.2.1.moved (u := U) (U := U.calling g mk a) (Vm.Alike.refl U.vm), STK.same (u := U) (U := U.calling g mk a) rfl q.2.2.2.2⟩
theorem PMs.blind {av : List Value} {wc : va_W} {sz : Nat} : FrameBlind (PMs D cB cI cZ cM cN adK adV qf av wc sz) := fun a U g mk q => ⟨q.1, q.2.1, q.2.2.1, q.2.2.2.1.call g mk a, q.2.2.2.2.1, q.2.2.2.2.2.1.moved (u := U) (U := U.calling g mk a) (Vm.Alike.refl U.vm), STK.same (u := U) (U := U.calling g mk a) rfl q.2.2.2.2.2.2⟩
theorem entRs {y : MethodName} {ws ws' : List Cond} {rm : Room} {maxL : Nat} {ret : Option FieldType} {av : List Value} {wc : va_W} {Qc : Array Value → State → Outcome → State → Prop}
    (hy : plainName y.cls = true) (hw : ws = Cond.code y cc maxL ret :: ws') (hlen : (lg_sl av).length ≤ maxL)
    (body : ∀ (p : Program) (e : Env) (s : State) (m : MethodId) (below : List Frame) (meth : Method) (c : Code), p.tables.exec = Jvm.exec → c.code = cc → meth.sig.returnType = ret → c.maxLocals = maxL → s.vm.findClass y.cls = some m.cls → meth.locks = false → (∀ w ∈ ws, w.before av.toArray s = true) → va_P D vwCl wc s.heap → KK D cB cI cZ cM cN s → KS adK adV qf NA s s.heap → STK adK s → ∀ ls : Array Slot, lv_has ls maxL (lv_args 0 av) → W p l e rm s m av.toArray below meth c s.heap [] 0 0 (MQ below Qc av.toArray s 0 0 (fun _ => False)) (F0 m 0 ls [])) : Met l y ws rm (PRs D cB cI cZ cM cN adK adV qf av wc) Qc 0 0 (fun _ => False) :=
  entG hy hw hlen (fun p e s m below meth c h1 h2 h3 h4 h5 h6 _ h8 hB ls hl => body p e s m below meth c h1 h2 h3 h4 h5 h6 h8 hB.1 hB.2.1 hB.2.2.1 hB.2.2.2 ls hl)
theorem entMs {y : MethodName} {ws ws' : List Cond} {rm : Room} {maxL : Nat} {ret : Option FieldType} {av : List Value} {wc : va_W} {sz : Nat} {Qc : (Nat → Prop) → Array Value → State → Outcome → State → Prop}
    (hy : plainName y.cls = true) (hw : ws = Cond.code y cc maxL ret :: ws') (hlen : (lg_sl av).length ≤ maxL)
    (body : ∀ (A : Nat → Prop) (p : Program) (e : Env) (s : State) (m : MethodId) (below : List Frame) (meth : Method) (c : Code), p.tables.exec = Jvm.exec → c.code = cc → meth.sig.returnType = ret → c.maxLocals = maxL → s.vm.findClass y.cls = some m.cls → meth.locks = false → (∀ w ∈ ws, w.before av.toArray s = true) → KK D cB cI cZ cM cN s → KS adK adV qf A s s.heap → STK adK s → (∀ q : Nat, s.heap.size ≤ q → A q) → ∀ (H : Heap) (locs : List Loc), va_P D vwCl wc H → va_D A wc → va_S A s.heap H locs → ∀ ls : Array Slot, lv_has ls maxL (lv_args 0 av) → W p l e rm s m av.toArray below meth c H locs 0 0 (MQ below (Qc A) av.toArray s 0 0 A) (F0 m 0 ls [])) : Met l y ws rm (PMs D cB cI cZ cM cN adK adV qf av wc sz) (Qc (va_A wc sz)) 0 0 (va_A wc sz) :=
  entG hy hw hlen (fun p e s m below meth c h1 h2 h3 h4 h5 h6 _ h8 hB ls hl => by
    obtain ⟨hsz, hP, hK, hD0, hS1, hS2⟩ := hB
    subst hsz
    exact body (va_A wc s.heap.size) p e s m below meth c h1 h2 h3 h4 h5 h6 h8 hK hS1 hS2 (fun q h => Or.inr h) s.heap [] hP (hD0.self (sz := s.heap.size)) va_S.rf ls hl)
theorem roVs {y : MethodName} {ws : List Cond} {rm : Room} {bytes : ByteArray} {maxL nL n index : Nat} {ret : Option FieldType} {Ts : List Cond} {own C : String} {b : Addr} {As : List Value} {wc : va_W} {r : Int32} {ci : Nat} {q : vw_C} {fs : List Value}
    (hM : Met l y ws rm (PRs D cB cI cZ cM cN adK adV qf (.ref b :: As) wc) (RI r) 0 0 (fun _ => False)) (S : CallFix p m c cc nL s args Ts own) (cw : CallW R s args own C index y bytes maxL ret ws rm 0 0 n)
    (hP : va_P D vwCl wc H) (hK : KK D cB cI cZ cM cN s) (hKS : KS adK adV qf NA s H) (hST : STK adK s) (hc : vwCl[ci]? = some q) (he : wc[0]? = some (b, .inr (ci, fs))) (hC : q.1 = C)
    (hn : As.length = n) (hsize : ls.size = nL) (hstack : st0 = As.reverse ++ .ref b :: rest) (hW : (rest.map fun v => v.category).sum ≤ 8) (hdg : decode cc pc = .ok (.invokevirtual index, 3)) (hf : cells + 0 ≤ R.cells ∧ slots + 0 ≤ R.slots)
    (kk : W p l e R s m args below meth c H locs cells slots Q (F0 m (pc + 3) ls (.int r :: rest))) : W p l e R s m args below meth c H locs cells slots Q (F0 m pc ls st0) := by
  subst hC
  exact vp_callSi (W.runV (g := F0 m pc ls st0) (rest := rest) S hM cw ⟨PRs.blind, va_recv hK.1 hP hc he, fun U hU hWm => ⟨rfl, by rw [hU]; exact hP, hK.warm hWm, by rw [hU]; exact hKS.moved hWm.alike, hST.warm hWm⟩⟩ rfl hn hsize hstack (lv_room hW) hdg hf) (fun z hz => by subst hz; exact kk)
theorem muVs {y : MethodName} {ws : List Cond} {rm : Room} {bytes : ByteArray} {maxL nL n index : Nat} {ret : Option FieldType} {Ts : List Cond} {own C : String} {b : Addr} {As : List Value} {ws0 wc wr w1 ws1 : va_W} {A : Nat → Prop} {r : Int32} {ci : Nat} {q : vw_C} {fs : List Value}
    (hM : Met l y ws rm (PMs D cB cI cZ cM cN adK adV qf (.ref b :: As) wc H.size) (QI D w1 r (va_A wc H.size)) 0 0 (va_A wc H.size)) (S : CallFix p m c cc nL s args Ts own) (cw : CallW R s args own C index y bytes maxL ret ws rm 0 0 n)
    (hP : va_P D vwCl ws0 H) (hK : KK D cB cI cZ cM cN s) (hKA : KS adK adV qf A s s.heap) (hST : STK adK s) (hD : va_D A ws0) (hA : ∀ q : Nat, s.heap.size ≤ q → A q) (hS : va_S A s.heap H locs)
    (isC isR pm : List Nat) (hC : isC.map (fun i => ws0[i]?) = wc.map some) (hR : isR.map (fun i => ws0[i]?) = wr.map some) (hnC : va_nd isC = true) (hn : va_nd isR = true) (hdis : ∀ i ∈ isR, i ∉ isC) (hn2 : va_nd pm = true) (hpm : pm.map (fun i => (wr ++ w1)[i]?) = ws1.map some)
    (hc : vwCl[ci]? = some q) (he : wc[0]? = some (b, .inr (ci, fs))) (hCl : q.1 = C)
    (hAn : As.length = n) (hsize : ls.size = nL) (hstack : st0 = As.reverse ++ .ref b :: rest) (hW : (rest.map fun v => v.category).sum ≤ 8) (hdg : decode cc pc = .ok (.invokevirtual index, 3)) (hf : cells + 0 ≤ R.cells ∧ slots + 0 ≤ R.slots)
    (kk : ∀ (H : Heap) (locs : List Loc), va_P D vwCl ws1 H → va_D A ws1 → va_S A s.heap H locs → W p l e R s m args below meth c H locs cells slots Q (F0 m (pc + 3) ls (.int r :: rest))) : W p l e R s m args below meth c H locs cells slots Q (F0 m pc ls st0) := by
  subst hCl
  have hPc := subC hP isC hC
  have hDc := hD.sub isC hnC hC
  have hFc := va_free hD hS hA isC hC
  have hKc : KS adK adV qf (va_A wc H.size) s H := (hKA.kept hS.2.1).narrow hFc
  refine va_calli (va_runV (g := F0 m pc ls st0) (rest := rest) S hM cw ⟨PMs.blind, va_recv hK.1 hPc hc he, fun U hU hWm => ⟨rfl, by rw [hU], by rw [hU]; exact hPc, hK.warm hWm, hDc.weaken (fun _ _ _ _ => trivial), by rw [hU]; exact hKc.moved hWm.alike, hST.warm hWm⟩⟩ rfl hAn hsize hstack (lv_room hW) hdg hf) hS (fun q _ h => hFc q h) hFc (fun z u t H1 locs ht hvm hw hB hz1 hk1 hS1 => ?_)
  subst hw
  obtain ⟨hP1, hD1⟩ := hB
  rw [ht] at hP1
  obtain ⟨a, b⟩ := backIn hP hD isC isR pm hC hR hn hdis hn2 hpm hk1 hFc hP1 hD1
  exact kk H1 locs a b hS1
end MYSTR
