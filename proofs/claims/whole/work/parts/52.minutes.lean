theorem hi16 (x : Int32) : (x.toUInt32 >>> ((16 : Int32).toUInt32 &&& Int32.toUInt32 31)).toInt32 = (x >>> ((16 : Int32) &&& 31)) &&& 65535 := by
  apply b_ext
  intro i hi
  rw [show (16 : Int32) = nI 16 from rfl, b_ushr 16 (by omega), b_and, b_sshr 16 (by omega) x hi, b_65535]
  by_cases q : i < 16
  · rw [if_pos (by omega), decide_eq_true q, Bool.and_true]
  · rw [b_big (by omega), decide_eq_false q, Bool.and_false]
section
variable {n cold fu c coughs : Nat} {S : Nat → Nat} {yq : Nat → Int32} {P : Int32}
theorem s_pass (hn : n ≤ 6) (hc : cold ≤ 5) (hS : ∀ m, S m < 64) (h6 : ∀ m, 6 ≤ m → S m = 0) (hf : fu ≤ 5) {w : Nat → Nat} (hw : ∀ m, w m ≤ 20) (hz : ∀ m, n ≤ m → w m = 0) (mins : Int32) : f_X7_passMinute (nI n) (nI cold) (lN (pk S 64 6)) (coatI c) (nI fu) (nI (pk w 32 6)) mins = some (nI (pk (aft cold S w c fu) 32 6), mins + 1) := by
  unfold f_X7_passMinute
  rw [s_afterMinute hn hc hS h6 hw hz c hf, ob1_mk, bnd_mk]
theorem s_pause (hn : n ≤ 6) (hc : cold ≤ 5) (hS : ∀ m, S m < 64) (h6 : ∀ m, 6 ≤ m → S m = 0) (hf : fu ≤ 5) (hy : ∀ m, m < n → yq m = nI (S m)) (hc6 : c = 6 ∨ c < n) {p : Nat} (hp : p < 2 ^ 31) (lot kn um : Int32) (va vb vc vd ve un : Nat → Int32) : ∀ (fuel j : Nat) (w : Nat → Nat) (mins : Int32) (s : Nat → Int32), j ≤ p → p - j < fuel → (∀ m, w m ≤ 20) → (∀ m, n ≤ m → w m = 0) → SRow s w c fu → s 8 = mins → s 9 = lot →
    ∃ r w' mins' s', f_X7_pause_22 (nI n) (nI cold) (lN (pk S 64 6)) (coatI c) (nI fu) lot fuel (nI p) (nI j) (nI (pk w 32 6)) mins kn va vb vc vd ve = some (r, nI (pk w' 32 6), mins', kn, va, vb, vc, vd, ve) ∧ f_X8_pause_23 (nI n) (nI cold) yq fuel (nI p) (nI j) 0 um s un = some (r, 0, um, s', un) ∧ (∀ m, w' m ≤ 20) ∧ (∀ m, n ≤ m → w' m = 0) ∧ SRow s' w' c fu ∧ s' 8 = mins' ∧ s' 9 = lot := by
  intro fuel
  induction fuel with
  | zero => intro j w mins s h1 h2; omega
  | succ f ih =>
    intro j w mins s h1 h2 hw hz hr h8 h9
    show ∃ r w' mins' s', f_X7_pause_22_b _ _ _ _ _ _ (f_X7_pause_22 _ _ _ _ _ _ f) _ _ _ _ _ _ _ _ _ _ = _ ∧ f_X8_pause_23_b _ _ _ (f_X8_pause_23 _ _ _ f) _ _ _ _ _ _ = _ ∧ _
    unfold f_X7_pause_22_b f_X8_pause_23_b
    by_cases q : p ≤ j
    · have e : nI p ≤ nI j := nI_le q (by omega)
      have hk := pk2_lt64 (fzb_lt w) hn
      rw [if_pos e, if_pos e, s_frozen hn hw, ob1_mk, s_bitCount _ hk, ob1_mk, s_frozenNow hn hw hr.1, ob1_mk, s_ones _ hk, ob1_mk]
      exact ⟨_, w, mins, s, rfl, rfl, hw, hz, hr, h8, h9⟩
    · have e : ¬ nI p ≤ nI j := nI_ge (by omega) hp
      obtain ⟨s', e1, g1, g2, g3⟩ := s_passes hn hc hS h6 (c := c) (fun h => hy c (by omega)) hw hz hf hr
      rw [if_neg e, if_neg e, s_pass hn hc hS h6 hf hw hz, ob2_mk, bnd_mk, e1, ob1_mk, bnd_mk, nI_1]
      exact ih (j + 1) _ _ _ (by omega) (by omega) (fun m => aft_le hw c fu m) (fun m hm => aft_zero (hz m hm)) g1 (by rw [g2, h8]) (by rw [g3, h9])
theorem s_speaks (hn : n ≤ 6) (hc : cold ≤ 5) (hS : ∀ m, S m < 64) (h6 : ∀ m, 6 ≤ m → S m = 0) (hf : fu ≤ 5) (hy : ∀ m, m < n → yq m = nI (S m)) (hc6 : c = 6 ∨ c < n) {p : Nat} (hp : p < 2 ^ 31) (cg kn um : Int32) (va vb vc vd ve un : Nat → Int32) : ∀ (fuel j : Nat) (w : Nat → Nat) (mins lot : Int32) (s : Nat → Int32), j ≤ p → p - j + 1 < fuel → (∀ m, w m ≤ 20) → (∀ m, n ≤ m → w m = 0) → SRow s w c fu → s 8 = mins → s 9 = lot →
    ∃ r w' mins' lot' s', f_X7_speaks_58 (nI n) (nI cold) cg (lN (pk S 64 6)) (nI fu) fuel (nI p) (nI j) (nI (pk w 32 6)) (coatI c) mins lot kn va vb vc vd ve = some (r, nI (pk w' 32 6), coatI c, mins', lot', kn, va, vb, vc, vd, ve) ∧ f_X8_speaks_54 (nI n) (nI cold) cg yq fuel (nI p) (nI j) 1 0 um s un = some (r, 0, um, s', un) ∧ (∀ m, w' m ≤ 20) ∧ (∀ m, n ≤ m → w' m = 0) ∧ SRow s' w' c fu ∧ s' 8 = mins' ∧ s' 9 = lot' := by
  intro fuel
  induction fuel with
  | zero => intro j w mins lot s h1 h2; omega
  | succ f ih =>
    intro j w mins lot s h1 h2 hw hz hr h8 h9
    show ∃ r w' mins' lot' s', f_X7_speaks_58_b _ _ _ _ _ (f_X7_speaks_58 _ _ _ _ _ f) _ _ _ _ _ _ _ _ _ _ _ _ = _ ∧ f_X8_speaks_54_b _ _ _ _ (f_X8_speaks_54 _ _ _ _ f) _ _ _ _ _ _ _ = _ ∧ _
    unfold f_X7_speaks_58_b f_X8_speaks_54_b
    by_cases q : p ≤ j
    · have e : nI p ≤ nI j := nI_le q (by omega)
      rw [if_pos e, if_pos e]
      exact ⟨_, w, mins, lot, s, rfl, rfl, hw, hz, hr, h8, h9⟩
    · have e : ¬ nI p ≤ nI j := nI_ge (by omega) hp
      rw [if_neg e, if_neg e, if_neg n10]
      have go : ∀ (s1 : Nat → Int32) (lot1 : Int32), SRow s1 w c fu → s1 8 = mins → s1 9 = lot1 → ∃ r w' mins' lot' s', f_X7_speaks_74 (nI n) (nI cold) cg (lN (pk S 64 6)) (nI fu) (f_X7_speaks_58 (nI n) (nI cold) cg (lN (pk S 64 6)) (nI fu) f) (nI p) (nI j) (nI (pk w 32 6)) (coatI c) mins lot1 kn va vb vc vd ve = some (r, nI (pk w' 32 6), coatI c, mins', lot', kn, va, vb, vc, vd, ve) ∧ f_X8_speaks_119 (nI n) (nI cold) cg yq (f_X8_speaks_54 (nI n) (nI cold) cg yq f) (nI p) (nI j) 1 0 um s1 un = some (r, 0, um, s', un) ∧ (∀ m, w' m ≤ 20) ∧ (∀ m, n ≤ m → w' m = 0) ∧ SRow s' w' c fu ∧ s' 8 = mins' ∧ s' 9 = lot' := by
        intro s1 lot1 k1 k2 k3
        obtain ⟨s', e1, g1, g2, g3⟩ := s_passes hn hc hS h6 (c := c) (fun h => hy c (by omega)) hw hz hf k1
        unfold f_X7_speaks_74 f_X8_speaks_119
        rw [if_neg n10, s_pass hn hc hS h6 hf hw hz, ob2_mk, bnd_mk, e1, ob1_mk, bnd_mk, nI_1]
        exact ih (j + 1) _ _ _ _ (by omega) (by omega) (fun m => aft_le hw c fu m) (fun m hm => aft_zero (hz m hm)) g1 (by rw [g2, k2]) (by rw [g3, k3])
      by_cases z : j = 0
      · subst z
        rw [if_pos (show nI 0 = 0 from rfl), if_pos (show nI 0 ≤ 0 from by decide)]
        exact go s lot hr h8 h9
      · rw [if_neg (nI_ne0 (by omega) (by omega)), if_neg (nI_nle (by omega) (by omega))]
        unfold f_X7_drawsCough f_X8_speaks_117
        rw [ing9, ing9, bnd_mk, bnd_mk, ing9, cl9, upd_s, h9, hi16]
        have hr1 : ∀ v, SRow (upd s 9 v) w c fu := fun v => ⟨fun m hm => by rw [upd_n (by omega)]; exact hr.1 m hm, by rw [upd_n (by omega)]; exact hr.2.1, by rw [upd_n (by omega)]; exact hr.2.2⟩
        have h81 : ∀ v, upd s 9 v 8 = mins := fun v => by rw [upd_n (by omega)]; exact h8
        generalize lot * 1103515245 + 12345 = y
        by_cases g : cg ≤ ((y >>> ((16 : Int32) &&& 31)) &&& 65535) - ((y >>> ((16 : Int32) &&& 31)) &&& 65535) / 10 * 10
        · rw [if_pos g, ob2_mk, if_pos rfl, if_neg (nlt_le.mpr g)]
          exact go _ _ (hr1 y) (h81 y) upd_s
        · rw [if_neg g, ob2_mk, if_neg n10, if_pos (nle_lt.mp g)]
          unfold f_X8_speaks_119
          rw [if_pos rfl]
          obtain ⟨f', rfl⟩ : ∃ f', f = f' + 1 := ⟨f - 1, by omega⟩
          show ∃ r w' mins' lot' s', _ ∧ f_X8_speaks_54_b _ _ _ _ (f_X8_speaks_54 _ _ _ _ f') _ _ _ _ _ _ _ = _ ∧ _
          unfold f_X8_speaks_54_b
          rw [if_neg e, if_pos rfl]
          exact ⟨_, w, mins, y, _, rfl, rfl, hw, hz, hr1 y, h81 y, upd_s⟩
end
theorem rng19 {p : Int32} (h : 1 ≤ p ∧ p ≤ 9) : ∃ j, j ≤ 9 ∧ p = nI j :=
  rng (N := 9) (by omega) (by have h1 := Int32.le_iff_toInt_le.mp h.1; rw [show (1 : Int32).toInt = 1 from by decide] at h1; rw [Int32.le_iff_toInt_le, show (0 : Int32).toInt = 0 from by decide]; omega) h.2
set_option maxHeartbeats 4000000 in
theorem st_pause (x_trace : Int64) (x_text_length : Int32) (x_text_token : Int32) (x_text_number : Int32) (x_text_place : Int32) (x_text_next : Int32) (x_text_toldOnce : Int32) (x_text_bytes : Nat → Int32) (x_parliament_members : Int32) (x_parliament_firstWarmth : Int32) (x_parliament_forMotion : Int32) (x_parliament_cold : Int32) (x_parliament_fur : Int32) (x_parliament_coughs : Int32) (x_parliament_seconds : Int32) (x_parliament_pairs : Int64) (x_draft_members : Int32) (x_draft_firstWarmth : Int32) (x_draft_forMotion : Int32) (x_draft_cold : Int32) (x_draft_fur : Int32) (x_draft_coughs : Int32) (x_draft_seconds : Int32) (x_draft_pairs : Int64) (x_now_warmth : Int32) (x_now_wearer : Int32) (x_now_fur : Int32) (x_now_minutes : Int32) (x_now_lot : Int32) (x_past_known : Int32) (x_past_states_e_warmth : Nat → Int32) (x_past_states_e_wearer : Nat → Int32) (x_past_states_e_fur : Nat → Int32) (x_past_states_e_minutes : Nat → Int32) (x_past_states_e_lot : Nat → Int32) (x_seen_known : Int32) (x_seen_minutes : Nat → Int32) (x_seen_sets : Nat → Int32) (x_images_e_kept : Nat → Int32) (x_images_e_state_warmth : Nat → Int32) (x_images_e_state_wearer : Nat → Int32) (x_images_e_state_fur : Nat → Int32) (x_images_e_state_minutes : Nat → Int32) (x_images_e_state_lot : Nat → Int32) (y_thrown : Int32) (y_trace : Int64) (y_typed : Int32) (y_next : Int32) (y_token : Int32) (y_place : Int32) (y_value : Int32) (y_fault : Int32) (y_members : Int32) (y_pairs : Int32) (y_cold : Int32) (y_fur : Int32) (y_coughs : Int32) (y_draftMembers : Int32) (y_draftPairs : Int32) (y_draftCold : Int32) (y_draftFur : Int32) (y_draftCoughs : Int32) (y_undoMany : Int32) (y_seenMany : Int32) (y_chosen : Int32) (y_text : Nat → Int32) (y_warmth : Nat → Int32) (y_side : Nat → Int32) (y_seconds : Nat → Int32) (y_s : Nat → Int32) (y_kept : Nat → Int32) (y_isKept : Nat → Int32) (y_undos : Nat → Int32) (y_seenAt : Nat → Int32) (y_seen : Nat → Int32) (y_board : Nat → Int32) (y_pick : Nat → Int32) (y_worth : Nat → Int32) (y_best : Nat → Int32) (hR : Rel x_trace x_text_length x_text_token x_text_number x_text_place x_text_next x_text_toldOnce x_text_bytes x_parliament_members x_parliament_firstWarmth x_parliament_forMotion x_parliament_cold x_parliament_fur x_parliament_coughs x_parliament_seconds x_parliament_pairs x_draft_members x_draft_firstWarmth x_draft_forMotion x_draft_cold x_draft_fur x_draft_coughs x_draft_seconds x_draft_pairs x_now_warmth x_now_wearer x_now_fur x_now_minutes x_now_lot x_past_known x_past_states_e_warmth x_past_states_e_wearer x_past_states_e_fur x_past_states_e_minutes x_past_states_e_lot x_seen_known x_seen_minutes x_seen_sets x_images_e_kept x_images_e_state_warmth x_images_e_state_wearer x_images_e_state_fur x_images_e_state_minutes x_images_e_state_lot y_thrown y_trace y_typed y_next y_token y_place y_value y_fault y_members y_pairs y_cold y_fur y_coughs y_draftMembers y_draftPairs y_draftCold y_draftFur y_draftCoughs y_undoMany y_seenMany y_chosen y_text y_warmth y_side y_seconds y_s y_kept y_isKept y_undos y_seenAt y_seen y_board y_pick y_worth y_best) (a1 : Int32) : ∃ (r : Int32) (x_now_warmth1 : Int32) (x_now_minutes1 : Int32) (x_past_known1 : Int32) (x_past_states_e_warmth1 : Nat → Int32) (x_past_states_e_wearer1 : Nat → Int32) (x_past_states_e_fur1 : Nat → Int32) (x_past_states_e_minutes1 : Nat → Int32) (x_past_states_e_lot1 : Nat → Int32) (y_thrown1 : Int32) (y_undoMany1 : Int32) (y_s1 : Nat → Int32) (y_undos1 : Nat → Int32), f_X7_pause x_parliament_members x_parliament_cold x_parliament_pairs x_now_wearer x_now_fur x_now_lot x_now_warmth x_now_minutes x_past_known x_past_states_e_warmth x_past_states_e_wearer x_past_states_e_fur x_past_states_e_minutes x_past_states_e_lot a1 = some (r, x_now_warmth1, x_now_minutes1, x_past_known1, x_past_states_e_warmth1, x_past_states_e_wearer1, x_past_states_e_fur1, x_past_states_e_minutes1, x_past_states_e_lot1) ∧ f_X8_pause y_members y_cold y_seconds y_thrown y_undoMany y_s y_undos a1 = some (r, y_thrown1, y_undoMany1, y_s1, y_undos1) ∧ Rel x_trace x_text_length x_text_token x_text_number x_text_place x_text_next x_text_toldOnce x_text_bytes x_parliament_members x_parliament_firstWarmth x_parliament_forMotion x_parliament_cold x_parliament_fur x_parliament_coughs x_parliament_seconds x_parliament_pairs x_draft_members x_draft_firstWarmth x_draft_forMotion x_draft_cold x_draft_fur x_draft_coughs x_draft_seconds x_draft_pairs x_now_warmth1 x_now_wearer x_now_fur x_now_minutes1 x_now_lot x_past_known1 x_past_states_e_warmth1 x_past_states_e_wearer1 x_past_states_e_fur1 x_past_states_e_minutes1 x_past_states_e_lot1 x_seen_known x_seen_minutes x_seen_sets x_images_e_kept x_images_e_state_warmth x_images_e_state_wearer x_images_e_state_fur x_images_e_state_minutes x_images_e_state_lot y_thrown1 y_trace y_typed y_next y_token y_place y_value y_fault y_members y_pairs y_cold y_fur y_coughs y_draftMembers y_draftPairs y_draftCold y_draftFur y_draftCoughs y_undoMany1 y_seenMany y_chosen y_text y_warmth y_side y_seconds y_s1 y_kept y_isKept y_undos1 y_seenAt y_seen y_board y_pick y_worth y_best := by
  have hR0 := hR
  obtain ⟨n, w0, sd, S, cold, fur0, coughs, sc, hWf, hC, hM, hN, hlot, hPast, hSeen, hImg, htr, hTx⟩ := hR
  obtain ⟨hn6, hw020, hw0z, hsd1, hsdz, hS64, hSz, hcold, hfur0, hcoughs, hsc⟩ := id hWf
  have hC' := hC
  have hM' := hM
  have hN' := hN
  obtain ⟨rfl, rfl, rfl, rfl, rfl, rfl, rfl, rfl⟩ := hC
  obtain ⟨rfl, rfl, rfl, rfl, rfl, hrows⟩ := hM
  obtain ⟨w, fu, c, hw, hz, hc6, rfl, rfl, hf5, rfl, hrow, hs8⟩ := NR_alt hn6 hN
  have h6 : ∀ m, 6 ≤ m → S m = 0 := fun m hm => hSz m (by omega)
  have hy : ∀ m, m < n → y_seconds m = nI (S m) := fun m hm => (hrows m hm).2.2
  have hss : ∀ m, m < n → sd m ≤ 1 ∧ y_side m = nI (sd m) := fun m hm => ⟨hsd1 m, (hrows m hm).2.1⟩
  unfold f_X7_pause f_X8_pause
  by_cases q : (1 : Int32) ≤ a1 ∧ a1 ≤ 9
  · have e1 : f_X7_isSpeechLength a1 = some 1 := by rw [s_sl, if_pos q]
    have e2 : f_X8_in a1 1 9 = some 1 := by rw [s_in, if_pos q]
    obtain ⟨p, hp, rfl⟩ := rng19 q
    obtain ⟨k, hk, rfl, rfl, hq⟩ := hPast
    obtain ⟨k', a, b, c', d, e, u', e3, e4, hk', hq'⟩ := s_notes (lot := x_now_lot) (ve := x_past_states_e_lot) hk hq hN'
    obtain ⟨r, w', mins', s', e5, e6, g1, g2, g3, g4, g5⟩ := s_pause hn6 hcold hS64 h6 hf5 hy hc6 (p := p) (by omega) x_now_lot (nI k') (nI k') a b c' d e u' FU 0 w x_now_minutes y_s (by omega) (by show p - 0 < 20000; omega) hw hz hrow hs8 hlot
    rw [e1, ob1_mk, e2, ob1_mk, if_neg n10, if_neg n10, e3, ob6_mk, e4, ob2_mk]
    exact ⟨_, _, _, _, _, _, _, _, _, 0, _, s', _, e5, e6, n, w0, sd, S, cold, fur0, coughs, sc, hWf, hC', hM', NR_mk hn6 g1 g2 hc6 hf5 g3 g4, g5, ⟨k', hk', rfl, rfl, hq'⟩, hSeen, hImg, htr, hTx⟩
  · have e1 : f_X7_isSpeechLength a1 = some 0 := by rw [s_sl, if_neg q]
    have e2 : f_X8_in a1 1 9 = some 0 := by rw [s_in, if_neg q]
    rw [e1, ob1_mk, e2, ob1_mk, if_pos rfl, if_pos rfl]
    exact ⟨_, _, _, _, _, _, _, _, _, 0, _, _, _, rfl, rfl, hR0⟩
set_option maxHeartbeats 4000000 in
theorem st_speaks (x_trace : Int64) (x_text_length : Int32) (x_text_token : Int32) (x_text_number : Int32) (x_text_place : Int32) (x_text_next : Int32) (x_text_toldOnce : Int32) (x_text_bytes : Nat → Int32) (x_parliament_members : Int32) (x_parliament_firstWarmth : Int32) (x_parliament_forMotion : Int32) (x_parliament_cold : Int32) (x_parliament_fur : Int32) (x_parliament_coughs : Int32) (x_parliament_seconds : Int32) (x_parliament_pairs : Int64) (x_draft_members : Int32) (x_draft_firstWarmth : Int32) (x_draft_forMotion : Int32) (x_draft_cold : Int32) (x_draft_fur : Int32) (x_draft_coughs : Int32) (x_draft_seconds : Int32) (x_draft_pairs : Int64) (x_now_warmth : Int32) (x_now_wearer : Int32) (x_now_fur : Int32) (x_now_minutes : Int32) (x_now_lot : Int32) (x_past_known : Int32) (x_past_states_e_warmth : Nat → Int32) (x_past_states_e_wearer : Nat → Int32) (x_past_states_e_fur : Nat → Int32) (x_past_states_e_minutes : Nat → Int32) (x_past_states_e_lot : Nat → Int32) (x_seen_known : Int32) (x_seen_minutes : Nat → Int32) (x_seen_sets : Nat → Int32) (x_images_e_kept : Nat → Int32) (x_images_e_state_warmth : Nat → Int32) (x_images_e_state_wearer : Nat → Int32) (x_images_e_state_fur : Nat → Int32) (x_images_e_state_minutes : Nat → Int32) (x_images_e_state_lot : Nat → Int32) (y_thrown : Int32) (y_trace : Int64) (y_typed : Int32) (y_next : Int32) (y_token : Int32) (y_place : Int32) (y_value : Int32) (y_fault : Int32) (y_members : Int32) (y_pairs : Int32) (y_cold : Int32) (y_fur : Int32) (y_coughs : Int32) (y_draftMembers : Int32) (y_draftPairs : Int32) (y_draftCold : Int32) (y_draftFur : Int32) (y_draftCoughs : Int32) (y_undoMany : Int32) (y_seenMany : Int32) (y_chosen : Int32) (y_text : Nat → Int32) (y_warmth : Nat → Int32) (y_side : Nat → Int32) (y_seconds : Nat → Int32) (y_s : Nat → Int32) (y_kept : Nat → Int32) (y_isKept : Nat → Int32) (y_undos : Nat → Int32) (y_seenAt : Nat → Int32) (y_seen : Nat → Int32) (y_board : Nat → Int32) (y_pick : Nat → Int32) (y_worth : Nat → Int32) (y_best : Nat → Int32) (hR : Rel x_trace x_text_length x_text_token x_text_number x_text_place x_text_next x_text_toldOnce x_text_bytes x_parliament_members x_parliament_firstWarmth x_parliament_forMotion x_parliament_cold x_parliament_fur x_parliament_coughs x_parliament_seconds x_parliament_pairs x_draft_members x_draft_firstWarmth x_draft_forMotion x_draft_cold x_draft_fur x_draft_coughs x_draft_seconds x_draft_pairs x_now_warmth x_now_wearer x_now_fur x_now_minutes x_now_lot x_past_known x_past_states_e_warmth x_past_states_e_wearer x_past_states_e_fur x_past_states_e_minutes x_past_states_e_lot x_seen_known x_seen_minutes x_seen_sets x_images_e_kept x_images_e_state_warmth x_images_e_state_wearer x_images_e_state_fur x_images_e_state_minutes x_images_e_state_lot y_thrown y_trace y_typed y_next y_token y_place y_value y_fault y_members y_pairs y_cold y_fur y_coughs y_draftMembers y_draftPairs y_draftCold y_draftFur y_draftCoughs y_undoMany y_seenMany y_chosen y_text y_warmth y_side y_seconds y_s y_kept y_isKept y_undos y_seenAt y_seen y_board y_pick y_worth y_best) (a1 : Int32) (a2 : Int32) : ∃ (r : Int32) (x_now_warmth1 : Int32) (x_now_wearer1 : Int32) (x_now_minutes1 : Int32) (x_now_lot1 : Int32) (x_past_known1 : Int32) (x_past_states_e_warmth1 : Nat → Int32) (x_past_states_e_wearer1 : Nat → Int32) (x_past_states_e_fur1 : Nat → Int32) (x_past_states_e_minutes1 : Nat → Int32) (x_past_states_e_lot1 : Nat → Int32) (y_thrown1 : Int32) (y_undoMany1 : Int32) (y_s1 : Nat → Int32) (y_undos1 : Nat → Int32), f_X7_speaks x_parliament_members x_parliament_cold x_parliament_coughs x_parliament_pairs x_now_fur x_now_warmth x_now_wearer x_now_minutes x_now_lot x_past_known x_past_states_e_warmth x_past_states_e_wearer x_past_states_e_fur x_past_states_e_minutes x_past_states_e_lot a1 a2 = some (r, x_now_warmth1, x_now_wearer1, x_now_minutes1, x_now_lot1, x_past_known1, x_past_states_e_warmth1, x_past_states_e_wearer1, x_past_states_e_fur1, x_past_states_e_minutes1, x_past_states_e_lot1) ∧ f_X8_speaks y_members y_cold y_coughs y_seconds y_thrown y_undoMany y_s y_undos a1 a2 = some (r, y_thrown1, y_undoMany1, y_s1, y_undos1) ∧ Rel x_trace x_text_length x_text_token x_text_number x_text_place x_text_next x_text_toldOnce x_text_bytes x_parliament_members x_parliament_firstWarmth x_parliament_forMotion x_parliament_cold x_parliament_fur x_parliament_coughs x_parliament_seconds x_parliament_pairs x_draft_members x_draft_firstWarmth x_draft_forMotion x_draft_cold x_draft_fur x_draft_coughs x_draft_seconds x_draft_pairs x_now_warmth1 x_now_wearer1 x_now_fur x_now_minutes1 x_now_lot1 x_past_known1 x_past_states_e_warmth1 x_past_states_e_wearer1 x_past_states_e_fur1 x_past_states_e_minutes1 x_past_states_e_lot1 x_seen_known x_seen_minutes x_seen_sets x_images_e_kept x_images_e_state_warmth x_images_e_state_wearer x_images_e_state_fur x_images_e_state_minutes x_images_e_state_lot y_thrown1 y_trace y_typed y_next y_token y_place y_value y_fault y_members y_pairs y_cold y_fur y_coughs y_draftMembers y_draftPairs y_draftCold y_draftFur y_draftCoughs y_undoMany1 y_seenMany y_chosen y_text y_warmth y_side y_seconds y_s1 y_kept y_isKept y_undos1 y_seenAt y_seen y_board y_pick y_worth y_best := by
  have hR0 := hR
  obtain ⟨n, w0, sd, S, cold, fur0, coughs, sc, hWf, hC, hM, hN, hlot, hPast, hSeen, hImg, htr, hTx⟩ := hR
  obtain ⟨hn6, hw020, hw0z, hsd1, hsdz, hS64, hSz, hcold, hfur0, hcoughs, hsc⟩ := id hWf
  have hC' := hC
  have hM' := hM
  have hN' := hN
  obtain ⟨rfl, rfl, rfl, rfl, rfl, rfl, rfl, rfl⟩ := hC
  obtain ⟨rfl, rfl, rfl, rfl, rfl, hrows⟩ := hM
  obtain ⟨w, fu, c, hw, hz, hc6, rfl, rfl, hf5, rfl, hrow, hs8⟩ := NR_alt hn6 hN
  have h6 : ∀ m, 6 ≤ m → S m = 0 := fun m hm => hSz m (by omega)
  have hy : ∀ m, m < n → y_seconds m = nI (S m) := fun m hm => (hrows m hm).2.2
  have hss : ∀ m, m < n → sd m ≤ 1 ∧ y_side m = nI (sd m) := fun m hm => ⟨hsd1 m, (hrows m hm).2.1⟩
  unfold f_X7_speaks f_X8_speaks
  rcases s_has hn6 a1 with ⟨m, hm, rfl, q1, q2⟩ | ⟨q1, q2⟩
  · rw [q1, ob1_mk, q2, ob1_mk, if_neg n10, if_neg n10]
    by_cases q : (1 : Int32) ≤ a2 ∧ a2 ≤ 9
    · have e1 : f_X7_isSpeechLength a2 = some 1 := by rw [s_sl, if_pos q]
      have e2 : f_X8_in a2 1 9 = some 1 := by rw [s_in, if_pos q]
      rw [e1, ob1_mk, e2, ob1_mk, if_neg n10, if_neg n10, s_isFrozen hw (by omega), ob1_mk, ing_nI (by omega) (by omega), nI_clamp (by omega), hrow.1 m (by omega)]
      by_cases z : w m = 0
      · rw [if_pos z, if_neg n10, if_pos (show nI (w m) = 0 from by rw [z]; rfl)]
        exact ⟨_, _, _, _, _, _, _, _, _, _, _, 0, _, _, _, rfl, rfl, hR0⟩
      · obtain ⟨p, hp, rfl⟩ := rng19 q
        obtain ⟨k, hk, rfl, rfl, hq⟩ := hPast
        obtain ⟨k', a, b, c', d, e, u', e3, e4, hk', hq'⟩ := s_notes (lot := x_now_lot) (ve := x_past_states_e_lot) hk hq hN'
        have hwm := hw m
        have hr1 : SRow (upd y_s 6 (nI m)) w m fu := ⟨fun i hi => by rw [upd_n (by omega)]; exact hrow.1 i hi, by rw [upd_s, coatI_lt (by omega)], by rw [upd_n (by omega)]; exact hrow.2.2⟩
        obtain ⟨r, w', mins', lot', s', e5, e6, g1, g2, g3, g4, g5⟩ := s_speaks hn6 hcold hS64 h6 hf5 hy (c := m) (Or.inr hm) (p := p) (by omega) (nI coughs) (nI k') (nI k') a b c' d e u' FU 0 w x_now_minutes x_now_lot (upd y_s 6 (nI m)) (by omega) (by show p - 0 + 1 < 20000; omega) hw hz hr1 (by rw [upd_n (by omega)]; exact hs8) (by rw [upd_n (by omega)]; exact hlot)
        rw [coatI_lt (show m < 6 by omega)] at e5
        rw [if_neg z, if_pos rfl, if_neg (nI_ne0 (by omega) (by omega)), e3, ob6_mk, e4, ob2_mk, ing6, cl6, bnd_mk]
        exact ⟨_, _, _, _, _, _, _, _, _, _, _, 0, _, s', _, e5, e6, n, w0, sd, S, cold, fur0, coughs, sc, hWf, hC', hM', coatI_lt (show m < 6 by omega) ▸ NR_mk hn6 g1 g2 (Or.inr hm) hf5 g3 g4, g5, ⟨k', hk', rfl, rfl, hq'⟩, hSeen, hImg, htr, hTx⟩
    · have e1 : f_X7_isSpeechLength a2 = some 0 := by rw [s_sl, if_neg q]
      have e2 : f_X8_in a2 1 9 = some 0 := by rw [s_in, if_neg q]
      rw [e1, ob1_mk, e2, ob1_mk, if_pos rfl, if_pos rfl]
      exact ⟨_, _, _, _, _, _, _, _, _, _, _, 0, _, _, _, rfl, rfl, hR0⟩
  · rw [q1, ob1_mk, q2, ob1_mk, if_pos rfl, if_pos rfl]
    exact ⟨_, _, _, _, _, _, _, _, _, _, _, 0, _, _, _, rfl, rfl, hR0⟩
