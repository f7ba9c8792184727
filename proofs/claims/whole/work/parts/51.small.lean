set_option maxHeartbeats 4000000 in
theorem st_lining (x_trace : Int64) (x_text_length : Int32) (x_text_token : Int32) (x_text_number : Int32) (x_text_place : Int32) (x_text_next : Int32) (x_text_toldOnce : Int32) (x_text_bytes : Nat → Int32) (x_parliament_members : Int32) (x_parliament_firstWarmth : Int32) (x_parliament_forMotion : Int32) (x_parliament_cold : Int32) (x_parliament_fur : Int32) (x_parliament_coughs : Int32) (x_parliament_seconds : Int32) (x_parliament_pairs : Int64) (x_draft_members : Int32) (x_draft_firstWarmth : Int32) (x_draft_forMotion : Int32) (x_draft_cold : Int32) (x_draft_fur : Int32) (x_draft_coughs : Int32) (x_draft_seconds : Int32) (x_draft_pairs : Int64) (x_now_warmth : Int32) (x_now_wearer : Int32) (x_now_fur : Int32) (x_now_minutes : Int32) (x_now_lot : Int32) (x_past_known : Int32) (x_past_states_e_warmth : Nat → Int32) (x_past_states_e_wearer : Nat → Int32) (x_past_states_e_fur : Nat → Int32) (x_past_states_e_minutes : Nat → Int32) (x_past_states_e_lot : Nat → Int32) (x_seen_known : Int32) (x_seen_minutes : Nat → Int32) (x_seen_sets : Nat → Int32) (x_images_e_kept : Nat → Int32) (x_images_e_state_warmth : Nat → Int32) (x_images_e_state_wearer : Nat → Int32) (x_images_e_state_fur : Nat → Int32) (x_images_e_state_minutes : Nat → Int32) (x_images_e_state_lot : Nat → Int32) (y_thrown : Int32) (y_trace : Int64) (y_typed : Int32) (y_next : Int32) (y_token : Int32) (y_place : Int32) (y_value : Int32) (y_fault : Int32) (y_members : Int32) (y_pairs : Int32) (y_cold : Int32) (y_fur : Int32) (y_coughs : Int32) (y_draftMembers : Int32) (y_draftPairs : Int32) (y_draftCold : Int32) (y_draftFur : Int32) (y_draftCoughs : Int32) (y_undoMany : Int32) (y_seenMany : Int32) (y_chosen : Int32) (y_text : Nat → Int32) (y_warmth : Nat → Int32) (y_side : Nat → Int32) (y_seconds : Nat → Int32) (y_s : Nat → Int32) (y_kept : Nat → Int32) (y_isKept : Nat → Int32) (y_undos : Nat → Int32) (y_seenAt : Nat → Int32) (y_seen : Nat → Int32) (y_board : Nat → Int32) (y_pick : Nat → Int32) (y_worth : Nat → Int32) (y_best : Nat → Int32) (hR : Rel x_trace x_text_length x_text_token x_text_number x_text_place x_text_next x_text_toldOnce x_text_bytes x_parliament_members x_parliament_firstWarmth x_parliament_forMotion x_parliament_cold x_parliament_fur x_parliament_coughs x_parliament_seconds x_parliament_pairs x_draft_members x_draft_firstWarmth x_draft_forMotion x_draft_cold x_draft_fur x_draft_coughs x_draft_seconds x_draft_pairs x_now_warmth x_now_wearer x_now_fur x_now_minutes x_now_lot x_past_known x_past_states_e_warmth x_past_states_e_wearer x_past_states_e_fur x_past_states_e_minutes x_past_states_e_lot x_seen_known x_seen_minutes x_seen_sets x_images_e_kept x_images_e_state_warmth x_images_e_state_wearer x_images_e_state_fur x_images_e_state_minutes x_images_e_state_lot y_thrown y_trace y_typed y_next y_token y_place y_value y_fault y_members y_pairs y_cold y_fur y_coughs y_draftMembers y_draftPairs y_draftCold y_draftFur y_draftCoughs y_undoMany y_seenMany y_chosen y_text y_warmth y_side y_seconds y_s y_kept y_isKept y_undos y_seenAt y_seen y_board y_pick y_worth y_best) : ∃ (r : Int32) (x_now_fur1 : Int32) (x_past_known1 : Int32) (x_past_states_e_warmth1 : Nat → Int32) (x_past_states_e_wearer1 : Nat → Int32) (x_past_states_e_fur1 : Nat → Int32) (x_past_states_e_minutes1 : Nat → Int32) (x_past_states_e_lot1 : Nat → Int32) (y_thrown1 : Int32) (y_undoMany1 : Int32) (y_s1 : Nat → Int32) (y_undos1 : Nat → Int32), f_X7_lining x_now_warmth x_now_wearer x_now_minutes x_now_lot x_now_fur x_past_known x_past_states_e_warmth x_past_states_e_wearer x_past_states_e_fur x_past_states_e_minutes x_past_states_e_lot = some (r, x_now_fur1, x_past_known1, x_past_states_e_warmth1, x_past_states_e_wearer1, x_past_states_e_fur1, x_past_states_e_minutes1, x_past_states_e_lot1) ∧ f_X8_lining y_thrown y_undoMany y_s y_undos = some (r, y_thrown1, y_undoMany1, y_s1, y_undos1) ∧ Rel x_trace x_text_length x_text_token x_text_number x_text_place x_text_next x_text_toldOnce x_text_bytes x_parliament_members x_parliament_firstWarmth x_parliament_forMotion x_parliament_cold x_parliament_fur x_parliament_coughs x_parliament_seconds x_parliament_pairs x_draft_members x_draft_firstWarmth x_draft_forMotion x_draft_cold x_draft_fur x_draft_coughs x_draft_seconds x_draft_pairs x_now_warmth x_now_wearer x_now_fur1 x_now_minutes x_now_lot x_past_known1 x_past_states_e_warmth1 x_past_states_e_wearer1 x_past_states_e_fur1 x_past_states_e_minutes1 x_past_states_e_lot1 x_seen_known x_seen_minutes x_seen_sets x_images_e_kept x_images_e_state_warmth x_images_e_state_wearer x_images_e_state_fur x_images_e_state_minutes x_images_e_state_lot y_thrown1 y_trace y_typed y_next y_token y_place y_value y_fault y_members y_pairs y_cold y_fur y_coughs y_draftMembers y_draftPairs y_draftCold y_draftFur y_draftCoughs y_undoMany1 y_seenMany y_chosen y_text y_warmth y_side y_seconds y_s1 y_kept y_isKept y_undos1 y_seenAt y_seen y_board y_pick y_worth y_best := by
  have hR0 := hR
  obtain ⟨n, w0, sd, S, cold, fur0, coughs, sc, hWf, hC, hM, hN, hlot, hPast, hSeen, hImg, htr, hTx⟩ := hR
  obtain ⟨hn6, hw020, hw0z, hsd1, hsdz, hS64, hSz, hcold, hfur0, hcoughs, hsc⟩ := id hWf
  have hC' := hC
  have hM' := hM
  have hN' := hN
  obtain ⟨rfl, rfl, rfl, rfl, rfl, rfl, rfl, rfl⟩ := hC
  obtain ⟨rfl, rfl, rfl, rfl, rfl, hrows⟩ := hM
  obtain ⟨w, fu, c, hw, hz, hc6, rfl, rfl, hf5, rfl, hrow, hs8⟩ := NR_alt hn6 hN
  have h6 : ∀ m, 6 ≤ m → S m = 0 := fun m hm => hSz m (by omega)
  have hy : ∀ m, m < n → y_seconds m = nI (S m) := fun m hm => (hrows m hm).2.2
  have hss : ∀ m, m < n → sd m ≤ 1 ∧ y_side m = nI (sd m) := fun m hm => ⟨hsd1 m, (hrows m hm).2.1⟩
  obtain ⟨hs1, hs6, hs7⟩ := hrow
  unfold f_X7_lining f_X8_lining
  rw [ing7, cl7, hs7]
  by_cases z : fu = 5
  · subst z
    rw [if_neg (show ¬ nI 5 < 5 from nI_nlt (a := 5) (b := 5) (Nat.le_refl 5) (by omega)), if_pos (show nI 5 = 5 from rfl)]
    exact ⟨_, _, _, _, _, _, _, _, 0, _, _, _, rfl, rfl, hR0⟩
  · obtain ⟨k, hk, rfl, rfl, hq⟩ := hPast
    obtain ⟨k', a, b, c', d, e, u', e1, e2, hk', hq'⟩ := s_notes (lot := x_now_lot) (ve := x_past_states_e_lot) hk hq hN'
    rw [if_pos (show nI fu < 5 from nI_lt (a := fu) (b := 5) (by omega) (by omega)), if_neg (show ¬ nI fu = 5 from fun h => z ((nI_eq (by omega) (by omega)).mp (show nI fu = nI 5 from h))), e1, ob6_mk, bnd_mk, e2, ob2_mk, ing7, ing7, bnd_mk, ing7, nI_1, upd_s]
    refine ⟨_, _, _, _, _, _, _, _, 0, _, _, _, rfl, rfl, n, w0, sd, S, cold, fur0, coughs, sc, hWf, hC', hM', NR_mk hn6 hw hz hc6 (by omega) ⟨fun m hm => ?_, ?_, upd_s⟩ ?_, ?_, ⟨k', hk', rfl, rfl, hq'⟩, hSeen, hImg, htr, hTx⟩
    · rw [upd_n (by omega), hs1 m hm]
    · rw [upd_n (by omega), hs6]
    · rw [upd_n (by omega), hs8]
    · rw [upd_n (by omega), hlot]
set_option maxHeartbeats 4000000 in
theorem st_saw (x_trace : Int64) (x_text_length : Int32) (x_text_token : Int32) (x_text_number : Int32) (x_text_place : Int32) (x_text_next : Int32) (x_text_toldOnce : Int32) (x_text_bytes : Nat → Int32) (x_parliament_members : Int32) (x_parliament_firstWarmth : Int32) (x_parliament_forMotion : Int32) (x_parliament_cold : Int32) (x_parliament_fur : Int32) (x_parliament_coughs : Int32) (x_parliament_seconds : Int32) (x_parliament_pairs : Int64) (x_draft_members : Int32) (x_draft_firstWarmth : Int32) (x_draft_forMotion : Int32) (x_draft_cold : Int32) (x_draft_fur : Int32) (x_draft_coughs : Int32) (x_draft_seconds : Int32) (x_draft_pairs : Int64) (x_now_warmth : Int32) (x_now_wearer : Int32) (x_now_fur : Int32) (x_now_minutes : Int32) (x_now_lot : Int32) (x_past_known : Int32) (x_past_states_e_warmth : Nat → Int32) (x_past_states_e_wearer : Nat → Int32) (x_past_states_e_fur : Nat → Int32) (x_past_states_e_minutes : Nat → Int32) (x_past_states_e_lot : Nat → Int32) (x_seen_known : Int32) (x_seen_minutes : Nat → Int32) (x_seen_sets : Nat → Int32) (x_images_e_kept : Nat → Int32) (x_images_e_state_warmth : Nat → Int32) (x_images_e_state_wearer : Nat → Int32) (x_images_e_state_fur : Nat → Int32) (x_images_e_state_minutes : Nat → Int32) (x_images_e_state_lot : Nat → Int32) (y_thrown : Int32) (y_trace : Int64) (y_typed : Int32) (y_next : Int32) (y_token : Int32) (y_place : Int32) (y_value : Int32) (y_fault : Int32) (y_members : Int32) (y_pairs : Int32) (y_cold : Int32) (y_fur : Int32) (y_coughs : Int32) (y_draftMembers : Int32) (y_draftPairs : Int32) (y_draftCold : Int32) (y_draftFur : Int32) (y_draftCoughs : Int32) (y_undoMany : Int32) (y_seenMany : Int32) (y_chosen : Int32) (y_text : Nat → Int32) (y_warmth : Nat → Int32) (y_side : Nat → Int32) (y_seconds : Nat → Int32) (y_s : Nat → Int32) (y_kept : Nat → Int32) (y_isKept : Nat → Int32) (y_undos : Nat → Int32) (y_seenAt : Nat → Int32) (y_seen : Nat → Int32) (y_board : Nat → Int32) (y_pick : Nat → Int32) (y_worth : Nat → Int32) (y_best : Nat → Int32) (hR : Rel x_trace x_text_length x_text_token x_text_number x_text_place x_text_next x_text_toldOnce x_text_bytes x_parliament_members x_parliament_firstWarmth x_parliament_forMotion x_parliament_cold x_parliament_fur x_parliament_coughs x_parliament_seconds x_parliament_pairs x_draft_members x_draft_firstWarmth x_draft_forMotion x_draft_cold x_draft_fur x_draft_coughs x_draft_seconds x_draft_pairs x_now_warmth x_now_wearer x_now_fur x_now_minutes x_now_lot x_past_known x_past_states_e_warmth x_past_states_e_wearer x_past_states_e_fur x_past_states_e_minutes x_past_states_e_lot x_seen_known x_seen_minutes x_seen_sets x_images_e_kept x_images_e_state_warmth x_images_e_state_wearer x_images_e_state_fur x_images_e_state_minutes x_images_e_state_lot y_thrown y_trace y_typed y_next y_token y_place y_value y_fault y_members y_pairs y_cold y_fur y_coughs y_draftMembers y_draftPairs y_draftCold y_draftFur y_draftCoughs y_undoMany y_seenMany y_chosen y_text y_warmth y_side y_seconds y_s y_kept y_isKept y_undos y_seenAt y_seen y_board y_pick y_worth y_best) (a1 : Int32) (a2 : Int32) : ∃ (r : Int32) (x_seen_known1 : Int32) (x_seen_sets1 : Nat → Int32) (x_seen_minutes1 : Nat → Int32) (y_thrown1 : Int32) (y_seenMany1 : Int32) (y_seen1 : Nat → Int32) (y_seenAt1 : Nat → Int32), f_X7_saw x_parliament_members x_seen_known x_seen_sets x_seen_minutes a1 a2 = some (r, x_seen_known1, x_seen_sets1, x_seen_minutes1) ∧ f_X8_saw y_members y_thrown y_seenMany y_seen y_seenAt a1 a2 = some (r, y_thrown1, y_seenMany1, y_seen1, y_seenAt1) ∧ Rel x_trace x_text_length x_text_token x_text_number x_text_place x_text_next x_text_toldOnce x_text_bytes x_parliament_members x_parliament_firstWarmth x_parliament_forMotion x_parliament_cold x_parliament_fur x_parliament_coughs x_parliament_seconds x_parliament_pairs x_draft_members x_draft_firstWarmth x_draft_forMotion x_draft_cold x_draft_fur x_draft_coughs x_draft_seconds x_draft_pairs x_now_warmth x_now_wearer x_now_fur x_now_minutes x_now_lot x_past_known x_past_states_e_warmth x_past_states_e_wearer x_past_states_e_fur x_past_states_e_minutes x_past_states_e_lot x_seen_known1 x_seen_minutes1 x_seen_sets1 x_images_e_kept x_images_e_state_warmth x_images_e_state_wearer x_images_e_state_fur x_images_e_state_minutes x_images_e_state_lot y_thrown1 y_trace y_typed y_next y_token y_place y_value y_fault y_members y_pairs y_cold y_fur y_coughs y_draftMembers y_draftPairs y_draftCold y_draftFur y_draftCoughs y_undoMany y_seenMany1 y_chosen y_text y_warmth y_side y_seconds y_s y_kept y_isKept y_undos y_seenAt1 y_seen1 y_board y_pick y_worth y_best := by
  have hR0 := hR
  obtain ⟨n, w0, sd, S, cold, fur0, coughs, sc, hWf, hC, hM, hN, hlot, hPast, hSeen, hImg, htr, hTx⟩ := hR
  obtain ⟨hn6, hw020, hw0z, hsd1, hsdz, hS64, hSz, hcold, hfur0, hcoughs, hsc⟩ := id hWf
  have hC' := hC
  have hM' := hM
  have hN' := hN
  obtain ⟨rfl, rfl, rfl, rfl, rfl, rfl, rfl, rfl⟩ := hC
  obtain ⟨rfl, rfl, rfl, rfl, rfl, hrows⟩ := hM
  obtain ⟨w, fu, c, hw, hz, hc6, rfl, rfl, hf5, rfl, hrow, hs8⟩ := NR_alt hn6 hN
  have h6 : ∀ m, 6 ≤ m → S m = 0 := fun m hm => hSz m (by omega)
  have hy : ∀ m, m < n → y_seconds m = nI (S m) := fun m hm => (hrows m hm).2.2
  have hss : ∀ m, m < n → sd m ≤ 1 ∧ y_side m = nI (sd m) := fun m hm => ⟨hsd1 m, (hrows m hm).2.1⟩
  have hp2 := p2n n (by omega)
  obtain ⟨k, t, z, hk, rfl, rfl, hq⟩ := hSeen
  unfold f_X7_saw f_X8_saw f_X2_everybody
  rw [s_pl, ob1_mk, s_in, ob1_mk]
  by_cases q : (0 : Int32) ≤ a1 ∧ a1 ≤ 5
  · simp only [if_pos q, n10, if_false, ob1_mk, s_in, ev1 n (show n < 7 by omega)]
    by_cases q1 : a2 < 0
    · rw [if_pos q1, if_neg (show ¬ ((0 : Int32) ≤ a2 ∧ a2 ≤ nI (2 ^ n - 1)) from fun h => nlt_le.mpr h.1 q1), if_pos rfl]
      exact ⟨_, _, _, _, 0, _, _, _, rfl, rfl, hR0⟩
    · rw [if_neg q1]
      by_cases q2 : a2 ≤ nI (2 ^ n - 1)
      · rw [if_pos q2, if_pos (show (0 : Int32) ≤ a2 ∧ a2 ≤ nI (2 ^ n - 1) from ⟨nlt_le.mp q1, q2⟩), if_neg n10]
        by_cases q3 : k = 6
        · subst q3
          rw [if_neg (show ¬ nI 6 < 6 from nI_nlt (a := 6) (b := 6) (Nat.le_refl 6) (by omega)), if_pos (show nI 6 = 6 from rfl)]
          exact ⟨_, _, _, _, 0, _, _, _, rfl, rfl, hR0⟩
        · obtain ⟨i1, hi1, rfl⟩ := rng (p := a1) (N := 5) (by omega) q.1 q.2
          obtain ⟨i2, hi2, rfl⟩ := rng (N := 2 ^ n - 1) (by omega) (nlt_le.mp q1) q2
          unfold f_X5_add
          have g6 : ¬ (6 : Int32) ≤ nI k := nI_ge (a := k) (b := 6) (by omega) (by omega)
          rw [if_pos (show nI k < 6 from nI_lt (a := k) (b := 6) (by omega) (by omega)), if_neg (show ¬ nI k = 6 from fun h => q3 ((nI_eq (by omega) (by omega)).mp (show nI k = nI 6 from h))), if_neg (nI_pos (by omega)), if_neg g6, if_neg g6]
          simp only [ing_nI (show k < 6 by omega) (show 6 < 2 ^ 31 by omega), nI_clamp (show k < 2 ^ 31 by omega), bnd_mk, nI_1, ob3_mk]
          refine ⟨_, _, _, _, 0, _, _, _, rfl, rfl, n, w0, sd, S, cold, fur0, coughs, sc, hWf, hC', hM', hN', hlot, hPast, ⟨k + 1, fun i => if i = k then i1 else t i, fun i => if i = k then i2 else z i, by omega, rfl, rfl, fun i hi => ?_⟩, hImg, htr, hTx⟩
          by_cases e : i = k
          · rw [e, upd_s, upd_s, upd_s, upd_s, show (fun i => if i = k then i1 else t i) k = i1 from if_pos rfl, show (fun i => if i = k then i2 else z i) k = i2 from if_pos rfl]
            exact ⟨hi1, by omega, rfl, rfl, rfl, rfl⟩
          · rw [upd_n e, upd_n e, upd_n e, upd_n e, show (fun i => if i = k then i1 else t i) i = t i from if_neg e, show (fun i => if i = k then i2 else z i) i = z i from if_neg e]
            exact hq i (by omega)
      · rw [if_neg q2, if_neg (show ¬ ((0 : Int32) ≤ a2 ∧ a2 ≤ nI (2 ^ n - 1)) from fun h => q2 h.2), if_pos rfl]
        exact ⟨_, _, _, _, 0, _, _, _, rfl, rfl, hR0⟩
  · simp only [if_neg q, if_true]
    exact ⟨_, _, _, _, 0, _, _, _, rfl, rfl, hR0⟩
theorem t64 (x a b : Int64) : x + a + b = x + (a + b) := Int64.add_assoc x a b
theorem six {p : Int32} (h : (0 : Int32) ≤ p ∧ p ≤ 5) : p = 0 ∨ p = 1 ∨ p = 2 ∨ p = 3 ∨ p = 4 ∨ p = 5 := by
  obtain ⟨j, hj, rfl⟩ := rng (N := 5) (by omega) h.1 h.2
  have : j = 0 ∨ j = 1 ∨ j = 2 ∨ j = 3 ∨ j = 4 ∨ j = 5 := by omega
  rcases this with rfl | rfl | rfl | rfl | rfl | rfl
  · exact Or.inl rfl
  · exact Or.inr (Or.inl rfl)
  · exact Or.inr (Or.inr (Or.inl rfl))
  · exact Or.inr (Or.inr (Or.inr (Or.inl rfl)))
  · exact Or.inr (Or.inr (Or.inr (Or.inr (Or.inl rfl))))
  · exact Or.inr (Or.inr (Or.inr (Or.inr (Or.inr rfl))))
theorem six_no {p : Int32} (h : ¬ ((0 : Int32) ≤ p ∧ p ≤ 5)) : ¬ p = 0 ∧ ¬ p = 1 ∧ ¬ p = 2 ∧ ¬ p = 3 ∧ ¬ p = 4 ∧ ¬ p = 5 := by
  refine ⟨?_, ?_, ?_, ?_, ?_, ?_⟩ <;> (intro q; subst q; exact h (by decide))
set_option maxHeartbeats 4000000 in
theorem st_rate (x_trace : Int64) (x_text_length : Int32) (x_text_token : Int32) (x_text_number : Int32) (x_text_place : Int32) (x_text_next : Int32) (x_text_toldOnce : Int32) (x_text_bytes : Nat → Int32) (x_parliament_members : Int32) (x_parliament_firstWarmth : Int32) (x_parliament_forMotion : Int32) (x_parliament_cold : Int32) (x_parliament_fur : Int32) (x_parliament_coughs : Int32) (x_parliament_seconds : Int32) (x_parliament_pairs : Int64) (x_draft_members : Int32) (x_draft_firstWarmth : Int32) (x_draft_forMotion : Int32) (x_draft_cold : Int32) (x_draft_fur : Int32) (x_draft_coughs : Int32) (x_draft_seconds : Int32) (x_draft_pairs : Int64) (x_now_warmth : Int32) (x_now_wearer : Int32) (x_now_fur : Int32) (x_now_minutes : Int32) (x_now_lot : Int32) (x_past_known : Int32) (x_past_states_e_warmth : Nat → Int32) (x_past_states_e_wearer : Nat → Int32) (x_past_states_e_fur : Nat → Int32) (x_past_states_e_minutes : Nat → Int32) (x_past_states_e_lot : Nat → Int32) (x_seen_known : Int32) (x_seen_minutes : Nat → Int32) (x_seen_sets : Nat → Int32) (x_images_e_kept : Nat → Int32) (x_images_e_state_warmth : Nat → Int32) (x_images_e_state_wearer : Nat → Int32) (x_images_e_state_fur : Nat → Int32) (x_images_e_state_minutes : Nat → Int32) (x_images_e_state_lot : Nat → Int32) (y_thrown : Int32) (y_trace : Int64) (y_typed : Int32) (y_next : Int32) (y_token : Int32) (y_place : Int32) (y_value : Int32) (y_fault : Int32) (y_members : Int32) (y_pairs : Int32) (y_cold : Int32) (y_fur : Int32) (y_coughs : Int32) (y_draftMembers : Int32) (y_draftPairs : Int32) (y_draftCold : Int32) (y_draftFur : Int32) (y_draftCoughs : Int32) (y_undoMany : Int32) (y_seenMany : Int32) (y_chosen : Int32) (y_text : Nat → Int32) (y_warmth : Nat → Int32) (y_side : Nat → Int32) (y_seconds : Nat → Int32) (y_s : Nat → Int32) (y_kept : Nat → Int32) (y_isKept : Nat → Int32) (y_undos : Nat → Int32) (y_seenAt : Nat → Int32) (y_seen : Nat → Int32) (y_board : Nat → Int32) (y_pick : Nat → Int32) (y_worth : Nat → Int32) (y_best : Nat → Int32) (hR : Rel x_trace x_text_length x_text_token x_text_number x_text_place x_text_next x_text_toldOnce x_text_bytes x_parliament_members x_parliament_firstWarmth x_parliament_forMotion x_parliament_cold x_parliament_fur x_parliament_coughs x_parliament_seconds x_parliament_pairs x_draft_members x_draft_firstWarmth x_draft_forMotion x_draft_cold x_draft_fur x_draft_coughs x_draft_seconds x_draft_pairs x_now_warmth x_now_wearer x_now_fur x_now_minutes x_now_lot x_past_known x_past_states_e_warmth x_past_states_e_wearer x_past_states_e_fur x_past_states_e_minutes x_past_states_e_lot x_seen_known x_seen_minutes x_seen_sets x_images_e_kept x_images_e_state_warmth x_images_e_state_wearer x_images_e_state_fur x_images_e_state_minutes x_images_e_state_lot y_thrown y_trace y_typed y_next y_token y_place y_value y_fault y_members y_pairs y_cold y_fur y_coughs y_draftMembers y_draftPairs y_draftCold y_draftFur y_draftCoughs y_undoMany y_seenMany y_chosen y_text y_warmth y_side y_seconds y_s y_kept y_isKept y_undos y_seenAt y_seen y_board y_pick y_worth y_best) (a1 : Int32) (a2 : Int32) : ∃ (r : Int32) (x_trace1 : Int64) (y_thrown1 : Int32) (y_trace1 : Int64), f_X7_rate x_parliament_members x_parliament_cold x_parliament_pairs x_now_warmth x_now_fur x_trace a1 a2 = some (r, x_trace1) ∧ f_X8_rate y_members y_cold y_seconds y_s y_thrown y_trace a1 a2 = some (r, y_thrown1, y_trace1) ∧ Rel x_trace1 x_text_length x_text_token x_text_number x_text_place x_text_next x_text_toldOnce x_text_bytes x_parliament_members x_parliament_firstWarmth x_parliament_forMotion x_parliament_cold x_parliament_fur x_parliament_coughs x_parliament_seconds x_parliament_pairs x_draft_members x_draft_firstWarmth x_draft_forMotion x_draft_cold x_draft_fur x_draft_coughs x_draft_seconds x_draft_pairs x_now_warmth x_now_wearer x_now_fur x_now_minutes x_now_lot x_past_known x_past_states_e_warmth x_past_states_e_wearer x_past_states_e_fur x_past_states_e_minutes x_past_states_e_lot x_seen_known x_seen_minutes x_seen_sets x_images_e_kept x_images_e_state_warmth x_images_e_state_wearer x_images_e_state_fur x_images_e_state_minutes x_images_e_state_lot y_thrown1 y_trace1 y_typed y_next y_token y_place y_value y_fault y_members y_pairs y_cold y_fur y_coughs y_draftMembers y_draftPairs y_draftCold y_draftFur y_draftCoughs y_undoMany y_seenMany y_chosen y_text y_warmth y_side y_seconds y_s y_kept y_isKept y_undos y_seenAt y_seen y_board y_pick y_worth y_best := by
  have hR0 := hR
  obtain ⟨n, w0, sd, S, cold, fur0, coughs, sc, hWf, hC, hM, hN, hlot, hPast, hSeen, hImg, htr, hTx⟩ := hR
  obtain ⟨hn6, hw020, hw0z, hsd1, hsdz, hS64, hSz, hcold, hfur0, hcoughs, hsc⟩ := id hWf
  have hC' := hC
  have hM' := hM
  have hN' := hN
  obtain ⟨rfl, rfl, rfl, rfl, rfl, rfl, rfl, rfl⟩ := hC
  obtain ⟨rfl, rfl, rfl, rfl, rfl, hrows⟩ := hM
  obtain ⟨w, fu, c, hw, hz, hc6, rfl, rfl, hf5, rfl, hrow, hs8⟩ := NR_alt hn6 hN
  have h6 : ∀ m, 6 ≤ m → S m = 0 := fun m hm => hSz m (by omega)
  have hy : ∀ m, m < n → y_seconds m = nI (S m) := fun m hm => (hrows m hm).2.2
  have hss : ∀ m, m < n → sd m ≤ 1 ∧ y_side m = nI (sd m) := fun m hm => ⟨hsd1 m, (hrows m hm).2.1⟩
  have key : ∀ t : Int64, Rel t x_text_length x_text_token x_text_number x_text_place x_text_next x_text_toldOnce x_text_bytes _ _ _ _ _ _ _ _ x_draft_members x_draft_firstWarmth x_draft_forMotion x_draft_cold x_draft_fur x_draft_coughs x_draft_seconds x_draft_pairs _ _ _ x_now_minutes x_now_lot x_past_known x_past_states_e_warmth x_past_states_e_wearer x_past_states_e_fur x_past_states_e_minutes x_past_states_e_lot x_seen_known x_seen_minutes x_seen_sets x_images_e_kept x_images_e_state_warmth x_images_e_state_wearer x_images_e_state_fur x_images_e_state_minutes x_images_e_state_lot 0 t y_typed y_next y_token y_place y_value y_fault _ _ _ _ _ y_draftMembers y_draftPairs y_draftCold y_draftFur y_draftCoughs y_undoMany y_seenMany y_chosen y_text y_warmth y_side y_seconds y_s y_kept y_isKept y_undos y_seenAt y_seen y_board y_pick y_worth y_best := fun t => ⟨n, w0, sd, S, cold, fur0, coughs, sc, hWf, hC', hM', hN', hlot, hPast, hSeen, hImg, rfl, hTx⟩
  subst htr
  unfold f_X7_rate f_X8_rate f_X7_sleeperRate f_X7_chairRate f_X7_stammererRate f_X7_deafOneRate f_X7_oratorRate f_X7_memberRate f_X8_rate_115
  obtain ⟨hs1, hs6, hs7⟩ := hrow
  rw [s_in, ob1_mk]
  rcases s_has hn6 a2 with ⟨m, hm, rfl, e1, e2⟩ | ⟨e1, e2⟩
  · have hm6 : m < 6 := by omega
    rw [e1, ob1_mk, e2, ob1_mk, if_neg n10, if_neg n10]
    by_cases q : (0 : Int32) ≤ a1 ∧ a1 ≤ 5
    · rw [if_pos q, if_neg n10]
      have es : f_X2_secondersOf (lN (pk S 64 6)) (nI m) = some (nI (S m)) := by rw [← coatI_lt hm6]; exact s_secondersOf hS64 h6 m
      simp only [s_warmthOf hw hm6, es, s_bitCount _ (hS64 m), ob1_mk, ob2_mk, bnd_mk, nI_clamp (show m < 2 ^ 31 by omega), ing_nI (show m < 10 by omega) (show 10 < 2 ^ 31 by omega), ing_nI (show m < 12 by omega) (show 12 < 2 ^ 31 by omega), hs1 m hm6, hy m hm, s_ones _ (hS64 m), ing7, cl7, hs7, t64]
      rcases six q with rfl | rfl | rfl | rfl | rfl | rfl
      · exact ⟨_, _, 0, _, rfl, rfl, key _⟩
      · exact ⟨_, _, 0, _, rfl, rfl, key _⟩
      · exact ⟨_, _, 0, _, rfl, rfl, key _⟩
      · exact ⟨_, _, 0, _, rfl, rfl, key _⟩
      · exact ⟨_, _, 0, _, rfl, rfl, key _⟩
      · exact ⟨_, _, 0, _, rfl, rfl, key _⟩
    · obtain ⟨q0, q1, q2, q3, q4, q5⟩ := six_no q
      rw [if_neg q, if_pos rfl, if_neg q0, if_neg q1, if_neg q2, if_neg q3, if_neg q4, if_neg q5]
      exact ⟨_, _, 0, _, rfl, rfl, key _⟩
  · rw [e1, ob1_mk, e2, ob1_mk, if_pos rfl, if_pos rfl]
    refine ⟨_, _, 0, _, rfl, ?_, key _⟩
    split <;> rfl
theorem s_k18 {s : Nat → Int32} {p : Nat} (hp : p < 2) : ∀ (fuel j : Nat) (u z : Nat → Int32), j ≤ 10 → 10 - j < fuel → ∃ u', f_X8_keep_18 s fuel (nI p) (nI j) 0 u z = some (s 8, 0, u', upd z p 1) ∧ (∀ i, j ≤ i → i < 10 → u' (10 * p + i) = s i) ∧ (∀ i, (i < 10 * p + j ∨ 10 * p + 10 ≤ i) → u' i = u i) := by
  intro fuel
  induction fuel with
  | zero => intro j u z h1 h2; omega
  | succ f ih =>
    intro j u z h1 h2
    show ∃ u', f_X8_keep_18_b s (f_X8_keep_18 s f) _ _ _ _ _ = _ ∧ _
    unfold f_X8_keep_18_b
    by_cases h : j = 10
    · subst h
      rw [if_pos (show (10 : Int32) ≤ nI 10 from nI_le (Nat.le_refl 10) (by omega)), ing_nI (by omega) (by omega), nI_clamp (by omega), bnd_mk, ing8, cl8, show vp_nar .boolean 1 = 1 by decide]
      exact ⟨u, rfl, fun i a b => by omega, fun i _ => rfl⟩
    · rw [if_neg (show ¬ (10 : Int32) ≤ nI j from nI_ge (a := j) (b := 10) (by omega) (by omega)), show (10 : Int32) * nI p = nI (10 * p) from u_mulz 10 p, nI_add, ing_nI (by omega) (by omega), ing_nI (by omega) (by omega), nI_clamp (by omega), nI_clamp (by omega), bnd_mk, bnd_mk, nI_1]
      obtain ⟨u', e, a, b⟩ := ih (j + 1) (upd u (10 * p + j) (s j)) z (by omega) (by omega)
      refine ⟨u', e, fun i h1 h2 => ?_, fun i hi => ?_⟩
      · by_cases q : i = j
        · rw [q, b _ (by omega), upd_s]
        · exact a i (by omega) h2
      · rw [b i (by omega), upd_n (by omega)]
theorem s_b30 {u z : Nat → Int32} {p : Nat} (hp : p < 2) (k : Int32) : ∀ (fuel j : Nat) (s : Nat → Int32), j ≤ 10 → 10 - j < fuel → ∃ s', f_X8_back_30 u z fuel (nI p) (nI j) 0 k s = some (s' 8, 0, 0, s') ∧ (∀ i, j ≤ i → i < 10 → s' i = u (10 * p + i)) ∧ (∀ i, (i < j ∨ 10 ≤ i) → s' i = s i) := by
  intro fuel
  induction fuel with
  | zero => intro j s h1 h2; omega
  | succ f ih =>
    intro j s h1 h2
    show ∃ s', f_X8_back_30_b u z (f_X8_back_30 u z f) _ _ _ _ _ = _ ∧ _
    unfold f_X8_back_30_b
    by_cases h : j = 10
    · subst h
      rw [if_pos (show (10 : Int32) ≤ nI 10 from nI_le (Nat.le_refl 10) (by omega)), ing8, cl8]
      exact ⟨s, rfl, fun i a b => by omega, fun i _ => rfl⟩
    · rw [if_neg (show ¬ (10 : Int32) ≤ nI j from nI_ge (a := j) (b := 10) (by omega) (by omega)), show (10 : Int32) * nI p = nI (10 * p) from u_mulz 10 p, nI_add, ing_nI (by omega) (by omega), ing_nI (by omega) (by omega), nI_clamp (by omega), nI_clamp (by omega), bnd_mk, bnd_mk, nI_1]
      obtain ⟨s', e, a, b⟩ := ih (j + 1) (upd s j (u (10 * p + j))) (by omega) (by omega)
      refine ⟨s', e, fun i h1 h2 => ?_, fun i hi => ?_⟩
      · by_cases q : i = j
        · rw [q, b _ (by omega), upd_s]
        · exact a i (by omega) h2
      · rw [b i (by omega), upd_n (by omega)]
theorem two {p : Int32} : (p < 0 ∧ ¬ ((0 : Int32) ≤ p ∧ p ≤ 1)) ∨ (¬ p < 0 ∧ ¬ p < 2 ∧ ¬ ((0 : Int32) ≤ p ∧ p ≤ 1)) ∨ ∃ j, j < 2 ∧ p = nI j ∧ ((0 : Int32) ≤ p ∧ p ≤ 1) ∧ ¬ p < 0 ∧ p < 2 := by
  by_cases a : p < 0
  · exact Or.inl ⟨a, fun h => nlt_le.mpr h.1 a⟩
  · obtain ⟨j, hj, rfl⟩ := nI_of a
    by_cases q : j < 2
    · exact Or.inr (Or.inr ⟨j, q, rfl, ⟨nI_pos' hj, nI_le (b := 1) (by omega) (by omega)⟩, a, nI_lt (b := 2) q (by omega)⟩)
    · exact Or.inr (Or.inl ⟨a, nI_nlt (b := 2) (by omega) hj, fun h => nI_ge (a := 1) (by omega) hj h.2⟩)
set_option maxHeartbeats 4000000 in
theorem st_keep (x_trace : Int64) (x_text_length : Int32) (x_text_token : Int32) (x_text_number : Int32) (x_text_place : Int32) (x_text_next : Int32) (x_text_toldOnce : Int32) (x_text_bytes : Nat → Int32) (x_parliament_members : Int32) (x_parliament_firstWarmth : Int32) (x_parliament_forMotion : Int32) (x_parliament_cold : Int32) (x_parliament_fur : Int32) (x_parliament_coughs : Int32) (x_parliament_seconds : Int32) (x_parliament_pairs : Int64) (x_draft_members : Int32) (x_draft_firstWarmth : Int32) (x_draft_forMotion : Int32) (x_draft_cold : Int32) (x_draft_fur : Int32) (x_draft_coughs : Int32) (x_draft_seconds : Int32) (x_draft_pairs : Int64) (x_now_warmth : Int32) (x_now_wearer : Int32) (x_now_fur : Int32) (x_now_minutes : Int32) (x_now_lot : Int32) (x_past_known : Int32) (x_past_states_e_warmth : Nat → Int32) (x_past_states_e_wearer : Nat → Int32) (x_past_states_e_fur : Nat → Int32) (x_past_states_e_minutes : Nat → Int32) (x_past_states_e_lot : Nat → Int32) (x_seen_known : Int32) (x_seen_minutes : Nat → Int32) (x_seen_sets : Nat → Int32) (x_images_e_kept : Nat → Int32) (x_images_e_state_warmth : Nat → Int32) (x_images_e_state_wearer : Nat → Int32) (x_images_e_state_fur : Nat → Int32) (x_images_e_state_minutes : Nat → Int32) (x_images_e_state_lot : Nat → Int32) (y_thrown : Int32) (y_trace : Int64) (y_typed : Int32) (y_next : Int32) (y_token : Int32) (y_place : Int32) (y_value : Int32) (y_fault : Int32) (y_members : Int32) (y_pairs : Int32) (y_cold : Int32) (y_fur : Int32) (y_coughs : Int32) (y_draftMembers : Int32) (y_draftPairs : Int32) (y_draftCold : Int32) (y_draftFur : Int32) (y_draftCoughs : Int32) (y_undoMany : Int32) (y_seenMany : Int32) (y_chosen : Int32) (y_text : Nat → Int32) (y_warmth : Nat → Int32) (y_side : Nat → Int32) (y_seconds : Nat → Int32) (y_s : Nat → Int32) (y_kept : Nat → Int32) (y_isKept : Nat → Int32) (y_undos : Nat → Int32) (y_seenAt : Nat → Int32) (y_seen : Nat → Int32) (y_board : Nat → Int32) (y_pick : Nat → Int32) (y_worth : Nat → Int32) (y_best : Nat → Int32) (hR : Rel x_trace x_text_length x_text_token x_text_number x_text_place x_text_next x_text_toldOnce x_text_bytes x_parliament_members x_parliament_firstWarmth x_parliament_forMotion x_parliament_cold x_parliament_fur x_parliament_coughs x_parliament_seconds x_parliament_pairs x_draft_members x_draft_firstWarmth x_draft_forMotion x_draft_cold x_draft_fur x_draft_coughs x_draft_seconds x_draft_pairs x_now_warmth x_now_wearer x_now_fur x_now_minutes x_now_lot x_past_known x_past_states_e_warmth x_past_states_e_wearer x_past_states_e_fur x_past_states_e_minutes x_past_states_e_lot x_seen_known x_seen_minutes x_seen_sets x_images_e_kept x_images_e_state_warmth x_images_e_state_wearer x_images_e_state_fur x_images_e_state_minutes x_images_e_state_lot y_thrown y_trace y_typed y_next y_token y_place y_value y_fault y_members y_pairs y_cold y_fur y_coughs y_draftMembers y_draftPairs y_draftCold y_draftFur y_draftCoughs y_undoMany y_seenMany y_chosen y_text y_warmth y_side y_seconds y_s y_kept y_isKept y_undos y_seenAt y_seen y_board y_pick y_worth y_best) (a1 : Int32) : ∃ (r : Int32) (x_images_e_kept1 : Nat → Int32) (x_images_e_state_warmth1 : Nat → Int32) (x_images_e_state_wearer1 : Nat → Int32) (x_images_e_state_fur1 : Nat → Int32) (x_images_e_state_minutes1 : Nat → Int32) (x_images_e_state_lot1 : Nat → Int32) (y_thrown1 : Int32) (y_kept1 : Nat → Int32) (y_isKept1 : Nat → Int32), f_X7_keep x_now_warmth x_now_wearer x_now_fur x_now_minutes x_now_lot x_images_e_kept x_images_e_state_warmth x_images_e_state_wearer x_images_e_state_fur x_images_e_state_minutes x_images_e_state_lot a1 = some (r, x_images_e_kept1, x_images_e_state_warmth1, x_images_e_state_wearer1, x_images_e_state_fur1, x_images_e_state_minutes1, x_images_e_state_lot1) ∧ f_X8_keep y_s y_thrown y_kept y_isKept a1 = some (r, y_thrown1, y_kept1, y_isKept1) ∧ Rel x_trace x_text_length x_text_token x_text_number x_text_place x_text_next x_text_toldOnce x_text_bytes x_parliament_members x_parliament_firstWarmth x_parliament_forMotion x_parliament_cold x_parliament_fur x_parliament_coughs x_parliament_seconds x_parliament_pairs x_draft_members x_draft_firstWarmth x_draft_forMotion x_draft_cold x_draft_fur x_draft_coughs x_draft_seconds x_draft_pairs x_now_warmth x_now_wearer x_now_fur x_now_minutes x_now_lot x_past_known x_past_states_e_warmth x_past_states_e_wearer x_past_states_e_fur x_past_states_e_minutes x_past_states_e_lot x_seen_known x_seen_minutes x_seen_sets x_images_e_kept1 x_images_e_state_warmth1 x_images_e_state_wearer1 x_images_e_state_fur1 x_images_e_state_minutes1 x_images_e_state_lot1 y_thrown1 y_trace y_typed y_next y_token y_place y_value y_fault y_members y_pairs y_cold y_fur y_coughs y_draftMembers y_draftPairs y_draftCold y_draftFur y_draftCoughs y_undoMany y_seenMany y_chosen y_text y_warmth y_side y_seconds y_s y_kept1 y_isKept1 y_undos y_seenAt y_seen y_board y_pick y_worth y_best := by
  have hR0 := hR
  obtain ⟨n, w0, sd, S, cold, fur0, coughs, sc, hWf, hC, hM, hN, hlot, hPast, hSeen, hImg, htr, hTx⟩ := hR
  obtain ⟨hn6, hw020, hw0z, hsd1, hsdz, hS64, hSz, hcold, hfur0, hcoughs, hsc⟩ := id hWf
  have hC' := hC
  have hM' := hM
  have hN' := hN
  obtain ⟨rfl, rfl, rfl, rfl, rfl, rfl, rfl, rfl⟩ := hC
  obtain ⟨rfl, rfl, rfl, rfl, rfl, hrows⟩ := hM
  obtain ⟨w, fu, c, hw, hz, hc6, rfl, rfl, hf5, rfl, hrow, hs8⟩ := NR_alt hn6 hN
  have h6 : ∀ m, 6 ≤ m → S m = 0 := fun m hm => hSz m (by omega)
  have hy : ∀ m, m < n → y_seconds m = nI (S m) := fun m hm => (hrows m hm).2.2
  have hss : ∀ m, m < n → sd m ≤ 1 ∧ y_side m = nI (sd m) := fun m hm => ⟨hsd1 m, (hrows m hm).2.1⟩
  unfold f_X7_keep f_X8_keep
  rw [s_in, ob1_mk]
  rcases two (p := a1) with ⟨q1, q2⟩ | ⟨q1, q2, q3⟩ | ⟨p, hp, rfl, q1, q2, q3⟩
  · rw [if_pos q1, if_neg q2, if_pos rfl]
    exact ⟨_, _, _, _, _, _, _, 0, _, _, rfl, rfl, hR0⟩
  · rw [if_neg q1, if_neg q2, if_neg q3, if_pos rfl]
    exact ⟨_, _, _, _, _, _, _, 0, _, _, rfl, rfl, hR0⟩
  · obtain ⟨u', e, a, b⟩ := s_k18 (s := y_s) hp FU 0 y_kept y_isKept (by omega) (by show 10 - 0 < 20000; omega)
    rw [if_neg q2, if_pos q3, if_pos q1, if_neg n10, ing_nI hp (by omega), bnd_mk, ing_nI hp (by omega), nI_clamp (by omega), bec, bnd_mk, bnd_mk, bnd_mk, bnd_mk, bnd_mk, ← hs8]
    refine ⟨_, _, _, _, _, _, _, 0, _, _, rfl, e, n, w0, sd, S, cold, fur0, coughs, sc, hWf, hC', hM', hs8 ▸ hN', hlot, hPast, hSeen, fun i hi => ?_, htr, hTx⟩
    by_cases z : i = p
    · right
      rw [z, upd_s, upd_s, upd_s, upd_s, upd_s, upd_s, upd_s]
      refine ⟨rfl, rfl, NR_cong (hs8.symm ▸ hN') (fun j hj => a j (by omega) (by omega)), ?_⟩
      rw [a 9 (by omega) (by omega), hlot]
    · rw [upd_n z, upd_n z, upd_n z, upd_n z, upd_n z, upd_n z, upd_n z]
      rcases hImg i hi with h | ⟨h1, h2, h3, h4⟩
      · exact Or.inl h
      · refine Or.inr ⟨h1, h2, NR_cong h3 (fun j hj => b _ (by omega)), ?_⟩
        rw [b _ (by omega), h4]
set_option maxHeartbeats 4000000 in
theorem st_back (x_trace : Int64) (x_text_length : Int32) (x_text_token : Int32) (x_text_number : Int32) (x_text_place : Int32) (x_text_next : Int32) (x_text_toldOnce : Int32) (x_text_bytes : Nat → Int32) (x_parliament_members : Int32) (x_parliament_firstWarmth : Int32) (x_parliament_forMotion : Int32) (x_parliament_cold : Int32) (x_parliament_fur : Int32) (x_parliament_coughs : Int32) (x_parliament_seconds : Int32) (x_parliament_pairs : Int64) (x_draft_members : Int32) (x_draft_firstWarmth : Int32) (x_draft_forMotion : Int32) (x_draft_cold : Int32) (x_draft_fur : Int32) (x_draft_coughs : Int32) (x_draft_seconds : Int32) (x_draft_pairs : Int64) (x_now_warmth : Int32) (x_now_wearer : Int32) (x_now_fur : Int32) (x_now_minutes : Int32) (x_now_lot : Int32) (x_past_known : Int32) (x_past_states_e_warmth : Nat → Int32) (x_past_states_e_wearer : Nat → Int32) (x_past_states_e_fur : Nat → Int32) (x_past_states_e_minutes : Nat → Int32) (x_past_states_e_lot : Nat → Int32) (x_seen_known : Int32) (x_seen_minutes : Nat → Int32) (x_seen_sets : Nat → Int32) (x_images_e_kept : Nat → Int32) (x_images_e_state_warmth : Nat → Int32) (x_images_e_state_wearer : Nat → Int32) (x_images_e_state_fur : Nat → Int32) (x_images_e_state_minutes : Nat → Int32) (x_images_e_state_lot : Nat → Int32) (y_thrown : Int32) (y_trace : Int64) (y_typed : Int32) (y_next : Int32) (y_token : Int32) (y_place : Int32) (y_value : Int32) (y_fault : Int32) (y_members : Int32) (y_pairs : Int32) (y_cold : Int32) (y_fur : Int32) (y_coughs : Int32) (y_draftMembers : Int32) (y_draftPairs : Int32) (y_draftCold : Int32) (y_draftFur : Int32) (y_draftCoughs : Int32) (y_undoMany : Int32) (y_seenMany : Int32) (y_chosen : Int32) (y_text : Nat → Int32) (y_warmth : Nat → Int32) (y_side : Nat → Int32) (y_seconds : Nat → Int32) (y_s : Nat → Int32) (y_kept : Nat → Int32) (y_isKept : Nat → Int32) (y_undos : Nat → Int32) (y_seenAt : Nat → Int32) (y_seen : Nat → Int32) (y_board : Nat → Int32) (y_pick : Nat → Int32) (y_worth : Nat → Int32) (y_best : Nat → Int32) (hR : Rel x_trace x_text_length x_text_token x_text_number x_text_place x_text_next x_text_toldOnce x_text_bytes x_parliament_members x_parliament_firstWarmth x_parliament_forMotion x_parliament_cold x_parliament_fur x_parliament_coughs x_parliament_seconds x_parliament_pairs x_draft_members x_draft_firstWarmth x_draft_forMotion x_draft_cold x_draft_fur x_draft_coughs x_draft_seconds x_draft_pairs x_now_warmth x_now_wearer x_now_fur x_now_minutes x_now_lot x_past_known x_past_states_e_warmth x_past_states_e_wearer x_past_states_e_fur x_past_states_e_minutes x_past_states_e_lot x_seen_known x_seen_minutes x_seen_sets x_images_e_kept x_images_e_state_warmth x_images_e_state_wearer x_images_e_state_fur x_images_e_state_minutes x_images_e_state_lot y_thrown y_trace y_typed y_next y_token y_place y_value y_fault y_members y_pairs y_cold y_fur y_coughs y_draftMembers y_draftPairs y_draftCold y_draftFur y_draftCoughs y_undoMany y_seenMany y_chosen y_text y_warmth y_side y_seconds y_s y_kept y_isKept y_undos y_seenAt y_seen y_board y_pick y_worth y_best) (a1 : Int32) : ∃ (r : Int32) (x_now_warmth1 : Int32) (x_now_wearer1 : Int32) (x_now_fur1 : Int32) (x_now_minutes1 : Int32) (x_now_lot1 : Int32) (x_past_known1 : Int32) (y_thrown1 : Int32) (y_undoMany1 : Int32) (y_s1 : Nat → Int32), f_X7_back x_images_e_kept x_images_e_state_warmth x_images_e_state_wearer x_images_e_state_fur x_images_e_state_minutes x_images_e_state_lot x_now_warmth x_now_wearer x_now_fur x_now_minutes x_now_lot x_past_known a1 = some (r, x_now_warmth1, x_now_wearer1, x_now_fur1, x_now_minutes1, x_now_lot1, x_past_known1) ∧ f_X8_back y_kept y_isKept y_thrown y_undoMany y_s a1 = some (r, y_thrown1, y_undoMany1, y_s1) ∧ Rel x_trace x_text_length x_text_token x_text_number x_text_place x_text_next x_text_toldOnce x_text_bytes x_parliament_members x_parliament_firstWarmth x_parliament_forMotion x_parliament_cold x_parliament_fur x_parliament_coughs x_parliament_seconds x_parliament_pairs x_draft_members x_draft_firstWarmth x_draft_forMotion x_draft_cold x_draft_fur x_draft_coughs x_draft_seconds x_draft_pairs x_now_warmth1 x_now_wearer1 x_now_fur1 x_now_minutes1 x_now_lot1 x_past_known1 x_past_states_e_warmth x_past_states_e_wearer x_past_states_e_fur x_past_states_e_minutes x_past_states_e_lot x_seen_known x_seen_minutes x_seen_sets x_images_e_kept x_images_e_state_warmth x_images_e_state_wearer x_images_e_state_fur x_images_e_state_minutes x_images_e_state_lot y_thrown1 y_trace y_typed y_next y_token y_place y_value y_fault y_members y_pairs y_cold y_fur y_coughs y_draftMembers y_draftPairs y_draftCold y_draftFur y_draftCoughs y_undoMany1 y_seenMany y_chosen y_text y_warmth y_side y_seconds y_s1 y_kept y_isKept y_undos y_seenAt y_seen y_board y_pick y_worth y_best := by
  have hR0 := hR
  obtain ⟨n, w0, sd, S, cold, fur0, coughs, sc, hWf, hC, hM, hN, hlot, hPast, hSeen, hImg, htr, hTx⟩ := hR
  obtain ⟨hn6, hw020, hw0z, hsd1, hsdz, hS64, hSz, hcold, hfur0, hcoughs, hsc⟩ := id hWf
  have hC' := hC
  have hM' := hM
  have hN' := hN
  obtain ⟨rfl, rfl, rfl, rfl, rfl, rfl, rfl, rfl⟩ := hC
  obtain ⟨rfl, rfl, rfl, rfl, rfl, hrows⟩ := hM
  obtain ⟨w, fu, c, hw, hz, hc6, rfl, rfl, hf5, rfl, hrow, hs8⟩ := NR_alt hn6 hN
  have h6 : ∀ m, 6 ≤ m → S m = 0 := fun m hm => hSz m (by omega)
  have hy : ∀ m, m < n → y_seconds m = nI (S m) := fun m hm => (hrows m hm).2.2
  have hss : ∀ m, m < n → sd m ≤ 1 ∧ y_side m = nI (sd m) := fun m hm => ⟨hsd1 m, (hrows m hm).2.1⟩
  unfold f_X7_back f_X8_back
  rw [s_in, ob1_mk]
  rcases two (p := a1) with ⟨q1, q2⟩ | ⟨q1, q2, q3⟩ | ⟨p, hp, rfl, q1, q2, q3⟩
  · rw [if_pos q1, if_neg q2, if_pos rfl]
    exact ⟨_, _, _, _, _, _, _, 0, _, _, rfl, rfl, hR0⟩
  · rw [if_neg q1, if_neg q2, if_neg q3, if_pos rfl]
    exact ⟨_, _, _, _, _, _, _, 0, _, _, rfl, rfl, hR0⟩
  · obtain ⟨s', e, a, b⟩ := s_b30 (u := y_kept) (z := y_isKept) hp y_undoMany FU 0 y_s (by omega) (by show 10 - 0 < 20000; omega)
    rw [if_neg q2, if_pos q3, if_pos q1, if_neg n10, ing_nI hp (by omega), ing_nI hp (by omega), ing_nI hp (by omega), nI_clamp (by omega), bec]
    rcases hImg p hp with ⟨h1, h2⟩ | ⟨h1, h2, h3, h4⟩
    · rw [if_pos h1, if_pos h2]
      exact ⟨_, _, _, _, _, _, _, 0, _, _, rfl, rfl, hR0⟩
    · have hN2 := NR_cong h3 (s' := s') (fun j hj => a j (by omega) (by omega))
      have h8 : s' 8 = x_images_e_state_minutes p := by
        obtain ⟨_, _, _, _, _, _, _, _, _, _, _, e8⟩ := hN2
        exact e8
      rw [if_neg (by rw [h1]; exact n10), if_neg (by rw [h2]; exact n10)]
      rw [h8] at e
      refine ⟨_, _, _, _, _, _, _, 0, _, s', rfl, e, n, w0, sd, S, cold, fur0, coughs, sc, hWf, hC', hM', hN2, ?_, ⟨0, by omega, rfl, rfl, fun i hi => absurd hi (Nat.not_lt_zero i)⟩, hSeen, hImg, htr, hTx⟩
      rw [a 9 (by omega) (by omega), h4]
