theorem ex2 {P : Int32 → Prop} {Q : Int32 → Int32 → Prop} {R : Int32 → Prop} (h : ∃ r, P r ∧ Q r 0) (hR : R 0) : ∃ r t, P r ∧ Q r t ∧ R t := by
  obtain ⟨r, h1, h2⟩ := h
  exact ⟨r, 0, h1, h2, hR⟩
theorem c9 : coatI 6 = -9 := if_neg (by omega)
theorem four {p : Int32} (h : (0 : Int32) ≤ p ∧ p ≤ 3) : p = 0 ∨ p = 1 ∨ p = 2 ∨ p = 3 := by
  obtain ⟨j, hj, rfl⟩ := pos_nI h.1
  have h2 := Int32.le_iff_toInt_le.mp h.2
  rw [nI_toInt hj, show (3 : Int32).toInt = 3 from by decide] at h2
  have : j = 0 ∨ j = 1 ∨ j = 2 ∨ j = 3 := by omega
  rcases this with rfl | rfl | rfl | rfl
  · exact Or.inl rfl
  · exact Or.inr (Or.inl rfl)
  · exact Or.inr (Or.inr (Or.inl rfl))
  · exact Or.inr (Or.inr (Or.inr rfl))
theorem four_no {p : Int32} (h : ¬ ((0 : Int32) ≤ p ∧ p ≤ 3)) : ¬ p = 0 ∧ ¬ p = 1 ∧ ¬ p = 2 ∧ ¬ p = 3 := by
  refine ⟨?_, ?_, ?_, ?_⟩ <;> (intro q; subst q; exact h (by decide))
set_option maxHeartbeats 4000000 in
theorem st_init : Rel 0 0 0 0 0 0 0 ((fun _ => 0)) 0 0 0 1 1 0 0 0 0 0 0 1 1 0 0 0 0 (((-9))) 1 0 1 0 (fun _ => 0) (fun _ => ((-9))) (fun _ => 0) (fun _ => 0) (fun _ => 1) 0 ((fun _ => 0)) ((fun _ => 0)) (fun _ => ((upd (upd (fun _ => 0) 0 0) 1 0) 0)) (fun _ => 0) (fun _ => ((-9))) (fun _ => 0) (fun _ => 0) (fun _ => 1) 0 0 0 0 0 0 0 0 0 0 1 1 0 0 0 0 0 0 0 0 0 ((fun _ => 0)) ((fun _ => 0)) ((fun _ => 0)) ((fun _ => 0)) (((upd (upd (upd (upd (upd (upd (upd (upd (upd ((upd (fun _ => 0) 9 1)) 0 0) 1 0) 2 0) 3 0) 4 0) 5 0) 6 (-9)) 7 1) 8 0))) ((fun _ => 0)) ((fun _ => 0)) ((fun _ => 0)) ((fun _ => 0)) ((fun _ => 0)) ((fun _ => 0)) ((fun _ => 0)) ((fun _ => 0)) ((fun _ => 0)) := by
  refine ⟨0, fun _ => 0, fun _ => 0, fun _ => 0, 1, 1, 0, 0, ?_, ?_, ?_, ?_, ?_, ?_, ?_, ?_, ?_, ?_⟩
  · exact ⟨by omega, fun _ => Nat.zero_le _, fun _ _ => rfl, fun _ => Nat.zero_le _, fun _ _ => rfl, fun _ => Nat.zero_lt_succ _, fun _ _ => rfl, by omega, by omega, by omega, by omega⟩
  · exact ⟨by decide, by decide, by decide, by decide, by decide, by decide, by decide, by decide⟩
  · exact ⟨by decide, by decide, by decide, by decide, by decide, fun m hm => absurd hm (Nat.not_lt_zero m)⟩
  · exact ⟨fun _ => 0, 1, fun _ => Nat.zero_le _, fun _ _ => rfl, by decide, by decide, by decide, Or.inl rfl, by omega, by decide, by decide, by decide⟩
  · decide
  · exact ⟨0, by omega, by decide, by decide, fun i hi => absurd hi (Nat.not_lt_zero i)⟩
  · exact ⟨0, fun _ => 0, fun _ => 0, by omega, by decide, by decide, fun i hi => absurd hi (Nat.not_lt_zero i)⟩
  · intro i _; exact Or.inl ⟨rfl, rfl⟩
  · rfl
  · exact ⟨0, fun _ => 0, by omega, by decide, by decide, fun i hi => absurd hi (Nat.not_lt_zero i)⟩
set_option maxHeartbeats 4000000 in
theorem st_member (x_trace : Int64) (x_text_length : Int32) (x_text_token : Int32) (x_text_number : Int32) (x_text_place : Int32) (x_text_next : Int32) (x_text_toldOnce : Int32) (x_text_bytes : Nat → Int32) (x_parliament_members : Int32) (x_parliament_firstWarmth : Int32) (x_parliament_forMotion : Int32) (x_parliament_cold : Int32) (x_parliament_fur : Int32) (x_parliament_coughs : Int32) (x_parliament_seconds : Int32) (x_parliament_pairs : Int64) (x_draft_members : Int32) (x_draft_firstWarmth : Int32) (x_draft_forMotion : Int32) (x_draft_cold : Int32) (x_draft_fur : Int32) (x_draft_coughs : Int32) (x_draft_seconds : Int32) (x_draft_pairs : Int64) (x_now_warmth : Int32) (x_now_wearer : Int32) (x_now_fur : Int32) (x_now_minutes : Int32) (x_now_lot : Int32) (x_past_known : Int32) (x_past_states_e_warmth : Nat → Int32) (x_past_states_e_wearer : Nat → Int32) (x_past_states_e_fur : Nat → Int32) (x_past_states_e_minutes : Nat → Int32) (x_past_states_e_lot : Nat → Int32) (x_seen_known : Int32) (x_seen_minutes : Nat → Int32) (x_seen_sets : Nat → Int32) (x_images_e_kept : Nat → Int32) (x_images_e_state_warmth : Nat → Int32) (x_images_e_state_wearer : Nat → Int32) (x_images_e_state_fur : Nat → Int32) (x_images_e_state_minutes : Nat → Int32) (x_images_e_state_lot : Nat → Int32) (y_thrown : Int32) (y_trace : Int64) (y_typed : Int32) (y_next : Int32) (y_token : Int32) (y_place : Int32) (y_value : Int32) (y_fault : Int32) (y_members : Int32) (y_pairs : Int32) (y_cold : Int32) (y_fur : Int32) (y_coughs : Int32) (y_draftMembers : Int32) (y_draftPairs : Int32) (y_draftCold : Int32) (y_draftFur : Int32) (y_draftCoughs : Int32) (y_undoMany : Int32) (y_seenMany : Int32) (y_chosen : Int32) (y_text : Nat → Int32) (y_warmth : Nat → Int32) (y_side : Nat → Int32) (y_seconds : Nat → Int32) (y_s : Nat → Int32) (y_kept : Nat → Int32) (y_isKept : Nat → Int32) (y_undos : Nat → Int32) (y_seenAt : Nat → Int32) (y_seen : Nat → Int32) (y_board : Nat → Int32) (y_pick : Nat → Int32) (y_worth : Nat → Int32) (y_best : Nat → Int32) (hR : Rel x_trace x_text_length x_text_token x_text_number x_text_place x_text_next x_text_toldOnce x_text_bytes x_parliament_members x_parliament_firstWarmth x_parliament_forMotion x_parliament_cold x_parliament_fur x_parliament_coughs x_parliament_seconds x_parliament_pairs x_draft_members x_draft_firstWarmth x_draft_forMotion x_draft_cold x_draft_fur x_draft_coughs x_draft_seconds x_draft_pairs x_now_warmth x_now_wearer x_now_fur x_now_minutes x_now_lot x_past_known x_past_states_e_warmth x_past_states_e_wearer x_past_states_e_fur x_past_states_e_minutes x_past_states_e_lot x_seen_known x_seen_minutes x_seen_sets x_images_e_kept x_images_e_state_warmth x_images_e_state_wearer x_images_e_state_fur x_images_e_state_minutes x_images_e_state_lot y_thrown y_trace y_typed y_next y_token y_place y_value y_fault y_members y_pairs y_cold y_fur y_coughs y_draftMembers y_draftPairs y_draftCold y_draftFur y_draftCoughs y_undoMany y_seenMany y_chosen y_text y_warmth y_side y_seconds y_s y_kept y_isKept y_undos y_seenAt y_seen y_board y_pick y_worth y_best) (a1 : Int32) (a2 : Int32) : ∃ (r : Int32) (y_thrown1 : Int32), f_X7_member x_parliament_members x_parliament_forMotion x_parliament_pairs x_now_warmth a1 a2 = some r ∧ f_X8_member y_members y_seconds y_side y_s y_thrown a1 a2 = some (r, y_thrown1) ∧ Rel x_trace x_text_length x_text_token x_text_number x_text_place x_text_next x_text_toldOnce x_text_bytes x_parliament_members x_parliament_firstWarmth x_parliament_forMotion x_parliament_cold x_parliament_fur x_parliament_coughs x_parliament_seconds x_parliament_pairs x_draft_members x_draft_firstWarmth x_draft_forMotion x_draft_cold x_draft_fur x_draft_coughs x_draft_seconds x_draft_pairs x_now_warmth x_now_wearer x_now_fur x_now_minutes x_now_lot x_past_known x_past_states_e_warmth x_past_states_e_wearer x_past_states_e_fur x_past_states_e_minutes x_past_states_e_lot x_seen_known x_seen_minutes x_seen_sets x_images_e_kept x_images_e_state_warmth x_images_e_state_wearer x_images_e_state_fur x_images_e_state_minutes x_images_e_state_lot y_thrown1 y_trace y_typed y_next y_token y_place y_value y_fault y_members y_pairs y_cold y_fur y_coughs y_draftMembers y_draftPairs y_draftCold y_draftFur y_draftCoughs y_undoMany y_seenMany y_chosen y_text y_warmth y_side y_seconds y_s y_kept y_isKept y_undos y_seenAt y_seen y_board y_pick y_worth y_best := by
  have hR0 := hR
  obtain ⟨n, w0, sd, S, cold, fur0, coughs, sc, hWf, hC, hM, hN, hlot, hPast, hSeen, hImg, htr, hTx⟩ := hR
  obtain ⟨hn6, hw020, hw0z, hsd1, hsdz, hS64, hSz, hcold, hfur0, hcoughs, hsc⟩ := id hWf
  have hC' := hC
  have hM' := hM
  have hN' := hN
  obtain ⟨rfl, rfl, rfl, rfl, rfl, rfl, rfl, rfl⟩ := hC
  obtain ⟨rfl, rfl, rfl, rfl, rfl, hrows⟩ := hM
  obtain ⟨w, fu, c, hw, hz, hc6, rfl, rfl, hf5, rfl, hrow, hs8⟩ := NR_alt hn6 hN
  have h6 : ∀ m, 6 ≤ m → S m = 0 := fun m hm => hSz m (by omega)
  have hy : ∀ m, m < n → y_seconds m = nI (S m) := fun m hm => (hrows m hm).2.2
  have hss : ∀ m, m < n → sd m ≤ 1 ∧ y_side m = nI (sd m) := fun m hm => ⟨hsd1 m, (hrows m hm).2.1⟩
  refine ex2 ?_ hR0
  unfold f_X7_member f_X8_member
  obtain ⟨hs1, hs6, hs7⟩ := hrow
  rcases s_has hn6 a1 with ⟨m, hm, rfl, e1, e2⟩ | ⟨e1, e2⟩
  · have hm6 : m < 6 := by omega
    rw [e1, ob1_mk, e2, ob1_mk, if_neg (show ¬ (1 : Int32) = 0 by decide), if_neg (show ¬ (1 : Int32) = 0 by decide), s_in, ob1_mk]
    by_cases q : (0 : Int32) ≤ a2 ∧ a2 ≤ 3
    · rw [if_pos q, if_neg (show ¬ (1 : Int32) = 0 by decide), nI_clamp (by omega), ing_nI (by omega) (by omega), ing_nI (by omega) (by omega), ing_nI (by omega) (by omega), ing_nI (by omega) (by omega), hs1 m hm6, s_warmthOf hw hm6, ob1_mk, s_sideOf hsd1 hm6, ob1_mk, s_isFrozen hw hm6, ob1_mk, ← coatI_lt hm6, s_secondersOf hS64 h6 m, ob1_mk, s_bitCount _ (hS64 m), ob1_mk, hy m hm, (hss m hm).2, s_ones _ (hS64 m), ob1_mk]
      rcases four q with rfl | rfl | rfl | rfl
      · exact ⟨_, if_pos rfl, if_pos rfl⟩
      · exact ⟨_, by rw [if_neg (by decide), if_pos rfl], by rw [if_neg (by decide), if_pos rfl]⟩
      · refine ⟨if w m = 0 then 1 else 0, ?_, ?_⟩
        · rw [if_neg (by decide), if_neg (by decide), if_pos rfl]
          by_cases z : w m = 0
          · rw [if_pos z, if_neg (by decide)]
          · rw [if_neg z, if_pos rfl]
        · rw [if_neg (by decide), if_neg (by decide), if_pos rfl]
          by_cases z : w m = 0
          · rw [if_pos z, if_pos (by rw [z]; rfl)]
          · have := hw m
            rw [if_neg z, if_neg (nI_ne0 (by omega) (by omega))]
      · exact ⟨_, by rw [if_neg (by decide), if_neg (by decide), if_neg (by decide), if_pos rfl], by rw [if_neg (by decide), if_neg (by decide), if_neg (by decide)]⟩
    · obtain ⟨q0, q1, q2, q3⟩ := four_no q
      rw [if_neg q, if_pos rfl, if_neg q0, if_neg q1, if_neg q2, if_neg q3]; exact ⟨_, rfl, rfl⟩
  · rw [e1, ob1_mk, e2, ob1_mk, if_pos rfl, if_pos rfl]; exact ⟨_, rfl, rfl⟩
set_option maxHeartbeats 4000000 in
theorem st_told (x_trace : Int64) (x_text_length : Int32) (x_text_token : Int32) (x_text_number : Int32) (x_text_place : Int32) (x_text_next : Int32) (x_text_toldOnce : Int32) (x_text_bytes : Nat → Int32) (x_parliament_members : Int32) (x_parliament_firstWarmth : Int32) (x_parliament_forMotion : Int32) (x_parliament_cold : Int32) (x_parliament_fur : Int32) (x_parliament_coughs : Int32) (x_parliament_seconds : Int32) (x_parliament_pairs : Int64) (x_draft_members : Int32) (x_draft_firstWarmth : Int32) (x_draft_forMotion : Int32) (x_draft_cold : Int32) (x_draft_fur : Int32) (x_draft_coughs : Int32) (x_draft_seconds : Int32) (x_draft_pairs : Int64) (x_now_warmth : Int32) (x_now_wearer : Int32) (x_now_fur : Int32) (x_now_minutes : Int32) (x_now_lot : Int32) (x_past_known : Int32) (x_past_states_e_warmth : Nat → Int32) (x_past_states_e_wearer : Nat → Int32) (x_past_states_e_fur : Nat → Int32) (x_past_states_e_minutes : Nat → Int32) (x_past_states_e_lot : Nat → Int32) (x_seen_known : Int32) (x_seen_minutes : Nat → Int32) (x_seen_sets : Nat → Int32) (x_images_e_kept : Nat → Int32) (x_images_e_state_warmth : Nat → Int32) (x_images_e_state_wearer : Nat → Int32) (x_images_e_state_fur : Nat → Int32) (x_images_e_state_minutes : Nat → Int32) (x_images_e_state_lot : Nat → Int32) (y_thrown : Int32) (y_trace : Int64) (y_typed : Int32) (y_next : Int32) (y_token : Int32) (y_place : Int32) (y_value : Int32) (y_fault : Int32) (y_members : Int32) (y_pairs : Int32) (y_cold : Int32) (y_fur : Int32) (y_coughs : Int32) (y_draftMembers : Int32) (y_draftPairs : Int32) (y_draftCold : Int32) (y_draftFur : Int32) (y_draftCoughs : Int32) (y_undoMany : Int32) (y_seenMany : Int32) (y_chosen : Int32) (y_text : Nat → Int32) (y_warmth : Nat → Int32) (y_side : Nat → Int32) (y_seconds : Nat → Int32) (y_s : Nat → Int32) (y_kept : Nat → Int32) (y_isKept : Nat → Int32) (y_undos : Nat → Int32) (y_seenAt : Nat → Int32) (y_seen : Nat → Int32) (y_board : Nat → Int32) (y_pick : Nat → Int32) (y_worth : Nat → Int32) (y_best : Nat → Int32) (hR : Rel x_trace x_text_length x_text_token x_text_number x_text_place x_text_next x_text_toldOnce x_text_bytes x_parliament_members x_parliament_firstWarmth x_parliament_forMotion x_parliament_cold x_parliament_fur x_parliament_coughs x_parliament_seconds x_parliament_pairs x_draft_members x_draft_firstWarmth x_draft_forMotion x_draft_cold x_draft_fur x_draft_coughs x_draft_seconds x_draft_pairs x_now_warmth x_now_wearer x_now_fur x_now_minutes x_now_lot x_past_known x_past_states_e_warmth x_past_states_e_wearer x_past_states_e_fur x_past_states_e_minutes x_past_states_e_lot x_seen_known x_seen_minutes x_seen_sets x_images_e_kept x_images_e_state_warmth x_images_e_state_wearer x_images_e_state_fur x_images_e_state_minutes x_images_e_state_lot y_thrown y_trace y_typed y_next y_token y_place y_value y_fault y_members y_pairs y_cold y_fur y_coughs y_draftMembers y_draftPairs y_draftCold y_draftFur y_draftCoughs y_undoMany y_seenMany y_chosen y_text y_warmth y_side y_seconds y_s y_kept y_isKept y_undos y_seenAt y_seen y_board y_pick y_worth y_best) (a1 : Int32) : ∃ (r : Int32) (y_thrown1 : Int32), f_X7_told x_parliament_members x_parliament_cold x_parliament_coughs x_now_warmth x_now_wearer x_now_fur x_now_minutes a1 = some r ∧ f_X8_told y_members y_cold y_coughs y_s y_thrown a1 = some (r, y_thrown1) ∧ Rel x_trace x_text_length x_text_token x_text_number x_text_place x_text_next x_text_toldOnce x_text_bytes x_parliament_members x_parliament_firstWarmth x_parliament_forMotion x_parliament_cold x_parliament_fur x_parliament_coughs x_parliament_seconds x_parliament_pairs x_draft_members x_draft_firstWarmth x_draft_forMotion x_draft_cold x_draft_fur x_draft_coughs x_draft_seconds x_draft_pairs x_now_warmth x_now_wearer x_now_fur x_now_minutes x_now_lot x_past_known x_past_states_e_warmth x_past_states_e_wearer x_past_states_e_fur x_past_states_e_minutes x_past_states_e_lot x_seen_known x_seen_minutes x_seen_sets x_images_e_kept x_images_e_state_warmth x_images_e_state_wearer x_images_e_state_fur x_images_e_state_minutes x_images_e_state_lot y_thrown1 y_trace y_typed y_next y_token y_place y_value y_fault y_members y_pairs y_cold y_fur y_coughs y_draftMembers y_draftPairs y_draftCold y_draftFur y_draftCoughs y_undoMany y_seenMany y_chosen y_text y_warmth y_side y_seconds y_s y_kept y_isKept y_undos y_seenAt y_seen y_board y_pick y_worth y_best := by
  have hR0 := hR
  obtain ⟨n, w0, sd, S, cold, fur0, coughs, sc, hWf, hC, hM, hN, hlot, hPast, hSeen, hImg, htr, hTx⟩ := hR
  obtain ⟨hn6, hw020, hw0z, hsd1, hsdz, hS64, hSz, hcold, hfur0, hcoughs, hsc⟩ := id hWf
  have hC' := hC
  have hM' := hM
  have hN' := hN
  obtain ⟨rfl, rfl, rfl, rfl, rfl, rfl, rfl, rfl⟩ := hC
  obtain ⟨rfl, rfl, rfl, rfl, rfl, hrows⟩ := hM
  obtain ⟨w, fu, c, hw, hz, hc6, rfl, rfl, hf5, rfl, hrow, hs8⟩ := NR_alt hn6 hN
  have h6 : ∀ m, 6 ≤ m → S m = 0 := fun m hm => hSz m (by omega)
  have hy : ∀ m, m < n → y_seconds m = nI (S m) := fun m hm => (hrows m hm).2.2
  have hss : ∀ m, m < n → sd m ≤ 1 ∧ y_side m = nI (sd m) := fun m hm => ⟨hsd1 m, (hrows m hm).2.1⟩
  refine ex2 ?_ hR0
  unfold f_X7_told f_X8_told
  obtain ⟨hs1, hs6, hs7⟩ := hrow
  rw [s_frozen hn6 hw, ob1_mk, s_frozenNow hn6 hw hs1, ob1_mk, ing6, ing7, ing8, cl6, cl7, cl8, hs6, hs7, hs8]
  by_cases q0 : a1 = 0
  · subst q0; exact ⟨_, if_pos rfl, by rw [if_neg (by decide), if_pos rfl]⟩
  by_cases q1 : a1 = 1
  · subst q1; exact ⟨_, by rw [if_neg (by decide), if_pos rfl], by rw [if_neg (by decide), if_neg (by decide), if_pos rfl]⟩
  by_cases q2 : a1 = 2
  · subst q2; exact ⟨_, by rw [if_neg (by decide), if_neg (by decide), if_pos rfl], by rw [if_neg (by decide), if_neg (by decide), if_neg (by decide), if_pos rfl]⟩
  by_cases q3 : a1 = 3
  · subst q3; exact ⟨_, by rw [if_neg (by decide), if_neg (by decide), if_neg (by decide), if_pos rfl], by rw [if_pos (by decide), if_pos rfl]⟩
  by_cases q4 : a1 = 4
  · subst q4; exact ⟨_, by rw [if_neg (by decide), if_neg (by decide), if_neg (by decide), if_neg (by decide), if_pos rfl], by rw [if_pos (by decide), if_neg (by decide), if_pos rfl]⟩
  by_cases q5 : a1 = 5
  · subst q5; exact ⟨_, by rw [if_neg (by decide), if_neg (by decide), if_neg (by decide), if_neg (by decide), if_neg (by decide), if_pos rfl], by rw [if_pos (by decide), if_neg (by decide), if_neg (by decide), if_pos rfl]⟩
  rw [if_neg q0, if_neg q1, if_neg q2, if_neg q3, if_neg q4, if_neg q5, if_neg q3, if_neg q4, if_neg q5, if_neg q0, if_neg q1, if_neg q2]
  exact ⟨_, rfl, by split <;> rfl⟩
set_option maxHeartbeats 4000000 in
theorem st_vote (x_trace : Int64) (x_text_length : Int32) (x_text_token : Int32) (x_text_number : Int32) (x_text_place : Int32) (x_text_next : Int32) (x_text_toldOnce : Int32) (x_text_bytes : Nat → Int32) (x_parliament_members : Int32) (x_parliament_firstWarmth : Int32) (x_parliament_forMotion : Int32) (x_parliament_cold : Int32) (x_parliament_fur : Int32) (x_parliament_coughs : Int32) (x_parliament_seconds : Int32) (x_parliament_pairs : Int64) (x_draft_members : Int32) (x_draft_firstWarmth : Int32) (x_draft_forMotion : Int32) (x_draft_cold : Int32) (x_draft_fur : Int32) (x_draft_coughs : Int32) (x_draft_seconds : Int32) (x_draft_pairs : Int64) (x_now_warmth : Int32) (x_now_wearer : Int32) (x_now_fur : Int32) (x_now_minutes : Int32) (x_now_lot : Int32) (x_past_known : Int32) (x_past_states_e_warmth : Nat → Int32) (x_past_states_e_wearer : Nat → Int32) (x_past_states_e_fur : Nat → Int32) (x_past_states_e_minutes : Nat → Int32) (x_past_states_e_lot : Nat → Int32) (x_seen_known : Int32) (x_seen_minutes : Nat → Int32) (x_seen_sets : Nat → Int32) (x_images_e_kept : Nat → Int32) (x_images_e_state_warmth : Nat → Int32) (x_images_e_state_wearer : Nat → Int32) (x_images_e_state_fur : Nat → Int32) (x_images_e_state_minutes : Nat → Int32) (x_images_e_state_lot : Nat → Int32) (y_thrown : Int32) (y_trace : Int64) (y_typed : Int32) (y_next : Int32) (y_token : Int32) (y_place : Int32) (y_value : Int32) (y_fault : Int32) (y_members : Int32) (y_pairs : Int32) (y_cold : Int32) (y_fur : Int32) (y_coughs : Int32) (y_draftMembers : Int32) (y_draftPairs : Int32) (y_draftCold : Int32) (y_draftFur : Int32) (y_draftCoughs : Int32) (y_undoMany : Int32) (y_seenMany : Int32) (y_chosen : Int32) (y_text : Nat → Int32) (y_warmth : Nat → Int32) (y_side : Nat → Int32) (y_seconds : Nat → Int32) (y_s : Nat → Int32) (y_kept : Nat → Int32) (y_isKept : Nat → Int32) (y_undos : Nat → Int32) (y_seenAt : Nat → Int32) (y_seen : Nat → Int32) (y_board : Nat → Int32) (y_pick : Nat → Int32) (y_worth : Nat → Int32) (y_best : Nat → Int32) (hR : Rel x_trace x_text_length x_text_token x_text_number x_text_place x_text_next x_text_toldOnce x_text_bytes x_parliament_members x_parliament_firstWarmth x_parliament_forMotion x_parliament_cold x_parliament_fur x_parliament_coughs x_parliament_seconds x_parliament_pairs x_draft_members x_draft_firstWarmth x_draft_forMotion x_draft_cold x_draft_fur x_draft_coughs x_draft_seconds x_draft_pairs x_now_warmth x_now_wearer x_now_fur x_now_minutes x_now_lot x_past_known x_past_states_e_warmth x_past_states_e_wearer x_past_states_e_fur x_past_states_e_minutes x_past_states_e_lot x_seen_known x_seen_minutes x_seen_sets x_images_e_kept x_images_e_state_warmth x_images_e_state_wearer x_images_e_state_fur x_images_e_state_minutes x_images_e_state_lot y_thrown y_trace y_typed y_next y_token y_place y_value y_fault y_members y_pairs y_cold y_fur y_coughs y_draftMembers y_draftPairs y_draftCold y_draftFur y_draftCoughs y_undoMany y_seenMany y_chosen y_text y_warmth y_side y_seconds y_s y_kept y_isKept y_undos y_seenAt y_seen y_board y_pick y_worth y_best) : ∃ (r : Int32) (y_thrown1 : Int32) (y_board1 : Nat → Int32), f_X7_vote x_parliament_members x_parliament_forMotion x_now_warmth = some r ∧ f_X8_vote y_members y_side y_s y_thrown y_board = some (r, y_thrown1, y_board1) ∧ Rel x_trace x_text_length x_text_token x_text_number x_text_place x_text_next x_text_toldOnce x_text_bytes x_parliament_members x_parliament_firstWarmth x_parliament_forMotion x_parliament_cold x_parliament_fur x_parliament_coughs x_parliament_seconds x_parliament_pairs x_draft_members x_draft_firstWarmth x_draft_forMotion x_draft_cold x_draft_fur x_draft_coughs x_draft_seconds x_draft_pairs x_now_warmth x_now_wearer x_now_fur x_now_minutes x_now_lot x_past_known x_past_states_e_warmth x_past_states_e_wearer x_past_states_e_fur x_past_states_e_minutes x_past_states_e_lot x_seen_known x_seen_minutes x_seen_sets x_images_e_kept x_images_e_state_warmth x_images_e_state_wearer x_images_e_state_fur x_images_e_state_minutes x_images_e_state_lot y_thrown1 y_trace y_typed y_next y_token y_place y_value y_fault y_members y_pairs y_cold y_fur y_coughs y_draftMembers y_draftPairs y_draftCold y_draftFur y_draftCoughs y_undoMany y_seenMany y_chosen y_text y_warmth y_side y_seconds y_s y_kept y_isKept y_undos y_seenAt y_seen y_board1 y_pick y_worth y_best := by
  have hR0 := hR
  obtain ⟨n, w0, sd, S, cold, fur0, coughs, sc, hWf, hC, hM, hN, hlot, hPast, hSeen, hImg, htr, hTx⟩ := hR
  obtain ⟨hn6, hw020, hw0z, hsd1, hsdz, hS64, hSz, hcold, hfur0, hcoughs, hsc⟩ := id hWf
  have hC' := hC
  have hM' := hM
  have hN' := hN
  obtain ⟨rfl, rfl, rfl, rfl, rfl, rfl, rfl, rfl⟩ := hC
  obtain ⟨rfl, rfl, rfl, rfl, rfl, hrows⟩ := hM
  obtain ⟨w, fu, c, hw, hz, hc6, rfl, rfl, hf5, rfl, hrow, hs8⟩ := NR_alt hn6 hN
  have h6 : ∀ m, 6 ≤ m → S m = 0 := fun m hm => hSz m (by omega)
  have hy : ∀ m, m < n → y_seconds m = nI (S m) := fun m hm => (hrows m hm).2.2
  have hss : ∀ m, m < n → sd m ≤ 1 ∧ y_side m = nI (sd m) := fun m hm => ⟨hsd1 m, (hrows m hm).2.1⟩
  unfold f_X7_vote f_X8_vote
  obtain ⟨hs1, hs6, hs7⟩ := hrow
  obtain ⟨b', e1, hb⟩ := s_setsBoard y_s y_board
  have hbm : ∀ m, m < 6 → b' (0 + m) = nI (w m) := fun m hm => by rw [Nat.zero_add, hb m (by omega), hs1 m hm]
  rw [s_isCarried hn6 hw hsd1, ob1_mk, e1, ob1_mk, show (0 : Int32) = nI 0 from rfl, s_lead hn6 hw hss (by omega) hbm, ob1_mk]
  by_cases q : 0 < sI (vt w sd) n
  · refine ⟨1, 0, b', ?_, ?_, hR0⟩
    · rw [if_pos q, if_neg (by decide)]
    · exact if_neg (fun h => (lead_le hn6).mp h q)
  · refine ⟨0, 0, b', ?_, ?_, hR0⟩
    · rw [if_neg q]; exact if_pos rfl
    · exact if_pos ((lead_le hn6).mpr q)
set_option maxHeartbeats 4000000 in
theorem st_carry (x_trace : Int64) (x_text_length : Int32) (x_text_token : Int32) (x_text_number : Int32) (x_text_place : Int32) (x_text_next : Int32) (x_text_toldOnce : Int32) (x_text_bytes : Nat → Int32) (x_parliament_members : Int32) (x_parliament_firstWarmth : Int32) (x_parliament_forMotion : Int32) (x_parliament_cold : Int32) (x_parliament_fur : Int32) (x_parliament_coughs : Int32) (x_parliament_seconds : Int32) (x_parliament_pairs : Int64) (x_draft_members : Int32) (x_draft_firstWarmth : Int32) (x_draft_forMotion : Int32) (x_draft_cold : Int32) (x_draft_fur : Int32) (x_draft_coughs : Int32) (x_draft_seconds : Int32) (x_draft_pairs : Int64) (x_now_warmth : Int32) (x_now_wearer : Int32) (x_now_fur : Int32) (x_now_minutes : Int32) (x_now_lot : Int32) (x_past_known : Int32) (x_past_states_e_warmth : Nat → Int32) (x_past_states_e_wearer : Nat → Int32) (x_past_states_e_fur : Nat → Int32) (x_past_states_e_minutes : Nat → Int32) (x_past_states_e_lot : Nat → Int32) (x_seen_known : Int32) (x_seen_minutes : Nat → Int32) (x_seen_sets : Nat → Int32) (x_images_e_kept : Nat → Int32) (x_images_e_state_warmth : Nat → Int32) (x_images_e_state_wearer : Nat → Int32) (x_images_e_state_fur : Nat → Int32) (x_images_e_state_minutes : Nat → Int32) (x_images_e_state_lot : Nat → Int32) (y_thrown : Int32) (y_trace : Int64) (y_typed : Int32) (y_next : Int32) (y_token : Int32) (y_place : Int32) (y_value : Int32) (y_fault : Int32) (y_members : Int32) (y_pairs : Int32) (y_cold : Int32) (y_fur : Int32) (y_coughs : Int32) (y_draftMembers : Int32) (y_draftPairs : Int32) (y_draftCold : Int32) (y_draftFur : Int32) (y_draftCoughs : Int32) (y_undoMany : Int32) (y_seenMany : Int32) (y_chosen : Int32) (y_text : Nat → Int32) (y_warmth : Nat → Int32) (y_side : Nat → Int32) (y_seconds : Nat → Int32) (y_s : Nat → Int32) (y_kept : Nat → Int32) (y_isKept : Nat → Int32) (y_undos : Nat → Int32) (y_seenAt : Nat → Int32) (y_seen : Nat → Int32) (y_board : Nat → Int32) (y_pick : Nat → Int32) (y_worth : Nat → Int32) (y_best : Nat → Int32) (hR : Rel x_trace x_text_length x_text_token x_text_number x_text_place x_text_next x_text_toldOnce x_text_bytes x_parliament_members x_parliament_firstWarmth x_parliament_forMotion x_parliament_cold x_parliament_fur x_parliament_coughs x_parliament_seconds x_parliament_pairs x_draft_members x_draft_firstWarmth x_draft_forMotion x_draft_cold x_draft_fur x_draft_coughs x_draft_seconds x_draft_pairs x_now_warmth x_now_wearer x_now_fur x_now_minutes x_now_lot x_past_known x_past_states_e_warmth x_past_states_e_wearer x_past_states_e_fur x_past_states_e_minutes x_past_states_e_lot x_seen_known x_seen_minutes x_seen_sets x_images_e_kept x_images_e_state_warmth x_images_e_state_wearer x_images_e_state_fur x_images_e_state_minutes x_images_e_state_lot y_thrown y_trace y_typed y_next y_token y_place y_value y_fault y_members y_pairs y_cold y_fur y_coughs y_draftMembers y_draftPairs y_draftCold y_draftFur y_draftCoughs y_undoMany y_seenMany y_chosen y_text y_warmth y_side y_seconds y_s y_kept y_isKept y_undos y_seenAt y_seen y_board y_pick y_worth y_best) (a1 : Int32) : ∃ (r : Int32) (y_thrown1 : Int32) (y_board1 : Nat → Int32) (y_pick1 : Nat → Int32) (y_best1 : Nat → Int32), f_X7_carry x_parliament_members x_parliament_forMotion x_parliament_cold x_parliament_pairs x_now_warmth x_now_fur a1 = some r ∧ f_X8_carry y_members y_cold y_seconds y_side y_s y_thrown y_board y_pick y_best a1 = some (r, y_thrown1, y_board1, y_pick1, y_best1) ∧ Rel x_trace x_text_length x_text_token x_text_number x_text_place x_text_next x_text_toldOnce x_text_bytes x_parliament_members x_parliament_firstWarmth x_parliament_forMotion x_parliament_cold x_parliament_fur x_parliament_coughs x_parliament_seconds x_parliament_pairs x_draft_members x_draft_firstWarmth x_draft_forMotion x_draft_cold x_draft_fur x_draft_coughs x_draft_seconds x_draft_pairs x_now_warmth x_now_wearer x_now_fur x_now_minutes x_now_lot x_past_known x_past_states_e_warmth x_past_states_e_wearer x_past_states_e_fur x_past_states_e_minutes x_past_states_e_lot x_seen_known x_seen_minutes x_seen_sets x_images_e_kept x_images_e_state_warmth x_images_e_state_wearer x_images_e_state_fur x_images_e_state_minutes x_images_e_state_lot y_thrown1 y_trace y_typed y_next y_token y_place y_value y_fault y_members y_pairs y_cold y_fur y_coughs y_draftMembers y_draftPairs y_draftCold y_draftFur y_draftCoughs y_undoMany y_seenMany y_chosen y_text y_warmth y_side y_seconds y_s y_kept y_isKept y_undos y_seenAt y_seen y_board1 y_pick1 y_worth y_best1 := by
  have hR0 := hR
  obtain ⟨n, w0, sd, S, cold, fur0, coughs, sc, hWf, hC, hM, hN, hlot, hPast, hSeen, hImg, htr, hTx⟩ := hR
  obtain ⟨hn6, hw020, hw0z, hsd1, hsdz, hS64, hSz, hcold, hfur0, hcoughs, hsc⟩ := id hWf
  have hC' := hC
  have hM' := hM
  have hN' := hN
  obtain ⟨rfl, rfl, rfl, rfl, rfl, rfl, rfl, rfl⟩ := hC
  obtain ⟨rfl, rfl, rfl, rfl, rfl, hrows⟩ := hM
  obtain ⟨w, fu, c, hw, hz, hc6, rfl, rfl, hf5, rfl, hrow, hs8⟩ := NR_alt hn6 hN
  have h6 : ∀ m, 6 ≤ m → S m = 0 := fun m hm => hSz m (by omega)
  have hy : ∀ m, m < n → y_seconds m = nI (S m) := fun m hm => (hrows m hm).2.2
  have hss : ∀ m, m < n → sd m ≤ 1 ∧ y_side m = nI (sd m) := fun m hm => ⟨hsd1 m, (hrows m hm).2.1⟩
  obtain ⟨r1, e1, b1⟩ := s_fewest (wo := 6) hn6 hcold hS64 h6 hsd1 hf5 hw hz
  obtain ⟨r2, bo, pi, be, e2, b2, hd⟩ := s_carriedBy (sd := sd) (wo := 6) hn6 hcold hS64 h6 hy hss hf5 hw hz hrow y_board y_pick y_best
  obtain rfl := CB_one b1 b2
  rw [c9] at e1 e2
  unfold f_X7_carry f_X8_carry f_X8_carry_29
  rw [e1, ob1_mk, e2, ob4_mk]
  by_cases g : (-1 : Int32) ≤ a1
  · rw [if_pos g, if_pos g]
    rcases b1 with ⟨k, hk, rfl, hex, hno⟩ | ⟨rfl, hno⟩
    · rw [if_neg (nI_ne9 (by omega)), if_neg (nI_ne9 (by omega))]
      rcases m1_le g with rfl | g0
      · exact ⟨_, 0, bo, pi, be, if_pos rfl, if_neg (by decide), hR0⟩
      · obtain ⟨i, hi, rfl⟩ := pos_nI g0
        rw [if_neg (fun h => by have := congrArg Int32.toInt h; rw [nI_toInt hi] at this; exact absurd this (by rw [show (-1 : Int32).toInt = -1 from by decide]; omega)), if_pos g0]
        rcases Nat.lt_or_ge i k with ik | ik
        · obtain ⟨r, hr, hg, hfirst, hbe⟩ := hd k hk rfl
          obtain ⟨res, e3, hcr⟩ := s_carrying (wo := 6) (sd := sd) hn6 hcold hS64 h6 hsd1 hf5 k hk 8 w (by omega) hw hz
          rw [c9] at e3
          have er : res = nI (enc (pln n k r)) := by
            rcases hcr with ⟨r', hr', hg', hf', rfl⟩ | ⟨hno', _⟩
            · rcases Nat.lt_trichotomy r' r with h | h | h
              · exact absurd hg' (hfirst r' h)
              · rw [h]
              · exact absurd hg (hf' r h)
            · exact absurd hg (hno' r hr)
          have hsp := s_speaker hn6 hk hr ik 0
          rw [Nat.zero_mul, Nat.zero_add] at hsp
          have hsp' : f_X4_speaker (nI i) (nI (enc (pln n k r))) = some (nI ((pln n k r).getD i 0)) := by
            rcases hsp with h | h
            · exact h
            · have := enc_pln hn6 hk hr; omega
          refine ⟨nI ((pln n k r).getD i 0), 0, bo, pi, be, ?_, ?_, hR0⟩
          · have hlt : nI i < nI k := by rw [Int32.lt_iff_toInt_lt, nI_toInt hi, nI_toInt (show k < 2 ^ 31 by omega)]; omega
            rw [if_pos hlt]
            unfold f_X4_firstToCarry
            rw [e3, ob1_mk, ob1_mk, er, hsp', ob1_mk]
          · rw [if_neg (nI_ge ik (by omega)), ing_nI (by omega) (by omega), nI_clamp hi, hbe i ik]
        · exact ⟨_, 0, bo, pi, be, if_neg (by rw [nlt_le]; exact nI_le ik hi), if_pos (nI_le ik hi), hR0⟩
    · refine ⟨-9, 0, bo, pi, be, ?_, if_pos rfl, hR0⟩
      by_cases z : a1 = -1
      · rw [if_pos z]
      · rw [if_neg z, if_pos rfl]
  · rw [if_neg g, if_neg g]
    exact ⟨-1, 0, y_board, y_pick, y_best, rfl, rfl, hR0⟩
set_option maxHeartbeats 4000000 in
theorem st_worth (x_trace : Int64) (x_text_length : Int32) (x_text_token : Int32) (x_text_number : Int32) (x_text_place : Int32) (x_text_next : Int32) (x_text_toldOnce : Int32) (x_text_bytes : Nat → Int32) (x_parliament_members : Int32) (x_parliament_firstWarmth : Int32) (x_parliament_forMotion : Int32) (x_parliament_cold : Int32) (x_parliament_fur : Int32) (x_parliament_coughs : Int32) (x_parliament_seconds : Int32) (x_parliament_pairs : Int64) (x_draft_members : Int32) (x_draft_firstWarmth : Int32) (x_draft_forMotion : Int32) (x_draft_cold : Int32) (x_draft_fur : Int32) (x_draft_coughs : Int32) (x_draft_seconds : Int32) (x_draft_pairs : Int64) (x_now_warmth : Int32) (x_now_wearer : Int32) (x_now_fur : Int32) (x_now_minutes : Int32) (x_now_lot : Int32) (x_past_known : Int32) (x_past_states_e_warmth : Nat → Int32) (x_past_states_e_wearer : Nat → Int32) (x_past_states_e_fur : Nat → Int32) (x_past_states_e_minutes : Nat → Int32) (x_past_states_e_lot : Nat → Int32) (x_seen_known : Int32) (x_seen_minutes : Nat → Int32) (x_seen_sets : Nat → Int32) (x_images_e_kept : Nat → Int32) (x_images_e_state_warmth : Nat → Int32) (x_images_e_state_wearer : Nat → Int32) (x_images_e_state_fur : Nat → Int32) (x_images_e_state_minutes : Nat → Int32) (x_images_e_state_lot : Nat → Int32) (y_thrown : Int32) (y_trace : Int64) (y_typed : Int32) (y_next : Int32) (y_token : Int32) (y_place : Int32) (y_value : Int32) (y_fault : Int32) (y_members : Int32) (y_pairs : Int32) (y_cold : Int32) (y_fur : Int32) (y_coughs : Int32) (y_draftMembers : Int32) (y_draftPairs : Int32) (y_draftCold : Int32) (y_draftFur : Int32) (y_draftCoughs : Int32) (y_undoMany : Int32) (y_seenMany : Int32) (y_chosen : Int32) (y_text : Nat → Int32) (y_warmth : Nat → Int32) (y_side : Nat → Int32) (y_seconds : Nat → Int32) (y_s : Nat → Int32) (y_kept : Nat → Int32) (y_isKept : Nat → Int32) (y_undos : Nat → Int32) (y_seenAt : Nat → Int32) (y_seen : Nat → Int32) (y_board : Nat → Int32) (y_pick : Nat → Int32) (y_worth : Nat → Int32) (y_best : Nat → Int32) (hR : Rel x_trace x_text_length x_text_token x_text_number x_text_place x_text_next x_text_toldOnce x_text_bytes x_parliament_members x_parliament_firstWarmth x_parliament_forMotion x_parliament_cold x_parliament_fur x_parliament_coughs x_parliament_seconds x_parliament_pairs x_draft_members x_draft_firstWarmth x_draft_forMotion x_draft_cold x_draft_fur x_draft_coughs x_draft_seconds x_draft_pairs x_now_warmth x_now_wearer x_now_fur x_now_minutes x_now_lot x_past_known x_past_states_e_warmth x_past_states_e_wearer x_past_states_e_fur x_past_states_e_minutes x_past_states_e_lot x_seen_known x_seen_minutes x_seen_sets x_images_e_kept x_images_e_state_warmth x_images_e_state_wearer x_images_e_state_fur x_images_e_state_minutes x_images_e_state_lot y_thrown y_trace y_typed y_next y_token y_place y_value y_fault y_members y_pairs y_cold y_fur y_coughs y_draftMembers y_draftPairs y_draftCold y_draftFur y_draftCoughs y_undoMany y_seenMany y_chosen y_text y_warmth y_side y_seconds y_s y_kept y_isKept y_undos y_seenAt y_seen y_board y_pick y_worth y_best) (a1 : Int32) : ∃ (r : Int32) (y_thrown1 : Int32) (y_board1 : Nat → Int32) (y_pick1 : Nat → Int32) (y_best1 : Nat → Int32), f_X7_worth x_parliament_members x_parliament_forMotion x_parliament_cold x_parliament_pairs x_now_warmth x_now_fur a1 = some r ∧ f_X8_worth y_members y_cold y_seconds y_side y_s y_thrown y_board y_pick y_best a1 = some (r, y_thrown1, y_board1, y_pick1, y_best1) ∧ Rel x_trace x_text_length x_text_token x_text_number x_text_place x_text_next x_text_toldOnce x_text_bytes x_parliament_members x_parliament_firstWarmth x_parliament_forMotion x_parliament_cold x_parliament_fur x_parliament_coughs x_parliament_seconds x_parliament_pairs x_draft_members x_draft_firstWarmth x_draft_forMotion x_draft_cold x_draft_fur x_draft_coughs x_draft_seconds x_draft_pairs x_now_warmth x_now_wearer x_now_fur x_now_minutes x_now_lot x_past_known x_past_states_e_warmth x_past_states_e_wearer x_past_states_e_fur x_past_states_e_minutes x_past_states_e_lot x_seen_known x_seen_minutes x_seen_sets x_images_e_kept x_images_e_state_warmth x_images_e_state_wearer x_images_e_state_fur x_images_e_state_minutes x_images_e_state_lot y_thrown1 y_trace y_typed y_next y_token y_place y_value y_fault y_members y_pairs y_cold y_fur y_coughs y_draftMembers y_draftPairs y_draftCold y_draftFur y_draftCoughs y_undoMany y_seenMany y_chosen y_text y_warmth y_side y_seconds y_s y_kept y_isKept y_undos y_seenAt y_seen y_board1 y_pick1 y_worth y_best1 := by
  have hR0 := hR
  obtain ⟨n, w0, sd, S, cold, fur0, coughs, sc, hWf, hC, hM, hN, hlot, hPast, hSeen, hImg, htr, hTx⟩ := hR
  obtain ⟨hn6, hw020, hw0z, hsd1, hsdz, hS64, hSz, hcold, hfur0, hcoughs, hsc⟩ := id hWf
  have hC' := hC
  have hM' := hM
  have hN' := hN
  obtain ⟨rfl, rfl, rfl, rfl, rfl, rfl, rfl, rfl⟩ := hC
  obtain ⟨rfl, rfl, rfl, rfl, rfl, hrows⟩ := hM
  obtain ⟨w, fu, c, hw, hz, hc6, rfl, rfl, hf5, rfl, hrow, hs8⟩ := NR_alt hn6 hN
  have h6 : ∀ m, 6 ≤ m → S m = 0 := fun m hm => hSz m (by omega)
  have hy : ∀ m, m < n → y_seconds m = nI (S m) := fun m hm => (hrows m hm).2.2
  have hss : ∀ m, m < n → sd m ≤ 1 ∧ y_side m = nI (sd m) := fun m hm => ⟨hsd1 m, (hrows m hm).2.1⟩
  unfold f_X7_worth f_X8_worth
  rcases s_has hn6 a1 with ⟨m, hm, rfl, q1, q2⟩ | ⟨q1, q2⟩
  · obtain ⟨r1, e1, b1⟩ := s_fewest (wo := 6) hn6 hcold hS64 h6 hsd1 hf5 hw hz
    obtain ⟨r2, bo, pi, be, e2, b2, hd⟩ := s_carriedBy (sd := sd) (wo := 6) hn6 hcold hS64 h6 hy hss hf5 hw hz hrow y_board y_pick y_best
    obtain rfl := CB_one b1 b2
    obtain ⟨r3, e3, b3⟩ := s_fewest (wo := m) hn6 hcold hS64 h6 hsd1 hf5 hw hz
    obtain ⟨r4, bo', pi', be', e4, b4, hd'⟩ := s_carriedBy (sd := sd) (wo := m) hn6 hcold hS64 h6 hy hss hf5 hw hz hrow bo pi be
    obtain rfl := CB_one b3 b4
    rw [c9] at e1 e2
    rw [coatI_lt (by omega)] at e3 e4
    rw [q1, ob1_mk, q2, ob1_mk, if_neg (show ¬ (1 : Int32) = 0 by decide), if_neg (show ¬ (1 : Int32) = 0 by decide), e1, ob1_mk, e2, ob4_mk, e3, ob1_mk, e4, ob4_mk]
    by_cases z : r1 = -9
    · rw [if_pos z, if_pos z]; exact ⟨_, 0, _, _, _, rfl, rfl, hR0⟩
    · rw [if_neg z, if_neg z]
      by_cases z' : r3 = -9
      · rw [if_pos z', if_pos z']; exact ⟨_, 0, _, _, _, rfl, rfl, hR0⟩
      · rw [if_neg z', if_neg z']; exact ⟨_, 0, _, _, _, rfl, rfl, hR0⟩
  · rw [q1, ob1_mk, q2, ob1_mk, if_pos rfl, if_pos rfl]; exact ⟨_, 0, _, _, _, rfl, rfl, hR0⟩
