section
variable {n cold fu : Nat} {S sd : Nat → Nat}
theorem gw_iff {k : Nat} {w : Nat → Nat} {s m : Nat} : gw n cold S fu sd k w s m = true ↔ opb sd w s m = true ∧ gv n cold S fu sd k (aft cold S w m fu) m (1 - s) = s := by
  unfold gw; rw [Bool.and_eq_true, beq_iff_eq]
theorem IT_le {k : Nat} (h : k ≤ 5) : IT k + 1 ≤ FU := by
  rcases (show k = 0 ∨ k = 1 ∨ k = 2 ∨ k = 3 ∨ k = 4 ∨ k = 5 by omega) with rfl | rfl | rfl | rfl | rfl | rfl <;> exact Nat.le_of_ble_eq_true rfl
theorem s_isWon (hn : n ≤ 6) (hc : cold ≤ 5) (hS : ∀ m, S m < 64) (h6 : ∀ m, 6 ≤ m → S m = 0) (hs : ∀ m, sd m ≤ 1) (hf : fu ≤ 5) {K : Nat} (hK : K ≤ 5) {w : Nat → Nat} (hw : ∀ m, w m ≤ 20) (hz : ∀ m, n ≤ m → w m = 0) (c : Nat) : f_X4_isWon (nI n) (nI (pk sd 2 6)) (nI cold) (lN (pk S 64 6)) (nI (pk w 32 6)) (coatI c) (nI fu) (nI K) = some (nI (gv n cold S fu sd K w c 1)) := by
  unfold f_X4_isWon
  have e : f_X4_winning 8 (nI n) (nI (pk sd 2 6)) (nI cold) (lN (pk S 64 6)) (nI (pk w 32 6)) (coatI c) (nI fu) 1 (nI K) = some (nI (gv n cold S fu sd K w c 1)) := s_winning hn hc hS h6 hs hf K hK 8 w c 1 (by omega) (by omega) hw hz
  rw [e, ob1_mk, zbg_nI (gv_le K w c 1 (by omega))]
theorem s_playedBy (hn : n ≤ 6) (hc : cold ≤ 5) (hS : ∀ m, S m < 64) (h6 : ∀ m, 6 ≤ m → S m = 0) (hf : fu ≤ 5) {yq ys s : Nat → Int32} (hy : ∀ m, m < n → yq m = nI (S m)) (hss : ∀ m, m < n → sd m ≤ 1 ∧ ys m = nI (sd m)) {K : Nat} (hK : K ≤ 5) {w : Nat → Nat} (hw : ∀ m, w m ≤ 20) (hz : ∀ m, n ≤ m → w m = 0) {c : Nat} (hc6 : c = 6 ∨ c < n) (hrow : SRow s w c fu) (ch0 : Int32) (b pi wo : Nat → Int32) : ∃ ch b' pi' wo', f_X8_playedBy (nI n) (nI cold) yq ys s ch0 b pi wo (nI K) = some (nI (gv n cold S fu sd K w c 1), ch, b', pi', wo') ∧ NC n cold S fu sd K 0 w c (-9) ch := by
  unfold f_X8_playedBy
  obtain ⟨b0, e3, hb⟩ := s_setsBoard s b
  have hb0 : BRow b0 0 w c := ⟨fun m hm => by rw [Nat.mul_zero, Nat.zero_add, hb m (by omega)]; exact hrow.1 m hm, by rw [Nat.mul_zero, Nat.zero_add, hb 6 (by omega)]; exact hrow.2.1⟩
  rw [e3, ob1_mk]
  have hIT := IT_le hK
  have fin : ∀ pi1 wo1 : Nat → Int32, (0 < K → pi1 0 = -1 ∧ wo1 0 = nI (0 % 2)) → ∃ ch b' pi' wo', f_X8_playedBy_23 (nI n) (nI cold) yq ys s FU (nI K) 0 0 (-9) b0 pi1 wo1 = some (nI (gv n cold S fu sd K w c 1), ch, b', pi', wo') ∧ NC n cold S fu sd K 0 w c (-9) ch := by
    intro pi1 wo1 h
    obtain ⟨fuel', ch', b', pi', wo', g1, g2, g3, g4, g5, g6⟩ := s_node hn hc hS h6 hf hy hss hrow.2.2 hK K 0 (by omega) FU w c 0 (-9) b0 pi1 wo1 (by omega) hw hz hc6 hb0 h
    obtain ⟨f, rfl⟩ : ∃ f, fuel' = f + 1 := ⟨fuel' - 1, by omega⟩
    refine ⟨ch', b', pi', wo', ?_, g6⟩
    refine Eq.trans (show f_X8_playedBy_23 (nI n) (nI cold) yq ys s FU (nI K) 0 0 (-9) b0 pi1 wo1 = _ from g2) ?_
    unfold f_X8_playedBy_87 f_X8_playedBy_150
    have e5 : f_X8_folds pi' ch' wo' (nI 0 + (-1)) (nI (gv n cold S fu sd K w c (1 - 0 % 2))) = some (ch', wo') := by
      unfold f_X8_folds f_X8_folds_55
      rw [if_pos (show nI 0 + (-1) < 0 by decide), if_pos (show nI 0 + (-1) < 0 by decide)]
    rw [bnd_mk, e5, ob2_mk]
    show f_X8_playedBy_23_b _ _ _ _ _ (f_X8_playedBy_23 (nI n) (nI cold) yq ys s f) _ _ _ _ _ _ _ = _
    unfold f_X8_playedBy_23_b
    rw [if_pos (show nI 0 + (-1) < 0 by decide)]
  by_cases hK0 : K = 0
  · subst hK0
    rw [if_pos (show nI 0 ≤ 0 by decide)]
    exact fin pi wo (fun h => by omega)
  · rw [if_neg (nI_nle (by omega) (by omega))]
    have e6 : f_X8_opens pi wo 0 = some (upd pi 0 (-1), upd wo 0 (nI (0 % 2))) := s_opens (d := 0) (by omega) pi wo
    rw [e6, ob2_mk]
    exact fin _ _ (fun _ => ⟨upd_s, upd_s⟩)
theorem s_first (hn : n ≤ 6) (hc : cold ≤ 5) (hS : ∀ m, S m < 64) (h6 : ∀ m, 6 ≤ m → S m = 0) (hs : ∀ m, sd m ≤ 1) (hf : fu ≤ 5) {K : Nat} (hK : K ≤ 5) {w : Nat → Nat} (hw : ∀ m, w m ≤ 20) (hz : ∀ m, n ≤ m → w m = 0) {c : Nat} {ch : Int32} (h : NC n cold S fu sd K 0 w c (-9) ch) : f_X4_firstToWin (nI n) (nI (pk sd 2 6)) (nI cold) (lN (pk S 64 6)) (nI (pk w 32 6)) (nI fu) (nI K) = some (if ch = 6 then -9 else ch) := by
  cases K with
  | zero =>
    have h : ch = -9 := h
    subst h
    unfold f_X4_firstToWin
    rw [if_neg (show ¬ (0 : Int32) < nI 0 by decide), if_neg (show ¬ (-9 : Int32) = 6 by decide)]
  | succ k =>
    obtain ⟨res, e, hr⟩ := s_firstToWin hn hc hS h6 hs hf hK hw hz
    rw [e]
    refine congrArg some ?_
    rcases h.2 rfl with ⟨hB, hco⟩ | ⟨hB, hch⟩
    · rcases hr with ⟨rfl, hno⟩ | ⟨m, hm, rfl, ho, hg, hfirst⟩
      · rcases hco with ⟨_, rfl⟩ | ⟨m, hm, hgw, _⟩
        · rw [if_neg (show ¬ (-9 : Int32) = 6 by decide)]
        · obtain ⟨g1, g2⟩ := gw_iff.mp hgw
          exact absurd g2 (hno m hm g1)
      · have hgm : gw n cold S fu sd k w 1 m = true := gw_iff.mpr ⟨ho, hg⟩
        rcases hco with ⟨hno, _⟩ | ⟨m', hm', hgw, hf', rfl⟩
        · rw [anyB_no hno hm] at hgm; exact Bool.noConfusion hgm
        · obtain ⟨g1, g2⟩ := gw_iff.mp hgw
          have : m' = m := by
            rcases Nat.lt_trichotomy m' m with t | t | t
            · exact absurd g2 (hfirst m' t g1)
            · exact t
            · rw [hf' m t] at hgm; exact Bool.noConfusion hgm
          subst this
          rw [if_neg (show ¬ nI m' = 6 from fun h => by have := (nI_eq (b := 6) (show m' < 2 ^ 31 by omega) (by omega)).mp h; omega)]
    · rcases hr with ⟨rfl, hno⟩ | ⟨m, hm, rfl, ho, hg, hfirst⟩
      · rw [hch]
        by_cases e : gv n cold S fu sd k (aft cold S w c fu) c 0 = 1
        · rw [if_pos e, if_pos rfl]
        · rw [if_neg e, if_neg (show ¬ (-9 : Int32) = 6 by decide)]
      · rw [anyB_no hB hm] at ho; exact Bool.noConfusion ho
end
set_option maxHeartbeats 4000000 in
theorem st_game (x_trace : Int64) (x_text_length : Int32) (x_text_token : Int32) (x_text_number : Int32) (x_text_place : Int32) (x_text_next : Int32) (x_text_toldOnce : Int32) (x_text_bytes : Nat → Int32) (x_parliament_members : Int32) (x_parliament_firstWarmth : Int32) (x_parliament_forMotion : Int32) (x_parliament_cold : Int32) (x_parliament_fur : Int32) (x_parliament_coughs : Int32) (x_parliament_seconds : Int32) (x_parliament_pairs : Int64) (x_draft_members : Int32) (x_draft_firstWarmth : Int32) (x_draft_forMotion : Int32) (x_draft_cold : Int32) (x_draft_fur : Int32) (x_draft_coughs : Int32) (x_draft_seconds : Int32) (x_draft_pairs : Int64) (x_now_warmth : Int32) (x_now_wearer : Int32) (x_now_fur : Int32) (x_now_minutes : Int32) (x_now_lot : Int32) (x_past_known : Int32) (x_past_states_e_warmth : Nat → Int32) (x_past_states_e_wearer : Nat → Int32) (x_past_states_e_fur : Nat → Int32) (x_past_states_e_minutes : Nat → Int32) (x_past_states_e_lot : Nat → Int32) (x_seen_known : Int32) (x_seen_minutes : Nat → Int32) (x_seen_sets : Nat → Int32) (x_images_e_kept : Nat → Int32) (x_images_e_state_warmth : Nat → Int32) (x_images_e_state_wearer : Nat → Int32) (x_images_e_state_fur : Nat → Int32) (x_images_e_state_minutes : Nat → Int32) (x_images_e_state_lot : Nat → Int32) (y_thrown : Int32) (y_trace : Int64) (y_typed : Int32) (y_next : Int32) (y_token : Int32) (y_place : Int32) (y_value : Int32) (y_fault : Int32) (y_members : Int32) (y_pairs : Int32) (y_cold : Int32) (y_fur : Int32) (y_coughs : Int32) (y_draftMembers : Int32) (y_draftPairs : Int32) (y_draftCold : Int32) (y_draftFur : Int32) (y_draftCoughs : Int32) (y_undoMany : Int32) (y_seenMany : Int32) (y_chosen : Int32) (y_text : Nat → Int32) (y_warmth : Nat → Int32) (y_side : Nat → Int32) (y_seconds : Nat → Int32) (y_s : Nat → Int32) (y_kept : Nat → Int32) (y_isKept : Nat → Int32) (y_undos : Nat → Int32) (y_seenAt : Nat → Int32) (y_seen : Nat → Int32) (y_board : Nat → Int32) (y_pick : Nat → Int32) (y_worth : Nat → Int32) (y_best : Nat → Int32) (hR : Rel x_trace x_text_length x_text_token x_text_number x_text_place x_text_next x_text_toldOnce x_text_bytes x_parliament_members x_parliament_firstWarmth x_parliament_forMotion x_parliament_cold x_parliament_fur x_parliament_coughs x_parliament_seconds x_parliament_pairs x_draft_members x_draft_firstWarmth x_draft_forMotion x_draft_cold x_draft_fur x_draft_coughs x_draft_seconds x_draft_pairs x_now_warmth x_now_wearer x_now_fur x_now_minutes x_now_lot x_past_known x_past_states_e_warmth x_past_states_e_wearer x_past_states_e_fur x_past_states_e_minutes x_past_states_e_lot x_seen_known x_seen_minutes x_seen_sets x_images_e_kept x_images_e_state_warmth x_images_e_state_wearer x_images_e_state_fur x_images_e_state_minutes x_images_e_state_lot y_thrown y_trace y_typed y_next y_token y_place y_value y_fault y_members y_pairs y_cold y_fur y_coughs y_draftMembers y_draftPairs y_draftCold y_draftFur y_draftCoughs y_undoMany y_seenMany y_chosen y_text y_warmth y_side y_seconds y_s y_kept y_isKept y_undos y_seenAt y_seen y_board y_pick y_worth y_best) (a1 : Int32) (a2 : Int32) : ∃ (r : Int32) (y_thrown1 : Int32) (y_chosen1 : Int32) (y_board1 : Nat → Int32) (y_pick1 : Nat → Int32) (y_worth1 : Nat → Int32), f_X7_game x_parliament_members x_parliament_forMotion x_parliament_cold x_parliament_pairs x_now_warmth x_now_wearer x_now_fur a1 a2 = some r ∧ f_X8_game y_members y_cold y_seconds y_side y_s y_thrown y_chosen y_board y_pick y_worth a1 a2 = some (r, y_thrown1, y_chosen1, y_board1, y_pick1, y_worth1) ∧ Rel x_trace x_text_length x_text_token x_text_number x_text_place x_text_next x_text_toldOnce x_text_bytes x_parliament_members x_parliament_firstWarmth x_parliament_forMotion x_parliament_cold x_parliament_fur x_parliament_coughs x_parliament_seconds x_parliament_pairs x_draft_members x_draft_firstWarmth x_draft_forMotion x_draft_cold x_draft_fur x_draft_coughs x_draft_seconds x_draft_pairs x_now_warmth x_now_wearer x_now_fur x_now_minutes x_now_lot x_past_known x_past_states_e_warmth x_past_states_e_wearer x_past_states_e_fur x_past_states_e_minutes x_past_states_e_lot x_seen_known x_seen_minutes x_seen_sets x_images_e_kept x_images_e_state_warmth x_images_e_state_wearer x_images_e_state_fur x_images_e_state_minutes x_images_e_state_lot y_thrown1 y_trace y_typed y_next y_token y_place y_value y_fault y_members y_pairs y_cold y_fur y_coughs y_draftMembers y_draftPairs y_draftCold y_draftFur y_draftCoughs y_undoMany y_seenMany y_chosen1 y_text y_warmth y_side y_seconds y_s y_kept y_isKept y_undos y_seenAt y_seen y_board1 y_pick1 y_worth1 y_best := by
  have hR0 := hR
  obtain ⟨n, w0, sd, S, cold, fur0, coughs, sc, hWf, hC, hM, hN, hlot, hPast, hSeen, hImg, htr, hTx⟩ := hR
  obtain ⟨hn6, hw020, hw0z, hsd1, hsdz, hS64, hSz, hcold, hfur0, hcoughs, hsc⟩ := id hWf
  have hC' := hC
  have hM' := hM
  have hN' := hN
  obtain ⟨rfl, rfl, rfl, rfl, rfl, rfl, rfl, rfl⟩ := hC
  obtain ⟨rfl, rfl, rfl, rfl, rfl, hrows⟩ := hM
  obtain ⟨w, fu, c, hw, hz, hc6, rfl, rfl, hf5, rfl, hrow, hs8⟩ := NR_alt hn6 hN
  have h6 : ∀ m, 6 ≤ m → S m = 0 := fun m hm => hSz m (by omega)
  have hy : ∀ m, m < n → y_seconds m = nI (S m) := fun m hm => (hrows m hm).2.2
  have hss : ∀ m, m < n → sd m ≤ 1 ∧ y_side m = nI (sd m) := fun m hm => ⟨hsd1 m, (hrows m hm).2.1⟩
  unfold f_X7_game f_X8_game
  by_cases q : (0 : Int32) ≤ a1 ∧ a1 ≤ 5
  · have e1 : f_X7_isPlanLength a1 = some 1 := by rw [s_pl, if_pos q]
    have e2 : f_X8_in a1 0 5 = some 1 := by rw [s_in, if_pos q]
    obtain ⟨K, hK, rfl⟩ := rng (N := 5) (by omega) q.1 q.2
    rw [e1, ob1_mk, e2, ob1_mk, if_neg n10, if_neg n10]
    by_cases g : (0 : Int32) ≤ a2 ∧ a2 ≤ 1
    · have e3 : f_X8_in a2 0 1 = some 1 := by rw [s_in, if_pos g]
      obtain ⟨j, hj, rfl⟩ := rng (N := 1) (by omega) g.1 g.2
      obtain ⟨ch, bo, pi, wo, e4, hnc⟩ := s_playedBy hn6 hcold hS64 h6 hf5 hy hss hK hw hz hc6 hrow y_chosen y_board y_pick y_worth
      rw [e3, ob1_mk, if_neg n10, e4, ob5_mk]
      rcases (show j = 0 ∨ j = 1 by omega) with rfl | rfl
      · have hg := gv_le (n := n) (cold := cold) (S := S) (fu := fu) (sd := sd) K w c 1 (by omega)
        rw [if_pos (show nI 0 = 0 from rfl), if_pos (show nI 0 = 0 from rfl), s_isWon hn6 hcold hS64 h6 hsd1 hf5 hK hw hz c, ob1_mk]
        rcases bit_s hg with h | h
        · rw [h, if_pos (show nI 0 = 0 from rfl)]
          exact ⟨_, 0, ch, bo, pi, wo, rfl, rfl, hR0⟩
        · rw [h, if_neg (show ¬ nI 1 = 0 by decide)]
          exact ⟨_, 0, ch, bo, pi, wo, rfl, rfl, hR0⟩
      · have key := s_first hn6 hcold hS64 h6 hsd1 hf5 hK hw hz hnc
        rw [if_neg (show ¬ nI 1 = 0 by decide), if_neg (show ¬ nI 1 = 0 by decide), if_pos (show nI 1 = 1 from rfl), key, ob1_mk]
        by_cases h : ch = 6
        · rw [if_pos h, if_pos h]
          exact ⟨_, 0, ch, bo, pi, wo, rfl, rfl, hR0⟩
        · rw [if_neg h, if_neg h]
          exact ⟨_, 0, ch, bo, pi, wo, rfl, rfl, hR0⟩
    · have e3 : f_X8_in a2 0 1 = some 0 := by rw [s_in, if_neg g]
      rw [e3, ob1_mk, if_pos rfl, if_neg (show ¬ a2 = 0 from fun h => g (by rw [h]; decide)), if_neg (show ¬ a2 = 1 from fun h => g (by rw [h]; decide))]
      exact ⟨_, 0, y_chosen, y_board, y_pick, y_worth, rfl, rfl, hR0⟩
  · have e1 : f_X7_isPlanLength a1 = some 0 := by rw [s_pl, if_neg q]
    have e2 : f_X8_in a1 0 5 = some 0 := by rw [s_in, if_neg q]
    rw [e1, ob1_mk, e2, ob1_mk, if_pos rfl, if_pos rfl]
    exact ⟨_, 0, y_chosen, y_board, y_pick, y_worth, rfl, rfl, hR0⟩
