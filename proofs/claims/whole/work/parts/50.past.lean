theorem s_pl (p : Int32) : f_X7_isPlanLength p = some (if 0 ≤ p ∧ p ≤ 5 then 1 else 0) := by
  unfold f_X7_isPlanLength
  by_cases a : p < 0
  · rw [if_pos a, if_neg (fun h => nlt_le.mpr h.1 a)]
  · rw [if_neg a]
    by_cases b : (5 : Int32) < p
    · rw [if_pos b, if_neg (fun h => nle_lt.mpr b h.2)]
    · rw [if_neg b, if_pos ⟨nlt_le.mp a, nlt_le.mp b⟩]
theorem s_sl (p : Int32) : f_X7_isSpeechLength p = some (if 1 ≤ p ∧ p ≤ 9 then 1 else 0) := by
  unfold f_X7_isSpeechLength
  by_cases a : p < 1
  · rw [if_pos a, if_neg (fun h => nlt_le.mpr h.1 a)]
  · rw [if_neg a]
    by_cases b : (9 : Int32) < p
    · rw [if_pos b, if_neg (fun h => nle_lt.mpr b h.2)]
    · rw [if_neg b, if_pos ⟨nlt_le.mp a, nlt_le.mp b⟩]
theorem n10 : ¬ (1 : Int32) = 0 := by decide
theorem rng {p : Int32} {N : Nat} (hN : N < 2 ^ 31) (h : 0 ≤ p) (h2 : p ≤ nI N) : ∃ j, j ≤ N ∧ p = nI j := by
  obtain ⟨j, hj, rfl⟩ := pos_nI h
  exact ⟨j, (nI_leI hj hN).mp h2, rfl⟩
theorem ev1 : ∀ n, n < 7 → ((1 : Int32) <<< (nI n &&& 31)) - 1 = nI (2 ^ n - 1) := by decide +kernel
theorem p2n : ∀ n, n < 7 → 0 < 2 ^ n ∧ 2 ^ n < 100 := by decide
def shf (f : Nat → Int32) : Nat → Nat → Int32
  | 0 => f
  | j + 1 => upd (shf f j) j (shf f j (j + 1))
theorem shf_at (f : Nat → Int32) : ∀ j i, shf f j i = if i < j then f (i + 1) else f i
  | 0, i => rfl
  | j + 1, i => by
    rw [shf]
    by_cases e : i = j
    · rw [e, upd_s, shf_at f j, if_neg (by omega), if_pos (by omega)]
    · rw [upd_n e, shf_at f j]
      by_cases q : i < j
      · rw [if_pos q, if_pos (by omega)]
      · rw [if_neg q, if_neg (by omega)]
theorem bec {β : Type} (a b c d e a' b' c' d' e' : Int32) (K : Int32 → Int32 → Int32 → Int32 → Int32 → Option β) : ob5 (f_X1_become a b c d e a' b' c' d' e') K = K a b c d e := rfl
theorem s_lose (kn : Int32) (va vb vc vd ve : Nat → Int32) : f_X3_loseOldest kn va vb vc vd ve = some (9, shf va 9, shf vb 9, shf vc 9, shf vd 9, shf ve 9) := by
  unfold f_X3_loseOldest
  have s0 : ∀ f : Nat → Int32, upd f 0 (f 1) = shf f 1 := fun f => rfl
  have s1 : ∀ f : Nat → Int32, upd (shf f 1) 1 (shf f 1 2) = shf f 2 := fun f => rfl
  have s2 : ∀ f : Nat → Int32, upd (shf f 2) 2 (shf f 2 3) = shf f 3 := fun f => rfl
  have s3 : ∀ f : Nat → Int32, upd (shf f 3) 3 (shf f 3 4) = shf f 4 := fun f => rfl
  have s4 : ∀ f : Nat → Int32, upd (shf f 4) 4 (shf f 4 5) = shf f 5 := fun f => rfl
  have s5 : ∀ f : Nat → Int32, upd (shf f 5) 5 (shf f 5 6) = shf f 6 := fun f => rfl
  have s6 : ∀ f : Nat → Int32, upd (shf f 6) 6 (shf f 6 7) = shf f 7 := fun f => rfl
  have s7 : ∀ f : Nat → Int32, upd (shf f 7) 7 (shf f 7 8) = shf f 8 := fun f => rfl
  have s8 : ∀ f : Nat → Int32, upd (shf f 8) 8 (shf f 8 9) = shf f 9 := fun f => rfl
  rw [bec, s0, s0, s0, s0, s0, bnd_mk, bnd_mk, bnd_mk, bnd_mk, bnd_mk, bec, s1, s1, s1, s1, s1, bnd_mk, bnd_mk, bnd_mk, bnd_mk, bnd_mk, bec, s2, s2, s2, s2, s2, bnd_mk, bnd_mk, bnd_mk, bnd_mk, bnd_mk, bec, s3, s3, s3, s3, s3, bnd_mk, bnd_mk, bnd_mk, bnd_mk, bnd_mk, bec, s4, s4, s4, s4, s4, bnd_mk, bnd_mk, bnd_mk, bnd_mk, bnd_mk, bec, s5, s5, s5, s5, s5, bnd_mk, bnd_mk, bnd_mk, bnd_mk, bnd_mk, bec, s6, s6, s6, s6, s6, bnd_mk, bnd_mk, bnd_mk, bnd_mk, bnd_mk, bec, s7, s7, s7, s7, s7, bnd_mk, bnd_mk, bnd_mk, bnd_mk, bnd_mk, bec, s8, s8, s8, s8, s8, bnd_mk, bnd_mk, bnd_mk, bnd_mk, bnd_mk]
theorem s_add16 {m : Nat} (hm : m < 10) (a b c d e : Int32) (va vb vc vd ve : Nat → Int32) : f_X3_add_16 a b c d e (nI m) va vb vc vd ve = some (nI (m + 1), upd va m a, upd vb m b, upd vc m c, upd vd m d, upd ve m e) := by
  unfold f_X3_add_16
  rw [if_neg (nI_pos (by omega)), if_neg (show ¬ (10 : Int32) ≤ nI m from nI_ge (a := m) (b := 10) hm (by omega)), ing_nI (by omega) (by omega), nI_clamp (by omega), bec, bnd_mk, bnd_mk, bnd_mk, bnd_mk, bnd_mk, bnd_mk, nI_1]
theorem s_n46 {s : Nat → Int32} {m : Nat} (hm : m ≤ 9) : ∀ (fuel j : Nat) (u : Nat → Int32), j ≤ 9 → 9 - j < fuel → ∃ u', f_X8_notes_46 s fuel (nI j) (nI m) u = some (nI (m + 1), u') ∧ (∀ i, j ≤ i → i < 9 → u' (9 * m + i) = s i) ∧ (∀ i, (i < 9 * m + j ∨ 9 * m + 9 ≤ i) → u' i = u i) := by
  intro fuel
  induction fuel with
  | zero => intro j u h1 h2; omega
  | succ f ih =>
    intro j u h1 h2
    show ∃ u', f_X8_notes_46_b s (f_X8_notes_46 s f) _ _ _ = _ ∧ _
    unfold f_X8_notes_46_b
    by_cases h : j = 9
    · subst h
      rw [if_pos (show (9 : Int32) ≤ nI 9 from nI_le (Nat.le_refl 9) (by omega)), bnd_mk, nI_1]
      exact ⟨u, rfl, fun i a b => by omega, fun i _ => rfl⟩
    · rw [if_neg (show ¬ (9 : Int32) ≤ nI j from nI_ge (a := j) (b := 9) (by omega) (by omega)), show (9 : Int32) * nI m = nI (9 * m) from u_mulz 9 m, nI_add, ing_nI (by omega) (by omega), ing_nI (by omega) (by omega), nI_clamp (by omega), nI_clamp (by omega), bnd_mk, bnd_mk, nI_1]
      obtain ⟨u', e, a, b⟩ := ih (j + 1) (upd u (9 * m + j) (s j)) (by omega) (by omega)
      refine ⟨u', e, fun i h1 h2 => ?_, fun i hi => ?_⟩
      · by_cases q : i = j
        · rw [q, b _ (by omega), upd_s]
        · exact a i (by omega) h2
      · rw [b i (by omega), upd_n (by omega)]
theorem s_n11 {s u0 : Nat → Int32} : ∀ (fuel j : Nat) (u : Nat → Int32), j ≤ 81 → 81 - j < fuel → (∀ i, i < j → u i = u0 (i + 9)) → (∀ i, j ≤ i → u i = u0 i) → ∃ u', f_X8_notes_11 s fuel (nI j) (nI 10) u = f_X8_notes_44 s (nI 9) u' ∧ (∀ i, i < 81 → u' i = u0 (i + 9)) := by
  intro fuel
  induction fuel with
  | zero => intro j u h1 h2; omega
  | succ f ih =>
    intro j u h1 h2 h3 h4
    show ∃ u', f_X8_notes_11_b s (f_X8_notes_11 s f) _ _ _ = _ ∧ _
    unfold f_X8_notes_11_b
    by_cases h : j = 81
    · subst h
      rw [if_pos (show (81 : Int32) ≤ nI 81 from nI_le (Nat.le_refl 81) (by omega))]
      exact ⟨u, rfl, h3⟩
    · rw [if_neg (show ¬ (81 : Int32) ≤ nI j from nI_ge (a := j) (b := 81) (by omega) (by omega)), show nI j + 9 = nI (j + 9) from nI_add j 9, ing_nI (by omega) (by omega), ing_nI (by omega) (by omega), nI_clamp (by omega), nI_clamp (by omega), bnd_mk, bnd_mk, nI_1]
      refine ih (j + 1) _ (by omega) (by omega) (fun i hi => ?_) (fun i hi => ?_)
      · by_cases q : i = j
        · rw [q, upd_s, h4 _ (by omega)]
        · rw [upd_n q, h3 i (by omega)]
      · rw [upd_n (by omega), h4 i (by omega)]
theorem s_notes {n k : Nat} (hk : k ≤ 10) {W coat fur mins lot : Int32} {va vb vc vd ve yu s : Nat → Int32} (h : ∀ i, i < k → NR n (va i) (vb i) (vc i) (vd i) (fun j => yu (9 * i + j))) (hN : NR n W coat fur mins s) : ∃ k' a b c d e u', f_X3_add W coat fur mins lot (nI k) va vb vc vd ve = some (nI k', a, b, c, d, e) ∧ f_X8_notes s (nI k) yu = some (nI k', u') ∧ k' ≤ 10 ∧ ∀ i, i < k' → NR n (a i) (b i) (c i) (d i) (fun j => u' (9 * i + j)) := by
  unfold f_X3_add f_X8_notes
  by_cases q : k = 10
  · subst q
    obtain ⟨u1, e1, h1⟩ := s_n11 (s := s) (u0 := yu) FU 0 yu (by omega) (by show 81 - 0 < 20000; omega) (fun i hi => absurd hi (Nat.not_lt_zero i)) (fun i _ => rfl)
    obtain ⟨u', e2, h2, h3⟩ := s_n46 (s := s) (m := 9) (by omega) FU 0 u1 (by omega) (by show 9 - 0 < 20000; omega)
    rw [if_neg (show ¬ nI 10 < 10 from nI_nlt (a := 10) (b := 10) (Nat.le_refl 10) (by omega)), if_pos (show nI 10 = 10 from rfl), s_lose, ob6_mk, show (9 : Int32) = nI 9 from rfl, s_add16 (by omega), show (0 : Int32) = nI 0 from rfl, e1]
    unfold f_X8_notes_44
    rw [show (0 : Int32) = nI 0 from rfl, e2]
    refine ⟨10, _, _, _, _, _, u', rfl, rfl, by omega, fun i hi => ?_⟩
    by_cases z : i = 9
    · rw [z, upd_s, upd_s, upd_s, upd_s]
      exact NR_cong hN (fun j hj => h2 j (by omega) hj)
    · rw [upd_n z, upd_n z, upd_n z, upd_n z, shf_at, shf_at, shf_at, shf_at, if_pos (by omega), if_pos (by omega), if_pos (by omega), if_pos (by omega)]
      refine NR_cong (h (i + 1) (by omega)) (fun j hj => ?_)
      show u' (9 * i + j) = yu (9 * (i + 1) + j)
      rw [h3 _ (by omega), h1 _ (by omega), show 9 * i + j + 9 = 9 * (i + 1) + j by omega]
  · obtain ⟨u', e2, h2, h3⟩ := s_n46 (s := s) (m := k) (by omega) FU 0 yu (by omega) (by show 9 - 0 < 20000; omega)
    rw [if_pos (show nI k < 10 from nI_lt (a := k) (b := 10) (by omega) (by omega)), if_neg (show ¬ nI k = 10 from fun h => q ((nI_eq (by omega) (by omega)).mp (show nI k = nI 10 from h))), s_add16 (by omega)]
    unfold f_X8_notes_44
    rw [show (0 : Int32) = nI 0 from rfl, e2]
    refine ⟨k + 1, _, _, _, _, _, u', rfl, rfl, by omega, fun i hi => ?_⟩
    by_cases z : i = k
    · rw [z, upd_s, upd_s, upd_s, upd_s]
      exact NR_cong hN (fun j hj => h2 j (by omega) hj)
    · rw [upd_n z, upd_n z, upd_n z, upd_n z]
      refine NR_cong (h i (by omega)) (fun j hj => ?_)
      show u' (9 * i + j) = yu (9 * i + j)
      rw [h3 _ (by omega)]
theorem s_u27 {u : Nat → Int32} {m : Nat} (hm : m ≤ 9) : ∀ (fuel j : Nat) (s : Nat → Int32), j ≤ 9 → 9 - j < fuel → ∃ s', f_X8_undo_27 u fuel (nI j) 0 (nI m) s = some (nI m, 0, nI m, s') ∧ (∀ i, j ≤ i → i < 9 → s' i = u (9 * m + i)) ∧ (∀ i, (i < j ∨ 9 ≤ i) → s' i = s i) := by
  intro fuel
  induction fuel with
  | zero => intro j u h1 h2; omega
  | succ f ih =>
    intro j s h1 h2
    show ∃ s', f_X8_undo_27_b u (f_X8_undo_27 u f) _ _ _ _ = _ ∧ _
    unfold f_X8_undo_27_b
    by_cases h : j = 9
    · subst h
      rw [if_pos (show (9 : Int32) ≤ nI 9 from nI_le (Nat.le_refl 9) (by omega))]
      exact ⟨s, rfl, fun i a b => by omega, fun i _ => rfl⟩
    · rw [if_neg (show ¬ (9 : Int32) ≤ nI j from nI_ge (a := j) (b := 9) (by omega) (by omega)), show (9 : Int32) * nI m = nI (9 * m) from u_mulz 9 m, nI_add, ing_nI (by omega) (by omega), ing_nI (by omega) (by omega), nI_clamp (by omega), nI_clamp (by omega), bnd_mk, bnd_mk, nI_1]
      obtain ⟨s', e, a, b⟩ := ih (j + 1) (upd s j (u (9 * m + j))) (by omega) (by omega)
      refine ⟨s', e, fun i h1 h2 => ?_, fun i hi => ?_⟩
      · by_cases q : i = j
        · rw [q, b _ (by omega), upd_s]
        · exact a i (by omega) h2
      · rw [b i (by omega), upd_n (by omega)]
set_option maxHeartbeats 4000000 in
theorem st_undo (x_trace : Int64) (x_text_length : Int32) (x_text_token : Int32) (x_text_number : Int32) (x_text_place : Int32) (x_text_next : Int32) (x_text_toldOnce : Int32) (x_text_bytes : Nat → Int32) (x_parliament_members : Int32) (x_parliament_firstWarmth : Int32) (x_parliament_forMotion : Int32) (x_parliament_cold : Int32) (x_parliament_fur : Int32) (x_parliament_coughs : Int32) (x_parliament_seconds : Int32) (x_parliament_pairs : Int64) (x_draft_members : Int32) (x_draft_firstWarmth : Int32) (x_draft_forMotion : Int32) (x_draft_cold : Int32) (x_draft_fur : Int32) (x_draft_coughs : Int32) (x_draft_seconds : Int32) (x_draft_pairs : Int64) (x_now_warmth : Int32) (x_now_wearer : Int32) (x_now_fur : Int32) (x_now_minutes : Int32) (x_now_lot : Int32) (x_past_known : Int32) (x_past_states_e_warmth : Nat → Int32) (x_past_states_e_wearer : Nat → Int32) (x_past_states_e_fur : Nat → Int32) (x_past_states_e_minutes : Nat → Int32) (x_past_states_e_lot : Nat → Int32) (x_seen_known : Int32) (x_seen_minutes : Nat → Int32) (x_seen_sets : Nat → Int32) (x_images_e_kept : Nat → Int32) (x_images_e_state_warmth : Nat → Int32) (x_images_e_state_wearer : Nat → Int32) (x_images_e_state_fur : Nat → Int32) (x_images_e_state_minutes : Nat → Int32) (x_images_e_state_lot : Nat → Int32) (y_thrown : Int32) (y_trace : Int64) (y_typed : Int32) (y_next : Int32) (y_token : Int32) (y_place : Int32) (y_value : Int32) (y_fault : Int32) (y_members : Int32) (y_pairs : Int32) (y_cold : Int32) (y_fur : Int32) (y_coughs : Int32) (y_draftMembers : Int32) (y_draftPairs : Int32) (y_draftCold : Int32) (y_draftFur : Int32) (y_draftCoughs : Int32) (y_undoMany : Int32) (y_seenMany : Int32) (y_chosen : Int32) (y_text : Nat → Int32) (y_warmth : Nat → Int32) (y_side : Nat → Int32) (y_seconds : Nat → Int32) (y_s : Nat → Int32) (y_kept : Nat → Int32) (y_isKept : Nat → Int32) (y_undos : Nat → Int32) (y_seenAt : Nat → Int32) (y_seen : Nat → Int32) (y_board : Nat → Int32) (y_pick : Nat → Int32) (y_worth : Nat → Int32) (y_best : Nat → Int32) (hR : Rel x_trace x_text_length x_text_token x_text_number x_text_place x_text_next x_text_toldOnce x_text_bytes x_parliament_members x_parliament_firstWarmth x_parliament_forMotion x_parliament_cold x_parliament_fur x_parliament_coughs x_parliament_seconds x_parliament_pairs x_draft_members x_draft_firstWarmth x_draft_forMotion x_draft_cold x_draft_fur x_draft_coughs x_draft_seconds x_draft_pairs x_now_warmth x_now_wearer x_now_fur x_now_minutes x_now_lot x_past_known x_past_states_e_warmth x_past_states_e_wearer x_past_states_e_fur x_past_states_e_minutes x_past_states_e_lot x_seen_known x_seen_minutes x_seen_sets x_images_e_kept x_images_e_state_warmth x_images_e_state_wearer x_images_e_state_fur x_images_e_state_minutes x_images_e_state_lot y_thrown y_trace y_typed y_next y_token y_place y_value y_fault y_members y_pairs y_cold y_fur y_coughs y_draftMembers y_draftPairs y_draftCold y_draftFur y_draftCoughs y_undoMany y_seenMany y_chosen y_text y_warmth y_side y_seconds y_s y_kept y_isKept y_undos y_seenAt y_seen y_board y_pick y_worth y_best) : ∃ (r : Int32) (x_now_warmth1 : Int32) (x_now_wearer1 : Int32) (x_now_fur1 : Int32) (x_now_minutes1 : Int32) (x_now_lot1 : Int32) (x_past_known1 : Int32) (y_thrown1 : Int32) (y_undoMany1 : Int32) (y_s1 : Nat → Int32), f_X7_undo x_past_states_e_warmth x_past_states_e_wearer x_past_states_e_fur x_past_states_e_minutes x_past_states_e_lot x_now_warmth x_now_wearer x_now_fur x_now_minutes x_now_lot x_past_known = some (r, x_now_warmth1, x_now_wearer1, x_now_fur1, x_now_minutes1, x_now_lot1, x_past_known1) ∧ f_X8_undo y_undos y_thrown y_undoMany y_s = some (r, y_thrown1, y_undoMany1, y_s1) ∧ Rel x_trace x_text_length x_text_token x_text_number x_text_place x_text_next x_text_toldOnce x_text_bytes x_parliament_members x_parliament_firstWarmth x_parliament_forMotion x_parliament_cold x_parliament_fur x_parliament_coughs x_parliament_seconds x_parliament_pairs x_draft_members x_draft_firstWarmth x_draft_forMotion x_draft_cold x_draft_fur x_draft_coughs x_draft_seconds x_draft_pairs x_now_warmth1 x_now_wearer1 x_now_fur1 x_now_minutes1 x_now_lot1 x_past_known1 x_past_states_e_warmth x_past_states_e_wearer x_past_states_e_fur x_past_states_e_minutes x_past_states_e_lot x_seen_known x_seen_minutes x_seen_sets x_images_e_kept x_images_e_state_warmth x_images_e_state_wearer x_images_e_state_fur x_images_e_state_minutes x_images_e_state_lot y_thrown1 y_trace y_typed y_next y_token y_place y_value y_fault y_members y_pairs y_cold y_fur y_coughs y_draftMembers y_draftPairs y_draftCold y_draftFur y_draftCoughs y_undoMany1 y_seenMany y_chosen y_text y_warmth y_side y_seconds y_s1 y_kept y_isKept y_undos y_seenAt y_seen y_board y_pick y_worth y_best := by
  have hR0 := hR
  obtain ⟨n, w0, sd, S, cold, fur0, coughs, sc, hWf, hC, hM, hN, hlot, hPast, hSeen, hImg, htr, hTx⟩ := hR
  obtain ⟨hn6, hw020, hw0z, hsd1, hsdz, hS64, hSz, hcold, hfur0, hcoughs, hsc⟩ := id hWf
  have hC' := hC
  have hM' := hM
  have hN' := hN
  obtain ⟨rfl, rfl, rfl, rfl, rfl, rfl, rfl, rfl⟩ := hC
  obtain ⟨rfl, rfl, rfl, rfl, rfl, hrows⟩ := hM
  obtain ⟨w, fu, c, hw, hz, hc6, rfl, rfl, hf5, rfl, hrow, hs8⟩ := NR_alt hn6 hN
  have h6 : ∀ m, 6 ≤ m → S m = 0 := fun m hm => hSz m (by omega)
  have hy : ∀ m, m < n → y_seconds m = nI (S m) := fun m hm => (hrows m hm).2.2
  have hss : ∀ m, m < n → sd m ≤ 1 ∧ y_side m = nI (sd m) := fun m hm => ⟨hsd1 m, (hrows m hm).2.1⟩
  obtain ⟨k, hk, rfl, rfl, hq⟩ := hPast
  unfold f_X7_undo f_X8_undo f_X3_takeLast
  by_cases z : k = 0
  · subst z
    rw [if_pos (show nI 0 = 0 from rfl), if_pos (show nI 0 = 0 from rfl)]
    exact ⟨_, _, _, _, _, _, _, 0, _, _, rfl, rfl, hR0⟩
  · obtain ⟨m, rfl⟩ : ∃ m, k = m + 1 := ⟨k - 1, by omega⟩
    obtain ⟨s', e, a, b⟩ := s_u27 (u := y_undos) (m := m) (by omega) FU 0 y_s (by omega) (by show 9 - 0 < 20000; omega)
    rw [if_neg (nI_ne0 (by omega) (by omega)), if_neg (nI_ne0 (by omega) (by omega)), if_neg (nI_nle (by omega) (by omega)), if_neg (show ¬ (10 : Int32) < nI (m + 1) from nI_nlt (a := 10) (b := m + 1) (by omega) (by omega)), nI_pred, bnd_mk, bnd_mk, ing_nI (by omega) (by omega), nI_clamp (by omega), bec, ob6_mk, show (0 : Int32) = nI 0 from rfl]
    refine ⟨_, _, _, _, _, _, _, 0, _, s', rfl, e, n, w0, sd, S, cold, fur0, coughs, sc, hWf, hC', hM', NR_cong (hq m (by omega)) (fun j hj => a j (by omega) hj), ?_, ⟨m, by omega, rfl, rfl, fun i hi => hq i (by omega)⟩, hSeen, hImg, htr, hTx⟩
    rw [b 9 (by omega)]; exact hlot
