theorem s_begins_loop {n : Nat} (hn : n ≤ 6) {fu : Int32} {yw s0 : Nat → Int32} : ∀ (fuel m : Nat) (s : Nat → Int32), m ≤ 6 → 6 - m < fuel → (∀ j, j < m → s j = if j < n then yw j else 0) → s 9 = s0 9 → ∃ s', f_X8_begins_2 (nI n) fu yw fuel (nI m) s = some s' ∧ (∀ j, j < 6 → s' j = if j < n then yw j else 0) ∧ s' 6 = -9 ∧ s' 7 = fu ∧ s' 8 = 0 ∧ s' 9 = s0 9 := by
  intro fuel
  induction fuel with
  | zero => intro m s h1 h2; omega
  | succ fuel ih =>
    intro m s h1 h2 h3 h4
    show ∃ s', f_X8_begins_2_b _ _ _ (f_X8_begins_2 (nI n) fu yw fuel) _ _ = _ ∧ _
    unfold f_X8_begins_2_b f_X8_begins_31
    by_cases e : m = 6
    · subst e
      rw [if_pos (show (6 : Int32) ≤ nI 6 by decide), ing6, bnd_mk, ing7, bnd_mk, ing8, bnd_mk, cl6, cl7, cl8]
      refine ⟨_, rfl, fun j hj => ?_, ?_, ?_, upd_s, ?_⟩
      · rw [upd_n (by omega), upd_n (by omega), upd_n (by omega)]; exact h3 j hj
      · rw [upd_n (by omega), upd_n (by omega), upd_s]
      · rw [upd_n (by omega), upd_s]
      · rw [upd_n (by omega), upd_n (by omega), upd_n (by omega)]; exact h4
    · rw [if_neg (show ¬ (6 : Int32) ≤ nI m from nI_ge (b := 6) (by omega) (by omega))]
      have next : ∀ x : Int32, x = (if m < n then yw m else 0) → ∃ s', f_X8_begins_2 (nI n) fu yw fuel (nI (m + 1)) (upd s m x) = some s' ∧ (∀ j, j < 6 → s' j = if j < n then yw j else 0) ∧ s' 6 = -9 ∧ s' 7 = fu ∧ s' 8 = 0 ∧ s' 9 = s0 9 := by
        intro x hx
        refine ih (m + 1) _ (by omega) (by omega) (fun j hj => ?_) (by rw [upd_n (by omega)]; exact h4)
        by_cases c : j = m
        · rw [c, upd_s, hx]
        · rw [upd_n c]; exact h3 j (by omega)
      by_cases g : n ≤ m
      · rw [if_pos (nI_le g (by omega)), ing_nI (by omega) (by omega), bnd_mk, bnd_mk, nI_1, nI_clamp (by omega)]
        exact next 0 (if_neg (by omega)).symm
      · rw [if_neg (nI_ge (by omega) (by omega)), ing_nI (by omega) (by omega), ing_nI (by omega) (by omega), bnd_mk, bnd_mk, nI_1, nI_clamp (by omega)]
        exact next _ (if_pos (by omega)).symm
theorem s_begins {n : Nat} (hn : n ≤ 6) (fu : Int32) (yw s : Nat → Int32) : ∃ s', f_X8_begins (nI n) fu yw s = some s' ∧ (∀ j, j < 6 → s' j = if j < n then yw j else 0) ∧ s' 6 = -9 ∧ s' 7 = fu ∧ s' 8 = 0 ∧ s' 9 = s 9 :=
  s_begins_loop (s0 := s) hn FU 0 s (by omega) (by show 6 - 0 < 20000; omega) (fun j hj => absurd hj (Nat.not_lt_zero j)) rfl
theorem s_h220 (yt : Nat → Int32) {n : Nat} (hn : n ≤ 6) (x1 th ty nx tk pl va fa pa co fu cg d1 d2 d3 d4 d5 um sm : Int32) (w0 q0 s0 ss ik : Nat → Int32) : ∀ (fuel m : Nat) (w q s : Nat → Int32), m ≤ 6 → 6 - m < fuel → (∀ j, j < m → w j = w0 (6 + j) ∧ q j = q0 (6 + j) ∧ s j = s0 (6 + j)) → (∀ j, 6 ≤ j → w j = w0 j ∧ q j = q0 j ∧ s j = s0 j) → ∃ w' q' s' ss', f_X8_house_220 yt fuel x1 (nI m) th ty nx tk pl va fa (nI n) pa co fu cg d1 d2 d3 d4 d5 um sm w q s ss ik = some (x1, th, 0, nx, tk, pl, va, fa, nI n, pa, co, fu, cg, d1, d2, d3, d4, d5, 0, 0, w', q', s', ss', upd (upd ik 0 0) 1 0) ∧ (∀ j, j < 6 → w' j = w0 (6 + j) ∧ q' j = q0 (6 + j) ∧ s' j = s0 (6 + j)) ∧ (∀ j, j < 6 → ss' j = if j < n then w' j else 0) ∧ ss' 6 = -9 ∧ ss' 7 = fu ∧ ss' 8 = 0 ∧ ss' 9 = ss 9 := by
  intro fuel
  induction fuel with
  | zero => intro m w q s h1 h2; omega
  | succ fuel ih =>
    intro m w q s h1 h2 h3 h4
    show ∃ w' q' s' ss', f_X8_house_220_b _ (f_X8_house_220 yt fuel) _ _ _ _ _ _ _ _ _ _ _ _ _ _ _ _ _ _ _ _ _ _ _ _ _ _ = _ ∧ _
    unfold f_X8_house_220_b
    by_cases e : m = 6
    · subst e
      obtain ⟨ss', e1, e2, e3⟩ := s_begins hn fu w ss
      rw [if_pos (show (6 : Int32) ≤ nI 6 by decide), ing_ok (show ¬ ((0 : Int32) < 0 ∨ 2 ≤ (0 : Int32).toNatClampNeg) by decide), bnd_mk, ing_ok (show ¬ ((1 : Int32) < 0 ∨ 2 ≤ (1 : Int32).toNatClampNeg) by decide), bnd_mk, e1, ob1_mk]
      exact ⟨w, q, s, ss', rfl, h3, e2, e3⟩
    · have hm : m < 6 := by omega
      rw [if_neg (show ¬ (6 : Int32) ≤ nI m from nI_ge (b := 6) hm (by omega)), cls6 hm, nI_clamp (show 6 + m < 2 ^ 31 by omega), nI_clamp (show m < 2 ^ 31 by omega), ing_nI (by omega) (by omega), ing_nI (by omega) (by omega), bnd_mk, ing_nI (by omega) (by omega), ing_nI (by omega) (by omega), bnd_mk, ing_nI (by omega) (by omega), ing_nI (by omega) (by omega), bnd_mk, bnd_mk, nI_1]
      refine ih (m + 1) _ _ _ (by omega) (by omega) (fun j hj => ?_) (fun j hj => ?_)
      · by_cases c : j = m
        · rw [c, upd_s, upd_s, upd_s]
          exact h4 (6 + m) (by omega)
        · rw [upd_n c, upd_n c, upd_n c]; exact h3 j (by omega)
      · rw [upd_n (by omega), upd_n (by omega), upd_n (by omega)]; exact h4 j hj
theorem s_h124F {f : Nat} (hf : f < 1000) (yt : Nat → Int32) (x1 th ty nx tk pl va me pa co fu cg d1 d2 d3 d4 d5 um sm : Int32) (w q s ss ik : Nat → Int32) : f_X8_house_124 yt x1 th ty nx tk pl va (nI f) me pa co fu cg d1 d2 d3 d4 d5 um sm w q s ss ik = some ((-10) - nI f, th, ty, nx, tk, pl, va, nI f, me, pa, co, fu, cg, d1, d2, d3, d4, d5, um, sm, w, q, s, ss, ik) := by
  unfold f_X8_house_124
  rw [well0 hf, ob1_mk, if_pos rfl]
theorem s_h124 (yt : Nat → Int32) {n : Nat} {w0 sd S : Nat → Nat} {cold fur coughs sc b2 b3 b4 : Nat} {yC yF yG : Int32} {yw yq ys : Nat → Int32} (hD : DR n w0 sd S cold fur coughs sc b2 b3 b4 yC yF yG yw yq ys) (x1 th ty nx tk pl va me pa co fu cg um sm : Int32) (ss ik : Nat → Int32) : ∃ w' q' s' ss', f_X8_house_124 yt x1 th ty nx tk pl va (-1) me pa co fu cg (nI n) (nI sc) yC yF yG um sm yw yq ys ss ik = some (x1, th, 0, nx, tk, pl, va, -1, nI n, nI sc, nI cold, nI fur, nI coughs, nI n, nI sc, yC, yF, yG, 0, 0, w', q', s', ss', upd (upd ik 0 0) 1 0) ∧ (∀ j, j < 6 → w' j = yw (6 + j) ∧ q' j = yq (6 + j) ∧ s' j = ys (6 + j)) ∧ (∀ j, j < 6 → ss' j = if j < n then w' j else 0) ∧ ss' 6 = -9 ∧ ss' 7 = nI fur ∧ ss' 8 = 0 ∧ ss' 9 = ss 9 := by
  obtain ⟨⟨hn6, hw0, hwz, hs1, hsz, hS, hSz, hc5, hf5, hg9, hsc⟩, _, ⟨hyC, hC0⟩, ⟨hyF, hF0⟩, ⟨hyG, hG0⟩, _⟩ := hD
  obtain ⟨w', q', s', ss', e1, e2⟩ := s_h220 yt hn6 x1 th ty nx tk pl va (-1) (nI sc) (nI cold) (nI fur) (nI coughs) (nI n) (nI sc) yC yF yG um sm yw yq ys ss ik FU 0 yw yq ys (by omega) (by show 6 - 0 < 20000; omega) (fun j hj => absurd hj (Nat.not_lt_zero j)) (fun j hj => ⟨rfl, rfl, rfl⟩)
  refine ⟨w', q', s', ss', Eq.trans ?_ e1, e2⟩
  have k4 : f_X8_house_194 yt x1 (nI fur) th ty nx tk pl va (-1) (nI n) (nI sc) (nI cold) fu cg (nI n) (nI sc) yC yF yG um sm yw yq ys ss ik = f_X8_house_220 yt FU x1 0 th ty nx tk pl va (-1) (nI n) (nI sc) (nI cold) (nI fur) (nI coughs) (nI n) (nI sc) yC yF yG um sm yw yq ys ss ik := by
    unfold f_X8_house_194 f_X8_house_215
    by_cases c : yG = -9
    · have := hG0 ((nine (by omega)).mp (hyG.symm.trans c))
      rw [if_pos c, this]; rfl
    · rw [if_neg c]
      have : ¬ b4 = 0 := fun z => c (by rw [hyG, if_pos z])
      rw [if_neg this] at hyG
      rw [← hyG]
  have k3 : f_X8_house_173 yt x1 (nI cold) th ty nx tk pl va (-1) (nI n) (nI sc) co fu cg (nI n) (nI sc) yC yF yG um sm yw yq ys ss ik = f_X8_house_194 yt x1 (nI fur) th ty nx tk pl va (-1) (nI n) (nI sc) (nI cold) fu cg (nI n) (nI sc) yC yF yG um sm yw yq ys ss ik := by
    unfold f_X8_house_173
    by_cases c : yF = -9
    · have := hF0 ((nine (by omega)).mp (hyF.symm.trans c))
      rw [if_pos c, this]; rfl
    · rw [if_neg c]
      have : ¬ b3 = 0 := fun z => c (by rw [hyF, if_pos z])
      rw [if_neg this] at hyF
      rw [← hyF]
  refine Eq.trans ?_ (k3.trans k4)
  unfold f_X8_house_124
  rw [well1, ob1_mk, if_neg n10]
  by_cases c : yC = -9
  · have := hC0 ((nine (by omega)).mp (hyC.symm.trans c))
    rw [if_pos c, this]; rfl
  · rw [if_neg c]
    have : ¬ b2 = 0 := fun z => c (by rw [hyC, if_pos z])
    rw [if_neg this] at hyC
    rw [← hyC]
theorem m10a : ∀ f, f < 201 → ¬ (0 : Int32) ≤ (-10) - nI f := by decide +kernel
theorem m10 {f : Nat} (hf : f ≤ 200) : ¬ (0 : Int32) ≤ (-10) - nI f := m10a f (by omega)
set_option maxHeartbeats 4000000 in
theorem st_house (x_trace : Int64) (x_text_length : Int32) (x_text_token : Int32) (x_text_number : Int32) (x_text_place : Int32) (x_text_next : Int32) (x_text_toldOnce : Int32) (x_text_bytes : Nat → Int32) (x_parliament_members : Int32) (x_parliament_firstWarmth : Int32) (x_parliament_forMotion : Int32) (x_parliament_cold : Int32) (x_parliament_fur : Int32) (x_parliament_coughs : Int32) (x_parliament_seconds : Int32) (x_parliament_pairs : Int64) (x_draft_members : Int32) (x_draft_firstWarmth : Int32) (x_draft_forMotion : Int32) (x_draft_cold : Int32) (x_draft_fur : Int32) (x_draft_coughs : Int32) (x_draft_seconds : Int32) (x_draft_pairs : Int64) (x_now_warmth : Int32) (x_now_wearer : Int32) (x_now_fur : Int32) (x_now_minutes : Int32) (x_now_lot : Int32) (x_past_known : Int32) (x_past_states_e_warmth : Nat → Int32) (x_past_states_e_wearer : Nat → Int32) (x_past_states_e_fur : Nat → Int32) (x_past_states_e_minutes : Nat → Int32) (x_past_states_e_lot : Nat → Int32) (x_seen_known : Int32) (x_seen_minutes : Nat → Int32) (x_seen_sets : Nat → Int32) (x_images_e_kept : Nat → Int32) (x_images_e_state_warmth : Nat → Int32) (x_images_e_state_wearer : Nat → Int32) (x_images_e_state_fur : Nat → Int32) (x_images_e_state_minutes : Nat → Int32) (x_images_e_state_lot : Nat → Int32) (y_thrown : Int32) (y_trace : Int64) (y_typed : Int32) (y_next : Int32) (y_token : Int32) (y_place : Int32) (y_value : Int32) (y_fault : Int32) (y_members : Int32) (y_pairs : Int32) (y_cold : Int32) (y_fur : Int32) (y_coughs : Int32) (y_draftMembers : Int32) (y_draftPairs : Int32) (y_draftCold : Int32) (y_draftFur : Int32) (y_draftCoughs : Int32) (y_undoMany : Int32) (y_seenMany : Int32) (y_chosen : Int32) (y_text : Nat → Int32) (y_warmth : Nat → Int32) (y_side : Nat → Int32) (y_seconds : Nat → Int32) (y_s : Nat → Int32) (y_kept : Nat → Int32) (y_isKept : Nat → Int32) (y_undos : Nat → Int32) (y_seenAt : Nat → Int32) (y_seen : Nat → Int32) (y_board : Nat → Int32) (y_pick : Nat → Int32) (y_worth : Nat → Int32) (y_best : Nat → Int32) (hR : Rel x_trace x_text_length x_text_token x_text_number x_text_place x_text_next x_text_toldOnce x_text_bytes x_parliament_members x_parliament_firstWarmth x_parliament_forMotion x_parliament_cold x_parliament_fur x_parliament_coughs x_parliament_seconds x_parliament_pairs x_draft_members x_draft_firstWarmth x_draft_forMotion x_draft_cold x_draft_fur x_draft_coughs x_draft_seconds x_draft_pairs x_now_warmth x_now_wearer x_now_fur x_now_minutes x_now_lot x_past_known x_past_states_e_warmth x_past_states_e_wearer x_past_states_e_fur x_past_states_e_minutes x_past_states_e_lot x_seen_known x_seen_minutes x_seen_sets x_images_e_kept x_images_e_state_warmth x_images_e_state_wearer x_images_e_state_fur x_images_e_state_minutes x_images_e_state_lot y_thrown y_trace y_typed y_next y_token y_place y_value y_fault y_members y_pairs y_cold y_fur y_coughs y_draftMembers y_draftPairs y_draftCold y_draftFur y_draftCoughs y_undoMany y_seenMany y_chosen y_text y_warmth y_side y_seconds y_s y_kept y_isKept y_undos y_seenAt y_seen y_board y_pick y_worth y_best) : ∃ (r : Int32) (x_text_length1 : Int32) (x_text_token1 : Int32) (x_text_number1 : Int32) (x_text_place1 : Int32) (x_text_next1 : Int32) (x_text_toldOnce1 : Int32) (x_parliament_members1 : Int32) (x_parliament_firstWarmth1 : Int32) (x_parliament_forMotion1 : Int32) (x_parliament_cold1 : Int32) (x_parliament_fur1 : Int32) (x_parliament_coughs1 : Int32) (x_parliament_seconds1 : Int32) (x_parliament_pairs1 : Int64) (x_draft_members1 : Int32) (x_draft_firstWarmth1 : Int32) (x_draft_forMotion1 : Int32) (x_draft_cold1 : Int32) (x_draft_fur1 : Int32) (x_draft_coughs1 : Int32) (x_draft_seconds1 : Int32) (x_draft_pairs1 : Int64) (x_now_warmth1 : Int32) (x_now_wearer1 : Int32) (x_now_fur1 : Int32) (x_now_minutes1 : Int32) (x_past_known1 : Int32) (x_seen_known1 : Int32) (x_images_e_kept1 : Nat → Int32) (y_thrown1 : Int32) (y_typed1 : Int32) (y_next1 : Int32) (y_token1 : Int32) (y_place1 : Int32) (y_value1 : Int32) (y_fault1 : Int32) (y_members1 : Int32) (y_pairs1 : Int32) (y_cold1 : Int32) (y_fur1 : Int32) (y_coughs1 : Int32) (y_draftMembers1 : Int32) (y_draftPairs1 : Int32) (y_draftCold1 : Int32) (y_draftFur1 : Int32) (y_draftCoughs1 : Int32) (y_undoMany1 : Int32) (y_seenMany1 : Int32) (y_warmth1 : Nat → Int32) (y_seconds1 : Nat → Int32) (y_side1 : Nat → Int32) (y_s1 : Nat → Int32) (y_isKept1 : Nat → Int32), f_X7_house x_text_bytes x_text_length x_text_token x_text_number x_text_place x_text_next x_text_toldOnce x_parliament_members x_parliament_firstWarmth x_parliament_forMotion x_parliament_cold x_parliament_fur x_parliament_coughs x_parliament_seconds x_parliament_pairs x_draft_members x_draft_firstWarmth x_draft_forMotion x_draft_cold x_draft_fur x_draft_coughs x_draft_seconds x_draft_pairs x_now_warmth x_now_wearer x_now_fur x_now_minutes x_past_known x_seen_known x_images_e_kept = some (r, x_text_length1, x_text_token1, x_text_number1, x_text_place1, x_text_next1, x_text_toldOnce1, x_parliament_members1, x_parliament_firstWarmth1, x_parliament_forMotion1, x_parliament_cold1, x_parliament_fur1, x_parliament_coughs1, x_parliament_seconds1, x_parliament_pairs1, x_draft_members1, x_draft_firstWarmth1, x_draft_forMotion1, x_draft_cold1, x_draft_fur1, x_draft_coughs1, x_draft_seconds1, x_draft_pairs1, x_now_warmth1, x_now_wearer1, x_now_fur1, x_now_minutes1, x_past_known1, x_seen_known1, x_images_e_kept1) ∧ f_X8_house y_text y_thrown y_typed y_next y_token y_place y_value y_fault y_members y_pairs y_cold y_fur y_coughs y_draftMembers y_draftPairs y_draftCold y_draftFur y_draftCoughs y_undoMany y_seenMany y_warmth y_seconds y_side y_s y_isKept = some (r, y_thrown1, y_typed1, y_next1, y_token1, y_place1, y_value1, y_fault1, y_members1, y_pairs1, y_cold1, y_fur1, y_coughs1, y_draftMembers1, y_draftPairs1, y_draftCold1, y_draftFur1, y_draftCoughs1, y_undoMany1, y_seenMany1, y_warmth1, y_seconds1, y_side1, y_s1, y_isKept1) ∧ Rel x_trace x_text_length1 x_text_token1 x_text_number1 x_text_place1 x_text_next1 x_text_toldOnce1 x_text_bytes x_parliament_members1 x_parliament_firstWarmth1 x_parliament_forMotion1 x_parliament_cold1 x_parliament_fur1 x_parliament_coughs1 x_parliament_seconds1 x_parliament_pairs1 x_draft_members1 x_draft_firstWarmth1 x_draft_forMotion1 x_draft_cold1 x_draft_fur1 x_draft_coughs1 x_draft_seconds1 x_draft_pairs1 x_now_warmth1 x_now_wearer1 x_now_fur1 x_now_minutes1 x_now_lot x_past_known1 x_past_states_e_warmth x_past_states_e_wearer x_past_states_e_fur x_past_states_e_minutes x_past_states_e_lot x_seen_known1 x_seen_minutes x_seen_sets x_images_e_kept1 x_images_e_state_warmth x_images_e_state_wearer x_images_e_state_fur x_images_e_state_minutes x_images_e_state_lot y_thrown1 y_trace y_typed1 y_next1 y_token1 y_place1 y_value1 y_fault1 y_members1 y_pairs1 y_cold1 y_fur1 y_coughs1 y_draftMembers1 y_draftPairs1 y_draftCold1 y_draftFur1 y_draftCoughs1 y_undoMany1 y_seenMany1 y_chosen y_text y_warmth1 y_side1 y_seconds1 y_s1 y_kept y_isKept1 y_undos y_seenAt y_seen y_board y_pick y_worth y_best := by
  obtain ⟨n, w0, sd, S, cold, fur0, coughs, sc, hWf, hC, hM, hN, hlot, hPast, hSeen, hImg, htr, hTx⟩ := hR
  obtain ⟨hn6, hw020, hw0z, hsd1, hsdz, hS64, hSz, hcold, hfur0, hcoughs, hsc⟩ := id hWf
  have hC' := hC
  have hM' := hM
  have hN' := hN
  obtain ⟨rfl, rfl, rfl, rfl, rfl, rfl, rfl, rfl⟩ := hC
  obtain ⟨rfl, rfl, rfl, rfl, rfl, hrows⟩ := hM
  obtain ⟨w, fu, c, hw, hz, hc6, rfl, rfl, hf5, rfl, hrow, hs8⟩ := NR_alt hn6 hN
  have h6 : ∀ m, 6 ≤ m → S m = 0 := fun m hm => hSz m (by omega)
  have hy : ∀ m, m < n → y_seconds m = nI (S m) := fun m hm => (hrows m hm).2.2
  have hss : ∀ m, m < n → sd m ≤ 1 ∧ y_side m = nI (sd m) := fun m hm => ⟨hsd1 m, (hrows m hm).2.1⟩
  obtain ⟨L, t, hL, rfl, rfl, htx⟩ := hTx
  have h : TX L t x_text_bytes y_text := ⟨hL, htx⟩
  obtain ⟨p, e, hT⟩ := tok_ex (L := L) (t := t) (Nat.zero_le L)
  obtain ⟨T, V, e8, hV⟩ := s_tok8 h hT y_token y_place y_value
  have e6 := s_tok6 h hT x_text_token x_text_place
  have hD0 : DR 0 (fun _ => 0) (fun _ => 0) (fun _ => 0) 1 1 0 0 0 0 0 (-9) (-9) (-9) y_warmth y_seconds y_side := ⟨⟨by omega, fun _ => Nat.zero_le _, fun _ _ => rfl, fun _ => Nat.zero_le _, fun _ _ => rfl, fun _ => (show (0 : Nat) < 64 by omega), fun _ _ => rfl, by omega, by omega, by omega, by omega⟩, ⟨by omega, by omega, by omega⟩, ⟨rfl, fun _ => rfl⟩, ⟨rfl, fun _ => rfl⟩, ⟨rfl, fun _ => rfl⟩, fun m hm => absurd hm (Nat.not_lt_zero m)⟩
  have hO := s_items (th := 0) (me := nI n) (pa := nI sc) (co := nI cold) (fu := nI fur0) (cg := nI coughs) (um := y_undoMany) (sm := y_seenMany) (ss := y_s) (ik := y_isKept) h 300 0 p e T V x_text_number 0 0 _ _ _ _ _ _ _ _ _ _ _ _ _ _ _ _ FU FU (by omega) (by show 300 ≤ 20000; omega) (by show 300 < 20000; omega) (Nat.zero_le _) hT hV hD0
  have ec : f_X6_readInto (nI L) x_text_bytes x_text_token x_text_number x_text_place x_text_next x_text_toldOnce x_draft_members x_draft_firstWarmth x_draft_forMotion x_draft_cold x_draft_fur x_draft_coughs x_draft_seconds x_draft_pairs = f_X6_readInto_20 (nI L) x_text_bytes FU (nI 0) (nI (kn L t p)) x_text_number (nI p) (nI e) (told 0 0 0) (nI 0) (nI (pk (fun _ => 0) 32 6)) (nI (pk (fun _ => 0) 2 6)) (nI 1) (nI 1) (nI 0) (nI 0) (lN (pk (fun _ => 0) 64 6)) := by
    unfold f_X6_readInto f_X2_beAsAtFirst
    rw [ob8_mk, show f_X6_readToken (nI L) x_text_bytes x_text_token x_text_place 0 = some (nI (kn L t p), nI p, nI e) from e6, ob3_mk] <;> rfl
  unfold f_X7_house f_X8_house
  rw [ec, show f_X8_advances (nI L) y_text 0 y_token y_place y_value = some (nI e, nI T, nI p, V) from e8, ob4_mk]
  rcases hO with ⟨f, a1, a2, a3, a4, a5, a6, a7, a8, a9, a10, a11, a12, a13, hf, hc, x1, r1, r2, r3, r4, d1, d2, d3, d4, d5, w', q', s', hr, hlow⟩ | ⟨i, n', w0', sd', S', cold', fur', coughs', sc', b2, b3, b4, yC, yF, yG, a1, a2, a3, a4, r1, r2, r3, r4, w', q', s', hi, hc, hr, hD, hlow⟩
  · have hr' : f_X8_house_49 y_text FU 0 0 (nI L) (nI e) (nI T) (nI p) V (-1) (nI n) (nI sc) (nI cold) (nI fur0) (nI coughs) 0 0 (-9) (-9) (-9) y_undoMany y_seenMany y_warmth y_seconds y_side y_s y_isKept = f_X8_house_124 y_text x1 0 (nI L) r1 r2 r3 r4 (nI f) (nI n) (nI sc) (nI cold) (nI fur0) (nI coughs) d1 d2 d3 d4 d5 y_undoMany y_seenMany w' q' s' y_s y_isKept := hr
    rw [hc, ob14_mk, if_neg (m10 hf), hr', s_h124F (show f < 1000 by omega)]
    refine ⟨_, _, _, _, _, _, _, _, _, _, _, _, _, _, _, _, _, _, _, _, _, _, _, _, _, _, _, _, _, _, _, _, _, _, _, _, _, _, _, _, _, _, _, _, _, _, _, _, _, _, _, _, _, _, rfl, rfl, ?_⟩
    refine ⟨n, w0, sd, S, cold, fur0, coughs, sc, hWf, ⟨rfl, rfl, rfl, rfl, rfl, rfl, rfl, rfl⟩, ⟨rfl, rfl, rfl, rfl, rfl, fun m hm => ?_⟩, hN', hlot, hPast, hSeen, hImg, htr, L, t, hL, rfl, rfl, htx⟩
    obtain ⟨g1, g2, g3⟩ := hlow m (by omega)
    obtain ⟨k1, k2, k3⟩ := hrows m hm
    exact ⟨g1.trans k1, g3.trans k2, g2.trans k3⟩
  · have hr' : f_X8_house_49 y_text FU 0 0 (nI L) (nI e) (nI T) (nI p) V (-1) (nI n) (nI sc) (nI cold) (nI fur0) (nI coughs) 0 0 (-9) (-9) (-9) y_undoMany y_seenMany y_warmth y_seconds y_side y_s y_isKept = f_X8_house_124 y_text (nI i) 0 (nI L) r1 r2 r3 r4 (-1) (nI n) (nI sc) (nI cold) (nI fur0) (nI coughs) (nI n') (nI sc') yC yF yG y_undoMany y_seenMany w' q' s' y_s y_isKept := hr
    obtain ⟨w2, q2, s2, ss2, f1, f2, f3, f4, f5, f6, f7⟩ := s_h124 y_text hD (nI i) 0 (nI L) r1 r2 r3 r4 (nI n) (nI sc) (nI cold) (nI fur0) (nI coughs) y_undoMany y_seenMany y_s y_isKept
    obtain ⟨hWf', _, _, _, _, hrw⟩ := hD
    obtain ⟨hn6', hw0', hwz', hs1', hsz', hS', hSz', hc5', hf5', hg9', hsc'⟩ := id hWf'
    unfold f_X6_drop f_X7_beginAnew
    rw [hc, ob14_mk, if_pos (nI_pos' (by omega)), ob2_mk, bnd_mk, bnd_mk, ob7_mk, hr', f1]
    refine ⟨_, _, _, _, _, _, _, _, _, _, _, _, _, _, _, _, _, _, _, _, _, _, _, _, _, _, _, _, _, _, _, _, _, _, _, _, _, _, _, _, _, _, _, _, _, _, _, _, _, _, _, _, _, _, rfl, rfl, ?_⟩
    have hww : ∀ m, m < n' → w2 m = nI (w0' m) ∧ s2 m = nI (sd' m) ∧ q2 m = nI (S' m) := fun m hm => by
      obtain ⟨g1, g2, g3⟩ := f2 m (by omega)
      obtain ⟨k1, k2, k3⟩ := hrw m hm
      exact ⟨g1.trans k1, g3.trans k2, g2.trans k3⟩
    refine ⟨n', w0', sd', S', cold', fur', coughs', sc', hWf', ⟨rfl, rfl, rfl, rfl, rfl, rfl, rfl, rfl⟩, ⟨rfl, rfl, rfl, rfl, rfl, hww⟩, ⟨w0', fur', hw0', hwz', rfl, fun m hm => ?_, f4, Or.inl rfl, hf5', rfl, f5, f6⟩, f7.trans hlot, ⟨0, by omega, rfl, rfl, fun i hi => absurd hi (Nat.not_lt_zero i)⟩, ⟨0, fun _ => 0, fun _ => 0, by omega, rfl, rfl, fun i hi => absurd hi (Nat.not_lt_zero i)⟩, fun j hj => Or.inl ?_, htr, 0, fun _ => 0, by omega, rfl, rfl, fun k hk => absurd hk (Nat.not_lt_zero k)⟩
    · rw [f3 m hm]
      by_cases c : m < n'
      · rw [if_pos c]; exact (hww m c).1
      · rw [if_neg c, hwz' m (by omega)]; rfl
    · rcases (show j = 0 ∨ j = 1 by omega) with rfl | rfl
      · exact ⟨by rw [upd_n (by omega), upd_s], by rw [upd_n (by omega), upd_s]⟩
      · exact ⟨upd_s, upd_s⟩
