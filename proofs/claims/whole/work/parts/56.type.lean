theorem nI_self (x : Int32) : ∃ a, x = nI a := ⟨x.toBitVec.toNat, by
  apply Int32.toBitVec_inj.1
  show x.toBitVec = BitVec.ofNat 32 x.toBitVec.toNat
  simp⟩
theorem by255 (x : Int32) : ∃ t, t < 256 ∧ x &&& 255 = nI t := by
  obtain ⟨a, rfl⟩ := nI_self x
  exact ⟨a % 256, Nat.mod_lt _ (by omega), u_mask a 8⟩
theorem byte_v (v : Int64) : vp_nar .byte ((v.toInt32).toInt8.toInt32) &&& 255 = (v &&& 255).toInt32 := by
  apply b_ext
  intro i hi
  have h1 : ∀ y : Int32, i < 8 → (y.toInt8.toInt32).toBitVec.getLsbD i = y.toBitVec.getLsbD i := by
    intro y q
    rw [Int8.toBitVec_toInt32, Int32.toBitVec_toInt8, BitVec.getLsbD_signExtend, if_pos q, BitVec.getLsbD_signExtend, if_pos hi, decide_eq_true hi, decide_eq_true q, Bool.true_and, Bool.true_and]
  have h2 : ∀ y : Int64, y.toInt32.toBitVec.getLsbD i = y.toBitVec.getLsbD i := by
    intro y
    rw [Int64.toBitVec_toInt32, BitVec.getLsbD_signExtend, if_pos (show i < 64 by omega), decide_eq_true hi, Bool.true_and]
  have h3 : (255 : Int64).toBitVec.getLsbD i = decide (i < 8) := (by decide +kernel : ∀ i, i < 32 → (255 : Int64).toBitVec.getLsbD i = decide (i < 8)) i hi
  rw [b_and, b_255]
  show (((v.toInt32).toInt8.toInt32.toInt8.toInt32).toBitVec.getLsbD i && decide (i < 8)) = ((v &&& 255).toInt32).toBitVec.getLsbD i
  rw [h2, Int64.toBitVec_and, BitVec.getLsbD_and, h3]
  by_cases q : i < 8
  · rw [h1 _ q, h1 _ q, h2]
  · rw [decide_eq_false q, Bool.and_false, Bool.and_false]
def BB (L : Nat) (xb yt : Nat → Int32) : Prop := ∀ k, k < L → ∃ t, t < 256 ∧ xb k &&& 255 = nI t ∧ yt k = nI t
theorem BB_of {L : Nat} {t : Nat → Nat} {xb yt : Nat → Int32} (h : ∀ k, k < L → t k < 256 ∧ xb k &&& 255 = nI (t k) ∧ yt k = nI (t k)) : BB L xb yt := fun k hk => ⟨t k, h k hk⟩
theorem BB_to {L : Nat} {xb yt : Nat → Int32} (h : BB L xb yt) (hL : L ≤ 200) : RTxt (nI L) xb (nI L) yt := ⟨L, fun k => (yt k).toNatClampNeg, hL, rfl, rfl, fun k hk => by
  obtain ⟨t, a, b, c⟩ := h k hk
  have e : (yt k).toNatClampNeg = t := by rw [c, nI_clamp (by omega)]
  show (yt k).toNatClampNeg < 256 ∧ xb k &&& 255 = nI (yt k).toNatClampNeg ∧ yt k = nI (yt k).toNatClampNeg
  rw [e]; exact ⟨a, b, c⟩⟩
theorem s_type (v : Int64) : ∀ (fl j L : Nat) (xb yt : Nat → Int32), j ≤ 8 → L + j ≤ 200 → j < fl → BB L xb yt → ∃ xb' yt', f_X7_type_32 fl v (iI ((j : Int) - 1)) (nI L) xb = some (nI (L + j), nI (L + j), xb') ∧ f_X8_type_37 fl v (iI ((j : Int) - 1)) 0 (nI L) yt = some (nI (L + j), 0, nI (L + j), yt') ∧ BB (L + j) xb' yt' := by
  intro fl
  induction fl with
  | zero => intro j L xb yt h1 h2 h3; omega
  | succ fl ih =>
    intro j L xb yt h1 h2 h3 hB
    show ∃ xb' yt', f_X7_type_32_b (f_X7_type_32 fl) _ _ _ _ = _ ∧ f_X8_type_37_b (f_X8_type_37 fl) _ _ _ _ _ = _ ∧ _
    unfold f_X7_type_32_b f_X8_type_37_b f_X6_add
    cases j with
    | zero =>
      rw [if_pos (show iI (((0 : Nat) : Int) - 1) < 0 by decide), if_pos (show iI (((0 : Nat) : Int) - 1) < 0 by decide)]
      exact ⟨xb, yt, rfl, rfl, hB⟩
    | succ i =>
      have hdec : nI i + (-1) = iI ((i : Int) - 1) := by
        rw [← iI_nI, show (-1 : Int32) = iI (-1) from rfl, iI_add (by omega) (by omega) (by omega) (by omega)]; rfl
      have e0 : iI (((i + 1 : Nat) : Int) - 1) = nI i := by rw [← iI_nI]; congr 1; omega
      have hp : ¬ nI i < 0 := nI_pos (by omega)
      rw [e0, if_neg hp, if_neg hp, if_neg (show ¬ nI L < 0 from nI_pos (by omega)), if_neg (show ¬ (200 : Int32) ≤ nI L from nI_ge (a := L) (b := 200) (by omega) (by omega)), ing_nI (by omega) (by omega), ing_nI (by omega) (by omega), nI_clamp (by omega), bnd_mk, bnd_mk, ob2_mk, bnd_mk, bnd_mk, bnd_mk, bnd_mk, hdec, nI_1]
      obtain ⟨xb', yt', g1, g2, g3⟩ := ih i (L + 1) (upd xb L (vp_nar .byte (((v >>> ((8 * nI i).toInt64 &&& 63)).toInt32).toInt8.toInt32))) (upd yt L (((v >>> ((8 * nI i).toInt64 &&& 63)) &&& 255).toInt32)) (by omega) (by omega) (by omega) (fun k hk => by
        by_cases e : k = L
        · rw [e, upd_s, upd_s, byte_v]
          obtain ⟨t, a, b⟩ := by255 (vp_nar .byte (((v >>> ((8 * nI i).toInt64 &&& 63)).toInt32).toInt8.toInt32))
          rw [byte_v] at b
          exact ⟨t, a, b, b⟩
        · rw [upd_n e, upd_n e]
          exact hB k (by omega))
      rw [show L + (i + 1) = L + 1 + i by omega]
      exact ⟨xb', yt', g1, g2, g3⟩
set_option maxHeartbeats 4000000 in
theorem st_type (x_trace : Int64) (x_text_length : Int32) (x_text_token : Int32) (x_text_number : Int32) (x_text_place : Int32) (x_text_next : Int32) (x_text_toldOnce : Int32) (x_text_bytes : Nat → Int32) (x_parliament_members : Int32) (x_parliament_firstWarmth : Int32) (x_parliament_forMotion : Int32) (x_parliament_cold : Int32) (x_parliament_fur : Int32) (x_parliament_coughs : Int32) (x_parliament_seconds : Int32) (x_parliament_pairs : Int64) (x_draft_members : Int32) (x_draft_firstWarmth : Int32) (x_draft_forMotion : Int32) (x_draft_cold : Int32) (x_draft_fur : Int32) (x_draft_coughs : Int32) (x_draft_seconds : Int32) (x_draft_pairs : Int64) (x_now_warmth : Int32) (x_now_wearer : Int32) (x_now_fur : Int32) (x_now_minutes : Int32) (x_now_lot : Int32) (x_past_known : Int32) (x_past_states_e_warmth : Nat → Int32) (x_past_states_e_wearer : Nat → Int32) (x_past_states_e_fur : Nat → Int32) (x_past_states_e_minutes : Nat → Int32) (x_past_states_e_lot : Nat → Int32) (x_seen_known : Int32) (x_seen_minutes : Nat → Int32) (x_seen_sets : Nat → Int32) (x_images_e_kept : Nat → Int32) (x_images_e_state_warmth : Nat → Int32) (x_images_e_state_wearer : Nat → Int32) (x_images_e_state_fur : Nat → Int32) (x_images_e_state_minutes : Nat → Int32) (x_images_e_state_lot : Nat → Int32) (y_thrown : Int32) (y_trace : Int64) (y_typed : Int32) (y_next : Int32) (y_token : Int32) (y_place : Int32) (y_value : Int32) (y_fault : Int32) (y_members : Int32) (y_pairs : Int32) (y_cold : Int32) (y_fur : Int32) (y_coughs : Int32) (y_draftMembers : Int32) (y_draftPairs : Int32) (y_draftCold : Int32) (y_draftFur : Int32) (y_draftCoughs : Int32) (y_undoMany : Int32) (y_seenMany : Int32) (y_chosen : Int32) (y_text : Nat → Int32) (y_warmth : Nat → Int32) (y_side : Nat → Int32) (y_seconds : Nat → Int32) (y_s : Nat → Int32) (y_kept : Nat → Int32) (y_isKept : Nat → Int32) (y_undos : Nat → Int32) (y_seenAt : Nat → Int32) (y_seen : Nat → Int32) (y_board : Nat → Int32) (y_pick : Nat → Int32) (y_worth : Nat → Int32) (y_best : Nat → Int32) (hR : Rel x_trace x_text_length x_text_token x_text_number x_text_place x_text_next x_text_toldOnce x_text_bytes x_parliament_members x_parliament_firstWarmth x_parliament_forMotion x_parliament_cold x_parliament_fur x_parliament_coughs x_parliament_seconds x_parliament_pairs x_draft_members x_draft_firstWarmth x_draft_forMotion x_draft_cold x_draft_fur x_draft_coughs x_draft_seconds x_draft_pairs x_now_warmth x_now_wearer x_now_fur x_now_minutes x_now_lot x_past_known x_past_states_e_warmth x_past_states_e_wearer x_past_states_e_fur x_past_states_e_minutes x_past_states_e_lot x_seen_known x_seen_minutes x_seen_sets x_images_e_kept x_images_e_state_warmth x_images_e_state_wearer x_images_e_state_fur x_images_e_state_minutes x_images_e_state_lot y_thrown y_trace y_typed y_next y_token y_place y_value y_fault y_members y_pairs y_cold y_fur y_coughs y_draftMembers y_draftPairs y_draftCold y_draftFur y_draftCoughs y_undoMany y_seenMany y_chosen y_text y_warmth y_side y_seconds y_s y_kept y_isKept y_undos y_seenAt y_seen y_board y_pick y_worth y_best) (a1 : Int64) (a2 : Int32) : ∃ (r : Int32) (x_text_length1 : Int32) (x_text_bytes1 : Nat → Int32) (y_thrown1 : Int32) (y_typed1 : Int32) (y_text1 : Nat → Int32), f_X7_type x_text_length x_text_bytes a1 a2 = some (r, x_text_length1, x_text_bytes1) ∧ f_X8_type y_thrown y_typed y_text a1 a2 = some (r, y_thrown1, y_typed1, y_text1) ∧ Rel x_trace x_text_length1 x_text_token x_text_number x_text_place x_text_next x_text_toldOnce x_text_bytes1 x_parliament_members x_parliament_firstWarmth x_parliament_forMotion x_parliament_cold x_parliament_fur x_parliament_coughs x_parliament_seconds x_parliament_pairs x_draft_members x_draft_firstWarmth x_draft_forMotion x_draft_cold x_draft_fur x_draft_coughs x_draft_seconds x_draft_pairs x_now_warmth x_now_wearer x_now_fur x_now_minutes x_now_lot x_past_known x_past_states_e_warmth x_past_states_e_wearer x_past_states_e_fur x_past_states_e_minutes x_past_states_e_lot x_seen_known x_seen_minutes x_seen_sets x_images_e_kept x_images_e_state_warmth x_images_e_state_wearer x_images_e_state_fur x_images_e_state_minutes x_images_e_state_lot y_thrown1 y_trace y_typed1 y_next y_token y_place y_value y_fault y_members y_pairs y_cold y_fur y_coughs y_draftMembers y_draftPairs y_draftCold y_draftFur y_draftCoughs y_undoMany y_seenMany y_chosen y_text1 y_warmth y_side y_seconds y_s y_kept y_isKept y_undos y_seenAt y_seen y_board y_pick y_worth y_best := by
  have hR0 := hR
  obtain ⟨n, w0, sd, S, cold, fur0, coughs, sc, hWf, hC, hM, hN, hlot, hPast, hSeen, hImg, htr, hTx⟩ := hR
  obtain ⟨hn6, hw020, hw0z, hsd1, hsdz, hS64, hSz, hcold, hfur0, hcoughs, hsc⟩ := id hWf
  have hC' := hC
  have hM' := hM
  have hN' := hN
  obtain ⟨rfl, rfl, rfl, rfl, rfl, rfl, rfl, rfl⟩ := hC
  obtain ⟨rfl, rfl, rfl, rfl, rfl, hrows⟩ := hM
  obtain ⟨w, fu, c, hw, hz, hc6, rfl, rfl, hf5, rfl, hrow, hs8⟩ := NR_alt hn6 hN
  have h6 : ∀ m, 6 ≤ m → S m = 0 := fun m hm => hSz m (by omega)
  have hy : ∀ m, m < n → y_seconds m = nI (S m) := fun m hm => (hrows m hm).2.2
  have hss : ∀ m, m < n → sd m ≤ 1 ∧ y_side m = nI (sd m) := fun m hm => ⟨hsd1 m, (hrows m hm).2.1⟩
  obtain ⟨L, t, hL, rfl, rfl, ht⟩ := hTx
  unfold f_X7_type f_X8_type
  rw [s_in, ob1_mk]
  by_cases q1 : a2 < 1
  · rw [if_pos q1, if_neg (show ¬ ((1 : Int32) ≤ a2 ∧ a2 ≤ 8) from fun h => nlt_le.mpr h.1 q1), if_pos rfl]
    exact ⟨_, _, _, 0, _, _, rfl, rfl, hR0⟩
  · rw [if_neg q1]
    by_cases q2 : a2 ≤ 8
    · have h1 : (1 : Int32) ≤ a2 := nlt_le.mp q1
      obtain ⟨K, hK, rfl⟩ := rng (N := 8) (by omega) (by have h1 := Int32.le_iff_toInt_le.mp h1; rw [show (1 : Int32).toInt = 1 from by decide] at h1; rw [Int32.le_iff_toInt_le, show (0 : Int32).toInt = 0 from by decide]; omega) q2
      have hK1 : 1 ≤ K := (nI_leI (a := 1) (b := K) (by omega) (by omega)).mp h1
      obtain ⟨K', rfl⟩ : ∃ K', K = K' + 1 := ⟨K - 1, by omega⟩
      have e200 : (200 : Int32) - nI (K' + 1) = nI (200 - (K' + 1)) := by
        have : ∀ k, k ≤ 8 → (200 : Int32) - nI k = nI (200 - k) := by decide +kernel
        exact this _ hK
      unfold f_X6_hasRoomFor
      rw [if_pos q2, if_pos (show (1 : Int32) ≤ nI (K' + 1) ∧ nI (K' + 1) ≤ 8 from ⟨h1, q2⟩), if_neg n10, e200, nI_add, nI_pred, bnd_mk, bnd_mk]
      by_cases r : L + (K' + 1) ≤ 200
      · obtain ⟨xb', yt', g1, g2, g3⟩ := s_type a1 FU (K' + 1) L x_text_bytes y_text hK r (by show K' + 1 < 20000; omega) (BB_of ht)
        rw [show iI (((K' + 1 : Nat) : Int) - 1) = nI K' by rw [← iI_nI]; congr 1; omega] at g1 g2
        rw [if_neg (show ¬ nI (200 - (K' + 1)) < nI L from nI_nlt (by omega) (by omega)), ob1_mk, if_neg n10, if_pos (show nI (L + (K' + 1)) ≤ 200 from nI_le (b := 200) r (by omega))]
        exact ⟨_, _, _, 0, _, _, g1, g2, n, w0, sd, S, cold, fur0, coughs, sc, hWf, hC', hM', hN', hlot, hPast, hSeen, hImg, htr, BB_to g3 r⟩
      · rw [if_pos (show nI (200 - (K' + 1)) < nI L from nI_lt (by omega) (by omega)), ob1_mk, if_pos rfl, if_neg (show ¬ nI (L + (K' + 1)) ≤ 200 from nI_ge (a := 200) (by omega) (by omega))]
        exact ⟨_, _, _, 0, _, _, rfl, rfl, hR0⟩
    · rw [if_neg q2, if_neg (show ¬ ((1 : Int32) ≤ a2 ∧ a2 ≤ 8) from fun h => q2 h.2), if_pos rfl]
      exact ⟨_, _, _, 0, _, _, rfl, rfl, hR0⟩
