theorem n_or (a b : Nat) : nI a ||| nI b = nI (a ||| b) := by
  apply Int32.toBitVec_inj.1
  show BitVec.ofNat 32 a ||| BitVec.ofNat 32 b = BitVec.ofNat 32 (a ||| b)
  apply BitVec.eq_of_getLsbD_eq
  intro i hi
  simp [hi]
theorem n_cat {a b : Nat} (hb : b < 32768) : nI (a * 32768) ||| nI b = nI (a * 32768 + b) := by
  rw [n_or, Nat.mul_comm a 32768, show (32768 : Nat) = 2 ^ 15 from rfl, Nat.two_pow_add_eq_or_of_lt (show b < 2 ^ 15 from hb)]
theorem sN_mono {f g : Nat → Nat} (h : ∀ m, f m ≤ g m) : ∀ n, sN f n ≤ sN g n
  | 0 => Nat.le_refl _
  | n + 1 => Nat.add_le_add (sN_mono h n) (h n)
section
variable {n cold fu : Nat} {S : Nat → Nat}
def fa (n cold : Nat) (S : Nat → Nat) (fu k : Nat) (w : Nat → Nat) (r : Nat) : Nat := sN (awb (run cold S fu w (pln n k r))) n
def ok6 (n cold : Nat) (S : Nat → Nat) (fu k : Nat) (w : Nat → Nat) (r : Nat) : Prop := okp cold S fu 6 w (pln n k r) = true
theorem fa_now (k : Nat) (w : Nat → Nat) (r : Nat) : fa n cold S fu k w r ≤ sN (awb w) n := by
  refine sN_mono (fun m => ?_) n
  unfold awb
  by_cases z : w m = 0
  · rw [if_pos (run_zero _ z)]; exact Nat.zero_le _
  · rw [if_neg z]; split <;> omega
theorem fa_six (hn : n ≤ 6) (k : Nat) (w : Nat → Nat) (r : Nat) : fa n cold S fu k w r ≤ 6 := Nat.le_trans (sN_le (awb_lt _) n) hn
theorem ok_first {k m r : Nat} {w : Nat → Nat} (hm : m < n) (hr : r < n ^ k) : ok6 n cold S fu (k + 1) w (m * n ^ k + r) ↔ w m ≠ 0 ∧ m ≠ 6 ∧ ok6 n cold S fu k (aft cold S w m fu) r := by
  unfold ok6
  rw [pln_first hm hr]
  simp only [okp, Bool.and_eq_true, Bool.not_eq_true', beq_eq_false_iff_ne, ne_eq, and_assoc]
theorem fav_first {k m r : Nat} {w : Nat → Nat} (hm : m < n) (hr : r < n ^ k) : fa n cold S fu (k + 1) w (m * n ^ k + r) = fa n cold S fu k (aft cold S w m fu) r := by
  unfold fa
  rw [pln_first hm hr]
  rfl
def SV (n cold : Nat) (S : Nat → Nat) (fu k : Nat) (w : Nat → Nat) (lo : Int) (B : Nat) (z : Int) (x : Int32) : Prop :=
  (∀ r, r < B → ok6 n cold S fu k w r → (fa n cold S fu k w r : Int) ≤ z) ∧ ((x = -9 ∧ z = lo) ∨ ∃ r0, r0 < B ∧ ok6 n cold S fu k w r0 ∧ z = (fa n cold S fu k w r0 : Int) ∧ lo < z ∧ (∀ r', r' < r0 → ok6 n cold S fu k w r' → (fa n cold S fu k w r' : Int) < z) ∧ x = nI (fa n cold S fu k w r0 * 32768 + enc (pln n k r0)))
theorem SV_skip {k m B : Nat} {w : Nat → Nat} {lo z : Int} {x : Int32} (h : SV n cold S fu k w lo B z x) (hB : B ≤ m) (hno : ∀ r, B ≤ r → r < m → ok6 n cold S fu k w r → (fa n cold S fu k w r : Int) ≤ z) : SV n cold S fu k w lo m z x := by
  obtain ⟨h1, h2⟩ := h
  refine ⟨fun r hr o => ?_, ?_⟩
  · rcases Nat.lt_or_ge r B with q | q
    · exact h1 r q o
    · exact hno r q hr o
  · rcases h2 with h2 | ⟨r0, a1, a2⟩
    · exact Or.inl h2
    · exact Or.inr ⟨r0, by omega, a2⟩
theorem blk {m N r : Nat} (h1 : m * N ≤ r) (h2 : r < (m + 1) * N) : ∃ r', r' < N ∧ r = m * N + r' := ⟨r - m * N, by rw [Nat.add_mul] at h2; omega, by omega⟩
theorem s_saving (hn : n ≤ 6) (hc : cold ≤ 5) (hS : ∀ m, S m < 64) (h6 : ∀ m, 6 ≤ m → S m = 0) (hf : fu ≤ 5) : ∀ (k : Nat), k ≤ 5 → ∀ (fuel : Nat) (w : Nat → Nat) (lo : Int), k < fuel → -1 ≤ lo → lo ≤ 6 → (∀ m, w m ≤ 20) → (∀ m, n ≤ m → w m = 0) → ∃ res z, f_X4_saving fuel (nI n) (nI cold) (lN (pk S 64 6)) (nI (pk w 32 6)) (nI fu) (nI k) (iI lo) = some res ∧ SV n cold S fu k w lo (n ^ k) z res := by
  intro k
  induction k with
  | zero =>
    intro hk fuel w lo hfu hl1 hl2 hw hz
    obtain ⟨fuel, rfl⟩ : ∃ f, fuel = f + 1 := ⟨fuel - 1, by omega⟩
    show ∃ res z, f_X4_saving_b (f_X4_saving fuel) _ _ _ _ _ _ _ = some res ∧ _
    unfold f_X4_saving_b
    have hnow := sN_le (awb_lt w) n
    rw [s_notFrozen hn hw, ob1_mk]
    by_cases q : lo < (sN (awb w) n : Int)
    · rw [if_pos (show iI lo < nI (sN (awb w) n) by rw [← iI_nI, iI_lt (by omega) (by omega) (by omega) (by omega)]; exact q), if_neg (show ¬ (0 : Int32) < nI 0 by decide), show (15 : Int32) = nI 15 from rfl, u_shl (by omega) (by omega), show (2 : Nat) ^ 15 = 32768 from rfl]
      refine ⟨_, (sN (awb w) n : Int), rfl, fun r hr o => ?_, Or.inr ⟨0, Nat.one_pos, rfl, rfl, q, fun r' hr' => absurd hr' (Nat.not_lt_zero r'), by rw [show fa n cold S fu 0 w 0 = sN (awb w) n from rfl, show enc (pln n 0 0) = 0 from rfl, Nat.add_zero]⟩⟩
      have := fa_now (n := n) (cold := cold) (S := S) (fu := fu) 0 w r
      omega
    · rw [if_neg (show ¬ iI lo < nI (sN (awb w) n) by rw [← iI_nI, iI_lt (by omega) (by omega) (by omega) (by omega)]; exact q)]
      refine ⟨_, lo, rfl, fun r hr o => ?_, Or.inl ⟨rfl, rfl⟩⟩
      have := fa_now (n := n) (cold := cold) (S := S) (fu := fu) 0 w r
      omega
  | succ k ih =>
    intro hk fuel w lo hfu hl1 hl2 hw hz
    obtain ⟨fuel, rfl⟩ : ∃ f, fuel = f + 1 := ⟨fuel - 1, by omega⟩
    show ∃ res z, f_X4_saving_b (f_X4_saving fuel) _ _ _ _ _ _ _ = some res ∧ _
    unfold f_X4_saving_b
    have hnow := sN_le (awb_lt w) n
    rw [s_notFrozen hn hw, ob1_mk]
    have hpow : n ^ (k + 1) = n * n ^ k := by rw [Nat.pow_succ, Nat.mul_comm]
    by_cases q : lo < (sN (awb w) n : Int)
    · rw [if_pos (show iI lo < nI (sN (awb w) n) by rw [← iI_nI, iI_lt (by omega) (by omega) (by omega) (by omega)]; exact q), if_pos (show (0 : Int32) < nI (k + 1) from nI_lt (a := 0) (by omega) (by omega))]
      have loop : ∀ (fl m : Nat) (x : Int32) (z : Int), m ≤ n → n - m < fl → -1 ≤ z → z ≤ 6 → SV n cold S fu (k + 1) w lo (m * n ^ k) z x → ∃ res z', f_X4_saving_38 (nI n) (nI cold) (lN (pk S 64 6)) (f_X4_saving fuel) fl (nI (pk w 32 6)) (nI fu) (nI (k + 1)) (nI (sN (awb w) n)) x (iI z) (nI m) = some res ∧ SV n cold S fu (k + 1) w lo (n ^ (k + 1)) z' res := by
        intro fl
        induction fl with
        | zero => intro m x z h1 h2; omega
        | succ fl ihl =>
          intro m x z h1 h2 hz1 hz2 hv
          show ∃ res z', f_X4_saving_38_b _ _ _ _ (f_X4_saving_38 (nI n) (nI cold) (lN (pk S 64 6)) (f_X4_saving fuel) fl) _ _ _ _ _ _ _ = some res ∧ _
          unfold f_X4_saving_38_b
          by_cases h : m = n
          · subst h
            rw [if_pos (nI_le (Nat.le_refl m) (by omega))]
            exact ⟨_, z, rfl, by rw [hpow]; exact hv⟩
          · have hmn : m < n := by omega
            have hle : (m + 1) * n ^ k ≤ n * n ^ k := Nat.mul_le_mul_right _ hmn
            have hst : m * n ^ k ≤ (m + 1) * n ^ k := Nat.mul_le_mul_right _ (by omega)
            rw [if_neg (nI_ge hmn (by omega))]
            by_cases y : (sN (awb w) n : Int) ≤ z
            · rw [if_pos (show nI (sN (awb w) n) ≤ iI z by rw [← iI_nI, iI_le (by omega) (by omega) (by omega) (by omega)]; exact y)]
              refine ⟨_, z, rfl, SV_skip hv (by rw [hpow]; omega) (fun r _ _ _ => ?_)⟩
              have := fa_now (n := n) (cold := cold) (S := S) (fu := fu) (k + 1) w r
              omega
            · rw [if_neg (show ¬ nI (sN (awb w) n) ≤ iI z by rw [← iI_nI, iI_le (by omega) (by omega) (by omega) (by omega)]; exact y), s_isFrozen hw (by omega), ob1_mk]
              by_cases f0 : w m = 0
              · rw [if_pos f0, if_neg n10]
                unfold f_X4_saving_119
                rw [bnd_mk, nI_1]
                refine ihl (m + 1) _ _ (by omega) (by omega) hz1 hz2 (SV_skip hv hst (fun r a b o => ?_))
                obtain ⟨r', c1, rfl⟩ := blk a b
                exact absurd f0 ((ok_first hmn c1).mp o).1
              · rw [if_neg f0, if_pos rfl, ← coatI_lt (c := m) (by omega), s_afterMinute hn hc hS h6 hw hz m hf, ob1_mk, coatI_lt (c := m) (by omega), nI_pred]
                obtain ⟨res, z', g1, g2, g3⟩ := ih (by omega) fuel (aft cold S w m fu) z (by omega) hz1 hz2 (fun i => aft_le hw m fu i) (fun i hi => aft_zero (hz i hi))
                rw [g1, ob1_mk]
                rcases g3 with ⟨rfl, rfl⟩ | ⟨r0, b1, b2, b3, b4, b5, rfl⟩
                · rw [if_pos rfl]
                  unfold f_X4_saving_119
                  rw [bnd_mk, nI_1]
                  refine ihl (m + 1) _ _ (by omega) (by omega) hz1 hz2 (SV_skip hv hst (fun r a b o => ?_))
                  obtain ⟨r', c1, rfl⟩ := blk a b
                  rw [fav_first hmn c1]
                  exact g2 r' c1 ((ok_first hmn c1).mp o).2.2
                · have hen := enc_pln (n := n) hn (show k ≤ 5 by omega) b1
                  have hen2 : enc (pln n k r0) < 4096 := by
                    have e1 := enc_lt (p := pln n k r0) (fun i hi => by have := pln_mem hn b1 i hi; omega)
                    rw [pln_length] at e1
                    have e2 : 8 ^ k ≤ 8 ^ 4 := Nat.pow_le_pow_right (by omega) (by omega)
                    omega
                  have hf6 := fa_six (n := n) (cold := cold) (S := S) (fu := fu) hn k (aft cold S w m fu) r0
                  unfold f_X4_saved
                  rw [if_neg (nI_ne9 (by omega)), ob1_mk, show (32767 : Int32) = nI (2 ^ 15 - 1) from rfl, u_mask, show (15 : Int32) = nI 15 from rfl, u_shr (by omega) (by omega), show (fa n cold S fu k (aft cold S w m fu) r0 * 32768 + enc (pln n k r0)) % 2 ^ 15 = enc (pln n k r0) by omega, show (fa n cold S fu k (aft cold S w m fu) r0 * 32768 + enc (pln n k r0)) / 2 ^ 15 = fa n cold S fu k (aft cold S w m fu) r0 by omega, s_withFirst hen (by omega), ob1_mk, bnd_mk, u_shl (by omega) (by omega)]
                  rw [show (2 : Nat) ^ 15 = 32768 from rfl, n_cat (by omega)]
                  unfold f_X4_saving_119
                  rw [bnd_mk, nI_1, ← iI_nI (fa n cold S fu k (aft cold S w m fu) r0), ← b3]
                  have hN : 0 < n ^ k := by omega
                  have ha := Nat.add_mul m 1 (n ^ k)
                  refine ihl (m + 1) _ z' (by omega) (by omega) (by omega) (by omega) ⟨fun r hr o => ?_, Or.inr ⟨m * n ^ k + r0, by omega, (ok_first hmn b1).mpr ⟨f0, by omega, b2⟩, by rw [fav_first hmn b1]; exact b3, ?_, fun r' hr' o => ?_, ?_⟩⟩
                  · rcases Nat.lt_or_ge r (m * n ^ k) with t | t
                    · have := hv.1 r t o; omega
                    · obtain ⟨r', c1, rfl⟩ := blk t hr
                      rw [fav_first hmn c1]
                      exact g2 r' c1 ((ok_first hmn c1).mp o).2.2
                  · rcases hv.2 with ⟨_, t⟩ | ⟨_, _, _, _, t, _⟩ <;> omega
                  · rcases Nat.lt_or_ge r' (m * n ^ k) with t | t
                    · have := hv.1 r' t o; omega
                    · obtain ⟨r'', c1, rfl⟩ := blk (r := r') t (by omega)
                      rw [fav_first hmn c1]
                      exact b5 r'' (by omega) ((ok_first hmn c1).mp o).2.2
                  · rw [fav_first hmn b1, pln_first hmn b1]; rfl
      exact loop FU 0 (-9) lo (Nat.zero_le n) (by show n - 0 < 20000; omega) hl1 hl2 ⟨fun r hr => absurd hr (by omega), Or.inl ⟨rfl, rfl⟩⟩
    · rw [if_neg (show ¬ iI lo < nI (sN (awb w) n) by rw [← iI_nI, iI_lt (by omega) (by omega) (by omega) (by omega)]; exact q)]
      refine ⟨_, lo, rfl, fun r hr o => ?_, Or.inl ⟨rfl, rfl⟩⟩
      have := fa_now (n := n) (cold := cold) (S := S) (fu := fu) (k + 1) w r
      omega
def svT (k p : Int32) (z : Int32) (b pi be : Nat → Int32) : Option (Int32 × Int32 × (Nat → Int32) × (Nat → Int32) × (Nat → Int32)) :=
  if z = -9 then some (z, 0, b, pi, be) else if (0 : Int32) ≤ p then (if k ≤ p then some (-5, 0, b, pi, be) else ing p 5 <| some (be p.toNatClampNeg, 0, b, pi, be)) else some (z, 0, b, pi, be)
def MV (n cold : Nat) (S : Nat → Nat) (fu k : Nat) (w : Nat → Nat) (B : Nat) (z : Int) (be : Nat → Int32) : Prop :=
  (∀ r, r < B → ok6 n cold S fu k w r → (fa n cold S fu k w r : Int) ≤ z) ∧ (z = -9 ∨ ∃ r0, r0 < B ∧ ok6 n cold S fu k w r0 ∧ z = (fa n cold S fu k w r0 : Int) ∧ (∀ r', r' < r0 → ok6 n cold S fu k w r' → (fa n cold S fu k w r' : Int) < z) ∧ ∀ i, i < k → be i = nI ((pln n k r0).getD i 0))
theorem s_mostSaved (hn : n ≤ 6) (hc : cold ≤ 5) (hS : ∀ m, S m < 64) (h6 : ∀ m, 6 ≤ m → S m = 0) (hf : fu ≤ 5) {yq s : Nat → Int32} (hy : ∀ c, c < n → yq c = nI (S c)) {w : Nat → Nat} {c : Nat} (hw : ∀ m, w m ≤ 20) (hz : ∀ m, n ≤ m → w m = 0) (hs : SRow s w c fu) {k : Nat} (hk : k ≤ 5) (p : Int32) : ∀ (fl r : Nat) (z : Int) (b pi be : Nat → Int32), r ≤ n ^ k → n ^ k - r < fl → -9 ≤ z → z ≤ 6 → BRow b 0 w c → MV n cold S fu k w r z be → ∃ z' b' pi' be', f_X8_save_31 (nI n) (nI cold) yq s fl (nI k) p (iI z) (nI r) 0 b pi be = svT (nI k) p (iI z') b' pi' be' ∧ MV n cold S fu k w (n ^ k) z' be' := by
  have hps := pow_small hn hk
  intro fl
  induction fl with
  | zero => intro r z b pi be h1 h2; omega
  | succ fl ihl =>
    intro r z b pi be h1 h2 hz1 hz2 hb hv
    show ∃ z' b' pi' be', f_X8_save_31_b _ _ _ _ (f_X8_save_31 (nI n) (nI cold) yq s fl) _ _ _ _ _ _ _ _ = _ ∧ _
    unfold f_X8_save_31_b f_X8_save_86 f_X8_save_102
    rw [s_plans hn hk, ob1_mk]
    by_cases h : r = n ^ k
    · rw [if_pos (nI_le (by omega) (by omega))]
      exact ⟨z, b, pi, be, rfl, h ▸ hv⟩
    · have hr : r < n ^ k := by omega
      obtain ⟨b', pi', e1, e2, e3⟩ := s_isPlan hn hc hS h6 hy hf 6 hk hr pi hw hz hb
      rw [c9] at e1
      rw [if_neg (nI_ge hr (by omega)), ing7, cl7, hs.2.2, e1, ob3_mk]
      by_cases o : ok6 n cold S fu k w r
      · have o' : okp cold S fu 6 w (pln n k r) = true := o
        obtain ⟨e4, e5⟩ := e3 o'
        have hl := e4.last
        rw [pln_length, Nat.zero_add] at hl
        have hf6 := fa_six (n := n) (cold := cold) (S := S) (fu := fu) hn k w r
        have ha : f_X8_awake (nI n) b' (nI (7 * k)) = some (nI (fa n cold S fu k w r)) := s_awake hn (run_le _ hw) (by omega) hl.1
        rw [if_pos o', if_neg n10, show (7 : Int32) * nI k = nI (7 * k) from u_mulz 7 k, ha, ob1_mk, ob1_mk]
        by_cases y : (fa n cold S fu k w r : Int) ≤ z
        · rw [if_pos (show nI (fa n cold S fu k w r) ≤ iI z by rw [← iI_nI, iI_le (by omega) (by omega) (by omega) (by omega)]; exact y), bnd_mk, nI_1]
          refine ihl (r + 1) z _ _ _ (by omega) (by omega) hz1 hz2 e2 ⟨fun r' hr' o2 => ?_, ?_⟩
          · by_cases e : r' = r
            · rw [e]; exact y
            · exact hv.1 r' (by omega) o2
          · rcases hv.2 with t | ⟨r0, t1, t2⟩
            · exact Or.inl t
            · exact Or.inr ⟨r0, by omega, t2⟩
        · obtain ⟨be', e6, e7⟩ := s_keepsPicks pi' be hk
          rw [if_neg (show ¬ nI (fa n cold S fu k w r) ≤ iI z by rw [← iI_nI, iI_le (by omega) (by omega) (by omega) (by omega)]; exact y), e6, ob1_mk, bnd_mk, nI_1, ← iI_nI]
          refine ihl (r + 1) _ _ _ _ (by omega) (by omega) (by omega) (by omega) e2 ⟨fun r' hr' o2 => ?_, Or.inr ⟨r, by omega, o, rfl, fun r' hr' o2 => ?_, fun i hi => by rw [e7 i hi, e5 i hi]⟩⟩
          · by_cases e : r' = r
            · rw [e]; exact Int.le_refl _
            · have := hv.1 r' (by omega) o2; omega
          · have := hv.1 r' (by omega) o2; omega
      · rw [if_neg (show ¬ okp cold S fu 6 w (pln n k r) = true from o), if_pos rfl, bnd_mk, nI_1]
        refine ihl (r + 1) z _ _ _ (by omega) (by omega) hz1 hz2 e2 ⟨fun r' hr' o2 => ?_, ?_⟩
        · by_cases e : r' = r
          · exact absurd (e ▸ o2) o
          · exact hv.1 r' (by omega) o2
        · rcases hv.2 with t | ⟨r0, t1, t2⟩
          · exact Or.inl t
          · exact Or.inr ⟨r0, by omega, t2⟩
end
set_option maxHeartbeats 4000000 in
theorem st_save (x_trace : Int64) (x_text_length : Int32) (x_text_token : Int32) (x_text_number : Int32) (x_text_place : Int32) (x_text_next : Int32) (x_text_toldOnce : Int32) (x_text_bytes : Nat → Int32) (x_parliament_members : Int32) (x_parliament_firstWarmth : Int32) (x_parliament_forMotion : Int32) (x_parliament_cold : Int32) (x_parliament_fur : Int32) (x_parliament_coughs : Int32) (x_parliament_seconds : Int32) (x_parliament_pairs : Int64) (x_draft_members : Int32) (x_draft_firstWarmth : Int32) (x_draft_forMotion : Int32) (x_draft_cold : Int32) (x_draft_fur : Int32) (x_draft_coughs : Int32) (x_draft_seconds : Int32) (x_draft_pairs : Int64) (x_now_warmth : Int32) (x_now_wearer : Int32) (x_now_fur : Int32) (x_now_minutes : Int32) (x_now_lot : Int32) (x_past_known : Int32) (x_past_states_e_warmth : Nat → Int32) (x_past_states_e_wearer : Nat → Int32) (x_past_states_e_fur : Nat → Int32) (x_past_states_e_minutes : Nat → Int32) (x_past_states_e_lot : Nat → Int32) (x_seen_known : Int32) (x_seen_minutes : Nat → Int32) (x_seen_sets : Nat → Int32) (x_images_e_kept : Nat → Int32) (x_images_e_state_warmth : Nat → Int32) (x_images_e_state_wearer : Nat → Int32) (x_images_e_state_fur : Nat → Int32) (x_images_e_state_minutes : Nat → Int32) (x_images_e_state_lot : Nat → Int32) (y_thrown : Int32) (y_trace : Int64) (y_typed : Int32) (y_next : Int32) (y_token : Int32) (y_place : Int32) (y_value : Int32) (y_fault : Int32) (y_members : Int32) (y_pairs : Int32) (y_cold : Int32) (y_fur : Int32) (y_coughs : Int32) (y_draftMembers : Int32) (y_draftPairs : Int32) (y_draftCold : Int32) (y_draftFur : Int32) (y_draftCoughs : Int32) (y_undoMany : Int32) (y_seenMany : Int32) (y_chosen : Int32) (y_text : Nat → Int32) (y_warmth : Nat → Int32) (y_side : Nat → Int32) (y_seconds : Nat → Int32) (y_s : Nat → Int32) (y_kept : Nat → Int32) (y_isKept : Nat → Int32) (y_undos : Nat → Int32) (y_seenAt : Nat → Int32) (y_seen : Nat → Int32) (y_board : Nat → Int32) (y_pick : Nat → Int32) (y_worth : Nat → Int32) (y_best : Nat → Int32) (hR : Rel x_trace x_text_length x_text_token x_text_number x_text_place x_text_next x_text_toldOnce x_text_bytes x_parliament_members x_parliament_firstWarmth x_parliament_forMotion x_parliament_cold x_parliament_fur x_parliament_coughs x_parliament_seconds x_parliament_pairs x_draft_members x_draft_firstWarmth x_draft_forMotion x_draft_cold x_draft_fur x_draft_coughs x_draft_seconds x_draft_pairs x_now_warmth x_now_wearer x_now_fur x_now_minutes x_now_lot x_past_known x_past_states_e_warmth x_past_states_e_wearer x_past_states_e_fur x_past_states_e_minutes x_past_states_e_lot x_seen_known x_seen_minutes x_seen_sets x_images_e_kept x_images_e_state_warmth x_images_e_state_wearer x_images_e_state_fur x_images_e_state_minutes x_images_e_state_lot y_thrown y_trace y_typed y_next y_token y_place y_value y_fault y_members y_pairs y_cold y_fur y_coughs y_draftMembers y_draftPairs y_draftCold y_draftFur y_draftCoughs y_undoMany y_seenMany y_chosen y_text y_warmth y_side y_seconds y_s y_kept y_isKept y_undos y_seenAt y_seen y_board y_pick y_worth y_best) (a1 : Int32) (a2 : Int32) : ∃ (r : Int32) (y_thrown1 : Int32) (y_board1 : Nat → Int32) (y_pick1 : Nat → Int32) (y_best1 : Nat → Int32), f_X7_save x_parliament_members x_parliament_cold x_parliament_pairs x_now_warmth x_now_fur a1 a2 = some r ∧ f_X8_save y_members y_cold y_seconds y_s y_thrown y_board y_pick y_best a1 a2 = some (r, y_thrown1, y_board1, y_pick1, y_best1) ∧ Rel x_trace x_text_length x_text_token x_text_number x_text_place x_text_next x_text_toldOnce x_text_bytes x_parliament_members x_parliament_firstWarmth x_parliament_forMotion x_parliament_cold x_parliament_fur x_parliament_coughs x_parliament_seconds x_parliament_pairs x_draft_members x_draft_firstWarmth x_draft_forMotion x_draft_cold x_draft_fur x_draft_coughs x_draft_seconds x_draft_pairs x_now_warmth x_now_wearer x_now_fur x_now_minutes x_now_lot x_past_known x_past_states_e_warmth x_past_states_e_wearer x_past_states_e_fur x_past_states_e_minutes x_past_states_e_lot x_seen_known x_seen_minutes x_seen_sets x_images_e_kept x_images_e_state_warmth x_images_e_state_wearer x_images_e_state_fur x_images_e_state_minutes x_images_e_state_lot y_thrown1 y_trace y_typed y_next y_token y_place y_value y_fault y_members y_pairs y_cold y_fur y_coughs y_draftMembers y_draftPairs y_draftCold y_draftFur y_draftCoughs y_undoMany y_seenMany y_chosen y_text y_warmth y_side y_seconds y_s y_kept y_isKept y_undos y_seenAt y_seen y_board1 y_pick1 y_worth y_best1 := by
  have hR0 := hR
  obtain ⟨n, w0, sd, S, cold, fur0, coughs, sc, hWf, hC, hM, hN, hlot, hPast, hSeen, hImg, htr, hTx⟩ := hR
  obtain ⟨hn6, hw020, hw0z, hsd1, hsdz, hS64, hSz, hcold, hfur0, hcoughs, hsc⟩ := id hWf
  have hC' := hC
  have hM' := hM
  have hN' := hN
  obtain ⟨rfl, rfl, rfl, rfl, rfl, rfl, rfl, rfl⟩ := hC
  obtain ⟨rfl, rfl, rfl, rfl, rfl, hrows⟩ := hM
  obtain ⟨w, fu, c, hw, hz, hc6, rfl, rfl, hf5, rfl, hrow, hs8⟩ := NR_alt hn6 hN
  have h6 : ∀ m, 6 ≤ m → S m = 0 := fun m hm => hSz m (by omega)
  have hy : ∀ m, m < n → y_seconds m = nI (S m) := fun m hm => (hrows m hm).2.2
  have hss : ∀ m, m < n → sd m ≤ 1 ∧ y_side m = nI (sd m) := fun m hm => ⟨hsd1 m, (hrows m hm).2.1⟩
  unfold f_X7_save f_X8_save
  by_cases q : (0 : Int32) ≤ a1 ∧ a1 ≤ 5
  · have e1 : f_X7_isPlanLength a1 = some 1 := by rw [s_pl, if_pos q]
    have e2 : f_X8_in a1 0 5 = some 1 := by rw [s_in, if_pos q]
    obtain ⟨k, hk, rfl⟩ := rng (N := 5) (by omega) q.1 q.2
    rw [e1, ob1_mk, e2, ob1_mk, if_neg n10, if_neg n10]
    by_cases g : (-1 : Int32) ≤ a2
    · rw [if_pos g, if_pos g]
      obtain ⟨b0, e3, hb⟩ := s_setsBoard y_s y_board
      have hb0 : BRow b0 0 w c := ⟨fun m hm => by rw [Nat.mul_zero, Nat.zero_add, hb m (by omega)]; exact hrow.1 m hm, by rw [Nat.mul_zero, Nat.zero_add, hb 6 (by omega)]; exact hrow.2.1⟩
      have hps := pow_small hn6 hk
      obtain ⟨z', b', pi', be', e4, v1, v2⟩ := s_mostSaved hn6 hcold hS64 h6 hf5 hy hw hz hrow hk a2 FU 0 (-9) b0 y_pick y_best (Nat.zero_le _) (by show n ^ k - 0 < 20000; omega) (by omega) (by omega) hb0 ⟨fun r hr => absurd hr (Nat.not_lt_zero r), Or.inl rfl⟩
      obtain ⟨res, z, e5, v3, v4⟩ := s_saving hn6 hcold hS64 h6 hf5 k hk 8 w (-1) (by omega) (by omega) (by omega) hw hz
      unfold f_X4_firstToSave
      rw [show (-1 : Int32) = iI (-1) from rfl] at g ⊢
      rw [e5, ob1_mk, ob1_mk, e3, ob1_mk]
      have e4' : f_X8_save_31 (nI n) (nI cold) y_seconds y_s FU (nI k) a2 (-9) 0 0 b0 y_pick y_best = svT (nI k) a2 (iI z') b' pi' be' := e4
      rw [e4']
      unfold svT
      rcases v4 with ⟨rfl, rfl⟩ | ⟨r0, c1, c2, rfl, c4, c5, rfl⟩
      · have : z' = -9 := by
          rcases v2 with t | ⟨r0, t1, t2, t3, t4⟩
          · exact t
          · have := v3 r0 t1 t2; omega
        subst this
        rw [if_pos rfl, if_pos (show iI (-9) = -9 from rfl)]
        exact ⟨_, 0, _, _, _, rfl, rfl, hR0⟩
      · have hf6 := fa_six (n := n) (cold := cold) (S := S) (fu := fu) hn6 k w r0
        have hen := enc_pln (n := n) hn6 hk c1
        rcases v2 with t | ⟨r1, t1, t2, rfl, t4, t5⟩
        · have := v1 r0 c1 c2; omega
        · have er : r1 = r0 := by
            rcases Nat.lt_trichotomy r1 r0 with t | t | t
            · have := c5 r1 t t2; have := v1 r0 c1 c2; omega
            · exact t
            · have := t4 r0 t c2; have := v3 r1 t1 t2; omega
          subst er
          rw [if_neg (nI_ne9 (by omega)), iI_nI, if_neg (nI_ne9 (by omega))]
          have hsv : f_X4_saved (nI (fa n cold S fu k w r1 * 32768 + enc (pln n k r1))) = some (nI (fa n cold S fu k w r1)) := by
            unfold f_X4_saved
            rw [show (15 : Int32) = nI 15 from rfl, u_shr (by omega) (by omega), show (fa n cold S fu k w r1 * 32768 + enc (pln n k r1)) / 2 ^ 15 = fa n cold S fu k w r1 by omega]
          rcases m1_le g with rfl | g0
          · rw [if_pos (show (-1 : Int32) = iI (-1) from rfl), if_neg (show ¬ (0 : Int32) ≤ -1 by decide), hsv, ob1_mk]
            exact ⟨_, 0, _, _, _, rfl, rfl, hR0⟩
          · obtain ⟨i, hi, rfl⟩ := pos_nI g0
            rw [if_neg (show ¬ nI i = iI (-1) from fun h => by have := congrArg Int32.toInt h; rw [nI_toInt hi, iI_toInt (by omega) (by omega)] at this; omega), if_pos g0]
            rcases Nat.lt_or_ge i k with ik | ik
            · have hsp := s_speaker hn6 hk c1 ik (fa n cold S fu k w r1)
              rw [if_pos (show nI i < nI k from nI_lt ik (by omega)), if_neg (nI_ge ik (by omega)), ing_nI (by omega) (by omega), nI_clamp hi, t5 i ik]
              rcases hsp with hsp | hsp
              · rw [hsp, ob1_mk]
                exact ⟨_, 0, _, _, _, rfl, rfl, hR0⟩
              · omega
            · rw [if_neg (show ¬ nI i < nI k from nI_nlt ik hi), if_pos (nI_le ik hi)]
              exact ⟨_, 0, _, _, _, rfl, rfl, hR0⟩
    · rw [if_neg g, if_neg g]
      exact ⟨_, 0, _, _, _, rfl, rfl, hR0⟩
  · have e1 : f_X7_isPlanLength a1 = some 0 := by rw [s_pl, if_neg q]
    have e2 : f_X8_in a1 0 5 = some 0 := by rw [s_in, if_neg q]
    rw [e1, ob1_mk, e2, ob1_mk, if_pos rfl, if_pos rfl]
    exact ⟨_, 0, _, _, _, rfl, rfl, hR0⟩
