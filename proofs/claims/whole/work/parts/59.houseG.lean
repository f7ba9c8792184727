def OUT (cls : Option (Int32 × Int32 × Int32 × Int32 × Int32 × Int32 × Int32 × Int32 × Int32 × Int32 × Int32 × Int32 × Int32 × Int64)) (ref : Option (Int32 × Int32 × Int32 × Int32 × Int32 × Int32 × Int32 × Int32 × Int32 × Int32 × Int32 × Int32 × Int32 × Int32 × Int32 × Int32 × Int32 × Int32 × Int32 × Int32 × (Nat → Int32) × (Nat → Int32) × (Nat → Int32) × (Nat → Int32) × (Nat → Int32))) (H : Int32 → Int32 → Int32 → Int32 → Int32 → Int32 → Int32 → Int32 → Int32 → Int32 → Int32 → (Nat → Int32) → (Nat → Int32) → (Nat → Int32) → Option (Int32 × Int32 × Int32 × Int32 × Int32 × Int32 × Int32 × Int32 × Int32 × Int32 × Int32 × Int32 × Int32 × Int32 × Int32 × Int32 × Int32 × Int32 × Int32 × Int32 × (Nat → Int32) × (Nat → Int32) × (Nat → Int32) × (Nat → Int32) × (Nat → Int32))) (yw yq ys : Nat → Int32) : Prop :=
  (∃ (f : Nat) (a1 a2 a3 a4 a5 a6 a7 a8 a9 a10 a11 a12 : Int32) (a13 : Int64), f ≤ 200 ∧ cls = some ((-10) - nI f, a1, a2, a3, a4, a5, a6, a7, a8, a9, a10, a11, a12, a13) ∧ ∃ (x1 r1 r2 r3 r4 d1 d2 d3 d4 d5 : Int32) (w q s : Nat → Int32), ref = H x1 r1 r2 r3 r4 (nI f) d1 d2 d3 d4 d5 w q s ∧ ∀ j, j < 6 → w j = yw j ∧ q j = yq j ∧ s j = ys j) ∨
  (∃ (i n : Nat) (w0 sd S : Nat → Nat) (cold fur coughs sc b2 b3 b4 : Nat) (yC yF yG a1 a2 a3 a4 r1 r2 r3 r4 : Int32) (w q s : Nat → Int32), i ≤ 200 ∧ cls = some (nI i, a1, a2, a3, a4, told b2 b3 b4, nI n, nI (pk w0 32 6), nI (pk sd 2 6), nI cold, nI fur, nI coughs, nI sc, lN (pk S 64 6)) ∧ ref = H (nI i) r1 r2 r3 r4 (-1) (nI n) (nI sc) yC yF yG w q s ∧ DR n w0 sd S cold fur coughs sc b2 b3 b4 yC yF yG w q s ∧ ∀ j, j < 6 → w j = yw j ∧ q j = yq j ∧ s j = ys j)
theorem OUT.low {cls : Option (Int32 × Int32 × Int32 × Int32 × Int32 × Int32 × Int32 × Int32 × Int32 × Int32 × Int32 × Int32 × Int32 × Int64)} {ref : Option (Int32 × Int32 × Int32 × Int32 × Int32 × Int32 × Int32 × Int32 × Int32 × Int32 × Int32 × Int32 × Int32 × Int32 × Int32 × Int32 × Int32 × Int32 × Int32 × Int32 × (Nat → Int32) × (Nat → Int32) × (Nat → Int32) × (Nat → Int32) × (Nat → Int32))} {H : Int32 → Int32 → Int32 → Int32 → Int32 → Int32 → Int32 → Int32 → Int32 → Int32 → Int32 → (Nat → Int32) → (Nat → Int32) → (Nat → Int32) → Option (Int32 × Int32 × Int32 × Int32 × Int32 × Int32 × Int32 × Int32 × Int32 × Int32 × Int32 × Int32 × Int32 × Int32 × Int32 × Int32 × Int32 × Int32 × Int32 × Int32 × (Nat → Int32) × (Nat → Int32) × (Nat → Int32) × (Nat → Int32) × (Nat → Int32))} {yw yq ys yw' yq' ys' : Nat → Int32} (h : OUT cls ref H yw' yq' ys') (e : ∀ j, j < 6 → yw' j = yw j ∧ yq' j = yq j ∧ ys' j = ys j) : OUT cls ref H yw yq ys := by
  rcases h with ⟨f, a1, a2, a3, a4, a5, a6, a7, a8, a9, a10, a11, a12, a13, h1, h2, x1, r1, r2, r3, r4, d1, d2, d3, d4, d5, w, q, s, h3, h4⟩ | ⟨i, n, w0, sd, S, cold, fur, coughs, sc, b2, b3, b4, yC, yF, yG, a1, a2, a3, a4, r1, r2, r3, r4, w, q, s, h1, h2, h3, h4, h5⟩
  · exact Or.inl ⟨f, a1, a2, a3, a4, a5, a6, a7, a8, a9, a10, a11, a12, a13, h1, h2, x1, r1, r2, r3, r4, d1, d2, d3, d4, d5, w, q, s, h3, fun j hj => ⟨(h4 j hj).1.trans (e j hj).1, (h4 j hj).2.1.trans (e j hj).2.1, (h4 j hj).2.2.trans (e j hj).2.2⟩⟩
  · exact Or.inr ⟨i, n, w0, sd, S, cold, fur, coughs, sc, b2, b3, b4, yC, yF, yG, a1, a2, a3, a4, r1, r2, r3, r4, w, q, s, h1, h2, h3, h4, fun j hj => ⟨(h5 j hj).1.trans (e j hj).1, (h5 j hj).2.1.trans (e j hj).2.1, (h5 j hj).2.2.trans (e j hj).2.2⟩⟩
theorem h49F {f : Nat} (hf : f < 1000) (yt : Nat → Int32) (fl : Nat) (x1 th ty nx tk pl va me pa co fu cg d1 d2 d3 d4 d5 um sm : Int32) (w q s ss ik : Nat → Int32) : f_X8_house_49 yt (fl + 1) x1 th ty nx tk pl va (nI f) me pa co fu cg d1 d2 d3 d4 d5 um sm w q s ss ik = f_X8_house_124 yt x1 th ty nx tk pl va (nI f) me pa co fu cg d1 d2 d3 d4 d5 um sm w q s ss ik := by
  show f_X8_house_49_b _ (f_X8_house_49 yt fl) _ _ _ _ _ _ _ _ _ _ _ _ _ _ _ _ _ _ _ _ _ _ _ _ _ = _
  unfold f_X8_house_49_b
  rw [well0 hf, ob1_mk, if_pos rfl]
theorem h100F {f : Nat} (hf : f < 1000) (yt : Nat → Int32) (K : Int32 → Int32 → Int32 → Int32 → Int32 → Int32 → Int32 → Int32 → Int32 → Int32 → Int32 → Int32 → Int32 → Int32 → Int32 → Int32 → Int32 → Int32 → Int32 → Int32 → (Nat → Int32) → (Nat → Int32) → (Nat → Int32) → (Nat → Int32) → (Nat → Int32) → Option (Int32 × Int32 × Int32 × Int32 × Int32 × Int32 × Int32 × Int32 × Int32 × Int32 × Int32 × Int32 × Int32 × Int32 × Int32 × Int32 × Int32 × Int32 × Int32 × Int32 × (Nat → Int32) × (Nat → Int32) × (Nat → Int32) × (Nat → Int32) × (Nat → Int32))) (x1 th ty nx tk pl va me pa co fu cg d1 d2 d3 d4 d5 um sm : Int32) (w q s ss ik : Nat → Int32) : f_X8_house_100 yt K x1 th ty nx tk pl va (nI f) me pa co fu cg d1 d2 d3 d4 d5 um sm w q s ss ik = K (x1 + 1) th ty nx tk pl va (nI f) me pa co fu cg d1 d2 d3 d4 d5 um sm w q s ss ik := by
  unfold f_X8_house_100 f_X8_house_114
  rw [m_takeF hf, ob6_mk, m_takeF hf, ob6_mk, bnd_mk, ite_self]
theorem h83 {p : Nat} (hp : p < 1000) (yt : Nat → Int32) (K : Int32 → Int32 → Int32 → Int32 → Int32 → Int32 → Int32 → Int32 → Int32 → Int32 → Int32 → Int32 → Int32 → Int32 → Int32 → Int32 → Int32 → Int32 → Int32 → Int32 → (Nat → Int32) → (Nat → Int32) → (Nat → Int32) → (Nat → Int32) → (Nat → Int32) → Option (Int32 × Int32 × Int32 × Int32 × Int32 × Int32 × Int32 × Int32 × Int32 × Int32 × Int32 × Int32 × Int32 × Int32 × Int32 × Int32 × Int32 × Int32 × Int32 × Int32 × (Nat → Int32) × (Nat → Int32) × (Nat → Int32) × (Nat → Int32) × (Nat → Int32))) (x1 th ty nx tk va me pa co fu cg d1 d2 d3 d4 d5 um sm : Int32) (w q s ss ik : Nat → Int32) : f_X8_house_83 yt K x1 th ty nx tk (nI p) va (-1) me pa co fu cg d1 d2 d3 d4 d5 um sm w q s ss ik = K (x1 + 1) th ty nx tk (nI p) va (nI p) me pa co fu cg d1 d2 d3 d4 d5 um sm w q s ss ik := by
  unfold f_X8_house_83 f_X8_house_84
  rw [m_take0, ob6_mk, well0 hp, ob1_mk, if_pos rfl, h100F hp]
section
variable {L : Nat} {t : Nat → Nat} {xb yt : Nat → Int32} {th me pa co fu cg um sm : Int32} {ss ik : Nat → Int32}
set_option maxHeartbeats 4000000 in
theorem s_items (h : TX L t xb yt) : ∀ (d q p e T : Nat) (V num : Int32) (i n : Nat) (w0 sd S : Nat → Nat) (cold fur coughs sc b2 b3 b4 : Nat) (yC yF yG : Int32) (yw yq ys : Nat → Int32) (f1 f2 : Nat), L - p < d → d ≤ f1 → d < f2 → i ≤ p → TokR L t q p e → TV L t p e T V → DR n w0 sd S cold fur coughs sc b2 b3 b4 yC yF yG yw yq ys → OUT (f_X6_readInto_20 (nI L) xb f1 (nI i) (nI (kn L t p)) num (nI p) (nI e) (told b2 b3 b4) (nI n) (nI (pk w0 32 6)) (nI (pk sd 2 6)) (nI cold) (nI fur) (nI coughs) (nI sc) (lN (pk S 64 6))) (f_X8_house_49 yt f2 (nI i) th (nI L) (nI e) (nI T) (nI p) V (-1) me pa co fu cg (nI n) (nI sc) yC yF yG um sm yw yq ys ss ik) (fun x1 nx tk pl va fa d1 d2 d3 d4 d5 w q s => f_X8_house_124 yt x1 th (nI L) nx tk pl va fa me pa co fu cg d1 d2 d3 d4 d5 um sm w q s ss ik) yw yq ys := by
  intro d
  have hL := h.1
  induction d with
  | zero => intro q p e T V num i n w0 sd S cold fur coughs sc b2 b3 b4 yC yF yG yw yq ys f1 f2 a1; omega
  | succ d ih =>
    intro q p e T V num i n w0 sd S cold fur coughs sc b2 b3 b4 yC yF yG yw yq ys f1 f2 ha1 ha2 ha3 hi hT hV hD
    obtain ⟨f1, rfl⟩ : ∃ f, f1 = f + 1 := ⟨f1 - 1, by omega⟩
    obtain ⟨f2, rfl⟩ : ∃ f, f2 = f + 2 := ⟨f2 - 2, by omega⟩
    obtain ⟨hqp, hpL, _, _, hpe, he, _⟩ := id hT
    obtain ⟨hT4, hT0, hT3, hTn, hTw⟩ := id hV
    have hkn := kn_le (L := L) (t := t) p
    have h200 : ¬ (200 : Int32) < nI i := nI_nlt (a := 200) (by omega) (by omega)
    by_cases z : kn L t p = 0
    · refine Or.inr ⟨i, n, w0, sd, S, cold, fur, coughs, sc, b2, b3, b4, yC, yF, yG, nI (kn L t p), num, nI p, nI e, nI e, nI T, nI p, V, yw, yq, ys, by omega, ?_, ?_, hD, fun j hj => ⟨rfl, rfl, rfl⟩⟩
      · show f_X6_readInto_20_b _ _ (f_X6_readInto_20 (nI L) xb f1) _ _ _ _ _ _ _ _ _ _ _ _ _ _ = _
        unfold f_X6_readInto_20_b
        rw [if_neg h200, if_pos (show nI (kn L t p) = 0 by rw [z]; rfl)]
      · show f_X8_house_49_b _ (f_X8_house_49 yt (f2 + 1)) _ _ _ _ _ _ _ _ _ _ _ _ _ _ _ _ _ _ _ _ _ _ _ _ _ = _
        unfold f_X8_house_49_b
        rw [well1, ob1_mk, if_neg n10, if_pos (show nI T = 0 by rw [hT0.mpr z]; rfl)]
    have hk0 : ¬ nI (kn L t p) = 0 := nI_ne0 (by omega) (by omega)
    have hTne : ¬ nI T = 0 := fun g => z (hT0.mp ((nI_eq (b := 0) (by omega) (by omega)).mp g))
    have hc1 : f_X6_readInto_20 (nI L) xb (f1 + 1) (nI i) (nI (kn L t p)) num (nI p) (nI e) (told b2 b3 b4) (nI n) (nI (pk w0 32 6)) (nI (pk sd 2 6)) (nI cold) (nI fur) (nI coughs) (nI sc) (lN (pk S 64 6)) = ob14 (f_X6_readItem (nI L) xb (nI (kn L t p)) num (nI p) (nI e) (told b2 b3 b4) (nI n) (nI (pk w0 32 6)) (nI (pk sd 2 6)) (nI cold) (nI fur) (nI coughs) (nI sc) (lN (pk S 64 6)) (nI (wd t p e))) fun r5 m6 m7 m8 m9 m10 m11 m12 m13 m14 m15 m16 m17 m18 => if r5 = 0 then some (((-10)) - m8, m6, m7, m8, m9, m10, m11, m12, m13, m14, m15, m16, m17, m18) else bnd (nI i + 1) fun y21 => ob3 (f_X6_readToken (nI L) xb m6 m8 m9) fun m22 m23 m24 => f_X6_readInto_20 (nI L) xb f1 y21 m22 m7 m23 m24 m10 m11 m12 m13 m14 m15 m16 m17 m18 := by
      show f_X6_readInto_20_b _ _ (f_X6_readInto_20 (nI L) xb f1) _ _ _ _ _ _ _ _ _ _ _ _ _ _ = _
      unfold f_X6_readInto_20_b
      rw [if_neg h200, if_neg hk0, s_which h hT, ob1_mk]
    obtain ⟨⟨hn6, hw0, hwz, hs1, hsz, hS, hSz, hc5, hf5, hg9, hsc⟩, ⟨hb2, hb3, hb4⟩, _⟩ := id hD
    by_cases hm : mayB (wd t p e) n sc b2 b3 b4
    · have hk5 : wd t p e < 5 := by unfold mayB at hm; omega
      obtain ⟨rfl, rfl⟩ : T = 1 ∧ V = nI (wd t p e) := by
        rcases hTw with ⟨g1, g2, _⟩ | ⟨_, g⟩
        · exact ⟨g1, g2⟩
        · omega
      obtain ⟨p1, e1, T1, V1, hT1, hV1, e5⟩ := m_take1 h he (nI 1) (nI p) (nI (wd t p e))
      have hr1 : f_X8_house_49 yt (f2 + 2) (nI i) th (nI L) (nI e) (nI 1) (nI p) (nI (wd t p e)) (-1) me pa co fu cg (nI n) (nI sc) yC yF yG um sm yw yq ys ss ik = ob13 (f_X8_readsItem (nI L) yt (nI e1) (nI T1) (nI p1) V1 (-1) (nI n) (nI sc) yC yF yG yw yq ys (nI (wd t p e))) fun m43 m44 m45 m46 m47 m48 m49 m50 m51 m52 m53 m54 m55 => f_X8_house_100 yt (f_X8_house_49 yt (f2 + 1)) (nI i) th (nI L) m43 m44 m45 m46 m47 me pa co fu cg m48 m49 m50 m51 m52 um sm m53 m54 m55 ss ik := by
        show f_X8_house_49_b _ (f_X8_house_49 yt (f2 + 1)) _ _ _ _ _ _ _ _ _ _ _ _ _ _ _ _ _ _ _ _ _ _ _ _ _ = _
        unfold f_X8_house_49_b f_X8_house_84
        rw [well1, ob1_mk, if_neg n10, if_neg (show ¬ nI 1 = 0 by decide), if_pos (show nI 1 = 1 from rfl), s_may1 hD hm, ob1_mk, if_neg n10, e5, ob6_mk, well1, ob1_mk, if_neg n10]
      rcases s_item h hT1 hV1 hD (nI (kn L t p)) num (nI p) hm with hF | hG
      · obtain ⟨f, a1, a2, a4, a5, a6, a7, a8, a9, a10, a11, a12, a13, hf, hc, r1, r2, r3, r4, d1, d2, d3, d4, d5, yw', yq', ys', hr, hlow⟩ := hF
        refine Or.inl ⟨f, a1, a2, nI f, a4, a5, a6, a7, a8, a9, a10, a11, a12, a13, hf, ?_, nI i + 1, r1, r2, r3, r4, d1, d2, d3, d4, d5, yw', yq', ys', ?_, hlow⟩
        · rw [hc1, hc, ob14_mk, if_pos rfl]
        · rw [hr1, hr, ob13_mk, h100F (show f < 1000 by omega), h49F (show f < 1000 by omega)]
      · obtain ⟨q2, p2, e2, T2, V2, num2, n', w0', sd', S', cold', fur', coughs', sc', b2', b3', b4', yC', yF', yG', yw', yq', ys', hq2, hT2, hV2, hc, hr, hD', hlow⟩ := hG
        obtain ⟨hqp2, hpL2, _, _, hpe2, he2, _⟩ := id hT2
        obtain ⟨hT42, _, hT32, _⟩ := id hV2
        by_cases g : kn L t p2 = 3
        · obtain rfl := hT32.mpr g
          obtain ⟨p3, e3, T3, V3, hT3', hV3, e6⟩ := m_take1 h he2 (nI 3) (nI p2) V2
          obtain ⟨hqp3, hpL3, _, _, hpe3, he3, _⟩ := id hT3'
          have hp2e2 : p2 < e2 := by
            rcases hT2.2.2.2.2.2.2 with ⟨g1, _⟩ | ⟨_, g2⟩ | ⟨_, g2, _⟩
            · omega
            · omega
            · exact g2
          have := ih e2 p3 e3 T3 V3 num2 (i + 1) n' w0' sd' S' cold' fur' coughs' sc' b2' b3' b4' yC' yF' yG' yw' yq' ys' f1 (f2 + 1) (by omega) (by omega) (by omega) (by omega) hT3' hV3 hD'
          refine OUT.low (yw' := yw') (yq' := yq') (ys' := ys') ?_ hlow
          rw [hc1, hc, ob14_mk, if_neg (i10 g), bnd_mk, nI_1, s_tok6 h hT3', ob3_mk, hr1, hr, ob13_mk]
          unfold f_X8_house_100 f_X8_house_114
          rw [if_pos (show nI 3 = 3 from rfl), e6, ob6_mk, bnd_mk, nI_1]
          exact this
        · refine Or.inl ⟨p2, nI (kn L t p2), num2, nI p2, nI e2, told b2' b3' b4', nI n', nI (pk w0' 32 6), nI (pk sd' 2 6), nI cold', nI fur', nI coughs', nI sc', lN (pk S' 64 6), by omega, ?_, nI i + 1, nI e2, nI T2, nI p2, V2, nI n', nI sc', yC', yF', yG', yw', yq', ys', ?_, hlow⟩
          · rw [hc1, hc, ob14_mk, if_pos (i00 g)]
          · rw [hr1, hr, ob13_mk]
            unfold f_X8_house_100 f_X8_house_114
            rw [if_neg (show ¬ nI T2 = 3 from fun w => g (hT32.mp ((nI_eq (b := 3) (by omega) (by omega)).mp w))), m_take0, ob6_mk, bnd_mk, h49F (show p2 < 1000 by omega)]
    · have hk : wd t p e ≤ 5 := by rcases hTw with ⟨_, _, g⟩ | ⟨_, g⟩ <;> omega
      refine Or.inl ⟨p, nI (kn L t p), num, nI p, nI e, told b2 b3 b4, nI n, nI (pk w0 32 6), nI (pk sd 2 6), nI cold, nI fur, nI coughs, nI sc, lN (pk S 64 6), by omega, ?_, nI i + 1, nI e, nI T, nI p, V, nI n, nI sc, yC, yF, yG, yw, yq, ys, ?_, fun j hj => ⟨rfl, rfl, rfl⟩⟩
      · rw [hc1, c_may0 hn6 hsc hb2 hb3 hb4 hk hm, ob14_mk, if_pos rfl]
      · show f_X8_house_49_b _ (f_X8_house_49 yt (f2 + 1)) _ _ _ _ _ _ _ _ _ _ _ _ _ _ _ _ _ _ _ _ _ _ _ _ _ = _
        unfold f_X8_house_49_b
        rw [well1, ob1_mk, if_neg n10, if_neg hTne]
        rcases hTw with ⟨rfl, rfl, g⟩ | ⟨g, _⟩
        · rw [if_pos (show nI 1 = 1 from rfl), s_may0 hD g hm, ob1_mk, if_pos rfl, h83 (show p < 1000 by omega), h49F (show p < 1000 by omega)]
        · rw [if_neg (show ¬ nI T = 1 from fun w => g ((nI_eq (b := 1) (by omega) (by omega)).mp w)), h83 (show p < 1000 by omega), h49F (show p < 1000 by omega)]
end
