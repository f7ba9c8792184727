/-! the reference's tokens -/
def cw (f : Nat → Nat) : Nat → Nat
  | 0 => 0
  | j + 1 => 256 * cw f j + f j
theorem cw_inj {f g : Nat → Nat} : ∀ (j k : Nat), (∀ i, i < j → 0 < f i ∧ f i < 256) → (∀ i, i < k → 0 < g i ∧ g i < 256) → cw f j = cw g k → j = k ∧ ∀ i, i < j → f i = g i
  | 0, 0, _, _, _ => ⟨rfl, fun i hi => by omega⟩
  | 0, k + 1, _, h2, h => by
    have := (h2 k (by omega)).1
    rw [cw, cw] at h; omega
  | j + 1, 0, h1, _, h => by
    have := (h1 j (by omega)).1
    rw [cw, cw] at h; omega
  | j + 1, k + 1, h1, h2, h => by
    have a := h1 j (by omega)
    have b := h2 k (by omega)
    rw [cw, cw] at h
    obtain ⟨e1, e2⟩ := cw_inj j k (fun i hi => h1 i (by omega)) (fun i hi => h2 i (by omega)) (by omega)
    refine ⟨by omega, fun i hi => ?_⟩
    by_cases c : i = j
    · subst c; subst e1; omega
    · exact e2 i (by omega)
theorem cw_lt {f : Nat → Nat} (h : ∀ i, f i < 256) : ∀ j, cw f j < 256 ^ j
  | 0 => Nat.one_pos
  | j + 1 => by
    have := cw_lt h j
    have := h j
    rw [cw, Nat.pow_succ]; omega
theorem lg0 {x y : Int64} : lg_cmp x y = 0 ↔ x = y := by
  unfold lg_cmp
  constructor
  · intro h
    split at h
    · exact absurd h (by decide)
    · split at h
      · assumption
      · exact absurd h (by decide)
  · intro h
    subst h
    rw [if_neg (show ¬ x > x from Int64.lt_irrefl), if_pos rfl]
theorem nm0 : f_X8_named 109 101 109 98 101 114 0 = some (lN (cw (wdb 0) (wdl 0))) := by decide +kernel
theorem nm1 : f_X8_named 115 101 99 111 110 100 115 = some (lN (cw (wdb 1) (wdl 1))) := by decide +kernel
theorem nm2 : f_X8_named 99 111 108 100 0 0 0 = some (lN (cw (wdb 2) (wdl 2))) := by decide +kernel
theorem nm3 : f_X8_named 102 117 114 0 0 0 0 = some (lN (cw (wdb 3) (wdl 3))) := by decide +kernel
theorem nm4 : f_X8_named 99 111 117 103 104 115 0 = some (lN (cw (wdb 4) (wdl 4))) := by decide +kernel
abbrev nk (k : Nat) : Int64 := lN (cw (wdb k) (wdl k))
def wf (v : Int64) : Int32 := if v = nk 4 then 4 else if v = nk 2 then 2 else if v = nk 3 then 3 else if v = nk 0 then 0 else if v = nk 1 then 1 else -9
theorem s_w100 (v : Int64) (k : Int32) : f_X8_wordOf_100 v k = some (if v = nk 4 then 4 else k) := by
  unfold f_X8_wordOf_100
  rw [nm4, ob1_mk]
  by_cases z : v = nk 4
  · rw [if_pos (lg0.mpr z), if_pos z]
  · rw [if_neg (fun h => z (lg0.mp h)), if_neg z]
theorem s_w53 (v : Int64) (k : Int32) : f_X8_wordOf_53 v k = some (if v = nk 4 then 4 else if v = nk 2 then 2 else if v = nk 3 then 3 else k) := by
  unfold f_X8_wordOf_53
  rw [nm2, ob1_mk]
  by_cases z : v = nk 2
  · rw [if_pos (lg0.mpr z), s_w100, if_pos z]
  · rw [if_neg (fun h => z (lg0.mp h)), if_neg z, nm3, ob1_mk]
    by_cases y : v = nk 3
    · rw [if_pos (lg0.mpr y), s_w100, if_pos y]
    · rw [if_neg (fun h => y (lg0.mp h)), if_neg y, s_w100]
theorem s_wordOf (v : Int64) : f_X8_wordOf v = some (wf v) := by
  unfold f_X8_wordOf wf
  rw [nm0, ob1_mk]
  by_cases z : v = nk 0
  · rw [if_pos (lg0.mpr z), s_w53, if_pos z]
  · rw [if_neg (fun h => z (lg0.mp h)), if_neg z, nm1, ob1_mk]
    by_cases y : v = nk 1
    · rw [if_pos (lg0.mpr y), s_w53, if_pos y]
    · rw [if_neg (fun h => y (lg0.mp h)), if_neg y, s_w53]
theorem nk_lt : ∀ k, k < 5 → cw (wdb k) (wdl k) < 2 ^ 63 := by decide +kernel
section
variable {L : Nat} {t : Nat → Nat} {xb yt : Nat → Int32}
/-- a word of at most seven letters: which -/
theorem wf_wd {p e : Nat} (hpe : p < e) (h7 : e - p ≤ 7) (hl : ∀ i, i < e - p → 97 ≤ t (p + i) ∧ t (p + i) ≤ 122) : wf (lN (cw (fun i => if i < e - p then t (p + i) else 0) (e - p))) = if wd t p e < 5 then nI (wd t p e) else -9 := by
  have hlt : cw (fun i => if i < e - p then t (p + i) else 0) (e - p) < 2 ^ 63 := by
    have := cw_lt (f := fun i => if i < e - p then t (p + i) else 0) (fun i => by
      show (if i < e - p then t (p + i) else 0) < 256
      by_cases c : i < e - p
      · rw [if_pos c]; have := hl i c; omega
      · rw [if_neg c]; omega) (e - p)
    refine Nat.lt_of_lt_of_le this (Nat.le_trans (Nat.pow_le_pow_right (by omega) h7) (by decide))
  have key : ∀ k, k < 5 → (lN (cw (fun i => if i < e - p then t (p + i) else 0) (e - p)) = nk k ↔ wm t p e k) := by
    intro k hk
    rw [pk_lEQ hlt (nk_lt k hk)]
    refine ⟨fun g => ?_, fun g => ?_⟩
    · obtain ⟨e1, e2⟩ := cw_inj (e - p) (wdl k) (fun i hi => by
        show 0 < (if i < e - p then t (p + i) else 0) ∧ (if i < e - p then t (p + i) else 0) < 256
        rw [if_pos hi]; have := hl i hi; omega) (fun i hi => by have := (wdb_all k hk i hi).2; omega) g
      refine ⟨e1, fun i hi => ?_⟩
      have := e2 i (by omega)
      rw [← this]
      exact (if_pos (by omega)).symm
    · have hc : ∀ j, j ≤ wdl k → cw (fun i => if i < e - p then t (p + i) else 0) j = cw (wdb k) j := by
        intro j
        induction j with
        | zero => intro _; rfl
        | succ j ih =>
          intro hj
          have := g.1
          rw [cw, cw, ih (by omega)]
          show _ + (if j < e - p then t (p + j) else 0) = _
          rw [if_pos (by omega), g.2 j (by omega)]
      rw [g.1] at hc ⊢
      exact hc (wdl k) (Nat.le_refl _)
  unfold wf
  by_cases w4 : wm t p e 4
  · rw [if_pos ((key 4 (by omega)).mpr w4), wd_of (by omega) w4, if_pos (by omega)]; rfl
  rw [if_neg (fun g => w4 ((key 4 (by omega)).mp g))]
  by_cases w2 : wm t p e 2
  · rw [if_pos ((key 2 (by omega)).mpr w2), wd_of (by omega) w2, if_pos (by omega)]; rfl
  rw [if_neg (fun g => w2 ((key 2 (by omega)).mp g))]
  by_cases w3 : wm t p e 3
  · rw [if_pos ((key 3 (by omega)).mpr w3), wd_of (by omega) w3, if_pos (by omega)]; rfl
  rw [if_neg (fun g => w3 ((key 3 (by omega)).mp g))]
  by_cases w0 : wm t p e 0
  · rw [if_pos ((key 0 (by omega)).mpr w0), wd_of (by omega) w0, if_pos (by omega)]; rfl
  rw [if_neg (fun g => w0 ((key 0 (by omega)).mp g))]
  by_cases w1 : wm t p e 1
  · rw [if_pos ((key 1 (by omega)).mpr w1), wd_of (by omega) w1, if_pos (by omega)]; rfl
  rw [if_neg (fun g => w1 ((key 1 (by omega)).mp g)), wd_no (fun k hk => by
    rcases (show k = 0 ∨ k = 1 ∨ k = 2 ∨ k = 3 ∨ k = 4 by omega) with rfl | rfl | rfl | rfl | rfl
    · exact w0
    · exact w1
    · exact w2
    · exact w3
    · exact w4), if_neg (by omega)]
theorem wf_one (v : Int64) : wf v = -9 ∨ ¬ wf v = -9 := by by_cases h : wf v = -9; exact Or.inl h; exact Or.inr h
theorem s_run8w (h : TX L t xb yt) {p e : Nat} (he : e ≤ L) (hr : ∀ j, p ≤ j → j < e → kn L t j = 4) (hx : kn L t e ≠ 4) (tok val : Int32) : ∀ (fuel j : Nat) (v : Int64), p + j ≤ e → e - p - j < fuel → (j ≤ 7 → v = lN (cw (fun i => if i < e - p then t (p + i) else 0) j)) → ∃ v', (e - p ≤ 7 → v' = lN (cw (fun i => if i < e - p then t (p + i) else 0) (e - p))) ∧ f_X8_advances_68 (nI L) yt fuel v (nI (p + j)) tok (nI p) val = some (nI e, nI (if wf v' = -9 then 4 else if e - p ≤ 7 then 1 else 4), nI p, wf v') := by
  intro fuel
  have hL := h.1
  induction fuel with
  | zero => intro j v h1 h2; omega
  | succ fuel ih =>
    intro j v h1 h2 hv
    show ∃ v', _ ∧ f_X8_advances_68_b _ _ (f_X8_advances_68 (nI L) yt fuel) _ _ _ _ _ = _
    unfold f_X8_advances_68_b f_X8_advances_162 f_X8_advances_167 f_X8_advances_116
    rw [s_b8 h (by omega), ob1_mk, s_ltr h, ob1_mk, s_wordOf, ob1_mk, pk_sub (by omega), show p + j - p = j by omega, ob1_mk]
    by_cases g : p + j = e
    · subst g
      rw [show p + j - p = j by omega] at hv
      rw [if_pos (i00 hx), show p + j - p = j by omega]
      refine ⟨v, hv, ?_⟩
      by_cases w : wf v = -9
      · rw [if_pos w, if_pos w]; rfl
      · rw [if_neg w, if_neg w]
        by_cases c : j ≤ 7
        · rw [if_pos (show nI j ≤ 7 from nI_le (b := 7) c (by omega)), if_pos c]; rfl
        · rw [if_neg (show ¬ nI j ≤ 7 from nI_ge (a := 7) (by omega) (by omega)), if_neg c]; rfl
    · have hk := hr (p + j) (by omega) (by omega)
      rw [if_neg (i10 hk)]
      by_cases c : 8 ≤ j
      · rw [if_pos (show (8 : Int32) ≤ nI j from nI_le (a := 8) c (by omega)), bnd_mk, nI_1]
        exact ih (j + 1) 0 (by omega) (by omega) (fun z => by omega)
      · have hjL : p + j < L := by omega
        rw [kn_in hjL] at hk
        have hd := kb_4.mp hk
        have e1 : f_X8_add v (bI L t (p + j)) = some (256 * v + lN (t (p + j))) := by
          unfold f_X8_add
          rw [bI_in hjL, if_neg (nI_ne0 (by omega) (by omega)), nI_l (by omega)]
        rw [if_neg (show ¬ (8 : Int32) ≤ nI j from nI_ge (b := 8) (by omega) (by omega)), e1, ob1_mk, bnd_mk, nI_1]
        refine ih (j + 1) _ (by omega) (by omega) (fun z => ?_)
        rw [hv (by omega), show (256 : Int64) = lN 256 from rfl, lN_mul, lN_add, cw]
        show _ = lN (256 * cw (fun i => if i < e - p then t (p + i) else 0) j + if j < e - p then t (p + j) else 0)
        rw [if_pos (show j < e - p by omega)]
def VI (t : Nat → Nat) (p j v : Nat) : Prop := (v ≤ 99 ∧ cv t p j = v) ∨ (99 < v ∧ v ≤ 999 ∧ cv t p j = 100)
theorem s_run8n (h : TX L t xb yt) {p e : Nat} (hpe : p < e) (he : e ≤ L) (hr : ∀ j, p ≤ j → j < e → kn L t j = 2) (hx : kn L t e ≠ 2) (tok : Int32) : ∀ (fuel j v : Nat), p + j ≤ e → e - p - j < fuel → VI t p j v → ∃ v', VI t p (e - p) v' ∧ f_X8_advances_189 (nI L) yt fuel (bI L t p) (nI (p + j)) tok (nI p) (nI v) = some (nI e, nI (if 99 < v' ∨ (t p = 48 ∧ 1 < e - p) then 4 else 2), nI p, nI v') := by
  intro fuel
  have hL := h.1
  induction fuel with
  | zero => intro j v h1 h2; omega
  | succ fuel ih =>
    intro j v h1 h2 hv
    have hv9 : v ≤ 999 := by rcases hv with q | q <;> omega
    show ∃ v', _ ∧ f_X8_advances_189_b _ _ (f_X8_advances_189 (nI L) yt fuel) _ _ _ _ _ = _
    unfold f_X8_advances_189_b f_X8_advances_288 f_X8_advances_292 f_X8_advances_293 f_X8_advances_243
    rw [s_b8 h (by omega), ob1_mk, s_dig h, ob1_mk, pk_sub (by omega), show p + j - p = j by omega, ob1_mk]
    by_cases g : p + j = e
    · subst g
      rw [if_pos (i00 hx), show p + j - p = j by omega]
      refine ⟨v, hv, ?_⟩
      by_cases w : 99 < v
      · rw [if_pos (show (99 : Int32) < nI v from nI_lt (a := 99) w (by omega)), if_pos (Or.inl w)]; rfl
      · rw [if_neg (show ¬ (99 : Int32) < nI v from nI_nlt (a := 99) (by omega) (by omega))]
        by_cases c : t p = 48
        · rw [if_pos ((bI_48 h p).mpr ⟨by omega, c⟩)]
          by_cases d : 1 < j
          · rw [if_neg (show ¬ nI j ≤ 1 from nI_ge (a := 1) d (by omega)), if_pos (Or.inr ⟨c, d⟩)]; rfl
          · rw [if_pos (show nI j ≤ 1 from nI_le (b := 1) (by omega) (by omega)), if_neg (fun z => by rcases z with z | z; exact w z; exact d z.2)]; rfl
        · rw [if_neg (fun z => c ((bI_48 h p).mp z).2), if_neg (fun z => by rcases z with z | z; exact w z; exact c z.1)]; rfl
    · have hk := hr (p + j) (by omega) (by omega)
      rw [if_neg (i10 hk)]
      have hjL : p + j < L := by omega
      rw [kn_in hjL] at hk
      have hd := kb_2.mp hk
      by_cases w : v ≤ 99
      · have hcv : cv t p j = v := by rcases hv with q | q; exact q.2; omega
        have e1 : (10 * nI v + bI L t (p + j)) - 48 = nI (10 * v + t (p + j) - 48) := by
          rw [bI_in hjL, show (10 : Int32) = nI 10 from rfl, u_mulz, nI_add, show (48 : Int32) = nI 48 from rfl, pk_sub (by omega)]
        rw [if_pos (show nI v ≤ 99 from nI_le (b := 99) w (by omega)), e1, bnd_mk, nI_1]
        refine ih (j + 1) _ (by omega) (by omega) ?_
        unfold VI
        rw [cv, hcv]
        by_cases c : 10 * v + t (p + j) - 48 ≤ 99
        · exact Or.inl ⟨c, by rw [Nat.min_eq_right (by omega)]; omega⟩
        · exact Or.inr ⟨by omega, by omega, by rw [Nat.min_eq_left (by omega)]⟩
      · have hcv : cv t p j = 100 := by rcases hv with q | q; omega; exact q.2.2
        rw [if_neg (show ¬ nI v ≤ 99 from nI_ge (a := 99) (by omega) (by omega)), bnd_mk, nI_1]
        refine ih (j + 1) v (by omega) (by omega) (Or.inr ⟨by omega, hv9, ?_⟩)
        rw [cv, hcv, Nat.min_eq_left (by omega)]
/-- the reference's token and its value -/
def TV (L : Nat) (t : Nat → Nat) (p e T : Nat) (V : Int32) : Prop := T ≤ 4 ∧ (T = 0 ↔ kn L t p = 0) ∧ (T = 3 ↔ kn L t p = 3) ∧ ((T = 2 ∧ V = nI (vl L t p e) ∧ vl L t p e ≤ 99) ∨ (T ≠ 2 ∧ vl L t p e = 100)) ∧ ((T = 1 ∧ V = nI (wd t p e) ∧ wd t p e < 5) ∨ (T ≠ 1 ∧ wd t p e = 5))
theorem s_skip8 (h : TX L t xb yt) {p : Nat} (hp : p ≤ L) (tok pl val : Int32) : ∀ (fuel q : Nat), q ≤ p → p - q < fuel → (∀ j, q ≤ j → j < p → t j = 32) → ∃ K, f_X8_advances_0 (nI L) yt fuel (nI q) tok pl val = f_X8_advances_0_b (nI L) yt K (nI p) tok pl val := by
  intro fuel
  have hL := h.1
  induction fuel with
  | zero => intro q h1 h2; omega
  | succ fuel ih =>
    intro q h1 h2 h3
    by_cases e : q = p
    · subst e; exact ⟨_, rfl⟩
    · obtain ⟨K, hK⟩ := ih (q + 1) (by omega) (by omega) (fun j a b => h3 j (by omega) b)
      refine ⟨K, ?_⟩
      rw [← hK]
      show f_X8_advances_0_b _ _ (f_X8_advances_0 (nI L) yt fuel) _ _ _ _ = _
      unfold f_X8_advances_0_b
      rw [s_b8 h (by omega), ob1_mk, if_pos ((bI_sp h q).mpr ⟨by omega, h3 q (Nat.le_refl q) (by omega)⟩), bnd_mk, nI_1]
theorem vl_no {p e : Nat} (h : kn L t p ≠ 2) : vl L t p e = 100 := if_neg (fun w => h w.1)
theorem wd_nol {p e : Nat} (hL : e ≤ L) (h : kn L t p ≠ 4) : wd t p e = 5 := wd_no (fun k hk w => by
  have hl := wdl_all k hk
  have hb := (wdb_all k hk 0 (by omega)).2
  have h0 := w.2 0 (by omega)
  have h1 := w.1
  rw [Nat.add_zero] at h0
  refine h ?_
  rw [kn_in (show p < L by omega)]
  exact kb_4.mpr (by omega))
theorem s_tok8 (h : TX L t xb yt) {q p e : Nat} (hT : TokR L t q p e) (tok pl val : Int32) : ∃ T V, f_X8_advances (nI L) yt (nI q) tok pl val = some (nI e, nI T, nI p, V) ∧ TV L t p e T V := by
  obtain ⟨h1, h2, h3, h4, h5, h6, h7⟩ := hT
  have hL := h.1
  unfold f_X8_advances
  obtain ⟨K, hK⟩ := s_skip8 h h2 tok pl val FU q h1 (by show p - q < 20000; omega) h3
  rw [hK]
  unfold f_X8_advances_0_b f_X8_advances_321
  rw [s_b8 h (by omega), ob1_mk, if_neg (fun z => by have := (bI_sp h p).mp z; exact h4 this.1 this.2), ob1_mk, s_ltr h, ob1_mk, s_dig h, ob1_mk]
  rcases h7 with ⟨z, rfl⟩ | ⟨z, rfl⟩ | ⟨z, h8, h9, h10⟩
  · rw [if_neg (fun w => kn_0.mp z ((bI_ge h _).mp w))]
    exact ⟨0, val, rfl, by omega, ⟨fun _ => z, fun _ => rfl⟩, ⟨fun w => by omega, fun w => by omega⟩, Or.inr ⟨by omega, vl_no (by omega)⟩, Or.inr ⟨by omega, wd_nol h2 (by omega)⟩⟩
  · have hp : p < L := by omega
    rw [if_pos ((bI_ge h p).mpr hp), if_pos (i00 (show ¬ kn L t p = 4 by omega)), if_pos (i00 (show ¬ kn L t p = 2 by omega)), bnd_mk, nI_1]
    by_cases c : kn L t p = 3
    · rw [if_pos ((bI_sc h p).mpr c)]
      exact ⟨3, val, rfl, by omega, ⟨fun w => by omega, fun w => by omega⟩, ⟨fun _ => c, fun _ => rfl⟩, Or.inr ⟨by omega, vl_no (by omega)⟩, Or.inr ⟨by omega, wd_nol h6 (by omega)⟩⟩
    · rw [if_neg (fun w => c ((bI_sc h p).mp w))]
      exact ⟨4, val, rfl, by omega, ⟨fun w => by omega, fun w => by omega⟩, ⟨fun w => by omega, fun w => absurd w c⟩, Or.inr ⟨by omega, vl_no (by omega)⟩, Or.inr ⟨by omega, wd_nol h6 (by omega)⟩⟩
  · have hp : p < L := by omega
    rw [if_pos ((bI_ge h p).mpr hp)]
    rcases z with z | z
    · rw [if_pos (i00 (show ¬ kn L t p = 4 by omega)), if_neg (i10 z)]
      obtain ⟨v', g1, g2⟩ := s_run8n h h8 h6 (fun j a b => (h9 j a b).trans z) (by rw [← z]; exact h10) tok FU 0 0 (by omega) (by show e - p - 0 < 20000; omega) (Or.inl ⟨by omega, rfl⟩)
      refine ⟨_, _, g2, ?_⟩
      by_cases c : 99 < v' ∨ (t p = 48 ∧ 1 < e - p)
      · rw [if_pos c]
        refine ⟨by omega, ⟨fun w => by omega, fun w => by omega⟩, ⟨fun w => by omega, fun w => by omega⟩, Or.inr ⟨by omega, ?_⟩, Or.inr ⟨by omega, wd_nol h6 (by omega)⟩⟩
        unfold vl
        split
        · rename_i d
          rcases c with c | c
          · rcases g1 with g1 | g1
            · omega
            · exact g1.2.2
          · exact absurd c d.2
        · rfl
      · rw [if_neg c]
        have hv : vl L t p e = v' := by
          unfold vl
          rw [if_pos ⟨z, fun w => c (Or.inr w)⟩]
          rcases g1 with g1 | g1
          · exact g1.2
          · exact absurd (Or.inl g1.1) c
        refine ⟨by omega, ⟨fun w => by omega, fun w => by omega⟩, ⟨fun w => by omega, fun w => by omega⟩, Or.inl ⟨rfl, by rw [hv], ?_⟩, Or.inr ⟨by omega, wd_nol h6 (by omega)⟩⟩
        rw [hv]
        rcases g1 with g1 | g1
        · exact g1.1
        · exact absurd (Or.inl g1.1) c
    · rw [if_neg (i10 z)]
      obtain ⟨v', g1, g2⟩ := s_run8w h h6 (fun j a b => (h9 j a b).trans z) (by rw [← z]; exact h10) tok val FU 0 0 (by omega) (by show e - p - 0 < 20000; omega) (fun _ => rfl)
      refine ⟨_, _, g2, ?_⟩
      have hl : ∀ i, i < e - p → 97 ≤ t (p + i) ∧ t (p + i) ≤ 122 := fun i hi => by
        have := h9 (p + i) (by omega) (by omega)
        rw [z, kn_in (show p + i < L by omega)] at this
        exact kb_4.mp this
      by_cases c : e - p ≤ 7
      · rw [g1 c, wf_wd h8 c hl]
        by_cases d : wd t p e < 5
        · have hw9 : ¬ nI (wd t p e) = -9 := nI_ne9 (by omega)
          rw [if_pos d, if_neg hw9, if_pos c]
          exact ⟨by omega, ⟨fun w => by omega, fun w => by omega⟩, ⟨fun w => by omega, fun w => by omega⟩, Or.inr ⟨by omega, vl_no (by omega)⟩, Or.inl ⟨rfl, rfl, d⟩⟩
        · rw [if_neg d, if_pos rfl]
          have hw5 : wd t p e = 5 := wd_no (fun k hk w => d (by rw [wd_of hk w]; exact hk))
          exact ⟨by omega, ⟨fun w => by omega, fun w => by omega⟩, ⟨fun w => by omega, fun w => by omega⟩, Or.inr ⟨by omega, vl_no (by omega)⟩, Or.inr ⟨by omega, hw5⟩⟩
      · have hw5 : wd t p e = 5 := wd_no (fun k hk w => by have := (wdl_all k hk).2; have := w.1; omega)
        have e4 : (if wf v' = -9 then 4 else if e - p ≤ 7 then 1 else 4) = 4 := by
          by_cases w : wf v' = -9
          · rw [if_pos w]
          · rw [if_neg w, if_neg c]
        rw [e4]
        exact ⟨by omega, ⟨fun w => by omega, fun w => by omega⟩, ⟨fun w => by omega, fun w => by omega⟩, Or.inr ⟨by omega, vl_no (by omega)⟩, Or.inr ⟨by omega, hw5⟩⟩
end
