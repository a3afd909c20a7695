/-! the wish's value: codes of the reference and steps of the class, folded -/
abbrev WKS : Type := Nat × (Nat → Nat → Int32)
def wkF (cs : List Nat) (s : WKS) : WKS := cs.foldl (fun s c => wkS c s) s
theorem wkF_ap (a b : List Nat) (s : WKS) : wkF (a ++ b) s = wkF b (wkF a s) := List.foldl_append ..
theorem wkF_1 (c : Nat) (s : WKS) : wkF [c] s = wkS c s := rfl
theorem wkF_0 (s : WKS) : wkF [] s = s := rfl
def okL : List Nat → WKS → Prop
  | [], _ => True
  | c :: cs, s => s.1 ≤ 5 ∧ (c = 29 → 1 ≤ s.1) ∧ okL cs (wkS c s)
theorem okL_ap : ∀ (a b : List Nat) (s : WKS), okL a s → okL b (wkF a s) → okL (a ++ b) s
  | [], _, _, _, h => h
  | c :: a, b, s, h1, h2 => ⟨h1.1, h1.2.1, okL_ap a b (wkS c s) h1.2.2 h2⟩
theorem okL_1 {c : Nat} {s : WKS} (h : s.1 ≤ 5) (h2 : c = 29 → 1 ≤ s.1) : okL [c] s := ⟨h, h2, trivial⟩
def evF (fa : Int32 → Int32) (u : List Int32) (s : Nat × (Nat → Int32)) : Nat × (Nat → Int32) := u.foldl (fun s x => evS fa x s) s
theorem evF_ap (fa : Int32 → Int32) (a b : List Int32) (s : Nat × (Nat → Int32)) : evF fa (a ++ b) s = evF fa b (evF fa a s) := List.foldl_append ..
theorem evF_1 (fa : Int32 → Int32) (x : Int32) (s : Nat × (Nat → Int32)) : evF fa [x] s = evS fa x s := rfl
def exl (lv : Nat) : Nat := if lv = 5 then 1 else if lv = 4 then 152 else 146 + 2 * lv
def exh (lv : Nat) : Nat := if lv = 5 then 0 else if lv = 4 then 152 else 153
/-- what a level leaves as it was -/
def wFr (lv D : Nat) (m m2 : Nat → Nat → Int32) : Prop := ∀ a k, ¬ (146 ≤ a ∧ a ≤ 154 ∧ D < k) → ¬ (k = D ∧ exl lv ≤ a ∧ a ≤ exh lv) → m2 a k = m a k
theorem wFr.refl {lv D : Nat} {m : Nat → Nat → Int32} : wFr lv D m m := fun _ _ _ _ => rfl
theorem wFr.trans {lv D : Nat} {m m1 m2 : Nat → Nat → Int32} (h : wFr lv D m m1) (g : wFr lv D m1 m2) : wFr lv D m m2 := fun a k x y => (g a k x y).trans (h a k x y)
theorem ex_mono {lv lw a : Nat} (h : lw ≤ lv) (h5 : lv ≤ 5) (ha : exl lv ≤ a ∧ a ≤ exh lv) : exl lw ≤ a ∧ a ≤ exh lw := by
  unfold exl exh at *
  split at ha
  · omega
  · split at ha
    · split
      · omega
      · split
        · omega
        · omega
    · split
      · omega
      · split
        · omega
        · omega
theorem wFr.mono {lv lw D : Nat} {m m2 : Nat → Nat → Int32} (h : wFr lv D m m2) (hl : lw ≤ lv) (h5 : lv ≤ 5) : wFr lw D m m2 := fun a k x y => h a k x (fun z => y ⟨z.1, ex_mono hl h5 z.2⟩)
theorem ex_in {lv a : Nat} (h5 : lv ≤ 5) (ha : exl lv ≤ a ∧ a ≤ exh lv) : 146 ≤ a ∧ a ≤ 154 := by
  unfold exl exh at ha
  split at ha
  · omega
  · split at ha
    · omega
    · omega
theorem wFr.deep {lv D : Nat} {m m2 : Nat → Nat → Int32} (h : wFr lv (D + 1) m m2) (h5 : lv ≤ 5) : wFr 5 D m m2 := fun a k x _ => h a k (by omega) (fun z => by
  have := ex_in h5 z.2
  omega)
theorem wFr.up {lv D a k : Nat} {m m2 : Nat → Nat → Int32} (h : wFr lv D m m2) (v : Int32) (ha : (146 ≤ a ∧ a ≤ 154 ∧ D < k) ∨ (k = D ∧ exl lv ≤ a ∧ a ≤ exh lv)) : wFr lv D m (up2 m2 a k v) := fun b j x y => by
  rw [up2_ne (fun z => ?_)]
  · exact h b j x y
  · rw [z.1, z.2] at x y
    exact ha.elim x y
def pS (m : Nat → Nat → Int32) (D : Nat) : Int32 := if m 151 D = nI 21 then m 150 D - m 152 D else m 150 D + m 152 D
theorem sms_s (m : Nat → Nat → Int32) (D : Nat) : smsM m D 150 D = pS m D := by
  unfold smsM
  rw [up2_ne (by omega), up2_eq]; rfl
theorem sms_t (m : Nat → Nat → Int32) (D : Nat) : smsM m D 153 D = nI 0 := by
  unfold smsM
  rw [up2_eq]
theorem sms_n {m : Nat → Nat → Int32} {D a k : Nat} (h : a ≠ 150) (h2 : a ≠ 153) : smsM m D a k = m a k := by
  unfold smsM
  rw [up2_ne (fun z => h2 z.1), up2_ne (fun z => h z.1)]
/-- what a level finds, and what it leaves -/
def rI (lv : Nat) (m : Nat → Nat → Int32) (D : Nat) : Prop := (lv ≤ 3 → m 153 D = nI 0) ∧ (lv ≤ 2 → m 150 D = nI 0 ∧ m 151 D = nI 20) ∧ (lv ≤ 1 → m 149 D = nI 0) ∧ (lv ≤ 0 → m 147 D = nI 0)
def rO (lv : Nat) (m : Nat → Nat → Int32) (D : Nat) : Int32 := if lv = 3 then m 152 D else if lv = 2 then pS m D else if lv = 1 then tsV2 (smsM m D) D else tsV4 (smsM m D) D
def rO4 (lv : Nat) (m0 m : Nat → Nat → Int32) (D : Nat) (v : Int32) : Prop := if lv = 4 then m 152 D = (if m0 153 D = nI 0 then v else m0 152 D * v) else rO lv m D = v
theorem rO_3 {m : Nat → Nat → Int32} {D : Nat} : rO 3 m D = m 152 D := rfl
theorem rO_2 {m : Nat → Nat → Int32} {D : Nat} : rO 2 m D = pS m D := rfl
theorem rO_1 {m : Nat → Nat → Int32} {D : Nat} : rO 1 m D = tsV2 (smsM m D) D := rfl
theorem rO_0 {m : Nat → Nat → Int32} {D : Nat} : rO 0 m D = tsV4 (smsM m D) D := rfl
theorem n20 : ¬ nI 20 = nI 21 := by decide
theorem tsV2_0 {m : Nat → Nat → Int32} {D : Nat} (h : m 149 D = nI 0) : tsV2 m D = m 150 D := by
  unfold tsV2 tsV1
  rw [h, if_neg (by decide), if_neg (by decide)]
theorem tsV4_0 {m : Nat → Nat → Int32} {D : Nat} (h : m 147 D = nI 0) : tsV4 m D = tsV2 m D := by
  unfold tsV4 tsV3
  rw [h, if_neg (by decide), if_neg (by decide)]
theorem i0_add (v : Int32) : nI 0 + v = v := by
  show (0 : Int32) + v = v
  exact Int32.zero_add v
theorem exN {lv : Nat} : exl lv = (if lv = 5 then 1 else if lv = 4 then 152 else 146 + 2 * lv) ∧ exh lv = (if lv = 5 then 0 else if lv = 4 then 152 else 153) := ⟨rfl, rfl⟩
theorem lv_st {lv : Nat} (hl : lv < 4) {m m2 : Nat → Nat → Int32} {D : Nat} {v : Int32} (hI : rI lv m D) (hF : wFr (lv + 1) D m m2) (hO : rO4 (lv + 1) m m2 D v) : rO lv m2 D = v := by
  have hc : lv = 0 ∨ lv = 1 ∨ lv = 2 ∨ lv = 3 := by omega
  obtain ⟨i1, i2, i3, i4⟩ := hI
  rcases hc with rfl | rfl | rfl | rfl
  · have e : m2 147 D = nI 0 := (hF 147 D (by omega) (fun z => absurd z.2 (by decide))).trans (i4 (by omega))
    have hO' : rO 1 m2 D = v := hO
    rw [rO_0, tsV4_0 (by rw [sms_n (by decide) (by decide)]; exact e), ← rO_1]; exact hO'
  · have e : m2 149 D = nI 0 := (hF 149 D (by omega) (fun z => absurd z.2 (by decide))).trans (i3 (by omega))
    have hO' : rO 2 m2 D = v := hO
    rw [rO_1, tsV2_0 (by rw [sms_n (by decide) (by decide)]; exact e), sms_s]; exact hO'
  · have e1 : m2 150 D = nI 0 := (hF 150 D (by omega) (fun z => absurd z.2 (by decide))).trans (i2 (by omega)).1
    have e2 : m2 151 D = nI 20 := (hF 151 D (by omega) (fun z => absurd z.2 (by decide))).trans (i2 (by omega)).2
    have hO' : rO 3 m2 D = v := hO
    rw [rO_3] at hO'
    rw [rO_2]; unfold pS; rw [e2, if_neg n20, e1, i0_add]; exact hO'
  · have hO' : m2 152 D = (if m 153 D = nI 0 then v else m 152 D * v) := hO
    rw [rO_3, hO', if_pos (i1 (by omega))]
/-- a joiner's code, and its step -/
def jcP (lv c : Nat) (j : Int32) : Prop := (lv = 0 ∧ c = 26 ∧ j = -nI 7) ∨ (lv = 0 ∧ c = 27 ∧ j = -nI 8) ∨ (lv = 1 ∧ c = 24 ∧ j = -nI 9) ∨ (lv = 1 ∧ c = 25 ∧ j = -nI 10) ∨ (lv = 2 ∧ c = 20 ∧ j = -nI 11) ∨ (lv = 2 ∧ c = 21 ∧ j = -nI 12) ∨ (lv = 3 ∧ c = 22 ∧ j = -nI 13)
theorem oB_bI (b : Bool) : oB b = bI b := by cases b <;> rfl
theorem tst_k (m : Nat → Nat → Int32) (D : Nat) : tstM m D 146 D = rO 0 m D := by
  unfold tstM tsP
  rw [up2_ne (by omega), up2_ne (by omega), up2_ne (by omega), up2_eq]; rfl
theorem tst_149 (m : Nat → Nat → Int32) (D : Nat) : tstM m D 149 D = nI 0 := by
  unfold tstM tsP
  rw [up2_ne (by omega), up2_ne (by omega), up2_eq]
theorem tst_150 (m : Nat → Nat → Int32) (D : Nat) : tstM m D 150 D = nI 0 := by
  unfold tstM tsP
  rw [up2_ne (by omega), up2_eq]
theorem tst_151 (m : Nat → Nat → Int32) (D : Nat) : tstM m D 151 D = nI 20 := by
  unfold tstM tsP
  rw [up2_eq]
theorem tst_153 (m : Nat → Nat → Int32) (D : Nat) : tstM m D 153 D = nI 0 := by
  unfold tstM tsP
  rw [up2_ne (by omega), up2_ne (by omega), up2_ne (by omega), up2_ne (by omega), sms_t]
theorem sms_fr {m : Nat → Nat → Int32} {D : Nat} : wFr 2 D m (smsM m D) := by
  unfold smsM
  exact (wFr.refl.up _ (Or.inr ⟨rfl, by decide, by decide⟩)).up _ (Or.inr ⟨rfl, by decide, by decide⟩)
theorem tst_fr {m : Nat → Nat → Int32} {D : Nat} : wFr 0 D m (tstM m D) := by
  unfold tstM tsP
  exact ((((sms_fr.mono (by decide) (by decide)).up _ (Or.inr ⟨rfl, by decide, by decide⟩)).up _ (Or.inr ⟨rfl, by decide, by decide⟩)).up _ (Or.inr ⟨rfl, by decide, by decide⟩)).up _ (Or.inr ⟨rfl, by decide, by decide⟩)
theorem jn_0 {m : Nat → Nat → Int32} {D c : Nat} {T j : Int32} (hj : (c = 26 ∧ j = -nI 7) ∨ (c = 27 ∧ j = -nI 8)) (hO : rO 0 m D = T) : rI 1 (up2 (tstM m D) 147 D (nI c)) D ∧ wFr 0 D m (up2 (tstM m D) 147 D (nI c)) ∧ ∀ m2 v, wFr 1 D (up2 (tstM m D) 147 D (nI c)) m2 → rO4 1 (up2 (tstM m D) 147 D (nI c)) m2 D v → rO 0 m2 D = jnV j T v := by
  obtain ⟨m', hm'⟩ : ∃ m', m' = up2 (tstM m D) 147 D (nI c) := ⟨_, rfl⟩
  have f : ∀ a, a ≠ 147 → m' a D = tstM m D a D := fun a ha => by rw [hm', up2_ne (fun z => ha z.1)]
  rw [← hm']
  refine ⟨⟨fun _ => (f _ (by decide)).trans (tst_153 m D), fun _ => ⟨(f _ (by decide)).trans (tst_150 m D), (f _ (by decide)).trans (tst_151 m D)⟩, fun _ => (f _ (by decide)).trans (tst_149 m D), fun z => absurd z (by decide)⟩, ?_, fun m2 v hF hv => ?_⟩
  · rw [hm']; exact tst_fr.up _ (Or.inr ⟨rfl, by decide, by decide⟩)
  · have hv' : rO 1 m2 D = v := hv
    have k1 : smsM m2 D 147 D = nI c := by rw [sms_n (by decide) (by decide), hF 147 D (by omega) (fun z => absurd z.2 (by decide)), hm', up2_eq]
    have k2 : smsM m2 D 146 D = T := by rw [sms_n (by decide) (by decide), hF 146 D (by omega) (fun z => absurd z.2 (by decide)), f _ (by decide), tst_k]; exact hO
    rw [rO_1] at hv'
    rw [rO_0]
    unfold tsV4 tsV3
    rw [k1, k2, hv']
    rcases hj with ⟨rfl, rfl⟩ | ⟨rfl, rfl⟩
    · rw [if_neg (by decide), if_pos rfl, oB_bI]; rfl
    · rw [if_pos rfl, if_neg (by decide), oB_bI]; rfl
theorem jn_1 {m : Nat → Nat → Int32} {D c : Nat} {T j : Int32} (hj : (c = 24 ∧ j = -nI 9) ∨ (c = 25 ∧ j = -nI 10)) (hO : rO 1 m D = T) (h0 : m 149 D = nI 0) {m' : Nat → Nat → Int32} (hm' : m' = up2 (up2 (up2 (up2 (smsM m D) 148 D (smsM m D 150 D)) 149 D (nI c)) 150 D (nI 0)) 151 D (nI 20)) : rI 2 m' D ∧ wFr 1 D m m' ∧ ∀ m2 v, wFr 2 D m' m2 → rO4 2 m' m2 D v → rO 1 m2 D = jnV j T v := by
  rw [rO_1, tsV2_0 (by rw [sms_n (by decide) (by decide)]; exact h0), sms_s] at hO
  refine ⟨⟨fun _ => ?_, fun _ => ⟨?_, ?_⟩, fun z => absurd z (by decide), fun z => absurd z (by decide)⟩, ?_, fun m2 v hF hv => ?_⟩
  · rw [hm', up2_ne (by omega), up2_ne (by omega), up2_ne (by omega), up2_ne (by omega), sms_t]
  · rw [hm', up2_ne (by omega), up2_eq]
  · rw [hm', up2_eq]
  · rw [hm']
    exact ((((sms_fr.mono (by decide) (by decide)).up _ (Or.inr ⟨rfl, by decide, by decide⟩)).up _ (Or.inr ⟨rfl, by decide, by decide⟩)).up _ (Or.inr ⟨rfl, by decide, by decide⟩)).up _ (Or.inr ⟨rfl, by decide, by decide⟩)
  · have hv' : rO 2 m2 D = v := hv
    have k1 : smsM m2 D 149 D = nI c := by rw [sms_n (by decide) (by decide), hF 149 D (by omega) (fun z => absurd z.2 (by decide)), hm', up2_ne (by omega), up2_ne (by omega), up2_eq]
    have k2 : smsM m2 D 148 D = T := by rw [sms_n (by decide) (by decide), hF 148 D (by omega) (fun z => absurd z.2 (by decide)), hm', up2_ne (by omega), up2_ne (by omega), up2_ne (by omega), up2_eq, sms_s]; exact hO
    rw [rO_2] at hv'
    rw [rO_1]
    unfold tsV2 tsV1
    rw [k1, k2, sms_s, hv']
    rcases hj with ⟨rfl, rfl⟩ | ⟨rfl, rfl⟩
    · rw [if_neg (by decide), if_pos rfl, oB_bI]; rfl
    · rw [if_pos rfl, oB_bI]; rfl
theorem jn_2 {m : Nat → Nat → Int32} {D c : Nat} {T j : Int32} (hj : (c = 20 ∧ j = -nI 11) ∨ (c = 21 ∧ j = -nI 12)) (hO : rO 2 m D = T) {m' : Nat → Nat → Int32} (hm' : m' = up2 (smsM m D) 151 D (nI c)) : rI 3 m' D ∧ wFr 2 D m m' ∧ ∀ m2 v, wFr 3 D m' m2 → rO4 3 m' m2 D v → rO 2 m2 D = jnV j T v := by
  rw [rO_2] at hO
  refine ⟨⟨fun _ => ?_, fun z => absurd z (by decide), fun z => absurd z (by decide), fun z => absurd z (by decide)⟩, ?_, fun m2 v hF hv => ?_⟩
  · rw [hm', up2_ne (by omega), sms_t]
  · rw [hm']
    exact sms_fr.up _ (Or.inr ⟨rfl, by decide, by decide⟩)
  · have hv' : rO 3 m2 D = v := hv
    have k1 : m2 151 D = nI c := by rw [hF 151 D (by omega) (fun z => absurd z.2 (by decide)), hm', up2_eq]
    have k2 : m2 150 D = T := by rw [hF 150 D (by omega) (fun z => absurd z.2 (by decide)), hm', up2_ne (by omega), sms_s]; exact hO
    rw [rO_3] at hv'
    rw [rO_2]
    unfold pS
    rw [k1, k2, hv']
    rcases hj with ⟨rfl, rfl⟩ | ⟨rfl, rfl⟩
    · rw [if_neg (by decide)]; rfl
    · rw [if_pos rfl]; rfl
theorem jn_3 {m : Nat → Nat → Int32} {D : Nat} {T : Int32} (hO : rO 3 m D = T) {m' : Nat → Nat → Int32} (hm' : m' = up2 m 153 D (nI 22)) : rI 4 m' D ∧ wFr 3 D m m' ∧ ∀ m2 v, wFr 4 D m' m2 → rO4 4 m' m2 D v → rO 3 m2 D = jnV (-nI 13) T v := by
  rw [rO_3] at hO
  refine ⟨⟨fun z => absurd z (by decide), fun z => absurd z (by decide), fun z => absurd z (by decide), fun z => absurd z (by decide)⟩, ?_, fun m2 v hF hv => ?_⟩
  · rw [hm']
    exact wFr.refl.up _ (Or.inr ⟨rfl, by decide, by decide⟩)
  · have hv' : m2 152 D = (if m' 153 D = nI 0 then v else m' 152 D * v) := hv
    rw [rO_3, hv', hm', up2_eq, if_neg (by decide), up2_ne (by omega), hO]; rfl
theorem jn_ok {lv c : Nat} {j : Int32} (hj : jcP lv c j) {m : Nat → Nat → Int32} {D : Nat} {T : Int32} (hO : rO lv m D = T) (h1 : lv = 1 → m 149 D = nI 0) : ∃ m', wkS c (D, m) = (D, m') ∧ rI (lv + 1) m' D ∧ wFr lv D m m' ∧ ∀ m2 v, wFr (lv + 1) D m' m2 → rO4 (lv + 1) m' m2 D v → rO lv m2 D = jnV j T v := by
  rcases hj with ⟨rfl, rfl, rfl⟩ | ⟨rfl, rfl, rfl⟩ | ⟨rfl, rfl, rfl⟩ | ⟨rfl, rfl, rfl⟩ | ⟨rfl, rfl, rfl⟩ | ⟨rfl, rfl, rfl⟩ | ⟨rfl, rfl, rfl⟩
  · exact ⟨_, rfl, jn_0 (Or.inl ⟨rfl, rfl⟩) hO⟩
  · exact ⟨_, rfl, jn_0 (Or.inr ⟨rfl, rfl⟩) hO⟩
  · exact ⟨_, rfl, jn_1 (Or.inl ⟨rfl, rfl⟩) hO (h1 rfl) rfl⟩
  · exact ⟨_, rfl, jn_1 (Or.inr ⟨rfl, rfl⟩) hO (h1 rfl) rfl⟩
  · exact ⟨_, rfl, jn_2 (Or.inl ⟨rfl, rfl⟩) hO rfl⟩
  · exact ⟨_, rfl, jn_2 (Or.inr ⟨rfl, rfl⟩) hO rfl⟩
  · exact ⟨_, rfl, jn_3 hO rfl⟩
/-! behind nots -/
def wNB (m : Nat → Nat → Int32) (D : Nat) : Prop := D = 0 ∨ m 154 D ≠ nI 1
theorem popN_nb {m : Nat → Nat → Int32} {D : Nat} (h : wNB m D) (v : Int32) : popN m D v = (D, v) := by
  cases D with
  | zero => rfl
  | succ D =>
    rcases h with h | h
    · omega
    · rw [popN_s]; exact if_neg h
theorem popN_cg {m m' : Nat → Nat → Int32} : ∀ (D : Nat) (v : Int32), (∀ k, k ≤ D → m' 154 k = m 154 k) → popN m' D v = popN m D v
  | 0, _, _ => rfl
  | D + 1, v, h => by
    rw [popN_s, popN_s]
    have e : m' 154 (D + 1) = m 154 (D + 1) := h _ (Nat.le_refl _)
    rw [e, popN_cg D _ (fun k hk => h k (by omega))]
/-! what is said of the steps, and of the codes -/
def hvP (fa : Int32 → Int32) (m : Nat → Nat → Int32) : Prop := ∀ c, 1 ≤ c → c ≤ 5 → m 155 c = fa (-nI c)
def gE (fa : Int32 → Int32) (u : List Int32) (hb : Nat) (v : Int32) : Prop := ∀ (h : Nat) (st : Nat → Int32), h ≤ hb → ∃ st', evF fa u (h, st) = (h + 1, st') ∧ st' h = v ∧ ∀ j, j < h → st' j = st j
def gL (fa : Int32 → Int32) (u : List Int32) (hb : Nat) (T v : Int32) : Prop := ∀ (h : Nat) (st : Nat → Int32), h ≤ hb → st h = T → ∃ st', evF fa u (h + 1, st) = (h + 1, st') ∧ st' h = v ∧ ∀ j, j < h → st' j = st j
def g4 (fa : Int32 → Int32) (cs : List Nat) (D : Nat) (v : Int32) : Prop := ∀ m, hvP fa m → okL cs (D, m) ∧ ∃ m2, wkF cs (D, m) = ((popN m D v).1, trmM m2 (popN m D v)) ∧ wFr 5 D m m2
def gS (fa : Int32 → Int32) (cs : List Nat) (lv D : Nat) (v : Int32) : Prop := ∀ m, hvP fa m → wNB m D → rI lv m D → okL cs (D, m) ∧ ∃ m2, wkF cs (D, m) = (D, m2) ∧ wFr lv D m m2 ∧ rO4 lv m m2 D v
def gO (fa : Int32 → Int32) (cs : List Nat) (lv D : Nat) (T v : Int32) (r : Nat) : Prop := ∀ m, hvP fa m → wNB m D → rO lv m D = T → (lv = 1 → r ≠ 0 → m 149 D = nI 0) → okL cs (D, m) ∧ ∃ m2, wkF cs (D, m) = (D, m2) ∧ wFr lv D m m2 ∧ rO lv m2 D = v
theorem wFr.hv {fa : Int32 → Int32} {lv D : Nat} {m m2 : Nat → Nat → Int32} (h : wFr lv D m m2) (h5 : lv ≤ 5) (hh : hvP fa m) : hvP fa m2 := fun c h1 h2 => (h 155 c (by omega) (fun z => by have := ex_in h5 z.2; omega)).trans (hh c h1 h2)
theorem wFr.nb {lv D : Nat} {m m2 : Nat → Nat → Int32} (h : wFr lv D m m2) (hh : wNB m D) : wNB m2 D := by
  rcases hh with z | z
  · exact Or.inl z
  · refine Or.inr ?_
    rw [h 154 D (by omega) (fun y => ?_)]
    · exact z
    · have := y.2.2
      unfold exh at this
      split at this
      · omega
      · split at this <;> omega
theorem g4.s {fa : Int32 → Int32} {cs : List Nat} {D : Nat} {v : Int32} (h : g4 fa cs D v) : gS fa cs 4 D v := by
  intro m hh hn _
  obtain ⟨h1, m2, h2, h3⟩ := h m hh
  rw [popN_nb hn] at h2
  refine ⟨h1, _, h2, ?_, ?_⟩
  · unfold trmM
    exact (h3.mono (by decide) (by decide)).up _ (Or.inr ⟨rfl, by decide, by decide⟩)
  · show trmM m2 (D, v) 152 D = (if m 153 D = nI 0 then v else m 152 D * v)
    unfold trmM
    have e1 : m2 153 D = m 153 D := h3 153 D (by omega) (fun z => absurd z.2 (by decide))
    have e2 : m2 152 D = m 152 D := h3 152 D (by omega) (fun z => absurd z.2 (by decide))
    show up2 m2 152 D (if m2 153 D = nI 0 then v else m2 152 D * v) 152 D = _
    rw [up2_eq, e1, e2]
/-- a part that stands alone -/
theorem g4_c {fa : Int32 → Int32} {c D : Nat} (hD : D ≤ 5) {v : Int32} (hc : ¬ (20 ≤ c ∧ c ≤ 30)) (hv : ∀ m, hvP fa m → (if 100 ≤ c then nI (c - 100) else if c < 20 then m 155 c else nI 0) = v) : g4 fa [c] D v := by
  intro m hh
  refine ⟨okL_1 hD (fun z => by omega), m, ?_, wFr.refl⟩
  rw [wkF_1]
  unfold wkS
  rw [if_neg (by omega), if_neg (by omega), if_neg (by omega), if_neg (by omega), if_neg (by omega), if_neg (by omega)]
  have e : (if 100 ≤ c then nI (c - 100) else if c < 20 then (D, m).2 155 c else nI 0) = v := hv m hh
  rw [e]
theorem g4_not {fa : Int32 → Int32} {cs : List Nat} {D : Nat} (hD : D ≤ 5) {v : Int32} (h : g4 fa cs (D + 1) v) : g4 fa (30 :: cs) D (oB (decide (v = nI 0))) := by
  intro m hh
  obtain ⟨m1, hm1⟩ : ∃ m1, m1 = opnM (up2 m 154 (D + 1) (nI 1)) (D + 1) := ⟨_, rfl⟩
  have e1 : wkS 30 (D, m) = (D + 1, m1) := by rw [hm1]; rfl
  have f1 : wFr 5 D m m1 := by
    rw [hm1]; unfold opnM
    exact (((((wFr.refl.up _ (Or.inl (by omega))).up _ (Or.inl (by omega))).up _ (Or.inl (by omega))).up _ (Or.inl (by omega))).up _ (Or.inl (by omega))).up _ (Or.inl (by omega))
  obtain ⟨h1, m2, h2, h3⟩ := h m1 (f1.hv (by decide) hh)
  have b1 : m1 154 (D + 1) = nI 1 := by
    rw [hm1]; unfold opnM
    rw [up2_ne (by omega), up2_ne (by omega), up2_ne (by omega), up2_ne (by omega), up2_ne (by omega), up2_eq]
  have e2 : popN m1 (D + 1) v = popN m D (oB (decide (v = nI 0))) := by
    rw [popN_s, if_pos b1]
    exact popN_cg D _ (fun k hk => f1 154 k (by omega) (fun z => absurd z.2 (by decide)))
  rw [e2] at h2
  refine ⟨⟨hD, fun z => absurd z (by decide), by rw [e1]; exact h1⟩, m2, ?_, f1.trans (h3.deep (by decide))⟩
  show wkF cs (wkS 30 (D, m)) = _
  rw [e1]; exact h2
theorem g4_par {fa : Int32 → Int32} {cs : List Nat} {D : Nat} (hD : D < 5) {v : Int32} (h : gS fa cs 0 (D + 1) v) : g4 fa (28 :: (cs ++ [29])) D v := by
  intro m hh
  obtain ⟨m1, hm1⟩ : ∃ m1, m1 = opnM (up2 m 154 (D + 1) (nI 0)) (D + 1) := ⟨_, rfl⟩
  have e1 : wkS 28 (D, m) = (D + 1, m1) := by rw [hm1]; rfl
  have f1 : wFr 5 D m m1 := by
    rw [hm1]; unfold opnM
    exact (((((wFr.refl.up _ (Or.inl (by omega))).up _ (Or.inl (by omega))).up _ (Or.inl (by omega))).up _ (Or.inl (by omega))).up _ (Or.inl (by omega))).up _ (Or.inl (by omega))
  have b1 : wNB m1 (D + 1) := Or.inr (by
    rw [hm1]; unfold opnM
    rw [up2_ne (by omega), up2_ne (by omega), up2_ne (by omega), up2_ne (by omega), up2_ne (by omega), up2_eq]; decide)
  have i1 : rI 0 m1 (D + 1) := by
    rw [hm1]; unfold opnM
    refine ⟨fun _ => up2_eq .., fun _ => ⟨?_, ?_⟩, fun _ => ?_, fun _ => ?_⟩
    · rw [up2_ne (by omega), up2_ne (by omega), up2_eq]
    · rw [up2_ne (by omega), up2_eq]
    · rw [up2_ne (by omega), up2_ne (by omega), up2_ne (by omega), up2_eq]
    · rw [up2_ne (by omega), up2_ne (by omega), up2_ne (by omega), up2_ne (by omega), up2_eq]
  obtain ⟨h1, m2, h2, h3, h4⟩ := h m1 (f1.hv (by decide) hh) b1 i1
  have h4' : rO 0 m2 (D + 1) = v := h4
  have k1 : tstM m2 (D + 1) 146 (D + 1) = v := (tst_k m2 (D + 1)).trans h4'
  have f2 : wFr 5 D m (tstM m2 (D + 1)) := f1.trans ((h3.trans tst_fr).deep (by decide))
  have e3 : wkS 29 (D + 1, m2) = ((popN (tstM m2 (D + 1)) D (tstM m2 (D + 1) 146 (D + 1))).1, trmM (tstM m2 (D + 1)) (popN (tstM m2 (D + 1)) D (tstM m2 (D + 1) 146 (D + 1)))) := rfl
  rw [k1, popN_cg (m := m) D v (fun k hk => f2 154 k (by omega) (fun z => absurd z.2 (by decide)))] at e3
  refine ⟨⟨by show D ≤ 5; omega, fun z => absurd z (by decide), ?_⟩, tstM m2 (D + 1), ?_, f2⟩
  · rw [e1]
    refine okL_ap _ _ _ h1 ?_
    rw [h2]
    exact okL_1 (by show D + 1 ≤ 5; omega) (fun _ => Nat.le_add_left ..)
  · show wkF (cs ++ [29]) (wkS 28 (D, m)) = _
    rw [e1, wkF_ap, h2, wkF_1, e3]
