/-! rows of the standing world -/
def fI (ci k : Nat) : Bool := match vwCl[ci]? with
  | some q => (q.2.1 k).2.2.1 == "I" && !(q.2.1 k).2.2.2
  | none => false
theorem fI_fit {ci k : Nat} {x : Int32} (h : fI ci k = true) : kv_fit ci k (.int x) := by
  intro q hq
  unfold fI at h
  rw [hq] at h
  simp only [Bool.and_eq_true, beq_iff_eq] at h
  exact ⟨.int, by rw [h.1]; rfl, rfl, rfl⟩
theorem fI_fin {ci k : Nat} (h : fI ci k = true) {q : vw_C} (hq : vwCl[ci]? = some q) : (q.2.1 k).2.2.2 = false := by
  unfold fI at h
  rw [hq] at h
  simp only [Bool.and_eq_true, Bool.not_eq_true'] at h
  exact h.2
theorem pw_mono {l : Launch} {E : EV} {D : va_G} {cA : Nat → ClassId} {N Z : Nat} {X : MT} {d : Nat} {fin fin' : Option Value → List PE → Prop} {pc : Nat} {ls : List (Option Value)} {st : List Value} {M : List PE} (hf : ∀ r M1, fin r M1 → fin' r M1) (h : PW l E D cA N Z X d fin pc ls st M) : PW l E D cA N Z X d fin' pc ls st M :=
  fun _ _ _ _ _ _ _ _ _ _ _ _ _ _ _ _ _ B P => h ⟨B.1, B.2.1, B.2.2.1, B.2.2.2.1, B.2.2.2.2.1, B.2.2.2.2.2.1, B.2.2.2.2.2.2.1, fun r M' H' locs' c' s' pc' la' h1 => B.2.2.2.2.2.2.2 r M' H' locs' c' s' pc' la' (hf r M' h1)⟩ P
section PSR
variable {l : Launch} {E : EY} {D : va_G} {cA : Nat → ClassId} {X : MT} {d : Nat} {fin : Option Value → Mu → Prop} {pc : Nat} {ls : List (Option Value)} {st : List Value} {μ : Mu}
theorem ps_geti {i idx ci k : Nat} {x : Int32} (hd : decode X.2.2.1 pc = .ok (.getfield idx, 3)) (hf : kv_f X.1 idx ci k) (hci : ci < 100) (hk : okk i k ci 0 = true) (hx : μ i k = x) (kk : PS l E D cA X d fin (pc + 3) ls (.int x :: st) μ) : PS l E D cA X d fin pc ls (.ref i :: st) μ := by
  obtain ⟨h1, h2, h3, h4⟩ := okk_of hk
  subst h2
  exact pw_getf hd hf hci (emy_at h1) (em_ra h3) (by rw [show em_v μ i k = .int x by simp [em_v, h4, hx]]; exact kk)
theorem ps_getr {i idx ci k r : Nat} (hd : decode X.2.2.1 pc = .ok (.getfield idx, 3)) (hf : kv_f X.1 idx ci k) (hci : ci < 100) (hk : okk i k ci (r + 2) = true) (kk : PS l E D cA X d fin (pc + 3) ls (.ref r :: st) μ) : PS l E D cA X d fin pc ls (.ref i :: st) μ := by
  obtain ⟨h1, h2, h3, h4⟩ := okk_of hk
  subst h2
  exact pw_getf hd hf hci (emy_at h1) (em_ra h3) (by rw [show em_v μ i k = .ref r by simp [em_v, h4]]; exact kk)
theorem ps_getd {i idx ci k r : Nat} (hd : decode X.2.2.1 pc = .ok (.getfield idx, 3)) (hf : kv_f X.1 idx ci k) (hci : ci < 100) (hk : okk i k ci 1 = true) (hr : r < 2 ^ 31) (hx : μ i k = nI r) (kk : PS l E D cA X d fin (pc + 3) ls (.ref r :: st) μ) : PS l E D cA X d fin pc ls (.ref i :: st) μ := by
  obtain ⟨h1, h2, h3, h4⟩ := okk_of hk
  subst h2
  exact pw_getf hd hf hci (emy_at h1) (em_ra h3) (by rw [show em_v μ i k = .ref r by simp [em_v, h4, hx, em_d, nI_pos hr, nI_clamp hr]]; exact kk)
theorem ps_puti {i idx ci k : Nat} {x : Int32} (hd : decode X.2.2.1 pc = .ok (.putfield idx, 3)) (hf : kv_f X.1 idx ci k) (hci : ci < 100) (hI : fI ci k = true) (hk : okk i k ci 0 = true) (kk : PS l E D cA X d fin (pc + 3) ls st (u2 μ i k x)) : PS l E D cA X d fin pc ls (.int x :: .ref i :: st) μ := by
  obtain ⟨h1, h2, h3, h4⟩ := okk_of hk
  subst h2
  exact pw_putf hd hf hci (emy_at h1) (by rw [em_rl]; exact h3) (fI_fit hI) (fun q hq => Or.inl (fI_fin hI hq)) (by rw [emy_set h1 h3 h4]; exact kk)
theorem ps_putd {i idx ci k r : Nat} (hd : decode X.2.2.1 pc = .ok (.putfield idx, 3)) (hf : kv_f X.1 idx ci k) (hci : ci < 100) (hI : ∀ q : vw_C, vwCl[ci]? = some q → (q.2.1 k).2.2.1 = "LTrailTeams$State;" ∧ (q.2.1 k).2.2.2 = false) (hk : okk i k ci 1 = true) (hr : r < 2 ^ 31) (kk : PS l E D cA X d fin (pc + 3) ls st (u2 μ i k (nI r))) : PS l E D cA X d fin pc ls (.ref r :: .ref i :: st) μ := by
  obtain ⟨h1, h2, h3, h4⟩ := okk_of hk
  subst h2
  exact pw_putf hd hf hci (emy_at h1) (by rw [em_rl]; exact h3) (fun q hq => ⟨.object "TrailTeams$State", by rw [(hI q hq).1]; decide +kernel, rfl, rfl⟩) (fun q hq => Or.inl (hI q hq).2) (by rw [emy_setd h1 h3 h4 hr]; exact kk)
theorem ps_n0 {ix : Int32} {j : Nat} (h : j < 2 ^ 31) (hj : ix = nI j) : ¬ ix < 0 ∧ ix.toNatClampNeg = j := by
  subst hj
  exact ⟨nI_pos h, nI_clamp h⟩
theorem ly_small {i : Nat} : ly_n i < 2 ^ 31 := by
  by_cases h : i < 227
  · have : ∀ i, i < 227 → ly_n i < 2 ^ 31 := by decide +kernel
    exact this i h
  · unfold ly_n
    rw [List.getD_eq_getElem?_getD, List.getElem?_eq_none (by rw [ly_len]; omega)]
    decide
theorem ps_iald {i j : Nat} {ix x : Int32} (hd : decode X.2.2.1 pc = .ok (.iaload, 1)) (hj : ix = nI j) (hk : okk i j 100 0 = true) (hx : μ i j = x) (kk : PS l E D cA X d fin (pc + 1) ls (.int x :: st) μ) : PS l E D cA X d fin pc ls (.int ix :: .ref i :: st) μ := by
  obtain ⟨h1, h2, h3, h4⟩ := okk_of hk
  obtain ⟨g1, g2⟩ := ps_n0 (Nat.lt_trans h3 ly_small) hj
  exact pw_iaload hd (h2 ▸ emy_at h1) g1 (by rw [g2, em_ra h3, show em_v μ i j = .int x by simp [em_v, h4, hx]]) kk
theorem ps_cald {i j : Nat} {ix x : Int32} (hd : decode X.2.2.1 pc = .ok (.caload, 1)) (hj : ix = nI j) (hk : okk i j 101 0 = true) (hx : μ i j = x) (kk : PS l E D cA X d fin (pc + 1) ls (.int x :: st) μ) : PS l E D cA X d fin pc ls (.int ix :: .ref i :: st) μ := by
  obtain ⟨h1, h2, h3, h4⟩ := okk_of hk
  obtain ⟨g1, g2⟩ := ps_n0 (Nat.lt_trans h3 ly_small) hj
  exact pw_caload hd (h2 ▸ emy_at h1) g1 (by rw [g2, em_ra h3, show em_v μ i j = .int x by simp [em_v, h4, hx]]) kk
theorem ps_bald {i j : Nat} {ix x : Int32} (hd : decode X.2.2.1 pc = .ok (.baload, 1)) (hj : ix = nI j) (hk : okk i j 102 0 = true) (hx : μ i j = x) (kk : PS l E D cA X d fin (pc + 1) ls (.int x :: st) μ) : PS l E D cA X d fin pc ls (.int ix :: .ref i :: st) μ := by
  obtain ⟨h1, h2, h3, h4⟩ := okk_of hk
  obtain ⟨g1, g2⟩ := ps_n0 (Nat.lt_trans h3 ly_small) hj
  exact pw_baload hd (h2 ▸ emy_at h1) g1 (by rw [g2, em_ra h3, show em_v μ i j = .int x by simp [em_v, h4, hx]]) kk
theorem ps_iast {i j : Nat} {ix x : Int32} (hd : decode X.2.2.1 pc = .ok (.iastore, 1)) (hj : ix = nI j) (hk : okk i j 100 0 = true) (kk : PS l E D cA X d fin (pc + 1) ls st (u2 μ i j x)) : PS l E D cA X d fin pc ls (.int x :: .int ix :: .ref i :: st) μ := by
  obtain ⟨h1, h2, h3, h4⟩ := okk_of hk
  obtain ⟨g1, g2⟩ := ps_n0 (Nat.lt_trans h3 ly_small) hj
  exact pw_iastore hd (h2 ▸ emy_at h1) g1 (by rw [g2, em_rl]; exact h3) (by rw [g2, ← h2, emy_set h1 h3 h4]; exact kk)
theorem ps_cast {i j : Nat} {ix x : Int32} (hd : decode X.2.2.1 pc = .ok (.castore, 1)) (hj : ix = nI j) (hk : okk i j 101 0 = true) (kk : PS l E D cA X d fin (pc + 1) ls st (u2 μ i j (vp_nar .char x))) : PS l E D cA X d fin pc ls (.int x :: .int ix :: .ref i :: st) μ := by
  obtain ⟨h1, h2, h3, h4⟩ := okk_of hk
  obtain ⟨g1, g2⟩ := ps_n0 (Nat.lt_trans h3 ly_small) hj
  exact pw_castore hd (h2 ▸ emy_at h1) g1 (by rw [g2, em_rl]; exact h3) (by rw [g2, ← h2, emy_set h1 h3 h4]; exact kk)
theorem ps_bast {i j : Nat} {ix x : Int32} (hd : decode X.2.2.1 pc = .ok (.bastore, 1)) (hj : ix = nI j) (hk : okk i j 102 0 = true) (kk : PS l E D cA X d fin (pc + 1) ls st (u2 μ i j (vp_nar .boolean x))) : PS l E D cA X d fin pc ls (.int x :: .int ix :: .ref i :: st) μ := by
  obtain ⟨h1, h2, h3, h4⟩ := okk_of hk
  obtain ⟨g1, g2⟩ := ps_n0 (Nat.lt_trans h3 ly_small) hj
  exact pw_bastore hd (h2 ▸ emy_at h1) g1 (by rw [g2, em_rl]; exact h3) (by rw [g2, ← h2, emy_set h1 h3 h4]; exact kk)
theorem ps_aald {i j t r : Nat} {ix : Int32} (hd : decode X.2.2.1 pc = .ok (.aaload, 1)) (hj : ix = nI j) (hk : okk i j (100 + t) (r + 2) = true) (ht : t = 3 ∨ t = 4 ∨ t = 5) (kk : PS l E D cA X d fin (pc + 1) ls (.ref r :: st) μ) : PS l E D cA X d fin pc ls (.int ix :: .ref i :: st) μ := by
  obtain ⟨h1, h2, h3, h4⟩ := okk_of hk
  obtain ⟨g1, g2⟩ := ps_n0 (Nat.lt_trans h3 ly_small) hj
  exact pw_aaload hd (h2 ▸ emy_at h1) ht g1 (by rw [g2, em_ra h3, show em_v μ i j = .ref r by simp [em_v, h4]]) kk
theorem ps_alen {i n : Nat} (hd : decode X.2.2.1 pc = .ok (.arraylength, 1)) (h1 : i < 227) (h2 : ly_k i = 100) (hn : ly_n i = n) (kk : PS l E D cA X d fin (pc + 1) ls (.int (nI n) :: st) μ) : PS l E D cA X d fin pc ls (.ref i :: st) μ := by
  subst hn
  exact pw_alen (t := 0) hd (h2 ▸ emy_at h1) (by decide) (by rw [em_rl]; exact kk)
theorem ps_iald_s {k j : Nat} {ix x : Int32} (hd : decode X.2.2.1 pc = .ok (.iaload, 1)) (hk : k < 4) (hjs : j < 2 ^ 31) (hj : ix = nI j) (h1 : j < E.1.2.2.1 k) (hx : E.1.2.2.2 k j = x) (kk : PS l E D cA X d fin (pc + 1) ls (.int x :: st) μ) : PS l E D cA X d fin pc ls (.int ix :: .ref (1000 + k) :: st) μ := by
  obtain ⟨g1, g2⟩ := ps_n0 hjs hj
  exact pw_iaload_s hd hk g1 (by rw [g2]; exact h1) (by rw [g2, hx]; exact kk)
theorem ps_copy {idx i j n : Nat} (hd : decode X.2.2.1 pc = .ok (.invokestatic idx, 3)) (hl : Cond.methodLink X.1 idx arraycopyName ∈ TB) (h1 : Cond.native arraycopyName ∈ TB) (h2 : Cond.static arraycopyName ∈ TB) (h3 : Cond.initialized "java/lang/System" ∈ TB)
    (hi : i < 227) (hj : j < 227) (hki : ly_k i = 100) (hkj : ly_k j = 100) (hni : ly_n i = n) (hnj : ly_n j = n) (hz : ∀ k, k < n → ly_s i k = 0 ∧ ly_s j k = 0) {m : Int32} (hm : m = nI n) (hw : (st.map fun v => v.category).sum ≤ 8) (kk : PS l E D cA X (d + 1) fin (pc + 3) ls st (u2c μ j i)) : PS l E D cA X (d + 1) fin pc ls (.int m :: .int 0 :: .ref j :: .int 0 :: .ref i :: st) μ := by
  obtain ⟨g1, g2⟩ := ps_n0 (ix := m) (by rw [← hni]; exact ly_small) hm
  exact pw_copy hd hl h1 h2 h3 (hki ▸ emy_at hi) (hkj ▸ emy_at hj) g1 (by rw [g2, em_rl, hni]) (by rw [g2, em_rl, hnj]) hw (by rw [emy_cpy hj (hni.trans hnj.symm) hkj (by rw [hni]; exact hz)]; exact kk)
theorem ps_iret {v : Int32} {ty : FieldType} (hd : decode X.2.2.1 pc = .ok (.ireturn, 1)) (ht : X.2.2.2.2 = some ty) (hn : narrow ty (.int v) = .int v) (hf : fin (some (.int v)) μ) : PS l E D cA X d fin pc ls [.int v] μ :=
  pw_ireturn hd ht hn (emy_len μ E.2) (emy_sum μ E.2) ⟨μ, rfl, hf⟩
theorem ps_ret (hd : decode X.2.2.1 pc = .ok (.return_, 1)) (ht : X.2.2.2.2 = none) (hf : fin none μ) : PS l E D cA X d fin pc ls [] μ :=
  pw_return hd ht (emy_len μ E.2) (emy_sum μ E.2) ⟨μ, rfl, hf⟩
/-- a call site: what the tables say of it -/
def kv_cV (own : String) (idx : Nat) (Y : MT) (ci n : Nat) : Prop := kv_Y Y n ∧ Cond.methodLink own idx Y.2.1 ∈ TB ∧ Cond.instanceMethod Y.2.1 ∈ TB ∧ ci < 100 ∧ ∃ q : vw_C, vwCl[ci]? = some q ∧ Cond.selects q.1 Y.2.1 Y.2.1 ∈ TB
def kv_cS (own : String) (idx : Nat) (Y : MT) (n : Nat) : Prop := kv_Y Y n ∧ Cond.methodLink own idx Y.2.1 ∈ TB ∧ Cond.static Y.2.1 ∈ TB
theorem ps_callV {Y : MT} {idx b ci : Nat} {As st0 : List Value} (hd : decode X.2.2.1 pc = .ok (.invokevirtual idx, 3)) (hc : kv_cV X.1 idx Y ci As.length) (hst : st0 = As.reverse ++ .ref b :: st) (hb : b < 227 ∧ ly_k b = ci) (hL : (kv_fl (.ref b :: As)).length ≤ Y.2.2.2.1) (hw : (st.map fun v => v.category).sum ≤ 8)
    (kk : PS l E D cA Y d (fun r ν => PS l E D cA X (d + 1) fin (pc + 3) ls (r.toList ++ st) ν) 0 (kv_en Y.2.2.2.1 (.ref b :: As)) [] μ) : PS l E D cA X (d + 1) fin pc ls st0 μ := by
  obtain ⟨hY, hl, hin, hci, q, hq, hse⟩ := hc
  exact pw_callV hd hY hl hin hse hst (emy_at hb.1) (hb.2 ▸ hci) (hb.2 ▸ hq) hL hw ⟨by rw [emy_len]; exact Nat.le_refl _, Nat.le_refl _⟩ ⟨by rw [emy_sum]; exact Nat.le_refl _, Nat.le_refl _⟩ (pw_mono (fun r M h => by obtain ⟨ν, rfl, h⟩ := h; exact h) kk)
theorem ps_callS {Y : MT} {idx : Nat} {As st0 : List Value} (hd : decode X.2.2.1 pc = .ok (.invokestatic idx, 3)) (hc : kv_cS X.1 idx Y As.length) (hst : st0 = As.reverse ++ st) (hL : (kv_fl As).length ≤ Y.2.2.2.1) (hw : (st.map fun v => v.category).sum ≤ 8)
    (kk : PS l E D cA Y d (fun r ν => PS l E D cA X (d + 1) fin (pc + 3) ls (r.toList ++ st) ν) 0 (kv_en Y.2.2.2.1 As) [] μ) : PS l E D cA X (d + 1) fin pc ls st0 μ :=
  pw_callS hd hc.1 hc.2.1 hc.2.2 hst hL hw ⟨by rw [emy_len]; exact Nat.le_refl _, Nat.le_refl _⟩ ⟨by rw [emy_sum]; exact Nat.le_refl _, Nat.le_refl _⟩ (pw_mono (fun r M h => by obtain ⟨ν, rfl, h⟩ := h; exact h) kk)
theorem ps_callSN {Y : MT} {idx : Nat} {host : String} {As st0 : List Value} (hd : decode X.2.2.1 pc = .ok (.invokestatic idx, 3)) (hY : kv_Y Y As.length) (hl : Cond.methodLinkNest X.1 idx Y.2.1 host ∈ kv_NW) (hs : Cond.static Y.2.1 ∈ TB) (hst : st0 = As.reverse ++ st) (hL : (kv_fl As).length ≤ Y.2.2.2.1) (hw : (st.map fun v => v.category).sum ≤ 8)
    (kk : PS l E D cA Y d (fun r ν => PS l E D cA X (d + 1) fin (pc + 3) ls (r.toList ++ st) ν) 0 (kv_en Y.2.2.2.1 As) [] μ) : PS l E D cA X (d + 1) fin pc ls st0 μ :=
  pw_callSN hd hY hl hs hst hL hw ⟨by rw [emy_len]; exact Nat.le_refl _, Nat.le_refl _⟩ ⟨by rw [emy_sum]; exact Nat.le_refl _, Nat.le_refl _⟩ (pw_mono (fun r M h => by obtain ⟨ν, rfl, h⟩ := h; exact h) kk)
theorem ps_mono {fin' : Option Value → Mu → Prop} (hf : ∀ r ν, fin r ν → fin' r ν) (h : PS l E D cA X d fin pc ls st μ) : PS l E D cA X d fin' pc ls st μ :=
  pw_mono (fun r M h => by obtain ⟨ν, e, h⟩ := h; exact ⟨ν, e, hf r ν h⟩) h
end PSR
