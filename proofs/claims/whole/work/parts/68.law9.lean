theorem kn_all {s : State} {args : Array Value} (hts : ∀ w ∈ al, w.before args s = true) : ∃ D : va_G, va_K D vwCl [] s := by
  obtain ⟨c0, i0, h0⟩ := u_known hts in_Pm (hts _ m_19)
  obtain ⟨c1, i1, h1⟩ := u_known hts in_Bd (hts _ m_27)
  obtain ⟨c2, i2, h2⟩ := u_known hts in_Ck (hts _ m_33)
  obtain ⟨c3, i3, h3⟩ := u_known hts in_Wi (hts _ m_53)
  obtain ⟨c4, i4, h4⟩ := u_known hts in_Me (hts _ m_71)
  obtain ⟨c5, i5, h5⟩ := u_known hts in_Ch (hts _ m_125)
  obtain ⟨c6, i6, h6⟩ := u_known hts in_Ds (hts _ m_148)
  obtain ⟨c7, i7, h7⟩ := u_known hts in_Pc (hts _ m_202)
  obtain ⟨c8, i8, h8⟩ := u_known hts in_Dr (hts _ m_83)
  obtain ⟨c9, i9, h9⟩ := u_known hts in_Pr (hts _ m_267)
  obtain ⟨c10, i10, h10⟩ := u_known hts in_Mo (hts _ m_770)
  refine ⟨((fun k => match k with | 0 => c0 | 1 => c1 | 2 => c2 | 3 => c3 | 4 => c4 | 5 => c5 | 6 => c6 | 7 => c7 | 8 => c8 | 9 => c9 | _ => c10), (fun k => match k with | 0 => i0 | 1 => i1 | 2 => i2 | 3 => i3 | 4 => i4 | 5 => i5 | 6 => i6 | 7 => i7 | 8 => i8 | 9 => i9 | _ => i10)), fun k q hq => ?_, fun k q hq => by cases k <;> cases hq⟩
  match k, hq with
  | 0, hq => cases hq; exact h0
  | 1, hq => cases hq; exact h1
  | 2, hq => cases hq; exact h2
  | 3, hq => cases hq; exact h3
  | 4, hq => cases hq; exact h4
  | 5, hq => cases hq; exact h5
  | 6, hq => cases hq; exact h6
  | 7, hq => cases hq; exact h7
  | 8, hq => cases hq; exact h8
  | 9, hq => cases hq; exact h9
  | 10, hq => cases hq; exact h10
  | (n + 11), hq => cases hq
theorem kn_arr {s : State} {args : Array Value} {D : va_G} (hK : va_K D vwCl [] s) (h : (Cond.arrayClass .int).before args s = true) : ∃ cI, va_K D vwCl [(cI, .int)] s := by
  obtain ⟨cA, kA, comp, h1, h2, h3⟩ := Cond.arrayClass_spec h
  refine ⟨cA, hK.1, fun k q hq => ?_⟩
  have hk1 : k < 1 := (List.getElem?_eq_some_iff.mp hq).1
  have hk0 : k = 0 := by omega
  rw [hk0] at hq
  cases hq
  exact ⟨fun n z => ⟨fun k h => (by cases h), kA, h2, comp, h3⟩, h1⟩
theorem NW.start {s : State} {args : Array Value} (hts : ∀ w ∈ lw_tbl, w.before args s = true) : NW s := by
  intro w hw
  have hm := (List.mem_filter.mp hw).1
  have hn := (List.mem_filter.mp hw).2
  have hz := hts w (List.mem_append_right _ hm)
  cases w <;> first | exact va_Nw.of rfl hz | (exfalso; revert hn; decide) | (exfalso; simp [isNw] at hn)
theorem ZT.start {s : State} {b : Nat} (hts : ∀ w ∈ lw_tbl, w.before #[Value.ref b] s = true) (hg : (Jvm.Cond.and given_1 narrow_1).before #[Value.ref b] s = true) : ZT (fun q => s.heap.size ≤ q) s := by
  have hs := flat_of_before _ hg
  exact ⟨ZS.of (hts _ (List.mem_append_right _ (ck_2 (List.mem_of_getElem? (i := 161) (by decide +kernel))))) (hs _ (by decide +kernel)) (fun a h1 h2 => absurd h1 (Nat.not_lt.mpr h2)), ZS.of (hts _ (List.mem_append_right _ (ck_2 (List.mem_of_getElem? (i := 163) (by decide +kernel))))) (hs _ (by decide +kernel)) (fun a h1 h2 => absurd h1 (Nat.not_lt.mpr h2))⟩
def sC0 : Sg := sf (sf (sf (sf (fun _ _ => 0) 5 1 511) 8 5 1) 9 1 512) 9 5 255
def sM0 : Sg := sf (sf (sf (fun _ _ => 0) 0 9 255) 0 10 512) 0 37 511
theorem w3_C {cI cL : ClassId} {ad am : Nat → Nat} {o : Nat} {σ τ : Sg} {g : Nat → Int64} : ∀ k, k < 19 → ∃ e, (wC cI ad σ ++ (wM cI am τ ++ oW cL o g))[k]? = some (ad k, e) := by
  intro k hk
  match k, hk with
  | 0, _ => exact ⟨_, rfl⟩
  | 1, _ => exact ⟨_, rfl⟩
  | 2, _ => exact ⟨_, rfl⟩
  | 3, _ => exact ⟨_, rfl⟩
  | 4, _ => exact ⟨_, rfl⟩
  | 5, _ => exact ⟨_, rfl⟩
  | 6, _ => exact ⟨_, rfl⟩
  | 7, _ => exact ⟨_, rfl⟩
  | 8, _ => exact ⟨_, rfl⟩
  | 9, _ => exact ⟨_, rfl⟩
  | 10, _ => exact ⟨_, rfl⟩
  | 11, _ => exact ⟨_, rfl⟩
  | 12, _ => exact ⟨_, rfl⟩
  | 13, _ => exact ⟨_, rfl⟩
  | 14, _ => exact ⟨_, rfl⟩
  | 15, _ => exact ⟨_, rfl⟩
  | 16, _ => exact ⟨_, rfl⟩
  | 17, _ => exact ⟨_, rfl⟩
  | 18, _ => exact ⟨_, rfl⟩
  | (n + 19), h => omega
theorem w3_M {cI cL : ClassId} {ad am : Nat → Nat} {o : Nat} {σ τ : Sg} {g : Nat → Int64} : ∀ k, k < 10 → ∃ e, (wC cI ad σ ++ (wM cI am τ ++ oW cL o g))[19 + k]? = some (am k, e) := by
  intro k hk
  match k, hk with
  | 0, _ => exact ⟨_, rfl⟩
  | 1, _ => exact ⟨_, rfl⟩
  | 2, _ => exact ⟨_, rfl⟩
  | 3, _ => exact ⟨_, rfl⟩
  | 4, _ => exact ⟨_, rfl⟩
  | 5, _ => exact ⟨_, rfl⟩
  | 6, _ => exact ⟨_, rfl⟩
  | 7, _ => exact ⟨_, rfl⟩
  | 8, _ => exact ⟨_, rfl⟩
  | 9, _ => exact ⟨_, rfl⟩
  | (n + 10), h => omega
theorem w3_o {cI cL : ClassId} {ad am : Nat → Nat} {o : Nat} {σ τ : Sg} {g : Nat → Int64} : ∃ e, (wC cI ad σ ++ (wM cI am τ ++ oW cL o g))[29]? = some (o, e) := ⟨_, rfl⟩
theorem wC_at {cI : ClassId} {ad : Nat → Nat} {σ : Sg} {k : Nat} {q : Nat × va_E} (h : (wC cI ad σ)[k]? = some q) : k < 19 ∧ q.1 = ad k := by
  have hk : k < 19 := (List.getElem?_eq_some_iff.mp h).1
  obtain ⟨e, he⟩ := w3_C (cI := cI) (cL := cI) (ad := ad) (am := ad) (o := 0) (σ := σ) (τ := σ) (g := fun _ => 0) k hk
  rw [List.getElem?_append_left (show k < (wC cI ad σ).length from hk)] at he
  rw [he] at h
  cases h
  exact ⟨hk, rfl⟩
theorem wM_at {cI : ClassId} {am : Nat → Nat} {σ : Sg} {k : Nat} {q : Nat × va_E} (h : (wM cI am σ)[k]? = some q) : k < 10 ∧ q.1 = am k := by
  have hk : k < 10 := (List.getElem?_eq_some_iff.mp h).1
  obtain ⟨e, he⟩ := w3_M (cI := cI) (cL := cI) (ad := am) (am := am) (o := 0) (σ := σ) (τ := σ) (g := fun _ => 0) k hk
  rw [List.getElem?_append_right (show (wC cI am σ).length ≤ 19 + k from Nat.le_add_right 19 k), show 19 + k - (wC cI am σ).length = k from Nat.add_sub_cancel_left 19 k, List.getElem?_append_left (show k < (wM cI am σ).length from hk)] at he
  rw [he] at h
  cases h
  exact ⟨hk, rfl⟩
theorem FX.start {D : va_G} {cI cL : ClassId} {ad am : Nat → Nat} {o : Nat} {A : Nat → Prop} {s : State} {σ τ : Sg} {g : Nat → Int64} (hK : va_K D vwCl [(cI, .int), (cL, .long)] s) (hD : va_D A (wC cI ad σ ++ (wM cI am τ ++ oW cL o g))) (hN : NW s) (hZ : ZT A s) : FX D cI cL ad am o A s := by
  have hCC : ∀ j k, j < 19 → k < 19 → ad j = ad k → j = k := fun j k hj hk e => by
    obtain ⟨e1, h1⟩ := w3_C (cI := cI) (cL := cL) (ad := ad) (am := am) (o := o) (σ := σ) (τ := τ) (g := g) j hj
    obtain ⟨e2, h2⟩ := w3_C (cI := cI) (cL := cL) (ad := ad) (am := am) (o := o) (σ := σ) (τ := τ) (g := g) k hk
    exact hD.1 j k _ _ h1 h2 e
  have hMM : ∀ j k, j < 10 → k < 10 → am j = am k → j = k := fun j k hj hk e => by
    obtain ⟨e1, h1⟩ := w3_M (cI := cI) (cL := cL) (ad := ad) (am := am) (o := o) (σ := σ) (τ := τ) (g := g) j hj
    obtain ⟨e2, h2⟩ := w3_M (cI := cI) (cL := cL) (ad := ad) (am := am) (o := o) (σ := σ) (τ := τ) (g := g) k hk
    have := hD.1 _ _ _ _ h1 h2 e
    omega
  have hCM : ∀ j k, j < 19 → k < 10 → ad j = am k → False := fun j k hj hk e => by
    obtain ⟨e1, h1⟩ := w3_C (cI := cI) (cL := cL) (ad := ad) (am := am) (o := o) (σ := σ) (τ := τ) (g := g) j hj
    obtain ⟨e2, h2⟩ := w3_M (cI := cI) (cL := cL) (ad := ad) (am := am) (o := o) (σ := σ) (τ := τ) (g := g) k hk
    have := hD.1 _ _ _ _ h1 h2 e
    omega
  obtain ⟨e3, h3⟩ := w3_o (cI := cI) (cL := cL) (ad := ad) (am := am) (o := o) (σ := σ) (τ := τ) (g := g)
  refine ⟨hK.sub [0] rfl, hK.sub [1] rfl, fun σ' => ⟨fun i j p q hp hq e => ?_, fun k q hq => ⟨k, (wC_at hq).1, (wC_at hq).2⟩⟩, fun τ' => ⟨fun i j p q hp hq e => ?_, fun k q hq => ⟨k, (wM_at hq).1, (wM_at hq).2⟩⟩, ?_, ?_, ?_, ?_, ?_, ?_, hN, hZ⟩
  · rw [(wC_at hp).2, (wC_at hq).2] at e
    exact hCC _ _ (wC_at hp).1 (wC_at hq).1 e
  · rw [(wM_at hp).2, (wM_at hq).2] at e
    exact hMM _ _ (wM_at hp).1 (wM_at hq).1 e
  · intro q h1 h2
    obtain ⟨j, hj, e1⟩ := h1
    obtain ⟨k, hk, e2⟩ := h2
    exact hCM j k hj hk (e1.symm.trans e2)
  · intro h1
    obtain ⟨j, hj, e1⟩ := h1
    obtain ⟨e2, h2⟩ := w3_C (cI := cI) (cL := cL) (ad := ad) (am := am) (o := o) (σ := σ) (τ := τ) (g := g) j hj
    have := hD.1 _ _ _ _ h2 h3 e1.symm
    omega
  · intro h1
    obtain ⟨j, hj, e1⟩ := h1
    obtain ⟨e2, h2⟩ := w3_M (cI := cI) (cL := cL) (ad := ad) (am := am) (o := o) (σ := σ) (τ := τ) (g := g) j hj
    have := hD.1 _ _ _ _ h2 h3 e1.symm
    omega
  · intro q h1
    obtain ⟨j, hj, e1⟩ := h1
    obtain ⟨e2, h2⟩ := w3_C (cI := cI) (cL := cL) (ad := ad) (am := am) (o := o) (σ := σ) (τ := τ) (g := g) j hj
    rw [e1]
    exact hD.2 _ _ h2
  · intro q h1
    obtain ⟨j, hj, e1⟩ := h1
    obtain ⟨e2, h2⟩ := w3_M (cI := cI) (cL := cL) (ad := ad) (am := am) (o := o) (σ := σ) (τ := τ) (g := g) j hj
    rw [e1]
    exact hD.2 _ _ h2
  · exact hD.2 _ _ h3
set_option maxHeartbeats 4000000 in
set_option maxRecDepth 100000 in
theorem law_start {Rel : Sg → Sg → Prop} (hR : RelOk Rel) (hr0 : Rel sC0 sM0) {p : Program} {e : Env} {s : State} {m : MethodId} {below : List Frame} {meth : Method} {c : Code} (l : Launch) (htr : l.stackTraces = false) {b L : Nat} {xs : Nat → Int32} (hL : L ≤ 2048) (C0 : lw_At p s m meth c b L xs) : W p l e room_1 s m #[Value.ref b] below meth c s.heap [] 0 0 (lw_Z below #[Value.ref b] s) (entryFrame m ([Value.ref b] : List Value).toArray 7) := by
  obtain ⟨hx, hb, hret, hml, hown, hts, hX, hbl, hlk, hgv⟩ := C0
  have F : CallFix p m c code 7 s #[Value.ref b] al "PictureMachineLaw" := ⟨hx, hb, hml, hown, fun w h => hts w (List.mem_filter.mp h).1⟩
  obtain ⟨D, hK0⟩ := kn_all F.2.2.2.2
  obtain ⟨cI, hK⟩ := kn_arr hK0 (F.2.2.2.2 _ m_81)
  have hN : NW s := NW.start hts
  have hZ := ZT.start hts hgv
  generalize hAe : (fun q : Nat => s.heap.size ≤ q) = A at hZ
  have hA : ∀ q : Nat, s.heap.size ≤ q → A q := fun q h => by rw [← hAe]; exact h
  have hA2 : ∀ q : Nat, A q → s.heap.size ≤ q := fun q h => by rw [← hAe] at h; exact h
  have hS : va_S A s.heap s.heap [] := va_S.rf
  have hP : va_P D vwCl [] s.heap := fun k q h => by cases k <;> cases h
  have hD : va_D A [] := ⟨fun i j p q h _ _ => (by cases i <;> cases h), fun k q h => by cases k <;> cases h⟩
  have hl := lv_entry [Value.ref b] (n := 7) (Nat.le_of_ble_eq_true rfl)
  rw [lg_entry_eq]
  generalize (lg_sl [Value.ref b] ++ List.replicate (7 - (lg_sl [Value.ref b]).length) Slot.unset).toArray = ls at hl ⊢
  have hl : lv_has ls 7 [(0, .ref b)] := hl
  refine va_new (pc := 0) (ci := 0) (fs := [.null, .null]) (C := R_Pm) (T := T_Pm) (N := 2) F.1 F.2.1 F.2.2.2.2 in_Pm ft_Pm ft_Pm_ok F.2.2.2.1 (F.2.2.2.2 _ m_18) (F.2.2.2.2 _ m_19) (F.2.2.2.2 _ m_1) hK hP hD hS hA rfl df_Pm (Nat.le_of_ble_eq_true rfl) (Nat.le_of_ble_eq_true rfl) d_La_law_0 (fun q0 H hP hD hS => ?_)
  have hP : va_P D vwCl [(q0, .inr (0, [.null, .null]))] H := hP
  have hD : va_D A [(q0, .inr (0, [.null, .null]))] := hD
  refine lv_dup (pc := 3) F.1 F.2.1 d_La_law_3 rfl ?_
  have hFc := va_free (wc := [(q0, .inr (0, [.null, .null]))]) hD hS hA [0] rfl
  refine va_callv (pc := 4) (va_runI (As := []) (rest := [.ref q0]) F (c_Pm_init l D cI H.size q0) (ciA F k_Pm_init m_21 m_20 (Nat.le_of_ble_eq_true rfl) (Nat.le_of_ble_eq_true rfl) rfl rfl) ⟨Pw_blind, fun U hU hW => ⟨rfl, by rw [hU], by rw [hU]; exact hP, va_K.moved hW.alike hK, (hD).weaken (fun _ _ _ _ => trivial), NW.warm hW hN⟩⟩ rfl rfl hl.1 rfl (lv_room (Nat.le_of_ble_eq_true rfl)) d_La_law_4 ⟨(Nat.le_of_ble_eq_true rfl), (Nat.le_of_ble_eq_true rfl)⟩) hS (fun q _ h => hFc q h) hFc (fun u t H1 locs ht hvm _ hB hz1 hk1 hS => ?_)
  obtain ⟨qPm5, qBd5, qBd16, qBd27, qMe8, qBd40, qBd46, qDr7, qDr15, qDr23, qBd57, qBd72, qDs7, qDs15, qBd95, qPc8, qPc15, qPm16⟩ := u
  obtain ⟨hP1, hK1, hD1, -⟩ := hB
  rw [ht] at hP1
  have hP : va_P D vwCl [(q0, .inr (0, [.ref qPm5, .ref qPm16])), (qPm5, .inr (1, [.ref qBd5, .ref qBd16, .ref qBd27, .ref qBd40, .ref qBd57, .ref qBd72, .ref qBd95, .ref qBd46, .int 0])), (qBd5, .inr (2, [.int 0, .int 0, .int 0])), (qBd16, .inr (3, [.int 0, .int 0])), (qBd27, .inr (4, [.ref qMe8])), (qMe8, .inl (cI, 768, .inl (fun _ => 0))), (qBd40, .inl (cI, 32, .inl (fun _ => 0))), (qBd46, .inr (8, [.ref qDr7, .ref qDr15, .ref qDr23, .int 0, .int 0, .int 1, .int 0, .int 0, .int 0, .int 0])), (qDr7, .inl (cI, 64, .inl (fun _ => 0))), (qDr15, .inl (cI, 9, .inl (fun _ => 0))), (qDr23, .inl (cI, 40, .inl (fun _ => 0))), (qBd57, .inr (5, [.ref qBd40, .int 511, .int 0, .int 0])), (qBd72, .inr (6, [.ref qBd27, .ref qBd40, .ref qBd16, .ref qDs7, .ref qDs15, .int 0, .int 0, .int 0, .int 0, .int 0, .int 0, .int 0, .int 0, .int 0])), (qDs7, .inl (cI, 8, .inl (fun _ => 0))), (qDs15, .inl (cI, 8, .inl (fun _ => 0))), (qBd95, .inr (7, [.ref qBd72, .ref qBd40, .ref qPc8, .ref qPc15, .int 0])), (qPc8, .inl (cI, 384, .inl (fun _ => 0))), (qPc15, .inl (cI, 2, .inl (fun _ => 0))), (qPm16, .inr (9, [.ref qPm5, .int 512, .int 0, .int 0, .int 0, .int 255, .int 0, .int 0, .int 0, .int 0, .int 0, .int 0, .int 0]))] H1 := hP1
  have hD : va_D A [(q0, .inr (0, [.ref qPm5, .ref qPm16])), (qPm5, .inr (1, [.ref qBd5, .ref qBd16, .ref qBd27, .ref qBd40, .ref qBd57, .ref qBd72, .ref qBd95, .ref qBd46, .int 0])), (qBd5, .inr (2, [.int 0, .int 0, .int 0])), (qBd16, .inr (3, [.int 0, .int 0])), (qBd27, .inr (4, [.ref qMe8])), (qMe8, .inl (cI, 768, .inl (fun _ => 0))), (qBd40, .inl (cI, 32, .inl (fun _ => 0))), (qBd46, .inr (8, [.ref qDr7, .ref qDr15, .ref qDr23, .int 0, .int 0, .int 1, .int 0, .int 0, .int 0, .int 0])), (qDr7, .inl (cI, 64, .inl (fun _ => 0))), (qDr15, .inl (cI, 9, .inl (fun _ => 0))), (qDr23, .inl (cI, 40, .inl (fun _ => 0))), (qBd57, .inr (5, [.ref qBd40, .int 511, .int 0, .int 0])), (qBd72, .inr (6, [.ref qBd27, .ref qBd40, .ref qBd16, .ref qDs7, .ref qDs15, .int 0, .int 0, .int 0, .int 0, .int 0, .int 0, .int 0, .int 0, .int 0])), (qDs7, .inl (cI, 8, .inl (fun _ => 0))), (qDs15, .inl (cI, 8, .inl (fun _ => 0))), (qBd95, .inr (7, [.ref qBd72, .ref qBd40, .ref qPc8, .ref qPc15, .int 0])), (qPc8, .inl (cI, 384, .inl (fun _ => 0))), (qPc15, .inl (cI, 2, .inl (fun _ => 0))), (qPm16, .inr (9, [.ref qPm5, .int 512, .int 0, .int 0, .int 0, .int 255, .int 0, .int 0, .int 0, .int 0, .int 0, .int 0, .int 0]))] := hD1.weaken (fun _ q _ h => hFc q.1 h)
  clear hP1 hD1 hK1 hFc hk1 hz1 hvm ht
  generalize H1 = H at hP hS ⊢
  refine lv_astore_n (pc := 7) F.1 F.2.1 d_La_law_7 rfl hl (by decide) rfl (fun ls hl => ?_)
  refine va_new (pc := 8) (ci := 10) (fs := [.int 0, .null, .null, .int 0, .int 0, .int 0, .int 0, .int 0, .int 0, .int 0, .int 0, .int 0, .int 0, .int 0, .int 0, .int 0, .int 0, .int 0, .int 0, .int 0, .int 0, .int 0, .int 0, .int 0, .int 0, .int 0, .int 0, .int 0, .int 0, .int 0, .int 0, .null, .null, .int 0, .null, .int 0, .null, .int 0, .int 0, .int 0, .int 0, .null, .null, .int 0, .int 0, .null, .int 0, .int 0, .int 0]) (C := R_Mo) (T := T_Mo) (N := 49) F.1 F.2.1 F.2.2.2.2 in_Mo ft_Mo ft_Mo_ok F.2.2.2.1 (F.2.2.2.2 _ m_769) (F.2.2.2.2 _ m_770) (F.2.2.2.2 _ m_11) hK hP hD hS hA rfl df_Mo (Nat.le_of_ble_eq_true rfl) (Nat.le_of_ble_eq_true rfl) d_La_law_8 (fun qM H hP hD hS => ?_)
  have hP : va_P D vwCl [(q0, .inr (0, [.ref qPm5, .ref qPm16])), (qPm5, .inr (1, [.ref qBd5, .ref qBd16, .ref qBd27, .ref qBd40, .ref qBd57, .ref qBd72, .ref qBd95, .ref qBd46, .int 0])), (qBd5, .inr (2, [.int 0, .int 0, .int 0])), (qBd16, .inr (3, [.int 0, .int 0])), (qBd27, .inr (4, [.ref qMe8])), (qMe8, .inl (cI, 768, .inl (fun _ => 0))), (qBd40, .inl (cI, 32, .inl (fun _ => 0))), (qBd46, .inr (8, [.ref qDr7, .ref qDr15, .ref qDr23, .int 0, .int 0, .int 1, .int 0, .int 0, .int 0, .int 0])), (qDr7, .inl (cI, 64, .inl (fun _ => 0))), (qDr15, .inl (cI, 9, .inl (fun _ => 0))), (qDr23, .inl (cI, 40, .inl (fun _ => 0))), (qBd57, .inr (5, [.ref qBd40, .int 511, .int 0, .int 0])), (qBd72, .inr (6, [.ref qBd27, .ref qBd40, .ref qBd16, .ref qDs7, .ref qDs15, .int 0, .int 0, .int 0, .int 0, .int 0, .int 0, .int 0, .int 0, .int 0])), (qDs7, .inl (cI, 8, .inl (fun _ => 0))), (qDs15, .inl (cI, 8, .inl (fun _ => 0))), (qBd95, .inr (7, [.ref qBd72, .ref qBd40, .ref qPc8, .ref qPc15, .int 0])), (qPc8, .inl (cI, 384, .inl (fun _ => 0))), (qPc15, .inl (cI, 2, .inl (fun _ => 0))), (qPm16, .inr (9, [.ref qPm5, .int 512, .int 0, .int 0, .int 0, .int 255, .int 0, .int 0, .int 0, .int 0, .int 0, .int 0, .int 0])), (qM, .inr (10, [.int 0, .null, .null, .int 0, .int 0, .int 0, .int 0, .int 0, .int 0, .int 0, .int 0, .int 0, .int 0, .int 0, .int 0, .int 0, .int 0, .int 0, .int 0, .int 0, .int 0, .int 0, .int 0, .int 0, .int 0, .int 0, .int 0, .int 0, .int 0, .int 0, .int 0, .null, .null, .int 0, .null, .int 0, .null, .int 0, .int 0, .int 0, .int 0, .null, .null, .int 0, .int 0, .null, .int 0, .int 0, .int 0]))] H := hP
  have hD : va_D A [(q0, .inr (0, [.ref qPm5, .ref qPm16])), (qPm5, .inr (1, [.ref qBd5, .ref qBd16, .ref qBd27, .ref qBd40, .ref qBd57, .ref qBd72, .ref qBd95, .ref qBd46, .int 0])), (qBd5, .inr (2, [.int 0, .int 0, .int 0])), (qBd16, .inr (3, [.int 0, .int 0])), (qBd27, .inr (4, [.ref qMe8])), (qMe8, .inl (cI, 768, .inl (fun _ => 0))), (qBd40, .inl (cI, 32, .inl (fun _ => 0))), (qBd46, .inr (8, [.ref qDr7, .ref qDr15, .ref qDr23, .int 0, .int 0, .int 1, .int 0, .int 0, .int 0, .int 0])), (qDr7, .inl (cI, 64, .inl (fun _ => 0))), (qDr15, .inl (cI, 9, .inl (fun _ => 0))), (qDr23, .inl (cI, 40, .inl (fun _ => 0))), (qBd57, .inr (5, [.ref qBd40, .int 511, .int 0, .int 0])), (qBd72, .inr (6, [.ref qBd27, .ref qBd40, .ref qBd16, .ref qDs7, .ref qDs15, .int 0, .int 0, .int 0, .int 0, .int 0, .int 0, .int 0, .int 0, .int 0])), (qDs7, .inl (cI, 8, .inl (fun _ => 0))), (qDs15, .inl (cI, 8, .inl (fun _ => 0))), (qBd95, .inr (7, [.ref qBd72, .ref qBd40, .ref qPc8, .ref qPc15, .int 0])), (qPc8, .inl (cI, 384, .inl (fun _ => 0))), (qPc15, .inl (cI, 2, .inl (fun _ => 0))), (qPm16, .inr (9, [.ref qPm5, .int 512, .int 0, .int 0, .int 0, .int 255, .int 0, .int 0, .int 0, .int 0, .int 0, .int 0, .int 0])), (qM, .inr (10, [.int 0, .null, .null, .int 0, .int 0, .int 0, .int 0, .int 0, .int 0, .int 0, .int 0, .int 0, .int 0, .int 0, .int 0, .int 0, .int 0, .int 0, .int 0, .int 0, .int 0, .int 0, .int 0, .int 0, .int 0, .int 0, .int 0, .int 0, .int 0, .int 0, .int 0, .null, .null, .int 0, .null, .int 0, .null, .int 0, .int 0, .int 0, .int 0, .null, .null, .int 0, .int 0, .null, .int 0, .int 0, .int 0]))] := hD
  refine lv_dup (pc := 11) F.1 F.2.1 d_La_law_11 rfl ?_
  have hFc := va_free (wc := [(qM, .inr (10, [.int 0, .null, .null, .int 0, .int 0, .int 0, .int 0, .int 0, .int 0, .int 0, .int 0, .int 0, .int 0, .int 0, .int 0, .int 0, .int 0, .int 0, .int 0, .int 0, .int 0, .int 0, .int 0, .int 0, .int 0, .int 0, .int 0, .int 0, .int 0, .int 0, .int 0, .null, .null, .int 0, .null, .int 0, .null, .int 0, .int 0, .int 0, .int 0, .null, .null, .int 0, .int 0, .null, .int 0, .int 0, .int 0]))]) hD hS hA [19] rfl
  have hPs : va_P D vwCl [(qM, .inr (10, [.int 0, .null, .null, .int 0, .int 0, .int 0, .int 0, .int 0, .int 0, .int 0, .int 0, .int 0, .int 0, .int 0, .int 0, .int 0, .int 0, .int 0, .int 0, .int 0, .int 0, .int 0, .int 0, .int 0, .int 0, .int 0, .int 0, .int 0, .int 0, .int 0, .int 0, .null, .null, .int 0, .null, .int 0, .null, .int 0, .int 0, .int 0, .int 0, .null, .null, .int 0, .int 0, .null, .int 0, .int 0, .int 0]))] H := hP.sub [19] rfl
  have hDs : va_D A [(qM, .inr (10, [.int 0, .null, .null, .int 0, .int 0, .int 0, .int 0, .int 0, .int 0, .int 0, .int 0, .int 0, .int 0, .int 0, .int 0, .int 0, .int 0, .int 0, .int 0, .int 0, .int 0, .int 0, .int 0, .int 0, .int 0, .int 0, .int 0, .int 0, .int 0, .int 0, .int 0, .null, .null, .int 0, .null, .int 0, .null, .int 0, .int 0, .int 0, .int 0, .null, .null, .int 0, .int 0, .null, .int 0, .int 0, .int 0]))] := hD.sub [19] rfl rfl
  refine va_callv (pc := 12) (va_runI (As := []) (rest := [.ref qM]) F (c_Mo_init l D cI H.size qM) (ciA F k_Mo_init m_772 m_771 (Nat.le_of_ble_eq_true rfl) (Nat.le_of_ble_eq_true rfl) rfl rfl) ⟨Pw_blind, fun U hU hW => ⟨rfl, by rw [hU], by rw [hU]; exact hPs, va_K.moved hW.alike hK, (hDs).weaken (fun _ _ _ _ => trivial), NW.warm hW hN⟩⟩ rfl rfl hl.1 rfl (lv_room (Nat.le_of_ble_eq_true rfl)) d_La_law_12 ⟨(Nat.le_of_ble_eq_true rfl), (Nat.le_of_ble_eq_true rfl)⟩) hS (fun q _ h => hFc q h) hFc (fun u t H1 locs ht hvm _ hB hz1 hk1 hS => ?_)
  obtain ⟨qMo8, qMo16, qMo38, qMo46, qMo53, qMo62, qMo77, qMo85, qMo93⟩ := u
  obtain ⟨hP1, hK1, hD1, -⟩ := hB
  rw [ht] at hP1
  obtain ⟨hP2, hD2⟩ := va_join (wr := [(q0, .inr (0, [.ref qPm5, .ref qPm16])), (qPm5, .inr (1, [.ref qBd5, .ref qBd16, .ref qBd27, .ref qBd40, .ref qBd57, .ref qBd72, .ref qBd95, .ref qBd46, .int 0])), (qBd5, .inr (2, [.int 0, .int 0, .int 0])), (qBd16, .inr (3, [.int 0, .int 0])), (qBd27, .inr (4, [.ref qMe8])), (qMe8, .inl (cI, 768, .inl (fun _ => 0))), (qBd40, .inl (cI, 32, .inl (fun _ => 0))), (qBd46, .inr (8, [.ref qDr7, .ref qDr15, .ref qDr23, .int 0, .int 0, .int 1, .int 0, .int 0, .int 0, .int 0])), (qDr7, .inl (cI, 64, .inl (fun _ => 0))), (qDr15, .inl (cI, 9, .inl (fun _ => 0))), (qDr23, .inl (cI, 40, .inl (fun _ => 0))), (qBd57, .inr (5, [.ref qBd40, .int 511, .int 0, .int 0])), (qBd72, .inr (6, [.ref qBd27, .ref qBd40, .ref qBd16, .ref qDs7, .ref qDs15, .int 0, .int 0, .int 0, .int 0, .int 0, .int 0, .int 0, .int 0, .int 0])), (qDs7, .inl (cI, 8, .inl (fun _ => 0))), (qDs15, .inl (cI, 8, .inl (fun _ => 0))), (qBd95, .inr (7, [.ref qBd72, .ref qBd40, .ref qPc8, .ref qPc15, .int 0])), (qPc8, .inl (cI, 384, .inl (fun _ => 0))), (qPc15, .inl (cI, 2, .inl (fun _ => 0))), (qPm16, .inr (9, [.ref qPm5, .int 512, .int 0, .int 0, .int 0, .int 255, .int 0, .int 0, .int 0, .int 0, .int 0, .int 0, .int 0]))]) (w1 := [(qM, .inr (10, [.int 0, .ref qMo8, .ref qMo16, .int 0, .int 0, .int 0, .int 0, .int 0, .int 0, .int 255, .int 512, .int 0, .int 0, .int 0, .int 0, .int 0, .int 0, .int 0, .int 0, .int 0, .int 0, .int 0, .int 0, .int 0, .int 0, .int 0, .int 0, .int 0, .int 0, .int 0, .int 0, .ref qMo38, .ref qMo46, .int 0, .ref qMo53, .int 0, .ref qMo62, .int 511, .int 0, .int 0, .int 0, .ref qMo77, .ref qMo85, .int 0, .int 0, .ref qMo93, .int 0, .int 0, .int 0])), (qMo8, .inl (cI, 768, .inl (fun _ => 0))), (qMo16, .inl (cI, 32, .inl (fun _ => 0))), (qMo38, .inl (cI, 8, .inl (fun _ => 0))), (qMo46, .inl (cI, 8, .inl (fun _ => 0))), (qMo53, .inl (cI, 2, .inl (fun _ => 0))), (qMo62, .inl (cI, 384, .inl (fun _ => 0))), (qMo77, .inl (cI, 64, .inl (fun _ => 0))), (qMo85, .inl (cI, 9, .inl (fun _ => 0))), (qMo93, .inl (cI, 40, .inl (fun _ => 0)))]) hP hD [19] [0, 1, 2, 3, 4, 5, 6, 7, 8, 9, 10, 11, 12, 13, 14, 15, 16, 17, 18] rfl rfl rfl (by decide) hk1 hFc hP1 hD1
  have hP : va_P D vwCl [(q0, .inr (0, [.ref qPm5, .ref qPm16])), (qPm5, .inr (1, [.ref qBd5, .ref qBd16, .ref qBd27, .ref qBd40, .ref qBd57, .ref qBd72, .ref qBd95, .ref qBd46, .int 0])), (qBd5, .inr (2, [.int 0, .int 0, .int 0])), (qBd16, .inr (3, [.int 0, .int 0])), (qBd27, .inr (4, [.ref qMe8])), (qMe8, .inl (cI, 768, .inl (fun _ => 0))), (qBd40, .inl (cI, 32, .inl (fun _ => 0))), (qBd46, .inr (8, [.ref qDr7, .ref qDr15, .ref qDr23, .int 0, .int 0, .int 1, .int 0, .int 0, .int 0, .int 0])), (qDr7, .inl (cI, 64, .inl (fun _ => 0))), (qDr15, .inl (cI, 9, .inl (fun _ => 0))), (qDr23, .inl (cI, 40, .inl (fun _ => 0))), (qBd57, .inr (5, [.ref qBd40, .int 511, .int 0, .int 0])), (qBd72, .inr (6, [.ref qBd27, .ref qBd40, .ref qBd16, .ref qDs7, .ref qDs15, .int 0, .int 0, .int 0, .int 0, .int 0, .int 0, .int 0, .int 0, .int 0])), (qDs7, .inl (cI, 8, .inl (fun _ => 0))), (qDs15, .inl (cI, 8, .inl (fun _ => 0))), (qBd95, .inr (7, [.ref qBd72, .ref qBd40, .ref qPc8, .ref qPc15, .int 0])), (qPc8, .inl (cI, 384, .inl (fun _ => 0))), (qPc15, .inl (cI, 2, .inl (fun _ => 0))), (qPm16, .inr (9, [.ref qPm5, .int 512, .int 0, .int 0, .int 0, .int 255, .int 0, .int 0, .int 0, .int 0, .int 0, .int 0, .int 0])), (qM, .inr (10, [.int 0, .ref qMo8, .ref qMo16, .int 0, .int 0, .int 0, .int 0, .int 0, .int 0, .int 255, .int 512, .int 0, .int 0, .int 0, .int 0, .int 0, .int 0, .int 0, .int 0, .int 0, .int 0, .int 0, .int 0, .int 0, .int 0, .int 0, .int 0, .int 0, .int 0, .int 0, .int 0, .ref qMo38, .ref qMo46, .int 0, .ref qMo53, .int 0, .ref qMo62, .int 511, .int 0, .int 0, .int 0, .ref qMo77, .ref qMo85, .int 0, .int 0, .ref qMo93, .int 0, .int 0, .int 0])), (qMo8, .inl (cI, 768, .inl (fun _ => 0))), (qMo16, .inl (cI, 32, .inl (fun _ => 0))), (qMo38, .inl (cI, 8, .inl (fun _ => 0))), (qMo46, .inl (cI, 8, .inl (fun _ => 0))), (qMo53, .inl (cI, 2, .inl (fun _ => 0))), (qMo62, .inl (cI, 384, .inl (fun _ => 0))), (qMo77, .inl (cI, 64, .inl (fun _ => 0))), (qMo85, .inl (cI, 9, .inl (fun _ => 0))), (qMo93, .inl (cI, 40, .inl (fun _ => 0)))] H1 := hP2
  have hD : va_D A [(q0, .inr (0, [.ref qPm5, .ref qPm16])), (qPm5, .inr (1, [.ref qBd5, .ref qBd16, .ref qBd27, .ref qBd40, .ref qBd57, .ref qBd72, .ref qBd95, .ref qBd46, .int 0])), (qBd5, .inr (2, [.int 0, .int 0, .int 0])), (qBd16, .inr (3, [.int 0, .int 0])), (qBd27, .inr (4, [.ref qMe8])), (qMe8, .inl (cI, 768, .inl (fun _ => 0))), (qBd40, .inl (cI, 32, .inl (fun _ => 0))), (qBd46, .inr (8, [.ref qDr7, .ref qDr15, .ref qDr23, .int 0, .int 0, .int 1, .int 0, .int 0, .int 0, .int 0])), (qDr7, .inl (cI, 64, .inl (fun _ => 0))), (qDr15, .inl (cI, 9, .inl (fun _ => 0))), (qDr23, .inl (cI, 40, .inl (fun _ => 0))), (qBd57, .inr (5, [.ref qBd40, .int 511, .int 0, .int 0])), (qBd72, .inr (6, [.ref qBd27, .ref qBd40, .ref qBd16, .ref qDs7, .ref qDs15, .int 0, .int 0, .int 0, .int 0, .int 0, .int 0, .int 0, .int 0, .int 0])), (qDs7, .inl (cI, 8, .inl (fun _ => 0))), (qDs15, .inl (cI, 8, .inl (fun _ => 0))), (qBd95, .inr (7, [.ref qBd72, .ref qBd40, .ref qPc8, .ref qPc15, .int 0])), (qPc8, .inl (cI, 384, .inl (fun _ => 0))), (qPc15, .inl (cI, 2, .inl (fun _ => 0))), (qPm16, .inr (9, [.ref qPm5, .int 512, .int 0, .int 0, .int 0, .int 255, .int 0, .int 0, .int 0, .int 0, .int 0, .int 0, .int 0])), (qM, .inr (10, [.int 0, .ref qMo8, .ref qMo16, .int 0, .int 0, .int 0, .int 0, .int 0, .int 0, .int 255, .int 512, .int 0, .int 0, .int 0, .int 0, .int 0, .int 0, .int 0, .int 0, .int 0, .int 0, .int 0, .int 0, .int 0, .int 0, .int 0, .int 0, .int 0, .int 0, .int 0, .int 0, .ref qMo38, .ref qMo46, .int 0, .ref qMo53, .int 0, .ref qMo62, .int 511, .int 0, .int 0, .int 0, .ref qMo77, .ref qMo85, .int 0, .int 0, .ref qMo93, .int 0, .int 0, .int 0])), (qMo8, .inl (cI, 768, .inl (fun _ => 0))), (qMo16, .inl (cI, 32, .inl (fun _ => 0))), (qMo38, .inl (cI, 8, .inl (fun _ => 0))), (qMo46, .inl (cI, 8, .inl (fun _ => 0))), (qMo53, .inl (cI, 2, .inl (fun _ => 0))), (qMo62, .inl (cI, 384, .inl (fun _ => 0))), (qMo77, .inl (cI, 64, .inl (fun _ => 0))), (qMo85, .inl (cI, 9, .inl (fun _ => 0))), (qMo93, .inl (cI, 40, .inl (fun _ => 0)))] := hD2
  clear hP1 hD1 hK1 hFc hk1 hz1 hvm ht hP2 hD2 hPs hDs
  generalize H1 = H at hP hS ⊢
  refine lv_astore_n (pc := 15) F.1 F.2.1 d_La_law_15 rfl hl (by decide) rfl (fun ls hl => ?_)
  refine lv_iconst (pc := 16) (v := 1) F.1 F.2.1 d_La_law_16 (by decide) ?_
  refine va_newa (pc := 17) (N' := 1) (atype := .long) (a0 := (1, .inr (.inl (fun _ => 0)))) (ty := .long) F.1 F.2.1 (F.2.2.2.2 _ m_1139) rfl hK hP hD hS hA (fun _ => rfl) (by decide) (by decide) (by decide) (Nat.le_of_ble_eq_true rfl) (Nat.le_of_ble_eq_true rfl) d_La_law_17 (fun o cL H hK hP hD hS => ?_)
  refine lv_astore_n (pc := 19) F.1 F.2.1 d_La_law_19 rfl hl (by decide) rfl (fun ls hl => ?_)
  refine lv_iconst (pc := 20) (v := 0) F.1 F.2.1 d_La_law_20 (by decide) ?_
  refine lv_istore (pc := 21) F.1 F.2.1 d_La_law_21 hl (by decide) rfl (fun ls hl => ?_)
  have hP : va_P D vwCl (wC cI (fun k => match k with | 0 => q0 | 1 => qPm5 | 2 => qBd5 | 3 => qBd16 | 4 => qBd27 | 5 => qBd57 | 6 => qBd72 | 7 => qBd95 | 8 => qBd46 | 9 => qPm16 | 10 => qMe8 | 11 => qBd40 | 12 => qDs7 | 13 => qDs15 | 14 => qPc8 | 15 => qPc15 | 16 => qDr7 | 17 => qDr15 | _ => qDr23) sC0 ++ (wM cI (fun k => match k with | 0 => qM | 1 => qMo8 | 2 => qMo16 | 3 => qMo38 | 4 => qMo46 | 5 => qMo53 | 6 => qMo62 | 7 => qMo77 | 8 => qMo85 | _ => qMo93) sM0 ++ oW cL o (fun _ => 0))) H := hP.sub [0, 1, 2, 3, 4, 11, 12, 15, 7, 18, 5, 6, 13, 14, 16, 17, 8, 9, 10, 19, 20, 21, 22, 23, 24, 25, 26, 27, 28, 29] rfl
  have hD : va_D A (wC cI (fun k => match k with | 0 => q0 | 1 => qPm5 | 2 => qBd5 | 3 => qBd16 | 4 => qBd27 | 5 => qBd57 | 6 => qBd72 | 7 => qBd95 | 8 => qBd46 | 9 => qPm16 | 10 => qMe8 | 11 => qBd40 | 12 => qDs7 | 13 => qDs15 | 14 => qPc8 | 15 => qPc15 | 16 => qDr7 | 17 => qDr15 | _ => qDr23) sC0 ++ (wM cI (fun k => match k with | 0 => qM | 1 => qMo8 | 2 => qMo16 | 3 => qMo38 | 4 => qMo46 | 5 => qMo53 | 6 => qMo62 | 7 => qMo77 | 8 => qMo85 | _ => qMo93) sM0 ++ oW cL o (fun _ => 0))) := hD.sub [0, 1, 2, 3, 4, 11, 12, 15, 7, 18, 5, 6, 13, 14, 16, 17, 8, 9, 10, 19, 20, 21, 22, 23, 24, 25, 26, 27, 28, 29] rfl rfl
  have hl : lv_has ls 7 [(0, .ref b), (1, .ref ((fun k => match k with | 0 => q0 | 1 => qPm5 | 2 => qBd5 | 3 => qBd16 | 4 => qBd27 | 5 => qBd57 | 6 => qBd72 | 7 => qBd95 | 8 => qBd46 | 9 => qPm16 | 10 => qMe8 | 11 => qBd40 | 12 => qDs7 | 13 => qDs15 | 14 => qPc8 | 15 => qPc15 | 16 => qDr7 | 17 => qDr15 | _ => qDr23) 0)), (2, .ref ((fun k => match k with | 0 => qM | 1 => qMo8 | 2 => qMo16 | 3 => qMo38 | 4 => qMo46 | 5 => qMo53 | 6 => qMo62 | 7 => qMo77 | 8 => qMo85 | _ => qMo93) 0)), (3, .ref o), (4, .int (nI (4 * 0)))] := lv_sub hl [4, 3, 2, 1, 0] rfl
  generalize (fun k => match k with | 0 => q0 | 1 => qPm5 | 2 => qBd5 | 3 => qBd16 | 4 => qBd27 | 5 => qBd57 | 6 => qBd72 | 7 => qBd95 | 8 => qBd46 | 9 => qPm16 | 10 => qMe8 | 11 => qBd40 | 12 => qDs7 | 13 => qDs15 | 14 => qPc8 | 15 => qPc15 | 16 => qDr7 | 17 => qDr15 | _ => qDr23) = ad at hP hD hl
  generalize (fun k => match k with | 0 => qM | 1 => qMo8 | 2 => qMo16 | 3 => qMo38 | 4 => qMo46 | 5 => qMo53 | 6 => qMo62 | 7 => qMo77 | 8 => qMo85 | _ => qMo93) = am at hP hD hl
  exact law_loop hR htr F (FX.start hK hD hN hZ) hX hbl (fun h => absurd hbl (Nat.not_lt.mpr (hA2 _ h))) hA2 hL hret hlk L 0 sC0 sM0 (fun _ => 0) H locs ls (by omega) (Nat.zero_le _) ⟨P.left hP, P.left (P.right hP), P.right (P.right hP), hS⟩ hr0 hl
