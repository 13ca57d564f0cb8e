theorem c_Pm_need (l : Launch) {x1 : Int32} (hx : ¬ x1 = 0) : Met l y_Pm_need (Cond.code y_Pm_need b_Pm_need 1 none :: al) { frames := 0, cells := 0, slots := 0, locals := 0 } (PU [.int x1]) QV 0 0 (fun _ => False) := by
  refine MuV l (by decide) (Nat.le_of_ble_eq_true rfl) ?_
  intro p e s m below meth c ls F hr hlk hl
  have F : CallFix p m c b_Pm_need 1 s _ al "PictureMachine" := F
  have hl : lv_has ls 1 [(0, .int x1)] := hl
  refine lv_iload_n (pc := 0) F.1 F.2.1 d_Pm_need_0 rfl (lv_at hl 0 rfl) ?_
  refine lv_if_ne (pc := 1) F.1 F.2.1 d_Pm_need_1 (tgt := 12) (by decide) (fun _ => ?_) (fun q => absurd q hx)
  exact W.vret F.1 F.2.1 hr (fun t ht hW => ⟨rfl, ht⟩) (fun q hq => by cases hq) d_Pm_need_12 hlk
theorem t_Pm_need (l : Launch) (htr : l.stackTraces = false) (A : Nat → Prop) {x1 : Int32} (hx : x1 = 0) : MetT l y_Pm_need (Cond.code y_Pm_need b_Pm_need 1 none :: al) { frames := 6, cells := 1, slots := 6, locals := 100 } (PZ A [.int x1]) (QX "java/lang/IllegalArgumentException") 1 6 (fun _ => False) := by
  refine MuT l (by decide) (Nat.le_of_ble_eq_true rfl) ?_
  intro p e s m below meth c ls F hno hlk hl hZ
  have F : CallFix p m c b_Pm_need 1 s _ al "PictureMachine" := F
  have hl : lv_has ls 1 [(0, .int x1)] := hl
  refine lv_iload_n (pc := 0) F.1 F.2.1 d_Pm_need_0 rfl (lv_at hl 0 rfl) ?_
  refine lv_if_ne (pc := 1) F.1 F.2.1 d_Pm_need_1 (tgt := 12) (by decide) (fun q => absurd hx q) (fun _ => ?_)
  exact thrNew (pc := 4) F htr (by decide +kernel) (atomsT F.2.2.2.2 hZ key_IllegalArgumentException) (F.2.2.2.2 _ m_374) (F.2.2.2.2 _ m_15) ⟨rfl, rfl⟩ hl.1 hno d_Pm_need_4 d_Pm_need_7 d_Pm_need_8 d_Pm_need_11 (by decide) (by decide) (by decide) (by decide) hlk (fun x t h1 h2 h3 _ => ⟨h1, h2, h3⟩)
