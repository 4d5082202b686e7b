/-! P43: LAY, WHOLE -/
set_option maxRecDepth 100000 in
set_option maxHeartbeats 4000000 in
theorem c_L_lay (l : Launch) {dd : kDD} {c x : kT} (wr : kT) {sc L : Nat} {xs : Nat → Int32} (hLL : L ≤ 260) {xa ma : Nat} (h : LWx dd c x xa ma 0 0 0 0 0) : kCiS l yL_lay (wsL_lay ++ kHp) ({ frames := 14, cells := 1300, slots := 18000, locals := 330 } : Room) 1300 18000 dd [.ref xa, .ref ma, .ref sc] (jk c wr x, jd c wr x, jE c wr x) sc L xs (kQi (S := kT × kT) (fun r z => wb 70 r ∧ ∃ nR nt, LWy dd z.1 z.2 xa ma nR nt) (fun z => jk z.1 wr z.2) (fun z => jd z.1 wr z.2) (fun z => jE z.1 wr z.2)) := by
  refine kMetiS (ws' := _) (cc := cL_lay) (maxL := 8) (rt := .int) (by decide) rfl (Nat.le_of_ble_eq_true rfl) (fun g X hr hs hnL hRR hl0 hkn => ?_)
  show kv dd g 0 0 0 [(0, .ref xa), (1, .ref ma), (2, .ref sc)] [] (jk c wr x) (jd c wr x) (jE c wr x)
  refine kv_iconst (v := 0) X dL_lay_0 (by decide) ?_
  refine kv_istore_n (lv2 := [(3, .int 0), (0, .ref xa), (1, .ref ma), (2, .ref sc)]) X dL_lay_1 rfl (by rw [hnL]; decide) rfl ?_
  refine kv_iconst (v := nI 0) X dL_lay_2 (by decide) ?_
  refine kv_istore (lv2 := [(4, .int (nI 0)), (3, .int 0), (0, .ref xa), (1, .ref ma), (2, .ref sc)]) X dL_lay_3 (by rw [hnL]; decide) rfl ?_
  refine ly_1 X hRR hnL hl0 hs hLL (fun a b c x nR ha hb hR2 hR7 hw => ?_) 8 0 (by omega) 0 0 c x ⟨by omega, by omega, 0, 0, 0, h⟩ (by omega) (by omega)
  refine kv_iconst (v := nI 0) X dL_lay_186 (by decide) ?_
  refine kv_istore (lv2 := [(4, .int (nI 0)), (3, .int 0), (0, .ref xa), (1, .ref ma), (2, .ref sc)]) X dL_lay_187 (by rw [hnL]; decide) rfl ?_
  refine ly_2 X hRR hnL hl0 hs hLL hR2 hR7 (fun a b c x w ha hb hw hwb => ?_) 3 0 (by omega) a b c x 0 hw wb_0 (by omega) (by omega)
  refine kv_iconst (v := nI 0) X dL_lay_290 (by decide) ?_
  refine kv_istore (lv2 := [(4, .int (nI 0)), (3, .int w), (0, .ref xa), (1, .ref ma), (2, .ref sc)]) X dL_lay_291 (by rw [hnL]; decide) rfl ?_
  refine ly_3 X hRR hnL hl0 hs hLL hR2 hR7 (fun a b c x w nt ha hb hT2 hT7 hw hwb => ?_) 8 0 (by omega) a b c x w hw hwb (by omega) (by omega)
  refine kv_iconst (v := nI 0) X dL_lay_346 (by decide) ?_
  refine kv_istore (lv2 := [(4, .int (nI 0)), (3, .int w), (0, .ref xa), (1, .ref ma), (2, .ref sc)]) X dL_lay_347 (by rw [hnL]; decide) rfl ?_
  refine ly_4 X hRR hnL hl0 hs hLL hR2 hR7 hT2 hT7 (fun a b c x w ha hb hw hwb => ?_) 16 0 (by omega) a b c x w hw hwb (by omega) (by omega)
  refine kv_iconst (v := nI 0) X dL_lay_506 (by decide) ?_
  refine kv_istore (lv2 := [(4, .int (nI 0)), (3, .int w), (0, .ref xa), (1, .ref ma), (2, .ref sc)]) X dL_lay_507 (by rw [hnL]; decide) rfl ?_
  refine ly_5 X hRR hnL hl0 hs hLL hR2 hR7 hT2 hT7 (fun a b c x w ha hb hw hwb => ?_) 5 0 (by omega) a b c x w hw hwb (by omega) (by omega)
  refine kv_iconst (v := nI 0) X dL_lay_676 (by decide) ?_
  refine kv_istore (lv2 := [(4, .int (nI 0)), (3, .int w), (0, .ref xa), (1, .ref ma), (2, .ref sc)]) X dL_lay_677 (by rw [hnL]; decide) rfl ?_
  refine ly_6 X hRR hnL hl0 hs hLL hR2 hR7 hT2 hT7 (fun a b c x w ha hb hw hwb => ?_) 5 0 (by omega) a b c x w hw hwb (by omega) (by omega)
  refine kv_iconst (v := nI 0) X dL_lay_829 (by decide) ?_
  refine kv_istore (lv2 := [(4, .int (nI 0)), (3, .int w), (0, .ref xa), (1, .ref ma), (2, .ref sc)]) X dL_lay_830 (by rw [hnL]; decide) rfl ?_
  refine ly_7 X hRR hnL hl0 hs hLL hR2 hR7 hT2 hT7 (fun a b c x w ha hb hw hwb => ?_) 5 0 (by omega) a b c x w hw hwb (by omega) (by omega)
  refine kv_iload_n X 0 dL_lay_898 rfl rfl ?_
  exact kv_ireturn X hr (by omega) (by omega) ⟨(c, x), ⟨hwb, nR, nt, hw⟩, rfl⟩ dL_lay_899
