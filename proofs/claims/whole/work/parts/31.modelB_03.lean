set_option maxHeartbeats 4000000 in
set_option maxRecDepth 100000 in
theorem c_X5_bestOfW (l : Launch) (E : GG) (r : Nat → Nat) (v : Nat → Int32) (f : Nat → Nat → Int32) (B C : Nat → Int32) (w : Nat) (h : Nat) (s1 : Nat) (t : Int32) (hw : w < 3) (hh : h < 24) (hs : s1 < 369) (h40 : (v 2).toInt ≤ 40) : Met l yX5_bestOf wsX5_bestOf (Rm 4 0 0) (pR E [.ref (r 0), .int (nI w), .int (nI h), .int (nI s1), .int t] (MW E r v f B C)) (QcRead (m_b9 (m_brW v f B w h s1 t))) 0 0 (fun _ => False) := by
  refine ofR (by decide) rfl (Nat.le_of_ble_eq_true rfl) ?_
  intro p e s m below meth c hx hb hr hlocks hml hown hts hK hP ls hl
  have hl : lv_has ls 9 [(0, .ref (r 0)), (1, .int (nI w)), (2, .int (nI h)), (3, .int (nI s1)), (4, .int t)] := hl
  refine lv_ldc hx hb hown (hts _ (List.mem_of_getElem? (i := 1) rfl)) dX5_bestOf_0 ?_
  refine lv_istore (lv' := [(5, .int (-1000000000)), (0, .ref (r 0)), (1, .int (nI w)), (2, .int (nI h)), (3, .int (nI s1)), (4, .int t)]) hx hb dX5_bestOf_2 hl (by decide) rfl (fun ls hl => ?_)
  refine lv_iconst (v := 0) hx hb dX5_bestOf_4 (by decide) ?_
  refine lv_istore (lv' := [(6, .int 0), (5, .int (-1000000000)), (0, .ref (r 0)), (1, .int (nI w)), (2, .int (nI h)), (3, .int (nI s1)), (4, .int t)]) hx hb dX5_bestOf_5 hl (by decide) rfl (fun ls hl => ?_)
  refine lv_iload hx hb dX5_bestOf_7 (lv_at hl 0 rfl) ?_
  refine lv_iconst (v := 3) hx hb dX5_bestOf_9 (by decide) ?_
  refine n_icmp_ge (tgt := 65) (a := 0) (b := 3) hx hb dX5_bestOf_10 (by decide) (by omega) (by omega) (fun c_1 => ?_) (fun c_1 => ?_)
  · skip
    exact absurd c_1 (by decide)
  · skip
    refine lv_iconst (v := 0) hx hb dX5_bestOf_13 (by decide) ?_
    refine lv_istore (lv' := [(7, .int 0), (6, .int 0), (5, .int (-1000000000)), (0, .ref (r 0)), (1, .int (nI w)), (2, .int (nI h)), (3, .int (nI s1)), (4, .int t)]) hx hb dX5_bestOf_14 hl (by decide) rfl (fun ls hl => ?_)
    refine lv_iload hx hb dX5_bestOf_16 (lv_at hl 0 rfl) ?_
    refine lv_iconst (v := 3) hx hb dX5_bestOf_18 (by decide) ?_
    refine n_icmp_ge (tgt := 59) (a := 0) (b := 3) hx hb dX5_bestOf_19 (by decide) (by omega) (by omega) (fun c_2 => ?_) (fun c_2 => ?_)
    · skip
      exact absurd c_2 (by decide)
    · skip
      refine lv_aload_n hx hb dX5_bestOf_22 rfl (lv_at hl 3 rfl) ?_
      refine lv_iload_n hx hb dX5_bestOf_23 rfl (lv_at hl 4 rfl) ?_
      refine lv_iload_n hx hb dX5_bestOf_24 rfl (lv_at hl 5 rfl) ?_
      refine lv_iload_n hx hb dX5_bestOf_25 rfl (lv_at hl 6 rfl) ?_
      refine lv_iload hx hb dX5_bestOf_26 (lv_at hl 7 rfl) ?_
      refine lv_iload hx hb dX5_bestOf_28 (lv_at hl 1 rfl) ?_
      refine lv_iload hx hb dX5_bestOf_30 (lv_at hl 0 rfl) ?_
      refine cR_V ⟨hx, hb, hml, hown, hts⟩ (c_X5_bringsW l E r v f B C w h s1 t 0 0 (by omega) (by omega) (by omega) (by omega) (by omega) h40) (cwV 6 hts gX5_bestOf_X5_brings rfl rfl rfl (by decide +kernel) ⟨Nat.le_of_ble_eq_true rfl, Nat.le_of_ble_eq_true rfl⟩) hK hP 5 0 rfl rfl rfl hl.1 rfl (Nat.le_of_ble_eq_true rfl) dX5_bestOf_32 ⟨Nat.le_of_ble_eq_true rfl, Nat.le_of_ble_eq_true rfl⟩ ?_
      refine lv_istore (lv' := [(8, .int (m_brW v f B w h s1 t 0 0)), (7, .int 0), (6, .int 0), (5, .int (-1000000000)), (0, .ref (r 0)), (1, .int (nI w)), (2, .int (nI h)), (3, .int (nI s1)), (4, .int t)]) hx hb dX5_bestOf_35 hl (by decide) rfl (fun ls hl => ?_)
      refine w_join (fun x : Int32 => x = m_mx (m_brW v f B w h s1 t 0 0) (-1000000000)) (fun x => F0 m 51 ls (.int x :: [])) ?_ (fun J51 => ?_)
      · intro x_3 ex_3
        refine lv_istore (lv' := [(5, .int x_3), (8, .int (m_brW v f B w h s1 t 0 0)), (7, .int 0), (6, .int 0), (0, .ref (r 0)), (1, .int (nI w)), (2, .int (nI h)), (3, .int (nI s1)), (4, .int t)]) hx hb dX5_bestOf_51 hl (by decide) rfl (fun ls hl => ?_)
        refine lv_iinc (v := (nI 1)) (lv' := [(7, .int (nI 1)), (5, .int x_3), (8, .int (m_brW v f B w h s1 t 0 0)), (6, .int 0), (0, .ref (r 0)), (1, .int (nI w)), (2, .int (nI h)), (3, .int (nI s1)), (4, .int t)]) hx hb dX5_bestOf_53 hl (k := 2) rfl (nI_1 _) (by decide) rfl (fun ls hl => ?_)
        refine lv_goto (tgt := 16) hx hb dX5_bestOf_56 (by decide) ?_
        refine lv_iload hx hb dX5_bestOf_16 (lv_at hl 0 rfl) ?_
        refine lv_iconst (v := 3) hx hb dX5_bestOf_18 (by decide) ?_
        refine n_icmp_ge (tgt := 59) (a := 1) (b := 3) hx hb dX5_bestOf_19 (by decide) (by omega) (by omega) (fun c_4 => ?_) (fun c_4 => ?_)
        · skip
          exact absurd c_4 (by decide)
        · skip
          refine lv_aload_n hx hb dX5_bestOf_22 rfl (lv_at hl 4 rfl) ?_
          refine lv_iload_n hx hb dX5_bestOf_23 rfl (lv_at hl 5 rfl) ?_
          refine lv_iload_n hx hb dX5_bestOf_24 rfl (lv_at hl 6 rfl) ?_
          refine lv_iload_n hx hb dX5_bestOf_25 rfl (lv_at hl 7 rfl) ?_
          refine lv_iload hx hb dX5_bestOf_26 (lv_at hl 8 rfl) ?_
          refine lv_iload hx hb dX5_bestOf_28 (lv_at hl 3 rfl) ?_
          refine lv_iload hx hb dX5_bestOf_30 (lv_at hl 0 rfl) ?_
          refine cR_V ⟨hx, hb, hml, hown, hts⟩ (c_X5_bringsW l E r v f B C w h s1 t 0 1 (by omega) (by omega) (by omega) (by omega) (by omega) h40) (cwV 6 hts gX5_bestOf_X5_brings rfl rfl rfl (by decide +kernel) ⟨Nat.le_of_ble_eq_true rfl, Nat.le_of_ble_eq_true rfl⟩) hK hP 5 0 rfl rfl rfl hl.1 rfl (Nat.le_of_ble_eq_true rfl) dX5_bestOf_32 ⟨Nat.le_of_ble_eq_true rfl, Nat.le_of_ble_eq_true rfl⟩ ?_
          refine lv_istore (lv' := [(8, .int (m_brW v f B w h s1 t 0 1)), (7, .int (nI 1)), (5, .int x_3), (6, .int 0), (0, .ref (r 0)), (1, .int (nI w)), (2, .int (nI h)), (3, .int (nI s1)), (4, .int t)]) hx hb dX5_bestOf_35 hl (by decide) rfl (fun ls hl => ?_)
          refine w_join (fun x : Int32 => x = m_mx (m_brW v f B w h s1 t 0 1) x_3) (fun x => F0 m 51 ls (.int x :: [])) ?_ (fun J51 => ?_)
          · intro x_5 ex_5
            refine lv_istore (lv' := [(5, .int x_5), (8, .int (m_brW v f B w h s1 t 0 1)), (7, .int (nI 1)), (6, .int 0), (0, .ref (r 0)), (1, .int (nI w)), (2, .int (nI h)), (3, .int (nI s1)), (4, .int t)]) hx hb dX5_bestOf_51 hl (by decide) rfl (fun ls hl => ?_)
            refine lv_iinc (v := (nI 2)) (lv' := [(7, .int (nI 2)), (5, .int x_5), (8, .int (m_brW v f B w h s1 t 0 1)), (6, .int 0), (0, .ref (r 0)), (1, .int (nI w)), (2, .int (nI h)), (3, .int (nI s1)), (4, .int t)]) hx hb dX5_bestOf_53 hl (k := 2) rfl (nI_1 _) (by decide) rfl (fun ls hl => ?_)
            refine lv_goto (tgt := 16) hx hb dX5_bestOf_56 (by decide) ?_
            refine lv_iload hx hb dX5_bestOf_16 (lv_at hl 0 rfl) ?_
            refine lv_iconst (v := 3) hx hb dX5_bestOf_18 (by decide) ?_
            refine n_icmp_ge (tgt := 59) (a := 2) (b := 3) hx hb dX5_bestOf_19 (by decide) (by omega) (by omega) (fun c_6 => ?_) (fun c_6 => ?_)
            · skip
              exact absurd c_6 (by decide)
            · skip
              refine lv_aload_n hx hb dX5_bestOf_22 rfl (lv_at hl 4 rfl) ?_
              refine lv_iload_n hx hb dX5_bestOf_23 rfl (lv_at hl 5 rfl) ?_
              refine lv_iload_n hx hb dX5_bestOf_24 rfl (lv_at hl 6 rfl) ?_
              refine lv_iload_n hx hb dX5_bestOf_25 rfl (lv_at hl 7 rfl) ?_
              refine lv_iload hx hb dX5_bestOf_26 (lv_at hl 8 rfl) ?_
              refine lv_iload hx hb dX5_bestOf_28 (lv_at hl 3 rfl) ?_
              refine lv_iload hx hb dX5_bestOf_30 (lv_at hl 0 rfl) ?_
              refine cR_V ⟨hx, hb, hml, hown, hts⟩ (c_X5_bringsW l E r v f B C w h s1 t 0 2 (by omega) (by omega) (by omega) (by omega) (by omega) h40) (cwV 6 hts gX5_bestOf_X5_brings rfl rfl rfl (by decide +kernel) ⟨Nat.le_of_ble_eq_true rfl, Nat.le_of_ble_eq_true rfl⟩) hK hP 5 0 rfl rfl rfl hl.1 rfl (Nat.le_of_ble_eq_true rfl) dX5_bestOf_32 ⟨Nat.le_of_ble_eq_true rfl, Nat.le_of_ble_eq_true rfl⟩ ?_
              refine lv_istore (lv' := [(8, .int (m_brW v f B w h s1 t 0 2)), (7, .int (nI 2)), (5, .int x_5), (6, .int 0), (0, .ref (r 0)), (1, .int (nI w)), (2, .int (nI h)), (3, .int (nI s1)), (4, .int t)]) hx hb dX5_bestOf_35 hl (by decide) rfl (fun ls hl => ?_)
              refine w_join (fun x : Int32 => x = m_mx (m_brW v f B w h s1 t 0 2) x_5) (fun x => F0 m 51 ls (.int x :: [])) ?_ (fun J51 => ?_)
              · intro x_7 ex_7
                refine lv_istore (lv' := [(5, .int x_7), (8, .int (m_brW v f B w h s1 t 0 2)), (7, .int (nI 2)), (6, .int 0), (0, .ref (r 0)), (1, .int (nI w)), (2, .int (nI h)), (3, .int (nI s1)), (4, .int t)]) hx hb dX5_bestOf_51 hl (by decide) rfl (fun ls hl => ?_)
                refine lv_iinc (v := (nI 3)) (lv' := [(7, .int (nI 3)), (5, .int x_7), (8, .int (m_brW v f B w h s1 t 0 2)), (6, .int 0), (0, .ref (r 0)), (1, .int (nI w)), (2, .int (nI h)), (3, .int (nI s1)), (4, .int t)]) hx hb dX5_bestOf_53 hl (k := 2) rfl (nI_1 _) (by decide) rfl (fun ls hl => ?_)
                refine lv_goto (tgt := 16) hx hb dX5_bestOf_56 (by decide) ?_
                refine lv_iload hx hb dX5_bestOf_16 (lv_at hl 0 rfl) ?_
                refine lv_iconst (v := 3) hx hb dX5_bestOf_18 (by decide) ?_
                refine n_icmp_ge (tgt := 59) (a := 3) (b := 3) hx hb dX5_bestOf_19 (by decide) (by omega) (by omega) (fun c_8 => ?_) (fun c_8 => ?_)
                · skip
                  refine lv_iinc (v := (nI 1)) (lv' := [(6, .int (nI 1)), (7, .int (nI 3)), (5, .int x_7), (8, .int (m_brW v f B w h s1 t 0 2)), (0, .ref (r 0)), (1, .int (nI w)), (2, .int (nI h)), (3, .int (nI s1)), (4, .int t)]) hx hb dX5_bestOf_59 hl (k := 3) rfl (nI_1 _) (by decide) rfl (fun ls hl => ?_)
                  refine lv_goto (tgt := 7) hx hb dX5_bestOf_62 (by decide) ?_
                  refine lv_iload hx hb dX5_bestOf_7 (lv_at hl 0 rfl) ?_
                  refine lv_iconst (v := 3) hx hb dX5_bestOf_9 (by decide) ?_
                  refine n_icmp_ge (tgt := 65) (a := 1) (b := 3) hx hb dX5_bestOf_10 (by decide) (by omega) (by omega) (fun c_9 => ?_) (fun c_9 => ?_)
                  · skip
                    exact absurd c_9 (by decide)
                  · skip
                    refine lv_iconst (v := 0) hx hb dX5_bestOf_13 (by decide) ?_
                    refine lv_istore (lv' := [(7, .int 0), (6, .int (nI 1)), (5, .int x_7), (8, .int (m_brW v f B w h s1 t 0 2)), (0, .ref (r 0)), (1, .int (nI w)), (2, .int (nI h)), (3, .int (nI s1)), (4, .int t)]) hx hb dX5_bestOf_14 hl (by decide) rfl (fun ls hl => ?_)
                    refine lv_iload hx hb dX5_bestOf_16 (lv_at hl 0 rfl) ?_
                    refine lv_iconst (v := 3) hx hb dX5_bestOf_18 (by decide) ?_
                    refine n_icmp_ge (tgt := 59) (a := 0) (b := 3) hx hb dX5_bestOf_19 (by decide) (by omega) (by omega) (fun c_10 => ?_) (fun c_10 => ?_)
                    · skip
                      exact absurd c_10 (by decide)
                    · skip
                      refine lv_aload_n hx hb dX5_bestOf_22 rfl (lv_at hl 4 rfl) ?_
                      refine lv_iload_n hx hb dX5_bestOf_23 rfl (lv_at hl 5 rfl) ?_
                      refine lv_iload_n hx hb dX5_bestOf_24 rfl (lv_at hl 6 rfl) ?_
                      refine lv_iload_n hx hb dX5_bestOf_25 rfl (lv_at hl 7 rfl) ?_
                      refine lv_iload hx hb dX5_bestOf_26 (lv_at hl 8 rfl) ?_
                      refine lv_iload hx hb dX5_bestOf_28 (lv_at hl 1 rfl) ?_
                      refine lv_iload hx hb dX5_bestOf_30 (lv_at hl 0 rfl) ?_
                      refine cR_V ⟨hx, hb, hml, hown, hts⟩ (c_X5_bringsW l E r v f B C w h s1 t 1 0 (by omega) (by omega) (by omega) (by omega) (by omega) h40) (cwV 6 hts gX5_bestOf_X5_brings rfl rfl rfl (by decide +kernel) ⟨Nat.le_of_ble_eq_true rfl, Nat.le_of_ble_eq_true rfl⟩) hK hP 5 0 rfl rfl rfl hl.1 rfl (Nat.le_of_ble_eq_true rfl) dX5_bestOf_32 ⟨Nat.le_of_ble_eq_true rfl, Nat.le_of_ble_eq_true rfl⟩ ?_
                      refine lv_istore (lv' := [(8, .int (m_brW v f B w h s1 t 1 0)), (7, .int 0), (6, .int (nI 1)), (5, .int x_7), (0, .ref (r 0)), (1, .int (nI w)), (2, .int (nI h)), (3, .int (nI s1)), (4, .int t)]) hx hb dX5_bestOf_35 hl (by decide) rfl (fun ls hl => ?_)
                      refine w_join (fun x : Int32 => x = m_mx (m_brW v f B w h s1 t 1 0) x_7) (fun x => F0 m 51 ls (.int x :: [])) ?_ (fun J51 => ?_)
                      · intro x_11 ex_11
                        refine lv_istore (lv' := [(5, .int x_11), (8, .int (m_brW v f B w h s1 t 1 0)), (7, .int 0), (6, .int (nI 1)), (0, .ref (r 0)), (1, .int (nI w)), (2, .int (nI h)), (3, .int (nI s1)), (4, .int t)]) hx hb dX5_bestOf_51 hl (by decide) rfl (fun ls hl => ?_)
                        refine lv_iinc (v := (nI 1)) (lv' := [(7, .int (nI 1)), (5, .int x_11), (8, .int (m_brW v f B w h s1 t 1 0)), (6, .int (nI 1)), (0, .ref (r 0)), (1, .int (nI w)), (2, .int (nI h)), (3, .int (nI s1)), (4, .int t)]) hx hb dX5_bestOf_53 hl (k := 2) rfl (nI_1 _) (by decide) rfl (fun ls hl => ?_)
                        refine lv_goto (tgt := 16) hx hb dX5_bestOf_56 (by decide) ?_
                        refine lv_iload hx hb dX5_bestOf_16 (lv_at hl 0 rfl) ?_
                        refine lv_iconst (v := 3) hx hb dX5_bestOf_18 (by decide) ?_
                        refine n_icmp_ge (tgt := 59) (a := 1) (b := 3) hx hb dX5_bestOf_19 (by decide) (by omega) (by omega) (fun c_12 => ?_) (fun c_12 => ?_)
                        · skip
                          exact absurd c_12 (by decide)
                        · skip
                          refine lv_aload_n hx hb dX5_bestOf_22 rfl (lv_at hl 4 rfl) ?_
                          refine lv_iload_n hx hb dX5_bestOf_23 rfl (lv_at hl 5 rfl) ?_
                          refine lv_iload_n hx hb dX5_bestOf_24 rfl (lv_at hl 6 rfl) ?_
                          refine lv_iload_n hx hb dX5_bestOf_25 rfl (lv_at hl 7 rfl) ?_
                          refine lv_iload hx hb dX5_bestOf_26 (lv_at hl 8 rfl) ?_
                          refine lv_iload hx hb dX5_bestOf_28 (lv_at hl 3 rfl) ?_
                          refine lv_iload hx hb dX5_bestOf_30 (lv_at hl 0 rfl) ?_
                          refine cR_V ⟨hx, hb, hml, hown, hts⟩ (c_X5_bringsW l E r v f B C w h s1 t 1 1 (by omega) (by omega) (by omega) (by omega) (by omega) h40) (cwV 6 hts gX5_bestOf_X5_brings rfl rfl rfl (by decide +kernel) ⟨Nat.le_of_ble_eq_true rfl, Nat.le_of_ble_eq_true rfl⟩) hK hP 5 0 rfl rfl rfl hl.1 rfl (Nat.le_of_ble_eq_true rfl) dX5_bestOf_32 ⟨Nat.le_of_ble_eq_true rfl, Nat.le_of_ble_eq_true rfl⟩ ?_
                          refine lv_istore (lv' := [(8, .int (m_brW v f B w h s1 t 1 1)), (7, .int (nI 1)), (5, .int x_11), (6, .int (nI 1)), (0, .ref (r 0)), (1, .int (nI w)), (2, .int (nI h)), (3, .int (nI s1)), (4, .int t)]) hx hb dX5_bestOf_35 hl (by decide) rfl (fun ls hl => ?_)
                          refine w_join (fun x : Int32 => x = m_mx (m_brW v f B w h s1 t 1 1) x_11) (fun x => F0 m 51 ls (.int x :: [])) ?_ (fun J51 => ?_)
                          · intro x_13 ex_13
                            refine lv_istore (lv' := [(5, .int x_13), (8, .int (m_brW v f B w h s1 t 1 1)), (7, .int (nI 1)), (6, .int (nI 1)), (0, .ref (r 0)), (1, .int (nI w)), (2, .int (nI h)), (3, .int (nI s1)), (4, .int t)]) hx hb dX5_bestOf_51 hl (by decide) rfl (fun ls hl => ?_)
                            refine lv_iinc (v := (nI 2)) (lv' := [(7, .int (nI 2)), (5, .int x_13), (8, .int (m_brW v f B w h s1 t 1 1)), (6, .int (nI 1)), (0, .ref (r 0)), (1, .int (nI w)), (2, .int (nI h)), (3, .int (nI s1)), (4, .int t)]) hx hb dX5_bestOf_53 hl (k := 2) rfl (nI_1 _) (by decide) rfl (fun ls hl => ?_)
                            refine lv_goto (tgt := 16) hx hb dX5_bestOf_56 (by decide) ?_
                            refine lv_iload hx hb dX5_bestOf_16 (lv_at hl 0 rfl) ?_
                            refine lv_iconst (v := 3) hx hb dX5_bestOf_18 (by decide) ?_
                            refine n_icmp_ge (tgt := 59) (a := 2) (b := 3) hx hb dX5_bestOf_19 (by decide) (by omega) (by omega) (fun c_14 => ?_) (fun c_14 => ?_)
                            · skip
                              exact absurd c_14 (by decide)
                            · skip
                              refine lv_aload_n hx hb dX5_bestOf_22 rfl (lv_at hl 4 rfl) ?_
                              refine lv_iload_n hx hb dX5_bestOf_23 rfl (lv_at hl 5 rfl) ?_
                              refine lv_iload_n hx hb dX5_bestOf_24 rfl (lv_at hl 6 rfl) ?_
                              refine lv_iload_n hx hb dX5_bestOf_25 rfl (lv_at hl 7 rfl) ?_
                              refine lv_iload hx hb dX5_bestOf_26 (lv_at hl 8 rfl) ?_
                              refine lv_iload hx hb dX5_bestOf_28 (lv_at hl 3 rfl) ?_
                              refine lv_iload hx hb dX5_bestOf_30 (lv_at hl 0 rfl) ?_
                              refine cR_V ⟨hx, hb, hml, hown, hts⟩ (c_X5_bringsW l E r v f B C w h s1 t 1 2 (by omega) (by omega) (by omega) (by omega) (by omega) h40) (cwV 6 hts gX5_bestOf_X5_brings rfl rfl rfl (by decide +kernel) ⟨Nat.le_of_ble_eq_true rfl, Nat.le_of_ble_eq_true rfl⟩) hK hP 5 0 rfl rfl rfl hl.1 rfl (Nat.le_of_ble_eq_true rfl) dX5_bestOf_32 ⟨Nat.le_of_ble_eq_true rfl, Nat.le_of_ble_eq_true rfl⟩ ?_
                              refine lv_istore (lv' := [(8, .int (m_brW v f B w h s1 t 1 2)), (7, .int (nI 2)), (5, .int x_13), (6, .int (nI 1)), (0, .ref (r 0)), (1, .int (nI w)), (2, .int (nI h)), (3, .int (nI s1)), (4, .int t)]) hx hb dX5_bestOf_35 hl (by decide) rfl (fun ls hl => ?_)
                              refine w_join (fun x : Int32 => x = m_mx (m_brW v f B w h s1 t 1 2) x_13) (fun x => F0 m 51 ls (.int x :: [])) ?_ (fun J51 => ?_)
                              · intro x_15 ex_15
                                refine lv_istore (lv' := [(5, .int x_15), (8, .int (m_brW v f B w h s1 t 1 2)), (7, .int (nI 2)), (6, .int (nI 1)), (0, .ref (r 0)), (1, .int (nI w)), (2, .int (nI h)), (3, .int (nI s1)), (4, .int t)]) hx hb dX5_bestOf_51 hl (by decide) rfl (fun ls hl => ?_)
                                refine lv_iinc (v := (nI 3)) (lv' := [(7, .int (nI 3)), (5, .int x_15), (8, .int (m_brW v f B w h s1 t 1 2)), (6, .int (nI 1)), (0, .ref (r 0)), (1, .int (nI w)), (2, .int (nI h)), (3, .int (nI s1)), (4, .int t)]) hx hb dX5_bestOf_53 hl (k := 2) rfl (nI_1 _) (by decide) rfl (fun ls hl => ?_)
                                refine lv_goto (tgt := 16) hx hb dX5_bestOf_56 (by decide) ?_
                                refine lv_iload hx hb dX5_bestOf_16 (lv_at hl 0 rfl) ?_
                                refine lv_iconst (v := 3) hx hb dX5_bestOf_18 (by decide) ?_
                                refine n_icmp_ge (tgt := 59) (a := 3) (b := 3) hx hb dX5_bestOf_19 (by decide) (by omega) (by omega) (fun c_16 => ?_) (fun c_16 => ?_)
                                · skip
                                  refine lv_iinc (v := (nI 2)) (lv' := [(6, .int (nI 2)), (7, .int (nI 3)), (5, .int x_15), (8, .int (m_brW v f B w h s1 t 1 2)), (0, .ref (r 0)), (1, .int (nI w)), (2, .int (nI h)), (3, .int (nI s1)), (4, .int t)]) hx hb dX5_bestOf_59 hl (k := 3) rfl (nI_1 _) (by decide) rfl (fun ls hl => ?_)
                                  refine lv_goto (tgt := 7) hx hb dX5_bestOf_62 (by decide) ?_
                                  refine lv_iload hx hb dX5_bestOf_7 (lv_at hl 0 rfl) ?_
                                  refine lv_iconst (v := 3) hx hb dX5_bestOf_9 (by decide) ?_
                                  refine n_icmp_ge (tgt := 65) (a := 2) (b := 3) hx hb dX5_bestOf_10 (by decide) (by omega) (by omega) (fun c_17 => ?_) (fun c_17 => ?_)
                                  · skip
                                    exact absurd c_17 (by decide)
                                  · skip
                                    refine lv_iconst (v := 0) hx hb dX5_bestOf_13 (by decide) ?_
                                    refine lv_istore (lv' := [(7, .int 0), (6, .int (nI 2)), (5, .int x_15), (8, .int (m_brW v f B w h s1 t 1 2)), (0, .ref (r 0)), (1, .int (nI w)), (2, .int (nI h)), (3, .int (nI s1)), (4, .int t)]) hx hb dX5_bestOf_14 hl (by decide) rfl (fun ls hl => ?_)
                                    refine lv_iload hx hb dX5_bestOf_16 (lv_at hl 0 rfl) ?_
                                    refine lv_iconst (v := 3) hx hb dX5_bestOf_18 (by decide) ?_
                                    refine n_icmp_ge (tgt := 59) (a := 0) (b := 3) hx hb dX5_bestOf_19 (by decide) (by omega) (by omega) (fun c_18 => ?_) (fun c_18 => ?_)
                                    · skip
                                      exact absurd c_18 (by decide)
                                    · skip
                                      refine lv_aload_n hx hb dX5_bestOf_22 rfl (lv_at hl 4 rfl) ?_
                                      refine lv_iload_n hx hb dX5_bestOf_23 rfl (lv_at hl 5 rfl) ?_
                                      refine lv_iload_n hx hb dX5_bestOf_24 rfl (lv_at hl 6 rfl) ?_
                                      refine lv_iload_n hx hb dX5_bestOf_25 rfl (lv_at hl 7 rfl) ?_
                                      refine lv_iload hx hb dX5_bestOf_26 (lv_at hl 8 rfl) ?_
                                      refine lv_iload hx hb dX5_bestOf_28 (lv_at hl 1 rfl) ?_
                                      refine lv_iload hx hb dX5_bestOf_30 (lv_at hl 0 rfl) ?_
                                      refine cR_V ⟨hx, hb, hml, hown, hts⟩ (c_X5_bringsW l E r v f B C w h s1 t 2 0 (by omega) (by omega) (by omega) (by omega) (by omega) h40) (cwV 6 hts gX5_bestOf_X5_brings rfl rfl rfl (by decide +kernel) ⟨Nat.le_of_ble_eq_true rfl, Nat.le_of_ble_eq_true rfl⟩) hK hP 5 0 rfl rfl rfl hl.1 rfl (Nat.le_of_ble_eq_true rfl) dX5_bestOf_32 ⟨Nat.le_of_ble_eq_true rfl, Nat.le_of_ble_eq_true rfl⟩ ?_
                                      refine lv_istore (lv' := [(8, .int (m_brW v f B w h s1 t 2 0)), (7, .int 0), (6, .int (nI 2)), (5, .int x_15), (0, .ref (r 0)), (1, .int (nI w)), (2, .int (nI h)), (3, .int (nI s1)), (4, .int t)]) hx hb dX5_bestOf_35 hl (by decide) rfl (fun ls hl => ?_)
                                      refine w_join (fun x : Int32 => x = m_mx (m_brW v f B w h s1 t 2 0) x_15) (fun x => F0 m 51 ls (.int x :: [])) ?_ (fun J51 => ?_)
                                      · intro x_19 ex_19
                                        refine lv_istore (lv' := [(5, .int x_19), (8, .int (m_brW v f B w h s1 t 2 0)), (7, .int 0), (6, .int (nI 2)), (0, .ref (r 0)), (1, .int (nI w)), (2, .int (nI h)), (3, .int (nI s1)), (4, .int t)]) hx hb dX5_bestOf_51 hl (by decide) rfl (fun ls hl => ?_)
                                        refine lv_iinc (v := (nI 1)) (lv' := [(7, .int (nI 1)), (5, .int x_19), (8, .int (m_brW v f B w h s1 t 2 0)), (6, .int (nI 2)), (0, .ref (r 0)), (1, .int (nI w)), (2, .int (nI h)), (3, .int (nI s1)), (4, .int t)]) hx hb dX5_bestOf_53 hl (k := 2) rfl (nI_1 _) (by decide) rfl (fun ls hl => ?_)
                                        refine lv_goto (tgt := 16) hx hb dX5_bestOf_56 (by decide) ?_
                                        refine lv_iload hx hb dX5_bestOf_16 (lv_at hl 0 rfl) ?_
                                        refine lv_iconst (v := 3) hx hb dX5_bestOf_18 (by decide) ?_
                                        refine n_icmp_ge (tgt := 59) (a := 1) (b := 3) hx hb dX5_bestOf_19 (by decide) (by omega) (by omega) (fun c_20 => ?_) (fun c_20 => ?_)
                                        · skip
                                          exact absurd c_20 (by decide)
                                        · skip
                                          refine lv_aload_n hx hb dX5_bestOf_22 rfl (lv_at hl 4 rfl) ?_
                                          refine lv_iload_n hx hb dX5_bestOf_23 rfl (lv_at hl 5 rfl) ?_
                                          refine lv_iload_n hx hb dX5_bestOf_24 rfl (lv_at hl 6 rfl) ?_
                                          refine lv_iload_n hx hb dX5_bestOf_25 rfl (lv_at hl 7 rfl) ?_
                                          refine lv_iload hx hb dX5_bestOf_26 (lv_at hl 8 rfl) ?_
                                          refine lv_iload hx hb dX5_bestOf_28 (lv_at hl 3 rfl) ?_
                                          refine lv_iload hx hb dX5_bestOf_30 (lv_at hl 0 rfl) ?_
                                          refine cR_V ⟨hx, hb, hml, hown, hts⟩ (c_X5_bringsW l E r v f B C w h s1 t 2 1 (by omega) (by omega) (by omega) (by omega) (by omega) h40) (cwV 6 hts gX5_bestOf_X5_brings rfl rfl rfl (by decide +kernel) ⟨Nat.le_of_ble_eq_true rfl, Nat.le_of_ble_eq_true rfl⟩) hK hP 5 0 rfl rfl rfl hl.1 rfl (Nat.le_of_ble_eq_true rfl) dX5_bestOf_32 ⟨Nat.le_of_ble_eq_true rfl, Nat.le_of_ble_eq_true rfl⟩ ?_
                                          refine lv_istore (lv' := [(8, .int (m_brW v f B w h s1 t 2 1)), (7, .int (nI 1)), (5, .int x_19), (6, .int (nI 2)), (0, .ref (r 0)), (1, .int (nI w)), (2, .int (nI h)), (3, .int (nI s1)), (4, .int t)]) hx hb dX5_bestOf_35 hl (by decide) rfl (fun ls hl => ?_)
                                          refine w_join (fun x : Int32 => x = m_mx (m_brW v f B w h s1 t 2 1) x_19) (fun x => F0 m 51 ls (.int x :: [])) ?_ (fun J51 => ?_)
                                          · intro x_21 ex_21
                                            refine lv_istore (lv' := [(5, .int x_21), (8, .int (m_brW v f B w h s1 t 2 1)), (7, .int (nI 1)), (6, .int (nI 2)), (0, .ref (r 0)), (1, .int (nI w)), (2, .int (nI h)), (3, .int (nI s1)), (4, .int t)]) hx hb dX5_bestOf_51 hl (by decide) rfl (fun ls hl => ?_)
                                            refine lv_iinc (v := (nI 2)) (lv' := [(7, .int (nI 2)), (5, .int x_21), (8, .int (m_brW v f B w h s1 t 2 1)), (6, .int (nI 2)), (0, .ref (r 0)), (1, .int (nI w)), (2, .int (nI h)), (3, .int (nI s1)), (4, .int t)]) hx hb dX5_bestOf_53 hl (k := 2) rfl (nI_1 _) (by decide) rfl (fun ls hl => ?_)
                                            refine lv_goto (tgt := 16) hx hb dX5_bestOf_56 (by decide) ?_
                                            refine lv_iload hx hb dX5_bestOf_16 (lv_at hl 0 rfl) ?_
                                            refine lv_iconst (v := 3) hx hb dX5_bestOf_18 (by decide) ?_
                                            refine n_icmp_ge (tgt := 59) (a := 2) (b := 3) hx hb dX5_bestOf_19 (by decide) (by omega) (by omega) (fun c_22 => ?_) (fun c_22 => ?_)
                                            · skip
                                              exact absurd c_22 (by decide)
                                            · skip
                                              refine lv_aload_n hx hb dX5_bestOf_22 rfl (lv_at hl 4 rfl) ?_
                                              refine lv_iload_n hx hb dX5_bestOf_23 rfl (lv_at hl 5 rfl) ?_
                                              refine lv_iload_n hx hb dX5_bestOf_24 rfl (lv_at hl 6 rfl) ?_
                                              refine lv_iload_n hx hb dX5_bestOf_25 rfl (lv_at hl 7 rfl) ?_
                                              refine lv_iload hx hb dX5_bestOf_26 (lv_at hl 8 rfl) ?_
                                              refine lv_iload hx hb dX5_bestOf_28 (lv_at hl 3 rfl) ?_
                                              refine lv_iload hx hb dX5_bestOf_30 (lv_at hl 0 rfl) ?_
                                              refine cR_V ⟨hx, hb, hml, hown, hts⟩ (c_X5_bringsW l E r v f B C w h s1 t 2 2 (by omega) (by omega) (by omega) (by omega) (by omega) h40) (cwV 6 hts gX5_bestOf_X5_brings rfl rfl rfl (by decide +kernel) ⟨Nat.le_of_ble_eq_true rfl, Nat.le_of_ble_eq_true rfl⟩) hK hP 5 0 rfl rfl rfl hl.1 rfl (Nat.le_of_ble_eq_true rfl) dX5_bestOf_32 ⟨Nat.le_of_ble_eq_true rfl, Nat.le_of_ble_eq_true rfl⟩ ?_
                                              refine lv_istore (lv' := [(8, .int (m_brW v f B w h s1 t 2 2)), (7, .int (nI 2)), (5, .int x_21), (6, .int (nI 2)), (0, .ref (r 0)), (1, .int (nI w)), (2, .int (nI h)), (3, .int (nI s1)), (4, .int t)]) hx hb dX5_bestOf_35 hl (by decide) rfl (fun ls hl => ?_)
                                              refine w_join (fun x : Int32 => x = m_mx (m_brW v f B w h s1 t 2 2) x_21) (fun x => F0 m 51 ls (.int x :: [])) ?_ (fun J51 => ?_)
                                              · intro x_23 ex_23
                                                refine lv_istore (lv' := [(5, .int x_23), (8, .int (m_brW v f B w h s1 t 2 2)), (7, .int (nI 2)), (6, .int (nI 2)), (0, .ref (r 0)), (1, .int (nI w)), (2, .int (nI h)), (3, .int (nI s1)), (4, .int t)]) hx hb dX5_bestOf_51 hl (by decide) rfl (fun ls hl => ?_)
                                                refine lv_iinc (v := (nI 3)) (lv' := [(7, .int (nI 3)), (5, .int x_23), (8, .int (m_brW v f B w h s1 t 2 2)), (6, .int (nI 2)), (0, .ref (r 0)), (1, .int (nI w)), (2, .int (nI h)), (3, .int (nI s1)), (4, .int t)]) hx hb dX5_bestOf_53 hl (k := 2) rfl (nI_1 _) (by decide) rfl (fun ls hl => ?_)
                                                refine lv_goto (tgt := 16) hx hb dX5_bestOf_56 (by decide) ?_
                                                refine lv_iload hx hb dX5_bestOf_16 (lv_at hl 0 rfl) ?_
                                                refine lv_iconst (v := 3) hx hb dX5_bestOf_18 (by decide) ?_
                                                refine n_icmp_ge (tgt := 59) (a := 3) (b := 3) hx hb dX5_bestOf_19 (by decide) (by omega) (by omega) (fun c_24 => ?_) (fun c_24 => ?_)
                                                · skip
                                                  refine lv_iinc (v := (nI 3)) (lv' := [(6, .int (nI 3)), (7, .int (nI 3)), (5, .int x_23), (8, .int (m_brW v f B w h s1 t 2 2)), (0, .ref (r 0)), (1, .int (nI w)), (2, .int (nI h)), (3, .int (nI s1)), (4, .int t)]) hx hb dX5_bestOf_59 hl (k := 3) rfl (nI_1 _) (by decide) rfl (fun ls hl => ?_)
                                                  refine lv_goto (tgt := 7) hx hb dX5_bestOf_62 (by decide) ?_
                                                  refine lv_iload hx hb dX5_bestOf_7 (lv_at hl 0 rfl) ?_
                                                  refine lv_iconst (v := 3) hx hb dX5_bestOf_9 (by decide) ?_
                                                  refine n_icmp_ge (tgt := 65) (a := 3) (b := 3) hx hb dX5_bestOf_10 (by decide) (by omega) (by omega) (fun c_25 => ?_) (fun c_25 => ?_)
                                                  · skip
                                                    refine lv_iload hx hb dX5_bestOf_65 (lv_at hl 2 rfl) ?_
                                                    exact r_ret hx hb hr hlocks (by rw [ex_23, ex_21, ex_19, ex_15, ex_13, ex_11, ex_7, ex_5, ex_3]; rfl) dX5_bestOf_67
                                                  · skip
                                                    exact absurd c_25 (by decide)
                                                · skip
                                                  exact absurd c_24 (by decide)
                                              · skip
                                                refine lv_iload hx hb dX5_bestOf_37 (lv_at hl 0 rfl) ?_
                                                refine lv_iload hx hb dX5_bestOf_39 (lv_at hl 2 rfl) ?_
                                                refine lv_icmp_le (tgt := 49) hx hb dX5_bestOf_41 (by decide) (fun c_26 => ?_) (fun c_26 => ?_)
                                                · skip
                                                  refine lv_iload hx hb dX5_bestOf_49 (lv_at hl 2 rfl) ?_
                                                  exact J51 _ (m_mx_le c_26)
                                                · skip
                                                  refine lv_iload hx hb dX5_bestOf_44 (lv_at hl 0 rfl) ?_
                                                  refine lv_goto (tgt := 51) hx hb dX5_bestOf_46 (by decide) ?_
                                                  exact J51 _ (m_mx_gt c_26)
                                          · skip
                                            refine lv_iload hx hb dX5_bestOf_37 (lv_at hl 0 rfl) ?_
                                            refine lv_iload hx hb dX5_bestOf_39 (lv_at hl 2 rfl) ?_
                                            refine lv_icmp_le (tgt := 49) hx hb dX5_bestOf_41 (by decide) (fun c_27 => ?_) (fun c_27 => ?_)
                                            · skip
                                              refine lv_iload hx hb dX5_bestOf_49 (lv_at hl 2 rfl) ?_
                                              exact J51 _ (m_mx_le c_27)
                                            · skip
                                              refine lv_iload hx hb dX5_bestOf_44 (lv_at hl 0 rfl) ?_
                                              refine lv_goto (tgt := 51) hx hb dX5_bestOf_46 (by decide) ?_
                                              exact J51 _ (m_mx_gt c_27)
                                      · skip
                                        refine lv_iload hx hb dX5_bestOf_37 (lv_at hl 0 rfl) ?_
                                        refine lv_iload hx hb dX5_bestOf_39 (lv_at hl 3 rfl) ?_
                                        refine lv_icmp_le (tgt := 49) hx hb dX5_bestOf_41 (by decide) (fun c_28 => ?_) (fun c_28 => ?_)
                                        · skip
                                          refine lv_iload hx hb dX5_bestOf_49 (lv_at hl 3 rfl) ?_
                                          exact J51 _ (m_mx_le c_28)
                                        · skip
                                          refine lv_iload hx hb dX5_bestOf_44 (lv_at hl 0 rfl) ?_
                                          refine lv_goto (tgt := 51) hx hb dX5_bestOf_46 (by decide) ?_
                                          exact J51 _ (m_mx_gt c_28)
                                · skip
                                  exact absurd c_16 (by decide)
                              · skip
                                refine lv_iload hx hb dX5_bestOf_37 (lv_at hl 0 rfl) ?_
                                refine lv_iload hx hb dX5_bestOf_39 (lv_at hl 2 rfl) ?_
                                refine lv_icmp_le (tgt := 49) hx hb dX5_bestOf_41 (by decide) (fun c_29 => ?_) (fun c_29 => ?_)
                                · skip
                                  refine lv_iload hx hb dX5_bestOf_49 (lv_at hl 2 rfl) ?_
                                  exact J51 _ (m_mx_le c_29)
                                · skip
                                  refine lv_iload hx hb dX5_bestOf_44 (lv_at hl 0 rfl) ?_
                                  refine lv_goto (tgt := 51) hx hb dX5_bestOf_46 (by decide) ?_
                                  exact J51 _ (m_mx_gt c_29)
                          · skip
                            refine lv_iload hx hb dX5_bestOf_37 (lv_at hl 0 rfl) ?_
                            refine lv_iload hx hb dX5_bestOf_39 (lv_at hl 2 rfl) ?_
                            refine lv_icmp_le (tgt := 49) hx hb dX5_bestOf_41 (by decide) (fun c_30 => ?_) (fun c_30 => ?_)
                            · skip
                              refine lv_iload hx hb dX5_bestOf_49 (lv_at hl 2 rfl) ?_
                              exact J51 _ (m_mx_le c_30)
                            · skip
                              refine lv_iload hx hb dX5_bestOf_44 (lv_at hl 0 rfl) ?_
                              refine lv_goto (tgt := 51) hx hb dX5_bestOf_46 (by decide) ?_
                              exact J51 _ (m_mx_gt c_30)
                      · skip
                        refine lv_iload hx hb dX5_bestOf_37 (lv_at hl 0 rfl) ?_
                        refine lv_iload hx hb dX5_bestOf_39 (lv_at hl 3 rfl) ?_
                        refine lv_icmp_le (tgt := 49) hx hb dX5_bestOf_41 (by decide) (fun c_31 => ?_) (fun c_31 => ?_)
                        · skip
                          refine lv_iload hx hb dX5_bestOf_49 (lv_at hl 3 rfl) ?_
                          exact J51 _ (m_mx_le c_31)
                        · skip
                          refine lv_iload hx hb dX5_bestOf_44 (lv_at hl 0 rfl) ?_
                          refine lv_goto (tgt := 51) hx hb dX5_bestOf_46 (by decide) ?_
                          exact J51 _ (m_mx_gt c_31)
                · skip
                  exact absurd c_8 (by decide)
              · skip
                refine lv_iload hx hb dX5_bestOf_37 (lv_at hl 0 rfl) ?_
                refine lv_iload hx hb dX5_bestOf_39 (lv_at hl 2 rfl) ?_
                refine lv_icmp_le (tgt := 49) hx hb dX5_bestOf_41 (by decide) (fun c_32 => ?_) (fun c_32 => ?_)
                · skip
                  refine lv_iload hx hb dX5_bestOf_49 (lv_at hl 2 rfl) ?_
                  exact J51 _ (m_mx_le c_32)
                · skip
                  refine lv_iload hx hb dX5_bestOf_44 (lv_at hl 0 rfl) ?_
                  refine lv_goto (tgt := 51) hx hb dX5_bestOf_46 (by decide) ?_
                  exact J51 _ (m_mx_gt c_32)
          · skip
            refine lv_iload hx hb dX5_bestOf_37 (lv_at hl 0 rfl) ?_
            refine lv_iload hx hb dX5_bestOf_39 (lv_at hl 2 rfl) ?_
            refine lv_icmp_le (tgt := 49) hx hb dX5_bestOf_41 (by decide) (fun c_33 => ?_) (fun c_33 => ?_)
            · skip
              refine lv_iload hx hb dX5_bestOf_49 (lv_at hl 2 rfl) ?_
              exact J51 _ (m_mx_le c_33)
            · skip
              refine lv_iload hx hb dX5_bestOf_44 (lv_at hl 0 rfl) ?_
              refine lv_goto (tgt := 51) hx hb dX5_bestOf_46 (by decide) ?_
              exact J51 _ (m_mx_gt c_33)
      · skip
        refine lv_iload hx hb dX5_bestOf_37 (lv_at hl 0 rfl) ?_
        refine lv_iload hx hb dX5_bestOf_39 (lv_at hl 3 rfl) ?_
        refine lv_icmp_le (tgt := 49) hx hb dX5_bestOf_41 (by decide) (fun c_34 => ?_) (fun c_34 => ?_)
        · skip
          refine lv_iload hx hb dX5_bestOf_49 (lv_at hl 3 rfl) ?_
          exact J51 _ (m_mx_le c_34)
        · skip
          refine lv_iload hx hb dX5_bestOf_44 (lv_at hl 0 rfl) ?_
          refine lv_goto (tgt := 51) hx hb dX5_bestOf_46 (by decide) ?_
          exact J51 _ (m_mx_gt c_34)
