abbrev R_L_isEdge : Room := { frames := 5, cells := 0, slots := 0, locals := 117 }
def r_L_isEdge_at32 (axis : Int32) (up : Int32) (S : SS) : Nat → (Nat) → Int32
  | 0, _ => 0
  | n + 1, k => if 255 < (nI k) then (if (r_X4_edge axis up S) = (-6) then 1 else (if 0 < (r_X4_edge axis up S) then (if (r_X4_edge axis up S) < 256 then 1 else 0) else 0)) else (if up = 1 then (if axis = 0 then (if (r_X4_wouldTell (((S.1 7) / 16) + (nI k)) ((S.1 8) / 16) S) < 0 then (if (nI k) = (r_X4_edge axis up S) then (if (r_X4_edge axis up S) < 0 then 0 else (if (r_X4_edge axis up S) < (nI k) then (r_L_isEdge_at32 axis up S n (k + 1)) else 0)) else (r_L_isEdge_at32 axis up S n (k + 1))) else (if (r_X4_wouldTell (((S.1 7) / 16) + (nI k)) ((S.1 8) / 16) S) = 100100 then (if (nI k) = (r_X4_edge axis up S) then (if (r_X4_edge axis up S) < 0 then 0 else (if (r_X4_edge axis up S) < (nI k) then (r_L_isEdge_at32 axis up S n (k + 1)) else 0)) else (r_L_isEdge_at32 axis up S n (k + 1))) else (if (nI k) = (r_X4_edge axis up S) then (r_L_isEdge_at32 axis up S n (k + 1)) else (if (r_X4_edge axis up S) < 0 then 0 else (if (r_X4_edge axis up S) < (nI k) then (r_L_isEdge_at32 axis up S n (k + 1)) else 0))))) else (if axis = 1 then (if (r_X4_wouldTell ((S.1 7) / 16) (((S.1 8) / 16) + (nI k)) S) < 0 then (if (nI k) = (r_X4_edge axis up S) then (if (r_X4_edge axis up S) < 0 then 0 else (if (r_X4_edge axis up S) < (nI k) then (r_L_isEdge_at32 axis up S n (k + 1)) else 0)) else (r_L_isEdge_at32 axis up S n (k + 1))) else (if (r_X4_wouldTell ((S.1 7) / 16) (((S.1 8) / 16) + (nI k)) S) = 100100 then (if (nI k) = (r_X4_edge axis up S) then (if (r_X4_edge axis up S) < 0 then 0 else (if (r_X4_edge axis up S) < (nI k) then (r_L_isEdge_at32 axis up S n (k + 1)) else 0)) else (r_L_isEdge_at32 axis up S n (k + 1))) else (if (nI k) = (r_X4_edge axis up S) then (r_L_isEdge_at32 axis up S n (k + 1)) else (if (r_X4_edge axis up S) < 0 then 0 else (if (r_X4_edge axis up S) < (nI k) then (r_L_isEdge_at32 axis up S n (k + 1)) else 0))))) else (if (r_X4_wouldTell ((S.1 7) / 16) ((S.1 8) / 16) S) < 0 then (if (nI k) = (r_X4_edge axis up S) then (if (r_X4_edge axis up S) < 0 then 0 else (if (r_X4_edge axis up S) < (nI k) then (r_L_isEdge_at32 axis up S n (k + 1)) else 0)) else (r_L_isEdge_at32 axis up S n (k + 1))) else (if (r_X4_wouldTell ((S.1 7) / 16) ((S.1 8) / 16) S) = 100100 then (if (nI k) = (r_X4_edge axis up S) then (if (r_X4_edge axis up S) < 0 then 0 else (if (r_X4_edge axis up S) < (nI k) then (r_L_isEdge_at32 axis up S n (k + 1)) else 0)) else (r_L_isEdge_at32 axis up S n (k + 1))) else (if (nI k) = (r_X4_edge axis up S) then (r_L_isEdge_at32 axis up S n (k + 1)) else (if (r_X4_edge axis up S) < 0 then 0 else (if (r_X4_edge axis up S) < (nI k) then (r_L_isEdge_at32 axis up S n (k + 1)) else 0))))))) else (if axis = 0 then (if (r_X4_wouldTell (((S.1 7) / 16) + (-(nI k))) ((S.1 8) / 16) S) < 0 then (if (nI k) = (r_X4_edge axis up S) then (if (r_X4_edge axis up S) < 0 then 0 else (if (r_X4_edge axis up S) < (nI k) then (r_L_isEdge_at32 axis up S n (k + 1)) else 0)) else (r_L_isEdge_at32 axis up S n (k + 1))) else (if (r_X4_wouldTell (((S.1 7) / 16) + (-(nI k))) ((S.1 8) / 16) S) = 100100 then (if (nI k) = (r_X4_edge axis up S) then (if (r_X4_edge axis up S) < 0 then 0 else (if (r_X4_edge axis up S) < (nI k) then (r_L_isEdge_at32 axis up S n (k + 1)) else 0)) else (r_L_isEdge_at32 axis up S n (k + 1))) else (if (nI k) = (r_X4_edge axis up S) then (r_L_isEdge_at32 axis up S n (k + 1)) else (if (r_X4_edge axis up S) < 0 then 0 else (if (r_X4_edge axis up S) < (nI k) then (r_L_isEdge_at32 axis up S n (k + 1)) else 0))))) else (if axis = 1 then (if (r_X4_wouldTell ((S.1 7) / 16) (((S.1 8) / 16) + (-(nI k))) S) < 0 then (if (nI k) = (r_X4_edge axis up S) then (if (r_X4_edge axis up S) < 0 then 0 else (if (r_X4_edge axis up S) < (nI k) then (r_L_isEdge_at32 axis up S n (k + 1)) else 0)) else (r_L_isEdge_at32 axis up S n (k + 1))) else (if (r_X4_wouldTell ((S.1 7) / 16) (((S.1 8) / 16) + (-(nI k))) S) = 100100 then (if (nI k) = (r_X4_edge axis up S) then (if (r_X4_edge axis up S) < 0 then 0 else (if (r_X4_edge axis up S) < (nI k) then (r_L_isEdge_at32 axis up S n (k + 1)) else 0)) else (r_L_isEdge_at32 axis up S n (k + 1))) else (if (nI k) = (r_X4_edge axis up S) then (r_L_isEdge_at32 axis up S n (k + 1)) else (if (r_X4_edge axis up S) < 0 then 0 else (if (r_X4_edge axis up S) < (nI k) then (r_L_isEdge_at32 axis up S n (k + 1)) else 0))))) else (if (r_X4_wouldTell ((S.1 7) / 16) ((S.1 8) / 16) S) < 0 then (if (nI k) = (r_X4_edge axis up S) then (if (r_X4_edge axis up S) < 0 then 0 else (if (r_X4_edge axis up S) < (nI k) then (r_L_isEdge_at32 axis up S n (k + 1)) else 0)) else (r_L_isEdge_at32 axis up S n (k + 1))) else (if (r_X4_wouldTell ((S.1 7) / 16) ((S.1 8) / 16) S) = 100100 then (if (nI k) = (r_X4_edge axis up S) then (if (r_X4_edge axis up S) < 0 then 0 else (if (r_X4_edge axis up S) < (nI k) then (r_L_isEdge_at32 axis up S n (k + 1)) else 0)) else (r_L_isEdge_at32 axis up S n (k + 1))) else (if (nI k) = (r_X4_edge axis up S) then (r_L_isEdge_at32 axis up S n (k + 1)) else (if (r_X4_edge axis up S) < 0 then 0 else (if (r_X4_edge axis up S) < (nI k) then (r_L_isEdge_at32 axis up S n (k + 1)) else 0))))))))
def r_L_isEdge (axis : Int32) (up : Int32) (S : SS) : Int32 := r_L_isEdge_at32 axis up S 257 1
set_option maxHeartbeats 1000000 in
set_option maxRecDepth 100000 in
theorem s_L_isEdge_32 (d : gD) (x : Nat → Nat) (a : Nat → Nat) (b : Nat → Nat) (c : Nat → Nat) (e : Nat → Nat) (axis : Int32) (up : Int32) (p : Nat → Nat → Nat) (q : Nat → Nat → Nat) (S : SS) (T : SS) (h : Nat → Int32) (t : Nat → Int32) (y : HS) (ss : Nat → Option SS)  {X : gX} (E : gE d X RL cL_isEdge 10 R_L_isEdge) : ∀ (n : Nat) (k : Nat) (hk : k ≤ 256) (hm : 256 - k < n) (RET : ∀ (pc_ : Nat) (lv_ : List (Nat × Value)) (v_ : Int32) (u_ : va_W), decode cL_isEdge pc_ = .ok (.ireturn, 1) → narrow .boolean (.int v_) = .int v_ → v_ = r_L_isEdge_at32 axis up S n k → u_ = XW d (x, a, b, c, e) p q S T h t y ss → G d X u_ R_L_isEdge.cells R_L_isEdge.slots pc_ lv_ [.int v_]), G d X (XW d (x, a, b, c, e) p q S T h t y ss) 0 0 32 [(0, .ref (x 0)), (1, .int axis), (2, .int up), (3, .int (r_X4_edge axis up S)), (4, .int ((S.1 7) / 16)), (5, .int ((S.1 8) / 16)), (6, .int (nI k))] [] := by
  intro n
  induction n with
  | zero => intro k hk hm; omega
  | succ n ih =>
    intro k hk hm RET
    obtain ⟨v1_, hv1_⟩ : ∃ z, r_X4_edge axis up S = z := ⟨_, rfl⟩
    rw [hv1_]
    refine g_iload E 6 dL_isEdge_32 rfl ?_
    refine g_sipush E 255 dL_isEdge_34 (by decide) ?_
    refine g_icmpgt E 143 dL_isEdge_37 (by decide) (fun c_37 => ?_) (fun c_37 => ?_)
    · skip
      refine g_iload_n E 3 dL_isEdge_143 rfl rfl ?_
      refine g_bipush E (-6) dL_isEdge_144 (by decide) ?_
      refine g_icmpeq E 160 dL_isEdge_146 (by decide) (fun c_146 => ?_) (fun c_146 => ?_)
      · skip
        refine g_iconst E 1 dL_isEdge_160 (by decide) ?_
        refine g_goto E 165 dL_isEdge_161 (by decide) ?_
        subst hv1_
        exact RET 165 _ 1 _ dL_isEdge_165 rfl (by rw [r_L_isEdge_at32, if_pos c_37, if_pos c_146]) rfl
      · skip
        refine g_iload_n E 3 dL_isEdge_149 rfl rfl ?_
        refine g_ifle E 164 dL_isEdge_150 (by decide) (fun c_150 => ?_) (fun c_150 => ?_)
        · skip
          refine g_iconst E 0 dL_isEdge_164 (by decide) ?_
          subst hv1_
          exact RET 165 _ 0 _ dL_isEdge_165 rfl (by rw [r_L_isEdge_at32, if_pos c_37, if_neg c_146, if_neg c_150]) rfl
        · skip
          refine g_iload_n E 3 dL_isEdge_153 rfl rfl ?_
          refine g_sipush E 256 dL_isEdge_154 (by decide) ?_
          refine g_icmpge E 164 dL_isEdge_157 (by decide) (fun c_157 => ?_) (fun c_157 => ?_)
          · skip
            refine g_iconst E 0 dL_isEdge_164 (by decide) ?_
            subst hv1_
            exact RET 165 _ 0 _ dL_isEdge_165 rfl (by rw [r_L_isEdge_at32, if_pos c_37, if_neg c_146, if_pos c_150, if_neg c_157]) rfl
          · skip
            refine g_iconst E 1 dL_isEdge_160 (by decide) ?_
            refine g_goto E 165 dL_isEdge_161 (by decide) ?_
            subst hv1_
            exact RET 165 _ 1 _ dL_isEdge_165 rfl (by rw [r_L_isEdge_at32, if_pos c_37, if_neg c_146, if_pos c_150, if_pos c_157]) rfl
    · skip
      have k37 : ¬ 255 < k := fun q => c_37 ((nI_ltI (a := 255) (b := k) (by omega) (by omega)).mpr q)
      refine g_iload_n E 2 dL_isEdge_40 rfl rfl ?_
      refine g_iconst E 1 dL_isEdge_41 (by decide) ?_
      refine g_icmpne E 50 dL_isEdge_42 (by decide) (fun c_42 => ?_) (fun c_42 => ?_)
      · skip
        refine g_iload E 6 dL_isEdge_50 rfl ?_
        refine g_ineg E dL_isEdge_52 ?_
        refine g_istore E (lv' := [(7, .int (-(nI k))), (0, .ref (x 0)), (1, .int axis), (2, .int up), (3, .int v1_), (4, .int ((S.1 7) / 16)), (5, .int ((S.1 8) / 16)), (6, .int (nI k))]) dL_isEdge_53 (by decide) rfl ?_
        refine g_aload_n E 1 dL_isEdge_55 rfl rfl ?_
        refine g_iload_n E 2 dL_isEdge_56 rfl rfl ?_
        refine g_ifne E 68 dL_isEdge_57 (by decide) (fun c_57 => ?_) (fun c_57 => ?_)
        · skip
          refine g_iload E 5 dL_isEdge_68 rfl ?_
          refine g_iload_n E 2 dL_isEdge_70 rfl rfl ?_
          refine g_iconst E 1 dL_isEdge_71 (by decide) ?_
          refine g_icmpne E 83 dL_isEdge_72 (by decide) (fun c_72 => ?_) (fun c_72 => ?_)
          · skip
            refine g_iload E 6 dL_isEdge_83 rfl ?_
            refine g_callVi0 E gc_X4_wouldTell ml_L_29 (t_X4_wouldTell d x a b c e ((S.1 7) / 16) ((S.1 8) / 16) p q S T h t y ss ) rfl rfl (ci := 4) 0 rfl rfl rfl rfl (ok_le rfl) ⟨ok_le rfl, ok_le rfl, ok_le rfl, ok_le rfl⟩ rfl rfl dL_isEdge_85 ?_
            refine g_nm (fun v4_ hv4_ => ?_)
            refine g_istore E (lv' := [(8, .int v4_), (7, .int (-(nI k))), (0, .ref (x 0)), (1, .int axis), (2, .int up), (3, .int v1_), (4, .int ((S.1 7) / 16)), (5, .int ((S.1 8) / 16)), (6, .int (nI k))]) dL_isEdge_88 (by decide) rfl ?_
            refine g_iload E 0 dL_isEdge_90 rfl ?_
            refine g_iflt E 106 dL_isEdge_92 (by decide) (fun c_92 => ?_) (fun c_92 => ?_)
            · skip
              refine g_iconst E 0 dL_isEdge_106 (by decide) ?_
              refine g_istore E (lv' := [(9, .int 0), (8, .int v4_), (7, .int (-(nI k))), (0, .ref (x 0)), (1, .int axis), (2, .int up), (3, .int v1_), (4, .int ((S.1 7) / 16)), (5, .int ((S.1 8) / 16)), (6, .int (nI k))]) dL_isEdge_107 (by decide) rfl ?_
              refine g_iload E 0 dL_isEdge_109 rfl ?_
              refine g_iload E 9 dL_isEdge_111 rfl ?_
              refine g_iload_n E 6 dL_isEdge_113 rfl rfl ?_
              refine g_icmpne E 121 dL_isEdge_114 (by decide) (fun c_114 => ?_) (fun c_114 => ?_)
              · skip
                refine g_iconst E 0 dL_isEdge_121 (by decide) ?_
                refine g_icmpeq E 137 dL_isEdge_122 (by decide) (fun _ => ?_) (fun q_ => absurd q_ (by decide))
                refine g_iinc E (j := 9) (v := (nI (k + 1))) (lv' := [(6, .int (nI (k + 1))), (9, .int 0), (8, .int v4_), (7, .int (-(nI k))), (0, .ref (x 0)), (1, .int axis), (2, .int up), (3, .int v1_), (4, .int ((S.1 7) / 16)), (5, .int ((S.1 8) / 16))]) dL_isEdge_137 rfl (nI_1 _) (by decide) rfl ?_
                refine g_goto E 32 dL_isEdge_140 (by decide) ?_
                refine g_lvs (lv' := [(0, .ref (x 0)), (1, .int axis), (2, .int up), (3, .int v1_), (4, .int ((S.1 7) / 16)), (5, .int ((S.1 8) / 16)), (6, .int (nI (k + 1)))]) [4, 5, 6, 7, 8, 9, 0] rfl ?_
                subst hv4_
                subst hv1_
                exact ih (k + 1) (by omega) (by omega) (fun pc_ lv_ v_ u_ h1_ h2_ h3_ h4_ => RET pc_ lv_ v_ u_ h1_ h2_ (h3_.trans (by rw [r_L_isEdge_at32, if_neg c_37, if_neg c_42, if_neg c_57, if_neg c_72, if_pos c_92, if_neg c_114])) h4_)
              · skip
                refine g_iconst E 1 dL_isEdge_117 (by decide) ?_
                refine g_goto E 122 dL_isEdge_118 (by decide) ?_
                refine g_icmpeq E 137 dL_isEdge_122 (by decide) (fun q_ => absurd q_ (by decide)) (fun _ => ?_)
                refine g_iload_n E 6 dL_isEdge_125 rfl rfl ?_
                refine g_iflt E 135 dL_isEdge_126 (by decide) (fun c_126 => ?_) (fun c_126 => ?_)
                · skip
                  refine g_iconst E 0 dL_isEdge_135 (by decide) ?_
                  subst hv4_
                  subst hv1_
                  exact RET 136 _ 0 _ dL_isEdge_136 rfl (by rw [r_L_isEdge_at32, if_neg c_37, if_neg c_42, if_neg c_57, if_neg c_72, if_pos c_92, if_pos c_114, if_pos c_126]) rfl
                · skip
                  refine g_iload E 9 dL_isEdge_129 rfl ?_
                  refine g_iload_n E 6 dL_isEdge_131 rfl rfl ?_
                  refine g_icmpgt E 137 dL_isEdge_132 (by decide) (fun c_132 => ?_) (fun c_132 => ?_)
                  · skip
                    refine g_iinc E (j := 9) (v := (nI (k + 1))) (lv' := [(6, .int (nI (k + 1))), (9, .int 0), (8, .int v4_), (7, .int (-(nI k))), (0, .ref (x 0)), (1, .int axis), (2, .int up), (3, .int v1_), (4, .int ((S.1 7) / 16)), (5, .int ((S.1 8) / 16))]) dL_isEdge_137 rfl (nI_1 _) (by decide) rfl ?_
                    refine g_goto E 32 dL_isEdge_140 (by decide) ?_
                    refine g_lvs (lv' := [(0, .ref (x 0)), (1, .int axis), (2, .int up), (3, .int v1_), (4, .int ((S.1 7) / 16)), (5, .int ((S.1 8) / 16)), (6, .int (nI (k + 1)))]) [4, 5, 6, 7, 8, 9, 0] rfl ?_
                    subst hv4_
                    subst hv1_
                    exact ih (k + 1) (by omega) (by omega) (fun pc_ lv_ v_ u_ h1_ h2_ h3_ h4_ => RET pc_ lv_ v_ u_ h1_ h2_ (h3_.trans (by rw [r_L_isEdge_at32, if_neg c_37, if_neg c_42, if_neg c_57, if_neg c_72, if_pos c_92, if_pos c_114, if_neg c_126, if_pos c_132])) h4_)
                  · skip
                    refine g_iconst E 0 dL_isEdge_135 (by decide) ?_
                    subst hv4_
                    subst hv1_
                    exact RET 136 _ 0 _ dL_isEdge_136 rfl (by rw [r_L_isEdge_at32, if_neg c_37, if_neg c_42, if_neg c_57, if_neg c_72, if_pos c_92, if_pos c_114, if_neg c_126, if_neg c_132]) rfl
            · skip
              refine g_iload E 0 dL_isEdge_95 rfl ?_
              refine g_ldc E ki_L_50 dL_isEdge_97 ?_
              refine g_icmpeq E 106 dL_isEdge_99 (by decide) (fun c_99 => ?_) (fun c_99 => ?_)
              · skip
                refine g_iconst E 0 dL_isEdge_106 (by decide) ?_
                refine g_istore E (lv' := [(9, .int 0), (8, .int v4_), (7, .int (-(nI k))), (0, .ref (x 0)), (1, .int axis), (2, .int up), (3, .int v1_), (4, .int ((S.1 7) / 16)), (5, .int ((S.1 8) / 16)), (6, .int (nI k))]) dL_isEdge_107 (by decide) rfl ?_
                refine g_iload E 0 dL_isEdge_109 rfl ?_
                refine g_iload E 9 dL_isEdge_111 rfl ?_
                refine g_iload_n E 6 dL_isEdge_113 rfl rfl ?_
                refine g_icmpne E 121 dL_isEdge_114 (by decide) (fun c_114 => ?_) (fun c_114 => ?_)
                · skip
                  refine g_iconst E 0 dL_isEdge_121 (by decide) ?_
                  refine g_icmpeq E 137 dL_isEdge_122 (by decide) (fun _ => ?_) (fun q_ => absurd q_ (by decide))
                  refine g_iinc E (j := 9) (v := (nI (k + 1))) (lv' := [(6, .int (nI (k + 1))), (9, .int 0), (8, .int v4_), (7, .int (-(nI k))), (0, .ref (x 0)), (1, .int axis), (2, .int up), (3, .int v1_), (4, .int ((S.1 7) / 16)), (5, .int ((S.1 8) / 16))]) dL_isEdge_137 rfl (nI_1 _) (by decide) rfl ?_
                  refine g_goto E 32 dL_isEdge_140 (by decide) ?_
                  refine g_lvs (lv' := [(0, .ref (x 0)), (1, .int axis), (2, .int up), (3, .int v1_), (4, .int ((S.1 7) / 16)), (5, .int ((S.1 8) / 16)), (6, .int (nI (k + 1)))]) [4, 5, 6, 7, 8, 9, 0] rfl ?_
                  subst hv4_
                  subst hv1_
                  exact ih (k + 1) (by omega) (by omega) (fun pc_ lv_ v_ u_ h1_ h2_ h3_ h4_ => RET pc_ lv_ v_ u_ h1_ h2_ (h3_.trans (by rw [r_L_isEdge_at32, if_neg c_37, if_neg c_42, if_neg c_57, if_neg c_72, if_neg c_92, if_pos c_99, if_neg c_114])) h4_)
                · skip
                  refine g_iconst E 1 dL_isEdge_117 (by decide) ?_
                  refine g_goto E 122 dL_isEdge_118 (by decide) ?_
                  refine g_icmpeq E 137 dL_isEdge_122 (by decide) (fun q_ => absurd q_ (by decide)) (fun _ => ?_)
                  refine g_iload_n E 6 dL_isEdge_125 rfl rfl ?_
                  refine g_iflt E 135 dL_isEdge_126 (by decide) (fun c_126 => ?_) (fun c_126 => ?_)
                  · skip
                    refine g_iconst E 0 dL_isEdge_135 (by decide) ?_
                    subst hv4_
                    subst hv1_
                    exact RET 136 _ 0 _ dL_isEdge_136 rfl (by rw [r_L_isEdge_at32, if_neg c_37, if_neg c_42, if_neg c_57, if_neg c_72, if_neg c_92, if_pos c_99, if_pos c_114, if_pos c_126]) rfl
                  · skip
                    refine g_iload E 9 dL_isEdge_129 rfl ?_
                    refine g_iload_n E 6 dL_isEdge_131 rfl rfl ?_
                    refine g_icmpgt E 137 dL_isEdge_132 (by decide) (fun c_132 => ?_) (fun c_132 => ?_)
                    · skip
                      refine g_iinc E (j := 9) (v := (nI (k + 1))) (lv' := [(6, .int (nI (k + 1))), (9, .int 0), (8, .int v4_), (7, .int (-(nI k))), (0, .ref (x 0)), (1, .int axis), (2, .int up), (3, .int v1_), (4, .int ((S.1 7) / 16)), (5, .int ((S.1 8) / 16))]) dL_isEdge_137 rfl (nI_1 _) (by decide) rfl ?_
                      refine g_goto E 32 dL_isEdge_140 (by decide) ?_
                      refine g_lvs (lv' := [(0, .ref (x 0)), (1, .int axis), (2, .int up), (3, .int v1_), (4, .int ((S.1 7) / 16)), (5, .int ((S.1 8) / 16)), (6, .int (nI (k + 1)))]) [4, 5, 6, 7, 8, 9, 0] rfl ?_
                      subst hv4_
                      subst hv1_
                      exact ih (k + 1) (by omega) (by omega) (fun pc_ lv_ v_ u_ h1_ h2_ h3_ h4_ => RET pc_ lv_ v_ u_ h1_ h2_ (h3_.trans (by rw [r_L_isEdge_at32, if_neg c_37, if_neg c_42, if_neg c_57, if_neg c_72, if_neg c_92, if_pos c_99, if_pos c_114, if_neg c_126, if_pos c_132])) h4_)
                    · skip
                      refine g_iconst E 0 dL_isEdge_135 (by decide) ?_
                      subst hv4_
                      subst hv1_
                      exact RET 136 _ 0 _ dL_isEdge_136 rfl (by rw [r_L_isEdge_at32, if_neg c_37, if_neg c_42, if_neg c_57, if_neg c_72, if_neg c_92, if_pos c_99, if_pos c_114, if_neg c_126, if_neg c_132]) rfl
              · skip
                refine g_iconst E 1 dL_isEdge_102 (by decide) ?_
                refine g_goto E 107 dL_isEdge_103 (by decide) ?_
                refine g_istore E (lv' := [(9, .int 1), (8, .int v4_), (7, .int (-(nI k))), (0, .ref (x 0)), (1, .int axis), (2, .int up), (3, .int v1_), (4, .int ((S.1 7) / 16)), (5, .int ((S.1 8) / 16)), (6, .int (nI k))]) dL_isEdge_107 (by decide) rfl ?_
                refine g_iload E 0 dL_isEdge_109 rfl ?_
                refine g_iload E 9 dL_isEdge_111 rfl ?_
                refine g_iload_n E 6 dL_isEdge_113 rfl rfl ?_
                refine g_icmpne E 121 dL_isEdge_114 (by decide) (fun c_114 => ?_) (fun c_114 => ?_)
                · skip
                  refine g_iconst E 0 dL_isEdge_121 (by decide) ?_
                  refine g_icmpeq E 137 dL_isEdge_122 (by decide) (fun q_ => absurd q_ (by decide)) (fun _ => ?_)
                  refine g_iload_n E 6 dL_isEdge_125 rfl rfl ?_
                  refine g_iflt E 135 dL_isEdge_126 (by decide) (fun c_126 => ?_) (fun c_126 => ?_)
                  · skip
                    refine g_iconst E 0 dL_isEdge_135 (by decide) ?_
                    subst hv4_
                    subst hv1_
                    exact RET 136 _ 0 _ dL_isEdge_136 rfl (by rw [r_L_isEdge_at32, if_neg c_37, if_neg c_42, if_neg c_57, if_neg c_72, if_neg c_92, if_neg c_99, if_neg c_114, if_pos c_126]) rfl
                  · skip
                    refine g_iload E 9 dL_isEdge_129 rfl ?_
                    refine g_iload_n E 6 dL_isEdge_131 rfl rfl ?_
                    refine g_icmpgt E 137 dL_isEdge_132 (by decide) (fun c_132 => ?_) (fun c_132 => ?_)
                    · skip
                      refine g_iinc E (j := 9) (v := (nI (k + 1))) (lv' := [(6, .int (nI (k + 1))), (9, .int 1), (8, .int v4_), (7, .int (-(nI k))), (0, .ref (x 0)), (1, .int axis), (2, .int up), (3, .int v1_), (4, .int ((S.1 7) / 16)), (5, .int ((S.1 8) / 16))]) dL_isEdge_137 rfl (nI_1 _) (by decide) rfl ?_
                      refine g_goto E 32 dL_isEdge_140 (by decide) ?_
                      refine g_lvs (lv' := [(0, .ref (x 0)), (1, .int axis), (2, .int up), (3, .int v1_), (4, .int ((S.1 7) / 16)), (5, .int ((S.1 8) / 16)), (6, .int (nI (k + 1)))]) [4, 5, 6, 7, 8, 9, 0] rfl ?_
                      subst hv4_
                      subst hv1_
                      exact ih (k + 1) (by omega) (by omega) (fun pc_ lv_ v_ u_ h1_ h2_ h3_ h4_ => RET pc_ lv_ v_ u_ h1_ h2_ (h3_.trans (by rw [r_L_isEdge_at32, if_neg c_37, if_neg c_42, if_neg c_57, if_neg c_72, if_neg c_92, if_neg c_99, if_neg c_114, if_neg c_126, if_pos c_132])) h4_)
                    · skip
                      refine g_iconst E 0 dL_isEdge_135 (by decide) ?_
                      subst hv4_
                      subst hv1_
                      exact RET 136 _ 0 _ dL_isEdge_136 rfl (by rw [r_L_isEdge_at32, if_neg c_37, if_neg c_42, if_neg c_57, if_neg c_72, if_neg c_92, if_neg c_99, if_neg c_114, if_neg c_126, if_neg c_132]) rfl
                · skip
                  refine g_iconst E 1 dL_isEdge_117 (by decide) ?_
                  refine g_goto E 122 dL_isEdge_118 (by decide) ?_
                  refine g_icmpeq E 137 dL_isEdge_122 (by decide) (fun _ => ?_) (fun q_ => absurd q_ (by decide))
                  refine g_iinc E (j := 9) (v := (nI (k + 1))) (lv' := [(6, .int (nI (k + 1))), (9, .int 1), (8, .int v4_), (7, .int (-(nI k))), (0, .ref (x 0)), (1, .int axis), (2, .int up), (3, .int v1_), (4, .int ((S.1 7) / 16)), (5, .int ((S.1 8) / 16))]) dL_isEdge_137 rfl (nI_1 _) (by decide) rfl ?_
                  refine g_goto E 32 dL_isEdge_140 (by decide) ?_
                  refine g_lvs (lv' := [(0, .ref (x 0)), (1, .int axis), (2, .int up), (3, .int v1_), (4, .int ((S.1 7) / 16)), (5, .int ((S.1 8) / 16)), (6, .int (nI (k + 1)))]) [4, 5, 6, 7, 8, 9, 0] rfl ?_
                  subst hv4_
                  subst hv1_
                  exact ih (k + 1) (by omega) (by omega) (fun pc_ lv_ v_ u_ h1_ h2_ h3_ h4_ => RET pc_ lv_ v_ u_ h1_ h2_ (h3_.trans (by rw [r_L_isEdge_at32, if_neg c_37, if_neg c_42, if_neg c_57, if_neg c_72, if_neg c_92, if_neg c_99, if_pos c_114])) h4_)
          · skip
            refine g_iload E 6 dL_isEdge_75 rfl ?_
            refine g_iload E 0 dL_isEdge_77 rfl ?_
            refine g_iadd E dL_isEdge_79 ?_
            refine g_goto E 85 dL_isEdge_80 (by decide) ?_
            refine g_callVi0 E gc_X4_wouldTell ml_L_29 (t_X4_wouldTell d x a b c e ((S.1 7) / 16) (((S.1 8) / 16) + (-(nI k))) p q S T h t y ss ) rfl rfl (ci := 4) 0 rfl rfl rfl rfl (ok_le rfl) ⟨ok_le rfl, ok_le rfl, ok_le rfl, ok_le rfl⟩ rfl rfl dL_isEdge_85 ?_
            refine g_nm (fun v5_ hv5_ => ?_)
            refine g_istore E (lv' := [(8, .int v5_), (7, .int (-(nI k))), (0, .ref (x 0)), (1, .int axis), (2, .int up), (3, .int v1_), (4, .int ((S.1 7) / 16)), (5, .int ((S.1 8) / 16)), (6, .int (nI k))]) dL_isEdge_88 (by decide) rfl ?_
            refine g_iload E 0 dL_isEdge_90 rfl ?_
            refine g_iflt E 106 dL_isEdge_92 (by decide) (fun c_92 => ?_) (fun c_92 => ?_)
            · skip
              refine g_iconst E 0 dL_isEdge_106 (by decide) ?_
              refine g_istore E (lv' := [(9, .int 0), (8, .int v5_), (7, .int (-(nI k))), (0, .ref (x 0)), (1, .int axis), (2, .int up), (3, .int v1_), (4, .int ((S.1 7) / 16)), (5, .int ((S.1 8) / 16)), (6, .int (nI k))]) dL_isEdge_107 (by decide) rfl ?_
              refine g_iload E 0 dL_isEdge_109 rfl ?_
              refine g_iload E 9 dL_isEdge_111 rfl ?_
              refine g_iload_n E 6 dL_isEdge_113 rfl rfl ?_
              refine g_icmpne E 121 dL_isEdge_114 (by decide) (fun c_114 => ?_) (fun c_114 => ?_)
              · skip
                refine g_iconst E 0 dL_isEdge_121 (by decide) ?_
                refine g_icmpeq E 137 dL_isEdge_122 (by decide) (fun _ => ?_) (fun q_ => absurd q_ (by decide))
                refine g_iinc E (j := 9) (v := (nI (k + 1))) (lv' := [(6, .int (nI (k + 1))), (9, .int 0), (8, .int v5_), (7, .int (-(nI k))), (0, .ref (x 0)), (1, .int axis), (2, .int up), (3, .int v1_), (4, .int ((S.1 7) / 16)), (5, .int ((S.1 8) / 16))]) dL_isEdge_137 rfl (nI_1 _) (by decide) rfl ?_
                refine g_goto E 32 dL_isEdge_140 (by decide) ?_
                refine g_lvs (lv' := [(0, .ref (x 0)), (1, .int axis), (2, .int up), (3, .int v1_), (4, .int ((S.1 7) / 16)), (5, .int ((S.1 8) / 16)), (6, .int (nI (k + 1)))]) [4, 5, 6, 7, 8, 9, 0] rfl ?_
                subst hv5_
                subst hv1_
                exact ih (k + 1) (by omega) (by omega) (fun pc_ lv_ v_ u_ h1_ h2_ h3_ h4_ => RET pc_ lv_ v_ u_ h1_ h2_ (h3_.trans (by rw [r_L_isEdge_at32, if_neg c_37, if_neg c_42, if_neg c_57, if_pos c_72, if_pos c_92, if_neg c_114])) h4_)
              · skip
                refine g_iconst E 1 dL_isEdge_117 (by decide) ?_
                refine g_goto E 122 dL_isEdge_118 (by decide) ?_
                refine g_icmpeq E 137 dL_isEdge_122 (by decide) (fun q_ => absurd q_ (by decide)) (fun _ => ?_)
                refine g_iload_n E 6 dL_isEdge_125 rfl rfl ?_
                refine g_iflt E 135 dL_isEdge_126 (by decide) (fun c_126 => ?_) (fun c_126 => ?_)
                · skip
                  refine g_iconst E 0 dL_isEdge_135 (by decide) ?_
                  subst hv5_
                  subst hv1_
                  exact RET 136 _ 0 _ dL_isEdge_136 rfl (by rw [r_L_isEdge_at32, if_neg c_37, if_neg c_42, if_neg c_57, if_pos c_72, if_pos c_92, if_pos c_114, if_pos c_126]) rfl
                · skip
                  refine g_iload E 9 dL_isEdge_129 rfl ?_
                  refine g_iload_n E 6 dL_isEdge_131 rfl rfl ?_
                  refine g_icmpgt E 137 dL_isEdge_132 (by decide) (fun c_132 => ?_) (fun c_132 => ?_)
                  · skip
                    refine g_iinc E (j := 9) (v := (nI (k + 1))) (lv' := [(6, .int (nI (k + 1))), (9, .int 0), (8, .int v5_), (7, .int (-(nI k))), (0, .ref (x 0)), (1, .int axis), (2, .int up), (3, .int v1_), (4, .int ((S.1 7) / 16)), (5, .int ((S.1 8) / 16))]) dL_isEdge_137 rfl (nI_1 _) (by decide) rfl ?_
                    refine g_goto E 32 dL_isEdge_140 (by decide) ?_
                    refine g_lvs (lv' := [(0, .ref (x 0)), (1, .int axis), (2, .int up), (3, .int v1_), (4, .int ((S.1 7) / 16)), (5, .int ((S.1 8) / 16)), (6, .int (nI (k + 1)))]) [4, 5, 6, 7, 8, 9, 0] rfl ?_
                    subst hv5_
                    subst hv1_
                    exact ih (k + 1) (by omega) (by omega) (fun pc_ lv_ v_ u_ h1_ h2_ h3_ h4_ => RET pc_ lv_ v_ u_ h1_ h2_ (h3_.trans (by rw [r_L_isEdge_at32, if_neg c_37, if_neg c_42, if_neg c_57, if_pos c_72, if_pos c_92, if_pos c_114, if_neg c_126, if_pos c_132])) h4_)
                  · skip
                    refine g_iconst E 0 dL_isEdge_135 (by decide) ?_
                    subst hv5_
                    subst hv1_
                    exact RET 136 _ 0 _ dL_isEdge_136 rfl (by rw [r_L_isEdge_at32, if_neg c_37, if_neg c_42, if_neg c_57, if_pos c_72, if_pos c_92, if_pos c_114, if_neg c_126, if_neg c_132]) rfl
            · skip
              refine g_iload E 0 dL_isEdge_95 rfl ?_
              refine g_ldc E ki_L_50 dL_isEdge_97 ?_
              refine g_icmpeq E 106 dL_isEdge_99 (by decide) (fun c_99 => ?_) (fun c_99 => ?_)
              · skip
                refine g_iconst E 0 dL_isEdge_106 (by decide) ?_
                refine g_istore E (lv' := [(9, .int 0), (8, .int v5_), (7, .int (-(nI k))), (0, .ref (x 0)), (1, .int axis), (2, .int up), (3, .int v1_), (4, .int ((S.1 7) / 16)), (5, .int ((S.1 8) / 16)), (6, .int (nI k))]) dL_isEdge_107 (by decide) rfl ?_
                refine g_iload E 0 dL_isEdge_109 rfl ?_
                refine g_iload E 9 dL_isEdge_111 rfl ?_
                refine g_iload_n E 6 dL_isEdge_113 rfl rfl ?_
                refine g_icmpne E 121 dL_isEdge_114 (by decide) (fun c_114 => ?_) (fun c_114 => ?_)
                · skip
                  refine g_iconst E 0 dL_isEdge_121 (by decide) ?_
                  refine g_icmpeq E 137 dL_isEdge_122 (by decide) (fun _ => ?_) (fun q_ => absurd q_ (by decide))
                  refine g_iinc E (j := 9) (v := (nI (k + 1))) (lv' := [(6, .int (nI (k + 1))), (9, .int 0), (8, .int v5_), (7, .int (-(nI k))), (0, .ref (x 0)), (1, .int axis), (2, .int up), (3, .int v1_), (4, .int ((S.1 7) / 16)), (5, .int ((S.1 8) / 16))]) dL_isEdge_137 rfl (nI_1 _) (by decide) rfl ?_
                  refine g_goto E 32 dL_isEdge_140 (by decide) ?_
                  refine g_lvs (lv' := [(0, .ref (x 0)), (1, .int axis), (2, .int up), (3, .int v1_), (4, .int ((S.1 7) / 16)), (5, .int ((S.1 8) / 16)), (6, .int (nI (k + 1)))]) [4, 5, 6, 7, 8, 9, 0] rfl ?_
                  subst hv5_
                  subst hv1_
                  exact ih (k + 1) (by omega) (by omega) (fun pc_ lv_ v_ u_ h1_ h2_ h3_ h4_ => RET pc_ lv_ v_ u_ h1_ h2_ (h3_.trans (by rw [r_L_isEdge_at32, if_neg c_37, if_neg c_42, if_neg c_57, if_pos c_72, if_neg c_92, if_pos c_99, if_neg c_114])) h4_)
                · skip
                  refine g_iconst E 1 dL_isEdge_117 (by decide) ?_
                  refine g_goto E 122 dL_isEdge_118 (by decide) ?_
                  refine g_icmpeq E 137 dL_isEdge_122 (by decide) (fun q_ => absurd q_ (by decide)) (fun _ => ?_)
                  refine g_iload_n E 6 dL_isEdge_125 rfl rfl ?_
                  refine g_iflt E 135 dL_isEdge_126 (by decide) (fun c_126 => ?_) (fun c_126 => ?_)
                  · skip
                    refine g_iconst E 0 dL_isEdge_135 (by decide) ?_
                    subst hv5_
                    subst hv1_
                    exact RET 136 _ 0 _ dL_isEdge_136 rfl (by rw [r_L_isEdge_at32, if_neg c_37, if_neg c_42, if_neg c_57, if_pos c_72, if_neg c_92, if_pos c_99, if_pos c_114, if_pos c_126]) rfl
                  · skip
                    refine g_iload E 9 dL_isEdge_129 rfl ?_
                    refine g_iload_n E 6 dL_isEdge_131 rfl rfl ?_
                    refine g_icmpgt E 137 dL_isEdge_132 (by decide) (fun c_132 => ?_) (fun c_132 => ?_)
                    · skip
                      refine g_iinc E (j := 9) (v := (nI (k + 1))) (lv' := [(6, .int (nI (k + 1))), (9, .int 0), (8, .int v5_), (7, .int (-(nI k))), (0, .ref (x 0)), (1, .int axis), (2, .int up), (3, .int v1_), (4, .int ((S.1 7) / 16)), (5, .int ((S.1 8) / 16))]) dL_isEdge_137 rfl (nI_1 _) (by decide) rfl ?_
                      refine g_goto E 32 dL_isEdge_140 (by decide) ?_
                      refine g_lvs (lv' := [(0, .ref (x 0)), (1, .int axis), (2, .int up), (3, .int v1_), (4, .int ((S.1 7) / 16)), (5, .int ((S.1 8) / 16)), (6, .int (nI (k + 1)))]) [4, 5, 6, 7, 8, 9, 0] rfl ?_
                      subst hv5_
                      subst hv1_
                      exact ih (k + 1) (by omega) (by omega) (fun pc_ lv_ v_ u_ h1_ h2_ h3_ h4_ => RET pc_ lv_ v_ u_ h1_ h2_ (h3_.trans (by rw [r_L_isEdge_at32, if_neg c_37, if_neg c_42, if_neg c_57, if_pos c_72, if_neg c_92, if_pos c_99, if_pos c_114, if_neg c_126, if_pos c_132])) h4_)
                    · skip
                      refine g_iconst E 0 dL_isEdge_135 (by decide) ?_
                      subst hv5_
                      subst hv1_
                      exact RET 136 _ 0 _ dL_isEdge_136 rfl (by rw [r_L_isEdge_at32, if_neg c_37, if_neg c_42, if_neg c_57, if_pos c_72, if_neg c_92, if_pos c_99, if_pos c_114, if_neg c_126, if_neg c_132]) rfl
              · skip
                refine g_iconst E 1 dL_isEdge_102 (by decide) ?_
                refine g_goto E 107 dL_isEdge_103 (by decide) ?_
                refine g_istore E (lv' := [(9, .int 1), (8, .int v5_), (7, .int (-(nI k))), (0, .ref (x 0)), (1, .int axis), (2, .int up), (3, .int v1_), (4, .int ((S.1 7) / 16)), (5, .int ((S.1 8) / 16)), (6, .int (nI k))]) dL_isEdge_107 (by decide) rfl ?_
                refine g_iload E 0 dL_isEdge_109 rfl ?_
                refine g_iload E 9 dL_isEdge_111 rfl ?_
                refine g_iload_n E 6 dL_isEdge_113 rfl rfl ?_
                refine g_icmpne E 121 dL_isEdge_114 (by decide) (fun c_114 => ?_) (fun c_114 => ?_)
                · skip
                  refine g_iconst E 0 dL_isEdge_121 (by decide) ?_
                  refine g_icmpeq E 137 dL_isEdge_122 (by decide) (fun q_ => absurd q_ (by decide)) (fun _ => ?_)
                  refine g_iload_n E 6 dL_isEdge_125 rfl rfl ?_
                  refine g_iflt E 135 dL_isEdge_126 (by decide) (fun c_126 => ?_) (fun c_126 => ?_)
                  · skip
                    refine g_iconst E 0 dL_isEdge_135 (by decide) ?_
                    subst hv5_
                    subst hv1_
                    exact RET 136 _ 0 _ dL_isEdge_136 rfl (by rw [r_L_isEdge_at32, if_neg c_37, if_neg c_42, if_neg c_57, if_pos c_72, if_neg c_92, if_neg c_99, if_neg c_114, if_pos c_126]) rfl
                  · skip
                    refine g_iload E 9 dL_isEdge_129 rfl ?_
                    refine g_iload_n E 6 dL_isEdge_131 rfl rfl ?_
                    refine g_icmpgt E 137 dL_isEdge_132 (by decide) (fun c_132 => ?_) (fun c_132 => ?_)
                    · skip
                      refine g_iinc E (j := 9) (v := (nI (k + 1))) (lv' := [(6, .int (nI (k + 1))), (9, .int 1), (8, .int v5_), (7, .int (-(nI k))), (0, .ref (x 0)), (1, .int axis), (2, .int up), (3, .int v1_), (4, .int ((S.1 7) / 16)), (5, .int ((S.1 8) / 16))]) dL_isEdge_137 rfl (nI_1 _) (by decide) rfl ?_
                      refine g_goto E 32 dL_isEdge_140 (by decide) ?_
                      refine g_lvs (lv' := [(0, .ref (x 0)), (1, .int axis), (2, .int up), (3, .int v1_), (4, .int ((S.1 7) / 16)), (5, .int ((S.1 8) / 16)), (6, .int (nI (k + 1)))]) [4, 5, 6, 7, 8, 9, 0] rfl ?_
                      subst hv5_
                      subst hv1_
                      exact ih (k + 1) (by omega) (by omega) (fun pc_ lv_ v_ u_ h1_ h2_ h3_ h4_ => RET pc_ lv_ v_ u_ h1_ h2_ (h3_.trans (by rw [r_L_isEdge_at32, if_neg c_37, if_neg c_42, if_neg c_57, if_pos c_72, if_neg c_92, if_neg c_99, if_neg c_114, if_neg c_126, if_pos c_132])) h4_)
                    · skip
                      refine g_iconst E 0 dL_isEdge_135 (by decide) ?_
                      subst hv5_
                      subst hv1_
                      exact RET 136 _ 0 _ dL_isEdge_136 rfl (by rw [r_L_isEdge_at32, if_neg c_37, if_neg c_42, if_neg c_57, if_pos c_72, if_neg c_92, if_neg c_99, if_neg c_114, if_neg c_126, if_neg c_132]) rfl
                · skip
                  refine g_iconst E 1 dL_isEdge_117 (by decide) ?_
                  refine g_goto E 122 dL_isEdge_118 (by decide) ?_
                  refine g_icmpeq E 137 dL_isEdge_122 (by decide) (fun _ => ?_) (fun q_ => absurd q_ (by decide))
                  refine g_iinc E (j := 9) (v := (nI (k + 1))) (lv' := [(6, .int (nI (k + 1))), (9, .int 1), (8, .int v5_), (7, .int (-(nI k))), (0, .ref (x 0)), (1, .int axis), (2, .int up), (3, .int v1_), (4, .int ((S.1 7) / 16)), (5, .int ((S.1 8) / 16))]) dL_isEdge_137 rfl (nI_1 _) (by decide) rfl ?_
                  refine g_goto E 32 dL_isEdge_140 (by decide) ?_
                  refine g_lvs (lv' := [(0, .ref (x 0)), (1, .int axis), (2, .int up), (3, .int v1_), (4, .int ((S.1 7) / 16)), (5, .int ((S.1 8) / 16)), (6, .int (nI (k + 1)))]) [4, 5, 6, 7, 8, 9, 0] rfl ?_
                  subst hv5_
                  subst hv1_
                  exact ih (k + 1) (by omega) (by omega) (fun pc_ lv_ v_ u_ h1_ h2_ h3_ h4_ => RET pc_ lv_ v_ u_ h1_ h2_ (h3_.trans (by rw [r_L_isEdge_at32, if_neg c_37, if_neg c_42, if_neg c_57, if_pos c_72, if_neg c_92, if_neg c_99, if_pos c_114])) h4_)
        · skip
          refine g_iload E 5 dL_isEdge_60 rfl ?_
          refine g_iload E 0 dL_isEdge_62 rfl ?_
          refine g_iadd E dL_isEdge_64 ?_
          refine g_goto E 70 dL_isEdge_65 (by decide) ?_
          refine g_iload_n E 2 dL_isEdge_70 rfl rfl ?_
          refine g_iconst E 1 dL_isEdge_71 (by decide) ?_
          refine g_icmpne E 83 dL_isEdge_72 (by decide) (fun _ => ?_) (fun q_ => absurd q_ (fun q2_ => absurd (c_57.symm.trans q2_) (by decide)))
          refine g_iload E 6 dL_isEdge_83 rfl ?_
          refine g_callVi0 E gc_X4_wouldTell ml_L_29 (t_X4_wouldTell d x a b c e (((S.1 7) / 16) + (-(nI k))) ((S.1 8) / 16) p q S T h t y ss ) rfl rfl (ci := 4) 0 rfl rfl rfl rfl (ok_le rfl) ⟨ok_le rfl, ok_le rfl, ok_le rfl, ok_le rfl⟩ rfl rfl dL_isEdge_85 ?_
          refine g_nm (fun v6_ hv6_ => ?_)
          refine g_istore E (lv' := [(8, .int v6_), (7, .int (-(nI k))), (0, .ref (x 0)), (1, .int axis), (2, .int up), (3, .int v1_), (4, .int ((S.1 7) / 16)), (5, .int ((S.1 8) / 16)), (6, .int (nI k))]) dL_isEdge_88 (by decide) rfl ?_
          refine g_iload E 0 dL_isEdge_90 rfl ?_
          refine g_iflt E 106 dL_isEdge_92 (by decide) (fun c_92 => ?_) (fun c_92 => ?_)
          · skip
            refine g_iconst E 0 dL_isEdge_106 (by decide) ?_
            refine g_istore E (lv' := [(9, .int 0), (8, .int v6_), (7, .int (-(nI k))), (0, .ref (x 0)), (1, .int axis), (2, .int up), (3, .int v1_), (4, .int ((S.1 7) / 16)), (5, .int ((S.1 8) / 16)), (6, .int (nI k))]) dL_isEdge_107 (by decide) rfl ?_
            refine g_iload E 0 dL_isEdge_109 rfl ?_
            refine g_iload E 9 dL_isEdge_111 rfl ?_
            refine g_iload_n E 6 dL_isEdge_113 rfl rfl ?_
            refine g_icmpne E 121 dL_isEdge_114 (by decide) (fun c_114 => ?_) (fun c_114 => ?_)
            · skip
              refine g_iconst E 0 dL_isEdge_121 (by decide) ?_
              refine g_icmpeq E 137 dL_isEdge_122 (by decide) (fun _ => ?_) (fun q_ => absurd q_ (by decide))
              refine g_iinc E (j := 9) (v := (nI (k + 1))) (lv' := [(6, .int (nI (k + 1))), (9, .int 0), (8, .int v6_), (7, .int (-(nI k))), (0, .ref (x 0)), (1, .int axis), (2, .int up), (3, .int v1_), (4, .int ((S.1 7) / 16)), (5, .int ((S.1 8) / 16))]) dL_isEdge_137 rfl (nI_1 _) (by decide) rfl ?_
              refine g_goto E 32 dL_isEdge_140 (by decide) ?_
              refine g_lvs (lv' := [(0, .ref (x 0)), (1, .int axis), (2, .int up), (3, .int v1_), (4, .int ((S.1 7) / 16)), (5, .int ((S.1 8) / 16)), (6, .int (nI (k + 1)))]) [4, 5, 6, 7, 8, 9, 0] rfl ?_
              subst hv6_
              subst hv1_
              exact ih (k + 1) (by omega) (by omega) (fun pc_ lv_ v_ u_ h1_ h2_ h3_ h4_ => RET pc_ lv_ v_ u_ h1_ h2_ (h3_.trans (by rw [r_L_isEdge_at32, if_neg c_37, if_neg c_42, if_pos c_57, if_pos c_92, if_neg c_114])) h4_)
            · skip
              refine g_iconst E 1 dL_isEdge_117 (by decide) ?_
              refine g_goto E 122 dL_isEdge_118 (by decide) ?_
              refine g_icmpeq E 137 dL_isEdge_122 (by decide) (fun q_ => absurd q_ (by decide)) (fun _ => ?_)
              refine g_iload_n E 6 dL_isEdge_125 rfl rfl ?_
              refine g_iflt E 135 dL_isEdge_126 (by decide) (fun c_126 => ?_) (fun c_126 => ?_)
              · skip
                refine g_iconst E 0 dL_isEdge_135 (by decide) ?_
                subst hv6_
                subst hv1_
                exact RET 136 _ 0 _ dL_isEdge_136 rfl (by rw [r_L_isEdge_at32, if_neg c_37, if_neg c_42, if_pos c_57, if_pos c_92, if_pos c_114, if_pos c_126]) rfl
              · skip
                refine g_iload E 9 dL_isEdge_129 rfl ?_
                refine g_iload_n E 6 dL_isEdge_131 rfl rfl ?_
                refine g_icmpgt E 137 dL_isEdge_132 (by decide) (fun c_132 => ?_) (fun c_132 => ?_)
                · skip
                  refine g_iinc E (j := 9) (v := (nI (k + 1))) (lv' := [(6, .int (nI (k + 1))), (9, .int 0), (8, .int v6_), (7, .int (-(nI k))), (0, .ref (x 0)), (1, .int axis), (2, .int up), (3, .int v1_), (4, .int ((S.1 7) / 16)), (5, .int ((S.1 8) / 16))]) dL_isEdge_137 rfl (nI_1 _) (by decide) rfl ?_
                  refine g_goto E 32 dL_isEdge_140 (by decide) ?_
                  refine g_lvs (lv' := [(0, .ref (x 0)), (1, .int axis), (2, .int up), (3, .int v1_), (4, .int ((S.1 7) / 16)), (5, .int ((S.1 8) / 16)), (6, .int (nI (k + 1)))]) [4, 5, 6, 7, 8, 9, 0] rfl ?_
                  subst hv6_
                  subst hv1_
                  exact ih (k + 1) (by omega) (by omega) (fun pc_ lv_ v_ u_ h1_ h2_ h3_ h4_ => RET pc_ lv_ v_ u_ h1_ h2_ (h3_.trans (by rw [r_L_isEdge_at32, if_neg c_37, if_neg c_42, if_pos c_57, if_pos c_92, if_pos c_114, if_neg c_126, if_pos c_132])) h4_)
                · skip
                  refine g_iconst E 0 dL_isEdge_135 (by decide) ?_
                  subst hv6_
                  subst hv1_
                  exact RET 136 _ 0 _ dL_isEdge_136 rfl (by rw [r_L_isEdge_at32, if_neg c_37, if_neg c_42, if_pos c_57, if_pos c_92, if_pos c_114, if_neg c_126, if_neg c_132]) rfl
          · skip
            refine g_iload E 0 dL_isEdge_95 rfl ?_
            refine g_ldc E ki_L_50 dL_isEdge_97 ?_
            refine g_icmpeq E 106 dL_isEdge_99 (by decide) (fun c_99 => ?_) (fun c_99 => ?_)
            · skip
              refine g_iconst E 0 dL_isEdge_106 (by decide) ?_
              refine g_istore E (lv' := [(9, .int 0), (8, .int v6_), (7, .int (-(nI k))), (0, .ref (x 0)), (1, .int axis), (2, .int up), (3, .int v1_), (4, .int ((S.1 7) / 16)), (5, .int ((S.1 8) / 16)), (6, .int (nI k))]) dL_isEdge_107 (by decide) rfl ?_
              refine g_iload E 0 dL_isEdge_109 rfl ?_
              refine g_iload E 9 dL_isEdge_111 rfl ?_
              refine g_iload_n E 6 dL_isEdge_113 rfl rfl ?_
              refine g_icmpne E 121 dL_isEdge_114 (by decide) (fun c_114 => ?_) (fun c_114 => ?_)
              · skip
                refine g_iconst E 0 dL_isEdge_121 (by decide) ?_
                refine g_icmpeq E 137 dL_isEdge_122 (by decide) (fun _ => ?_) (fun q_ => absurd q_ (by decide))
                refine g_iinc E (j := 9) (v := (nI (k + 1))) (lv' := [(6, .int (nI (k + 1))), (9, .int 0), (8, .int v6_), (7, .int (-(nI k))), (0, .ref (x 0)), (1, .int axis), (2, .int up), (3, .int v1_), (4, .int ((S.1 7) / 16)), (5, .int ((S.1 8) / 16))]) dL_isEdge_137 rfl (nI_1 _) (by decide) rfl ?_
                refine g_goto E 32 dL_isEdge_140 (by decide) ?_
                refine g_lvs (lv' := [(0, .ref (x 0)), (1, .int axis), (2, .int up), (3, .int v1_), (4, .int ((S.1 7) / 16)), (5, .int ((S.1 8) / 16)), (6, .int (nI (k + 1)))]) [4, 5, 6, 7, 8, 9, 0] rfl ?_
                subst hv6_
                subst hv1_
                exact ih (k + 1) (by omega) (by omega) (fun pc_ lv_ v_ u_ h1_ h2_ h3_ h4_ => RET pc_ lv_ v_ u_ h1_ h2_ (h3_.trans (by rw [r_L_isEdge_at32, if_neg c_37, if_neg c_42, if_pos c_57, if_neg c_92, if_pos c_99, if_neg c_114])) h4_)
              · skip
                refine g_iconst E 1 dL_isEdge_117 (by decide) ?_
                refine g_goto E 122 dL_isEdge_118 (by decide) ?_
                refine g_icmpeq E 137 dL_isEdge_122 (by decide) (fun q_ => absurd q_ (by decide)) (fun _ => ?_)
                refine g_iload_n E 6 dL_isEdge_125 rfl rfl ?_
                refine g_iflt E 135 dL_isEdge_126 (by decide) (fun c_126 => ?_) (fun c_126 => ?_)
                · skip
                  refine g_iconst E 0 dL_isEdge_135 (by decide) ?_
                  subst hv6_
                  subst hv1_
                  exact RET 136 _ 0 _ dL_isEdge_136 rfl (by rw [r_L_isEdge_at32, if_neg c_37, if_neg c_42, if_pos c_57, if_neg c_92, if_pos c_99, if_pos c_114, if_pos c_126]) rfl
                · skip
                  refine g_iload E 9 dL_isEdge_129 rfl ?_
                  refine g_iload_n E 6 dL_isEdge_131 rfl rfl ?_
                  refine g_icmpgt E 137 dL_isEdge_132 (by decide) (fun c_132 => ?_) (fun c_132 => ?_)
                  · skip
                    refine g_iinc E (j := 9) (v := (nI (k + 1))) (lv' := [(6, .int (nI (k + 1))), (9, .int 0), (8, .int v6_), (7, .int (-(nI k))), (0, .ref (x 0)), (1, .int axis), (2, .int up), (3, .int v1_), (4, .int ((S.1 7) / 16)), (5, .int ((S.1 8) / 16))]) dL_isEdge_137 rfl (nI_1 _) (by decide) rfl ?_
                    refine g_goto E 32 dL_isEdge_140 (by decide) ?_
                    refine g_lvs (lv' := [(0, .ref (x 0)), (1, .int axis), (2, .int up), (3, .int v1_), (4, .int ((S.1 7) / 16)), (5, .int ((S.1 8) / 16)), (6, .int (nI (k + 1)))]) [4, 5, 6, 7, 8, 9, 0] rfl ?_
                    subst hv6_
                    subst hv1_
                    exact ih (k + 1) (by omega) (by omega) (fun pc_ lv_ v_ u_ h1_ h2_ h3_ h4_ => RET pc_ lv_ v_ u_ h1_ h2_ (h3_.trans (by rw [r_L_isEdge_at32, if_neg c_37, if_neg c_42, if_pos c_57, if_neg c_92, if_pos c_99, if_pos c_114, if_neg c_126, if_pos c_132])) h4_)
                  · skip
                    refine g_iconst E 0 dL_isEdge_135 (by decide) ?_
                    subst hv6_
                    subst hv1_
                    exact RET 136 _ 0 _ dL_isEdge_136 rfl (by rw [r_L_isEdge_at32, if_neg c_37, if_neg c_42, if_pos c_57, if_neg c_92, if_pos c_99, if_pos c_114, if_neg c_126, if_neg c_132]) rfl
            · skip
              refine g_iconst E 1 dL_isEdge_102 (by decide) ?_
              refine g_goto E 107 dL_isEdge_103 (by decide) ?_
              refine g_istore E (lv' := [(9, .int 1), (8, .int v6_), (7, .int (-(nI k))), (0, .ref (x 0)), (1, .int axis), (2, .int up), (3, .int v1_), (4, .int ((S.1 7) / 16)), (5, .int ((S.1 8) / 16)), (6, .int (nI k))]) dL_isEdge_107 (by decide) rfl ?_
              refine g_iload E 0 dL_isEdge_109 rfl ?_
              refine g_iload E 9 dL_isEdge_111 rfl ?_
              refine g_iload_n E 6 dL_isEdge_113 rfl rfl ?_
              refine g_icmpne E 121 dL_isEdge_114 (by decide) (fun c_114 => ?_) (fun c_114 => ?_)
              · skip
                refine g_iconst E 0 dL_isEdge_121 (by decide) ?_
                refine g_icmpeq E 137 dL_isEdge_122 (by decide) (fun q_ => absurd q_ (by decide)) (fun _ => ?_)
                refine g_iload_n E 6 dL_isEdge_125 rfl rfl ?_
                refine g_iflt E 135 dL_isEdge_126 (by decide) (fun c_126 => ?_) (fun c_126 => ?_)
                · skip
                  refine g_iconst E 0 dL_isEdge_135 (by decide) ?_
                  subst hv6_
                  subst hv1_
                  exact RET 136 _ 0 _ dL_isEdge_136 rfl (by rw [r_L_isEdge_at32, if_neg c_37, if_neg c_42, if_pos c_57, if_neg c_92, if_neg c_99, if_neg c_114, if_pos c_126]) rfl
                · skip
                  refine g_iload E 9 dL_isEdge_129 rfl ?_
                  refine g_iload_n E 6 dL_isEdge_131 rfl rfl ?_
                  refine g_icmpgt E 137 dL_isEdge_132 (by decide) (fun c_132 => ?_) (fun c_132 => ?_)
                  · skip
                    refine g_iinc E (j := 9) (v := (nI (k + 1))) (lv' := [(6, .int (nI (k + 1))), (9, .int 1), (8, .int v6_), (7, .int (-(nI k))), (0, .ref (x 0)), (1, .int axis), (2, .int up), (3, .int v1_), (4, .int ((S.1 7) / 16)), (5, .int ((S.1 8) / 16))]) dL_isEdge_137 rfl (nI_1 _) (by decide) rfl ?_
                    refine g_goto E 32 dL_isEdge_140 (by decide) ?_
                    refine g_lvs (lv' := [(0, .ref (x 0)), (1, .int axis), (2, .int up), (3, .int v1_), (4, .int ((S.1 7) / 16)), (5, .int ((S.1 8) / 16)), (6, .int (nI (k + 1)))]) [4, 5, 6, 7, 8, 9, 0] rfl ?_
                    subst hv6_
                    subst hv1_
                    exact ih (k + 1) (by omega) (by omega) (fun pc_ lv_ v_ u_ h1_ h2_ h3_ h4_ => RET pc_ lv_ v_ u_ h1_ h2_ (h3_.trans (by rw [r_L_isEdge_at32, if_neg c_37, if_neg c_42, if_pos c_57, if_neg c_92, if_neg c_99, if_neg c_114, if_neg c_126, if_pos c_132])) h4_)
                  · skip
                    refine g_iconst E 0 dL_isEdge_135 (by decide) ?_
                    subst hv6_
                    subst hv1_
                    exact RET 136 _ 0 _ dL_isEdge_136 rfl (by rw [r_L_isEdge_at32, if_neg c_37, if_neg c_42, if_pos c_57, if_neg c_92, if_neg c_99, if_neg c_114, if_neg c_126, if_neg c_132]) rfl
              · skip
                refine g_iconst E 1 dL_isEdge_117 (by decide) ?_
                refine g_goto E 122 dL_isEdge_118 (by decide) ?_
                refine g_icmpeq E 137 dL_isEdge_122 (by decide) (fun _ => ?_) (fun q_ => absurd q_ (by decide))
                refine g_iinc E (j := 9) (v := (nI (k + 1))) (lv' := [(6, .int (nI (k + 1))), (9, .int 1), (8, .int v6_), (7, .int (-(nI k))), (0, .ref (x 0)), (1, .int axis), (2, .int up), (3, .int v1_), (4, .int ((S.1 7) / 16)), (5, .int ((S.1 8) / 16))]) dL_isEdge_137 rfl (nI_1 _) (by decide) rfl ?_
                refine g_goto E 32 dL_isEdge_140 (by decide) ?_
                refine g_lvs (lv' := [(0, .ref (x 0)), (1, .int axis), (2, .int up), (3, .int v1_), (4, .int ((S.1 7) / 16)), (5, .int ((S.1 8) / 16)), (6, .int (nI (k + 1)))]) [4, 5, 6, 7, 8, 9, 0] rfl ?_
                subst hv6_
                subst hv1_
                exact ih (k + 1) (by omega) (by omega) (fun pc_ lv_ v_ u_ h1_ h2_ h3_ h4_ => RET pc_ lv_ v_ u_ h1_ h2_ (h3_.trans (by rw [r_L_isEdge_at32, if_neg c_37, if_neg c_42, if_pos c_57, if_neg c_92, if_neg c_99, if_pos c_114])) h4_)
      · skip
        refine g_iload E 6 dL_isEdge_45 rfl ?_
        refine g_goto E 53 dL_isEdge_47 (by decide) ?_
        refine g_istore E (lv' := [(7, .int (nI k)), (0, .ref (x 0)), (1, .int axis), (2, .int up), (3, .int v1_), (4, .int ((S.1 7) / 16)), (5, .int ((S.1 8) / 16)), (6, .int (nI k))]) dL_isEdge_53 (by decide) rfl ?_
        refine g_aload_n E 1 dL_isEdge_55 rfl rfl ?_
        refine g_iload_n E 2 dL_isEdge_56 rfl rfl ?_
        refine g_ifne E 68 dL_isEdge_57 (by decide) (fun c_57 => ?_) (fun c_57 => ?_)
        · skip
          refine g_iload E 5 dL_isEdge_68 rfl ?_
          refine g_iload_n E 2 dL_isEdge_70 rfl rfl ?_
          refine g_iconst E 1 dL_isEdge_71 (by decide) ?_
          refine g_icmpne E 83 dL_isEdge_72 (by decide) (fun c_72 => ?_) (fun c_72 => ?_)
          · skip
            refine g_iload E 6 dL_isEdge_83 rfl ?_
            refine g_callVi0 E gc_X4_wouldTell ml_L_29 (t_X4_wouldTell d x a b c e ((S.1 7) / 16) ((S.1 8) / 16) p q S T h t y ss ) rfl rfl (ci := 4) 0 rfl rfl rfl rfl (ok_le rfl) ⟨ok_le rfl, ok_le rfl, ok_le rfl, ok_le rfl⟩ rfl rfl dL_isEdge_85 ?_
            refine g_nm (fun v7_ hv7_ => ?_)
            refine g_istore E (lv' := [(8, .int v7_), (7, .int (nI k)), (0, .ref (x 0)), (1, .int axis), (2, .int up), (3, .int v1_), (4, .int ((S.1 7) / 16)), (5, .int ((S.1 8) / 16)), (6, .int (nI k))]) dL_isEdge_88 (by decide) rfl ?_
            refine g_iload E 0 dL_isEdge_90 rfl ?_
            refine g_iflt E 106 dL_isEdge_92 (by decide) (fun c_92 => ?_) (fun c_92 => ?_)
            · skip
              refine g_iconst E 0 dL_isEdge_106 (by decide) ?_
              refine g_istore E (lv' := [(9, .int 0), (8, .int v7_), (7, .int (nI k)), (0, .ref (x 0)), (1, .int axis), (2, .int up), (3, .int v1_), (4, .int ((S.1 7) / 16)), (5, .int ((S.1 8) / 16)), (6, .int (nI k))]) dL_isEdge_107 (by decide) rfl ?_
              refine g_iload E 0 dL_isEdge_109 rfl ?_
              refine g_iload E 9 dL_isEdge_111 rfl ?_
              refine g_iload_n E 6 dL_isEdge_113 rfl rfl ?_
              refine g_icmpne E 121 dL_isEdge_114 (by decide) (fun c_114 => ?_) (fun c_114 => ?_)
              · skip
                refine g_iconst E 0 dL_isEdge_121 (by decide) ?_
                refine g_icmpeq E 137 dL_isEdge_122 (by decide) (fun _ => ?_) (fun q_ => absurd q_ (by decide))
                refine g_iinc E (j := 9) (v := (nI (k + 1))) (lv' := [(6, .int (nI (k + 1))), (9, .int 0), (8, .int v7_), (7, .int (nI k)), (0, .ref (x 0)), (1, .int axis), (2, .int up), (3, .int v1_), (4, .int ((S.1 7) / 16)), (5, .int ((S.1 8) / 16))]) dL_isEdge_137 rfl (nI_1 _) (by decide) rfl ?_
                refine g_goto E 32 dL_isEdge_140 (by decide) ?_
                refine g_lvs (lv' := [(0, .ref (x 0)), (1, .int axis), (2, .int up), (3, .int v1_), (4, .int ((S.1 7) / 16)), (5, .int ((S.1 8) / 16)), (6, .int (nI (k + 1)))]) [4, 5, 6, 7, 8, 9, 0] rfl ?_
                subst hv7_
                subst hv1_
                exact ih (k + 1) (by omega) (by omega) (fun pc_ lv_ v_ u_ h1_ h2_ h3_ h4_ => RET pc_ lv_ v_ u_ h1_ h2_ (h3_.trans (by rw [r_L_isEdge_at32, if_neg c_37, if_pos c_42, if_neg c_57, if_neg c_72, if_pos c_92, if_neg c_114])) h4_)
              · skip
                refine g_iconst E 1 dL_isEdge_117 (by decide) ?_
                refine g_goto E 122 dL_isEdge_118 (by decide) ?_
                refine g_icmpeq E 137 dL_isEdge_122 (by decide) (fun q_ => absurd q_ (by decide)) (fun _ => ?_)
                refine g_iload_n E 6 dL_isEdge_125 rfl rfl ?_
                refine g_iflt E 135 dL_isEdge_126 (by decide) (fun c_126 => ?_) (fun c_126 => ?_)
                · skip
                  refine g_iconst E 0 dL_isEdge_135 (by decide) ?_
                  subst hv7_
                  subst hv1_
                  exact RET 136 _ 0 _ dL_isEdge_136 rfl (by rw [r_L_isEdge_at32, if_neg c_37, if_pos c_42, if_neg c_57, if_neg c_72, if_pos c_92, if_pos c_114, if_pos c_126]) rfl
                · skip
                  refine g_iload E 9 dL_isEdge_129 rfl ?_
                  refine g_iload_n E 6 dL_isEdge_131 rfl rfl ?_
                  refine g_icmpgt E 137 dL_isEdge_132 (by decide) (fun c_132 => ?_) (fun c_132 => ?_)
                  · skip
                    refine g_iinc E (j := 9) (v := (nI (k + 1))) (lv' := [(6, .int (nI (k + 1))), (9, .int 0), (8, .int v7_), (7, .int (nI k)), (0, .ref (x 0)), (1, .int axis), (2, .int up), (3, .int v1_), (4, .int ((S.1 7) / 16)), (5, .int ((S.1 8) / 16))]) dL_isEdge_137 rfl (nI_1 _) (by decide) rfl ?_
                    refine g_goto E 32 dL_isEdge_140 (by decide) ?_
                    refine g_lvs (lv' := [(0, .ref (x 0)), (1, .int axis), (2, .int up), (3, .int v1_), (4, .int ((S.1 7) / 16)), (5, .int ((S.1 8) / 16)), (6, .int (nI (k + 1)))]) [4, 5, 6, 7, 8, 9, 0] rfl ?_
                    subst hv7_
                    subst hv1_
                    exact ih (k + 1) (by omega) (by omega) (fun pc_ lv_ v_ u_ h1_ h2_ h3_ h4_ => RET pc_ lv_ v_ u_ h1_ h2_ (h3_.trans (by rw [r_L_isEdge_at32, if_neg c_37, if_pos c_42, if_neg c_57, if_neg c_72, if_pos c_92, if_pos c_114, if_neg c_126, if_pos c_132])) h4_)
                  · skip
                    refine g_iconst E 0 dL_isEdge_135 (by decide) ?_
                    subst hv7_
                    subst hv1_
                    exact RET 136 _ 0 _ dL_isEdge_136 rfl (by rw [r_L_isEdge_at32, if_neg c_37, if_pos c_42, if_neg c_57, if_neg c_72, if_pos c_92, if_pos c_114, if_neg c_126, if_neg c_132]) rfl
            · skip
              refine g_iload E 0 dL_isEdge_95 rfl ?_
              refine g_ldc E ki_L_50 dL_isEdge_97 ?_
              refine g_icmpeq E 106 dL_isEdge_99 (by decide) (fun c_99 => ?_) (fun c_99 => ?_)
              · skip
                refine g_iconst E 0 dL_isEdge_106 (by decide) ?_
                refine g_istore E (lv' := [(9, .int 0), (8, .int v7_), (7, .int (nI k)), (0, .ref (x 0)), (1, .int axis), (2, .int up), (3, .int v1_), (4, .int ((S.1 7) / 16)), (5, .int ((S.1 8) / 16)), (6, .int (nI k))]) dL_isEdge_107 (by decide) rfl ?_
                refine g_iload E 0 dL_isEdge_109 rfl ?_
                refine g_iload E 9 dL_isEdge_111 rfl ?_
                refine g_iload_n E 6 dL_isEdge_113 rfl rfl ?_
                refine g_icmpne E 121 dL_isEdge_114 (by decide) (fun c_114 => ?_) (fun c_114 => ?_)
                · skip
                  refine g_iconst E 0 dL_isEdge_121 (by decide) ?_
                  refine g_icmpeq E 137 dL_isEdge_122 (by decide) (fun _ => ?_) (fun q_ => absurd q_ (by decide))
                  refine g_iinc E (j := 9) (v := (nI (k + 1))) (lv' := [(6, .int (nI (k + 1))), (9, .int 0), (8, .int v7_), (7, .int (nI k)), (0, .ref (x 0)), (1, .int axis), (2, .int up), (3, .int v1_), (4, .int ((S.1 7) / 16)), (5, .int ((S.1 8) / 16))]) dL_isEdge_137 rfl (nI_1 _) (by decide) rfl ?_
                  refine g_goto E 32 dL_isEdge_140 (by decide) ?_
                  refine g_lvs (lv' := [(0, .ref (x 0)), (1, .int axis), (2, .int up), (3, .int v1_), (4, .int ((S.1 7) / 16)), (5, .int ((S.1 8) / 16)), (6, .int (nI (k + 1)))]) [4, 5, 6, 7, 8, 9, 0] rfl ?_
                  subst hv7_
                  subst hv1_
                  exact ih (k + 1) (by omega) (by omega) (fun pc_ lv_ v_ u_ h1_ h2_ h3_ h4_ => RET pc_ lv_ v_ u_ h1_ h2_ (h3_.trans (by rw [r_L_isEdge_at32, if_neg c_37, if_pos c_42, if_neg c_57, if_neg c_72, if_neg c_92, if_pos c_99, if_neg c_114])) h4_)
                · skip
                  refine g_iconst E 1 dL_isEdge_117 (by decide) ?_
                  refine g_goto E 122 dL_isEdge_118 (by decide) ?_
                  refine g_icmpeq E 137 dL_isEdge_122 (by decide) (fun q_ => absurd q_ (by decide)) (fun _ => ?_)
                  refine g_iload_n E 6 dL_isEdge_125 rfl rfl ?_
                  refine g_iflt E 135 dL_isEdge_126 (by decide) (fun c_126 => ?_) (fun c_126 => ?_)
                  · skip
                    refine g_iconst E 0 dL_isEdge_135 (by decide) ?_
                    subst hv7_
                    subst hv1_
                    exact RET 136 _ 0 _ dL_isEdge_136 rfl (by rw [r_L_isEdge_at32, if_neg c_37, if_pos c_42, if_neg c_57, if_neg c_72, if_neg c_92, if_pos c_99, if_pos c_114, if_pos c_126]) rfl
                  · skip
                    refine g_iload E 9 dL_isEdge_129 rfl ?_
                    refine g_iload_n E 6 dL_isEdge_131 rfl rfl ?_
                    refine g_icmpgt E 137 dL_isEdge_132 (by decide) (fun c_132 => ?_) (fun c_132 => ?_)
                    · skip
                      refine g_iinc E (j := 9) (v := (nI (k + 1))) (lv' := [(6, .int (nI (k + 1))), (9, .int 0), (8, .int v7_), (7, .int (nI k)), (0, .ref (x 0)), (1, .int axis), (2, .int up), (3, .int v1_), (4, .int ((S.1 7) / 16)), (5, .int ((S.1 8) / 16))]) dL_isEdge_137 rfl (nI_1 _) (by decide) rfl ?_
                      refine g_goto E 32 dL_isEdge_140 (by decide) ?_
                      refine g_lvs (lv' := [(0, .ref (x 0)), (1, .int axis), (2, .int up), (3, .int v1_), (4, .int ((S.1 7) / 16)), (5, .int ((S.1 8) / 16)), (6, .int (nI (k + 1)))]) [4, 5, 6, 7, 8, 9, 0] rfl ?_
                      subst hv7_
                      subst hv1_
                      exact ih (k + 1) (by omega) (by omega) (fun pc_ lv_ v_ u_ h1_ h2_ h3_ h4_ => RET pc_ lv_ v_ u_ h1_ h2_ (h3_.trans (by rw [r_L_isEdge_at32, if_neg c_37, if_pos c_42, if_neg c_57, if_neg c_72, if_neg c_92, if_pos c_99, if_pos c_114, if_neg c_126, if_pos c_132])) h4_)
                    · skip
                      refine g_iconst E 0 dL_isEdge_135 (by decide) ?_
                      subst hv7_
                      subst hv1_
                      exact RET 136 _ 0 _ dL_isEdge_136 rfl (by rw [r_L_isEdge_at32, if_neg c_37, if_pos c_42, if_neg c_57, if_neg c_72, if_neg c_92, if_pos c_99, if_pos c_114, if_neg c_126, if_neg c_132]) rfl
              · skip
                refine g_iconst E 1 dL_isEdge_102 (by decide) ?_
                refine g_goto E 107 dL_isEdge_103 (by decide) ?_
                refine g_istore E (lv' := [(9, .int 1), (8, .int v7_), (7, .int (nI k)), (0, .ref (x 0)), (1, .int axis), (2, .int up), (3, .int v1_), (4, .int ((S.1 7) / 16)), (5, .int ((S.1 8) / 16)), (6, .int (nI k))]) dL_isEdge_107 (by decide) rfl ?_
                refine g_iload E 0 dL_isEdge_109 rfl ?_
                refine g_iload E 9 dL_isEdge_111 rfl ?_
                refine g_iload_n E 6 dL_isEdge_113 rfl rfl ?_
                refine g_icmpne E 121 dL_isEdge_114 (by decide) (fun c_114 => ?_) (fun c_114 => ?_)
                · skip
                  refine g_iconst E 0 dL_isEdge_121 (by decide) ?_
                  refine g_icmpeq E 137 dL_isEdge_122 (by decide) (fun q_ => absurd q_ (by decide)) (fun _ => ?_)
                  refine g_iload_n E 6 dL_isEdge_125 rfl rfl ?_
                  refine g_iflt E 135 dL_isEdge_126 (by decide) (fun c_126 => ?_) (fun c_126 => ?_)
                  · skip
                    refine g_iconst E 0 dL_isEdge_135 (by decide) ?_
                    subst hv7_
                    subst hv1_
                    exact RET 136 _ 0 _ dL_isEdge_136 rfl (by rw [r_L_isEdge_at32, if_neg c_37, if_pos c_42, if_neg c_57, if_neg c_72, if_neg c_92, if_neg c_99, if_neg c_114, if_pos c_126]) rfl
                  · skip
                    refine g_iload E 9 dL_isEdge_129 rfl ?_
                    refine g_iload_n E 6 dL_isEdge_131 rfl rfl ?_
                    refine g_icmpgt E 137 dL_isEdge_132 (by decide) (fun c_132 => ?_) (fun c_132 => ?_)
                    · skip
                      refine g_iinc E (j := 9) (v := (nI (k + 1))) (lv' := [(6, .int (nI (k + 1))), (9, .int 1), (8, .int v7_), (7, .int (nI k)), (0, .ref (x 0)), (1, .int axis), (2, .int up), (3, .int v1_), (4, .int ((S.1 7) / 16)), (5, .int ((S.1 8) / 16))]) dL_isEdge_137 rfl (nI_1 _) (by decide) rfl ?_
                      refine g_goto E 32 dL_isEdge_140 (by decide) ?_
                      refine g_lvs (lv' := [(0, .ref (x 0)), (1, .int axis), (2, .int up), (3, .int v1_), (4, .int ((S.1 7) / 16)), (5, .int ((S.1 8) / 16)), (6, .int (nI (k + 1)))]) [4, 5, 6, 7, 8, 9, 0] rfl ?_
                      subst hv7_
                      subst hv1_
                      exact ih (k + 1) (by omega) (by omega) (fun pc_ lv_ v_ u_ h1_ h2_ h3_ h4_ => RET pc_ lv_ v_ u_ h1_ h2_ (h3_.trans (by rw [r_L_isEdge_at32, if_neg c_37, if_pos c_42, if_neg c_57, if_neg c_72, if_neg c_92, if_neg c_99, if_neg c_114, if_neg c_126, if_pos c_132])) h4_)
                    · skip
                      refine g_iconst E 0 dL_isEdge_135 (by decide) ?_
                      subst hv7_
                      subst hv1_
                      exact RET 136 _ 0 _ dL_isEdge_136 rfl (by rw [r_L_isEdge_at32, if_neg c_37, if_pos c_42, if_neg c_57, if_neg c_72, if_neg c_92, if_neg c_99, if_neg c_114, if_neg c_126, if_neg c_132]) rfl
                · skip
                  refine g_iconst E 1 dL_isEdge_117 (by decide) ?_
                  refine g_goto E 122 dL_isEdge_118 (by decide) ?_
                  refine g_icmpeq E 137 dL_isEdge_122 (by decide) (fun _ => ?_) (fun q_ => absurd q_ (by decide))
                  refine g_iinc E (j := 9) (v := (nI (k + 1))) (lv' := [(6, .int (nI (k + 1))), (9, .int 1), (8, .int v7_), (7, .int (nI k)), (0, .ref (x 0)), (1, .int axis), (2, .int up), (3, .int v1_), (4, .int ((S.1 7) / 16)), (5, .int ((S.1 8) / 16))]) dL_isEdge_137 rfl (nI_1 _) (by decide) rfl ?_
                  refine g_goto E 32 dL_isEdge_140 (by decide) ?_
                  refine g_lvs (lv' := [(0, .ref (x 0)), (1, .int axis), (2, .int up), (3, .int v1_), (4, .int ((S.1 7) / 16)), (5, .int ((S.1 8) / 16)), (6, .int (nI (k + 1)))]) [4, 5, 6, 7, 8, 9, 0] rfl ?_
                  subst hv7_
                  subst hv1_
                  exact ih (k + 1) (by omega) (by omega) (fun pc_ lv_ v_ u_ h1_ h2_ h3_ h4_ => RET pc_ lv_ v_ u_ h1_ h2_ (h3_.trans (by rw [r_L_isEdge_at32, if_neg c_37, if_pos c_42, if_neg c_57, if_neg c_72, if_neg c_92, if_neg c_99, if_pos c_114])) h4_)
          · skip
            refine g_iload E 6 dL_isEdge_75 rfl ?_
            refine g_iload E 0 dL_isEdge_77 rfl ?_
            refine g_iadd E dL_isEdge_79 ?_
            refine g_goto E 85 dL_isEdge_80 (by decide) ?_
            refine g_callVi0 E gc_X4_wouldTell ml_L_29 (t_X4_wouldTell d x a b c e ((S.1 7) / 16) (((S.1 8) / 16) + (nI k)) p q S T h t y ss ) rfl rfl (ci := 4) 0 rfl rfl rfl rfl (ok_le rfl) ⟨ok_le rfl, ok_le rfl, ok_le rfl, ok_le rfl⟩ rfl rfl dL_isEdge_85 ?_
            refine g_nm (fun v8_ hv8_ => ?_)
            refine g_istore E (lv' := [(8, .int v8_), (7, .int (nI k)), (0, .ref (x 0)), (1, .int axis), (2, .int up), (3, .int v1_), (4, .int ((S.1 7) / 16)), (5, .int ((S.1 8) / 16)), (6, .int (nI k))]) dL_isEdge_88 (by decide) rfl ?_
            refine g_iload E 0 dL_isEdge_90 rfl ?_
            refine g_iflt E 106 dL_isEdge_92 (by decide) (fun c_92 => ?_) (fun c_92 => ?_)
            · skip
              refine g_iconst E 0 dL_isEdge_106 (by decide) ?_
              refine g_istore E (lv' := [(9, .int 0), (8, .int v8_), (7, .int (nI k)), (0, .ref (x 0)), (1, .int axis), (2, .int up), (3, .int v1_), (4, .int ((S.1 7) / 16)), (5, .int ((S.1 8) / 16)), (6, .int (nI k))]) dL_isEdge_107 (by decide) rfl ?_
              refine g_iload E 0 dL_isEdge_109 rfl ?_
              refine g_iload E 9 dL_isEdge_111 rfl ?_
              refine g_iload_n E 6 dL_isEdge_113 rfl rfl ?_
              refine g_icmpne E 121 dL_isEdge_114 (by decide) (fun c_114 => ?_) (fun c_114 => ?_)
              · skip
                refine g_iconst E 0 dL_isEdge_121 (by decide) ?_
                refine g_icmpeq E 137 dL_isEdge_122 (by decide) (fun _ => ?_) (fun q_ => absurd q_ (by decide))
                refine g_iinc E (j := 9) (v := (nI (k + 1))) (lv' := [(6, .int (nI (k + 1))), (9, .int 0), (8, .int v8_), (7, .int (nI k)), (0, .ref (x 0)), (1, .int axis), (2, .int up), (3, .int v1_), (4, .int ((S.1 7) / 16)), (5, .int ((S.1 8) / 16))]) dL_isEdge_137 rfl (nI_1 _) (by decide) rfl ?_
                refine g_goto E 32 dL_isEdge_140 (by decide) ?_
                refine g_lvs (lv' := [(0, .ref (x 0)), (1, .int axis), (2, .int up), (3, .int v1_), (4, .int ((S.1 7) / 16)), (5, .int ((S.1 8) / 16)), (6, .int (nI (k + 1)))]) [4, 5, 6, 7, 8, 9, 0] rfl ?_
                subst hv8_
                subst hv1_
                exact ih (k + 1) (by omega) (by omega) (fun pc_ lv_ v_ u_ h1_ h2_ h3_ h4_ => RET pc_ lv_ v_ u_ h1_ h2_ (h3_.trans (by rw [r_L_isEdge_at32, if_neg c_37, if_pos c_42, if_neg c_57, if_pos c_72, if_pos c_92, if_neg c_114])) h4_)
              · skip
                refine g_iconst E 1 dL_isEdge_117 (by decide) ?_
                refine g_goto E 122 dL_isEdge_118 (by decide) ?_
                refine g_icmpeq E 137 dL_isEdge_122 (by decide) (fun q_ => absurd q_ (by decide)) (fun _ => ?_)
                refine g_iload_n E 6 dL_isEdge_125 rfl rfl ?_
                refine g_iflt E 135 dL_isEdge_126 (by decide) (fun c_126 => ?_) (fun c_126 => ?_)
                · skip
                  refine g_iconst E 0 dL_isEdge_135 (by decide) ?_
                  subst hv8_
                  subst hv1_
                  exact RET 136 _ 0 _ dL_isEdge_136 rfl (by rw [r_L_isEdge_at32, if_neg c_37, if_pos c_42, if_neg c_57, if_pos c_72, if_pos c_92, if_pos c_114, if_pos c_126]) rfl
                · skip
                  refine g_iload E 9 dL_isEdge_129 rfl ?_
                  refine g_iload_n E 6 dL_isEdge_131 rfl rfl ?_
                  refine g_icmpgt E 137 dL_isEdge_132 (by decide) (fun c_132 => ?_) (fun c_132 => ?_)
                  · skip
                    refine g_iinc E (j := 9) (v := (nI (k + 1))) (lv' := [(6, .int (nI (k + 1))), (9, .int 0), (8, .int v8_), (7, .int (nI k)), (0, .ref (x 0)), (1, .int axis), (2, .int up), (3, .int v1_), (4, .int ((S.1 7) / 16)), (5, .int ((S.1 8) / 16))]) dL_isEdge_137 rfl (nI_1 _) (by decide) rfl ?_
                    refine g_goto E 32 dL_isEdge_140 (by decide) ?_
                    refine g_lvs (lv' := [(0, .ref (x 0)), (1, .int axis), (2, .int up), (3, .int v1_), (4, .int ((S.1 7) / 16)), (5, .int ((S.1 8) / 16)), (6, .int (nI (k + 1)))]) [4, 5, 6, 7, 8, 9, 0] rfl ?_
                    subst hv8_
                    subst hv1_
                    exact ih (k + 1) (by omega) (by omega) (fun pc_ lv_ v_ u_ h1_ h2_ h3_ h4_ => RET pc_ lv_ v_ u_ h1_ h2_ (h3_.trans (by rw [r_L_isEdge_at32, if_neg c_37, if_pos c_42, if_neg c_57, if_pos c_72, if_pos c_92, if_pos c_114, if_neg c_126, if_pos c_132])) h4_)
                  · skip
                    refine g_iconst E 0 dL_isEdge_135 (by decide) ?_
                    subst hv8_
                    subst hv1_
                    exact RET 136 _ 0 _ dL_isEdge_136 rfl (by rw [r_L_isEdge_at32, if_neg c_37, if_pos c_42, if_neg c_57, if_pos c_72, if_pos c_92, if_pos c_114, if_neg c_126, if_neg c_132]) rfl
            · skip
              refine g_iload E 0 dL_isEdge_95 rfl ?_
              refine g_ldc E ki_L_50 dL_isEdge_97 ?_
              refine g_icmpeq E 106 dL_isEdge_99 (by decide) (fun c_99 => ?_) (fun c_99 => ?_)
              · skip
                refine g_iconst E 0 dL_isEdge_106 (by decide) ?_
                refine g_istore E (lv' := [(9, .int 0), (8, .int v8_), (7, .int (nI k)), (0, .ref (x 0)), (1, .int axis), (2, .int up), (3, .int v1_), (4, .int ((S.1 7) / 16)), (5, .int ((S.1 8) / 16)), (6, .int (nI k))]) dL_isEdge_107 (by decide) rfl ?_
                refine g_iload E 0 dL_isEdge_109 rfl ?_
                refine g_iload E 9 dL_isEdge_111 rfl ?_
                refine g_iload_n E 6 dL_isEdge_113 rfl rfl ?_
                refine g_icmpne E 121 dL_isEdge_114 (by decide) (fun c_114 => ?_) (fun c_114 => ?_)
                · skip
                  refine g_iconst E 0 dL_isEdge_121 (by decide) ?_
                  refine g_icmpeq E 137 dL_isEdge_122 (by decide) (fun _ => ?_) (fun q_ => absurd q_ (by decide))
                  refine g_iinc E (j := 9) (v := (nI (k + 1))) (lv' := [(6, .int (nI (k + 1))), (9, .int 0), (8, .int v8_), (7, .int (nI k)), (0, .ref (x 0)), (1, .int axis), (2, .int up), (3, .int v1_), (4, .int ((S.1 7) / 16)), (5, .int ((S.1 8) / 16))]) dL_isEdge_137 rfl (nI_1 _) (by decide) rfl ?_
                  refine g_goto E 32 dL_isEdge_140 (by decide) ?_
                  refine g_lvs (lv' := [(0, .ref (x 0)), (1, .int axis), (2, .int up), (3, .int v1_), (4, .int ((S.1 7) / 16)), (5, .int ((S.1 8) / 16)), (6, .int (nI (k + 1)))]) [4, 5, 6, 7, 8, 9, 0] rfl ?_
                  subst hv8_
                  subst hv1_
                  exact ih (k + 1) (by omega) (by omega) (fun pc_ lv_ v_ u_ h1_ h2_ h3_ h4_ => RET pc_ lv_ v_ u_ h1_ h2_ (h3_.trans (by rw [r_L_isEdge_at32, if_neg c_37, if_pos c_42, if_neg c_57, if_pos c_72, if_neg c_92, if_pos c_99, if_neg c_114])) h4_)
                · skip
                  refine g_iconst E 1 dL_isEdge_117 (by decide) ?_
                  refine g_goto E 122 dL_isEdge_118 (by decide) ?_
                  refine g_icmpeq E 137 dL_isEdge_122 (by decide) (fun q_ => absurd q_ (by decide)) (fun _ => ?_)
                  refine g_iload_n E 6 dL_isEdge_125 rfl rfl ?_
                  refine g_iflt E 135 dL_isEdge_126 (by decide) (fun c_126 => ?_) (fun c_126 => ?_)
                  · skip
                    refine g_iconst E 0 dL_isEdge_135 (by decide) ?_
                    subst hv8_
                    subst hv1_
                    exact RET 136 _ 0 _ dL_isEdge_136 rfl (by rw [r_L_isEdge_at32, if_neg c_37, if_pos c_42, if_neg c_57, if_pos c_72, if_neg c_92, if_pos c_99, if_pos c_114, if_pos c_126]) rfl
                  · skip
                    refine g_iload E 9 dL_isEdge_129 rfl ?_
                    refine g_iload_n E 6 dL_isEdge_131 rfl rfl ?_
                    refine g_icmpgt E 137 dL_isEdge_132 (by decide) (fun c_132 => ?_) (fun c_132 => ?_)
                    · skip
                      refine g_iinc E (j := 9) (v := (nI (k + 1))) (lv' := [(6, .int (nI (k + 1))), (9, .int 0), (8, .int v8_), (7, .int (nI k)), (0, .ref (x 0)), (1, .int axis), (2, .int up), (3, .int v1_), (4, .int ((S.1 7) / 16)), (5, .int ((S.1 8) / 16))]) dL_isEdge_137 rfl (nI_1 _) (by decide) rfl ?_
                      refine g_goto E 32 dL_isEdge_140 (by decide) ?_
                      refine g_lvs (lv' := [(0, .ref (x 0)), (1, .int axis), (2, .int up), (3, .int v1_), (4, .int ((S.1 7) / 16)), (5, .int ((S.1 8) / 16)), (6, .int (nI (k + 1)))]) [4, 5, 6, 7, 8, 9, 0] rfl ?_
                      subst hv8_
                      subst hv1_
                      exact ih (k + 1) (by omega) (by omega) (fun pc_ lv_ v_ u_ h1_ h2_ h3_ h4_ => RET pc_ lv_ v_ u_ h1_ h2_ (h3_.trans (by rw [r_L_isEdge_at32, if_neg c_37, if_pos c_42, if_neg c_57, if_pos c_72, if_neg c_92, if_pos c_99, if_pos c_114, if_neg c_126, if_pos c_132])) h4_)
                    · skip
                      refine g_iconst E 0 dL_isEdge_135 (by decide) ?_
                      subst hv8_
                      subst hv1_
                      exact RET 136 _ 0 _ dL_isEdge_136 rfl (by rw [r_L_isEdge_at32, if_neg c_37, if_pos c_42, if_neg c_57, if_pos c_72, if_neg c_92, if_pos c_99, if_pos c_114, if_neg c_126, if_neg c_132]) rfl
              · skip
                refine g_iconst E 1 dL_isEdge_102 (by decide) ?_
                refine g_goto E 107 dL_isEdge_103 (by decide) ?_
                refine g_istore E (lv' := [(9, .int 1), (8, .int v8_), (7, .int (nI k)), (0, .ref (x 0)), (1, .int axis), (2, .int up), (3, .int v1_), (4, .int ((S.1 7) / 16)), (5, .int ((S.1 8) / 16)), (6, .int (nI k))]) dL_isEdge_107 (by decide) rfl ?_
                refine g_iload E 0 dL_isEdge_109 rfl ?_
                refine g_iload E 9 dL_isEdge_111 rfl ?_
                refine g_iload_n E 6 dL_isEdge_113 rfl rfl ?_
                refine g_icmpne E 121 dL_isEdge_114 (by decide) (fun c_114 => ?_) (fun c_114 => ?_)
                · skip
                  refine g_iconst E 0 dL_isEdge_121 (by decide) ?_
                  refine g_icmpeq E 137 dL_isEdge_122 (by decide) (fun q_ => absurd q_ (by decide)) (fun _ => ?_)
                  refine g_iload_n E 6 dL_isEdge_125 rfl rfl ?_
                  refine g_iflt E 135 dL_isEdge_126 (by decide) (fun c_126 => ?_) (fun c_126 => ?_)
                  · skip
                    refine g_iconst E 0 dL_isEdge_135 (by decide) ?_
                    subst hv8_
                    subst hv1_
                    exact RET 136 _ 0 _ dL_isEdge_136 rfl (by rw [r_L_isEdge_at32, if_neg c_37, if_pos c_42, if_neg c_57, if_pos c_72, if_neg c_92, if_neg c_99, if_neg c_114, if_pos c_126]) rfl
                  · skip
                    refine g_iload E 9 dL_isEdge_129 rfl ?_
                    refine g_iload_n E 6 dL_isEdge_131 rfl rfl ?_
                    refine g_icmpgt E 137 dL_isEdge_132 (by decide) (fun c_132 => ?_) (fun c_132 => ?_)
                    · skip
                      refine g_iinc E (j := 9) (v := (nI (k + 1))) (lv' := [(6, .int (nI (k + 1))), (9, .int 1), (8, .int v8_), (7, .int (nI k)), (0, .ref (x 0)), (1, .int axis), (2, .int up), (3, .int v1_), (4, .int ((S.1 7) / 16)), (5, .int ((S.1 8) / 16))]) dL_isEdge_137 rfl (nI_1 _) (by decide) rfl ?_
                      refine g_goto E 32 dL_isEdge_140 (by decide) ?_
                      refine g_lvs (lv' := [(0, .ref (x 0)), (1, .int axis), (2, .int up), (3, .int v1_), (4, .int ((S.1 7) / 16)), (5, .int ((S.1 8) / 16)), (6, .int (nI (k + 1)))]) [4, 5, 6, 7, 8, 9, 0] rfl ?_
                      subst hv8_
                      subst hv1_
                      exact ih (k + 1) (by omega) (by omega) (fun pc_ lv_ v_ u_ h1_ h2_ h3_ h4_ => RET pc_ lv_ v_ u_ h1_ h2_ (h3_.trans (by rw [r_L_isEdge_at32, if_neg c_37, if_pos c_42, if_neg c_57, if_pos c_72, if_neg c_92, if_neg c_99, if_neg c_114, if_neg c_126, if_pos c_132])) h4_)
                    · skip
                      refine g_iconst E 0 dL_isEdge_135 (by decide) ?_
                      subst hv8_
                      subst hv1_
                      exact RET 136 _ 0 _ dL_isEdge_136 rfl (by rw [r_L_isEdge_at32, if_neg c_37, if_pos c_42, if_neg c_57, if_pos c_72, if_neg c_92, if_neg c_99, if_neg c_114, if_neg c_126, if_neg c_132]) rfl
                · skip
                  refine g_iconst E 1 dL_isEdge_117 (by decide) ?_
                  refine g_goto E 122 dL_isEdge_118 (by decide) ?_
                  refine g_icmpeq E 137 dL_isEdge_122 (by decide) (fun _ => ?_) (fun q_ => absurd q_ (by decide))
                  refine g_iinc E (j := 9) (v := (nI (k + 1))) (lv' := [(6, .int (nI (k + 1))), (9, .int 1), (8, .int v8_), (7, .int (nI k)), (0, .ref (x 0)), (1, .int axis), (2, .int up), (3, .int v1_), (4, .int ((S.1 7) / 16)), (5, .int ((S.1 8) / 16))]) dL_isEdge_137 rfl (nI_1 _) (by decide) rfl ?_
                  refine g_goto E 32 dL_isEdge_140 (by decide) ?_
                  refine g_lvs (lv' := [(0, .ref (x 0)), (1, .int axis), (2, .int up), (3, .int v1_), (4, .int ((S.1 7) / 16)), (5, .int ((S.1 8) / 16)), (6, .int (nI (k + 1)))]) [4, 5, 6, 7, 8, 9, 0] rfl ?_
                  subst hv8_
                  subst hv1_
                  exact ih (k + 1) (by omega) (by omega) (fun pc_ lv_ v_ u_ h1_ h2_ h3_ h4_ => RET pc_ lv_ v_ u_ h1_ h2_ (h3_.trans (by rw [r_L_isEdge_at32, if_neg c_37, if_pos c_42, if_neg c_57, if_pos c_72, if_neg c_92, if_neg c_99, if_pos c_114])) h4_)
        · skip
          refine g_iload E 5 dL_isEdge_60 rfl ?_
          refine g_iload E 0 dL_isEdge_62 rfl ?_
          refine g_iadd E dL_isEdge_64 ?_
          refine g_goto E 70 dL_isEdge_65 (by decide) ?_
          refine g_iload_n E 2 dL_isEdge_70 rfl rfl ?_
          refine g_iconst E 1 dL_isEdge_71 (by decide) ?_
          refine g_icmpne E 83 dL_isEdge_72 (by decide) (fun _ => ?_) (fun q_ => absurd q_ (fun q2_ => absurd (c_57.symm.trans q2_) (by decide)))
          refine g_iload E 6 dL_isEdge_83 rfl ?_
          refine g_callVi0 E gc_X4_wouldTell ml_L_29 (t_X4_wouldTell d x a b c e (((S.1 7) / 16) + (nI k)) ((S.1 8) / 16) p q S T h t y ss ) rfl rfl (ci := 4) 0 rfl rfl rfl rfl (ok_le rfl) ⟨ok_le rfl, ok_le rfl, ok_le rfl, ok_le rfl⟩ rfl rfl dL_isEdge_85 ?_
          refine g_nm (fun v9_ hv9_ => ?_)
          refine g_istore E (lv' := [(8, .int v9_), (7, .int (nI k)), (0, .ref (x 0)), (1, .int axis), (2, .int up), (3, .int v1_), (4, .int ((S.1 7) / 16)), (5, .int ((S.1 8) / 16)), (6, .int (nI k))]) dL_isEdge_88 (by decide) rfl ?_
          refine g_iload E 0 dL_isEdge_90 rfl ?_
          refine g_iflt E 106 dL_isEdge_92 (by decide) (fun c_92 => ?_) (fun c_92 => ?_)
          · skip
            refine g_iconst E 0 dL_isEdge_106 (by decide) ?_
            refine g_istore E (lv' := [(9, .int 0), (8, .int v9_), (7, .int (nI k)), (0, .ref (x 0)), (1, .int axis), (2, .int up), (3, .int v1_), (4, .int ((S.1 7) / 16)), (5, .int ((S.1 8) / 16)), (6, .int (nI k))]) dL_isEdge_107 (by decide) rfl ?_
            refine g_iload E 0 dL_isEdge_109 rfl ?_
            refine g_iload E 9 dL_isEdge_111 rfl ?_
            refine g_iload_n E 6 dL_isEdge_113 rfl rfl ?_
            refine g_icmpne E 121 dL_isEdge_114 (by decide) (fun c_114 => ?_) (fun c_114 => ?_)
            · skip
              refine g_iconst E 0 dL_isEdge_121 (by decide) ?_
              refine g_icmpeq E 137 dL_isEdge_122 (by decide) (fun _ => ?_) (fun q_ => absurd q_ (by decide))
              refine g_iinc E (j := 9) (v := (nI (k + 1))) (lv' := [(6, .int (nI (k + 1))), (9, .int 0), (8, .int v9_), (7, .int (nI k)), (0, .ref (x 0)), (1, .int axis), (2, .int up), (3, .int v1_), (4, .int ((S.1 7) / 16)), (5, .int ((S.1 8) / 16))]) dL_isEdge_137 rfl (nI_1 _) (by decide) rfl ?_
              refine g_goto E 32 dL_isEdge_140 (by decide) ?_
              refine g_lvs (lv' := [(0, .ref (x 0)), (1, .int axis), (2, .int up), (3, .int v1_), (4, .int ((S.1 7) / 16)), (5, .int ((S.1 8) / 16)), (6, .int (nI (k + 1)))]) [4, 5, 6, 7, 8, 9, 0] rfl ?_
              subst hv9_
              subst hv1_
              exact ih (k + 1) (by omega) (by omega) (fun pc_ lv_ v_ u_ h1_ h2_ h3_ h4_ => RET pc_ lv_ v_ u_ h1_ h2_ (h3_.trans (by rw [r_L_isEdge_at32, if_neg c_37, if_pos c_42, if_pos c_57, if_pos c_92, if_neg c_114])) h4_)
            · skip
              refine g_iconst E 1 dL_isEdge_117 (by decide) ?_
              refine g_goto E 122 dL_isEdge_118 (by decide) ?_
              refine g_icmpeq E 137 dL_isEdge_122 (by decide) (fun q_ => absurd q_ (by decide)) (fun _ => ?_)
              refine g_iload_n E 6 dL_isEdge_125 rfl rfl ?_
              refine g_iflt E 135 dL_isEdge_126 (by decide) (fun c_126 => ?_) (fun c_126 => ?_)
              · skip
                refine g_iconst E 0 dL_isEdge_135 (by decide) ?_
                subst hv9_
                subst hv1_
                exact RET 136 _ 0 _ dL_isEdge_136 rfl (by rw [r_L_isEdge_at32, if_neg c_37, if_pos c_42, if_pos c_57, if_pos c_92, if_pos c_114, if_pos c_126]) rfl
              · skip
                refine g_iload E 9 dL_isEdge_129 rfl ?_
                refine g_iload_n E 6 dL_isEdge_131 rfl rfl ?_
                refine g_icmpgt E 137 dL_isEdge_132 (by decide) (fun c_132 => ?_) (fun c_132 => ?_)
                · skip
                  refine g_iinc E (j := 9) (v := (nI (k + 1))) (lv' := [(6, .int (nI (k + 1))), (9, .int 0), (8, .int v9_), (7, .int (nI k)), (0, .ref (x 0)), (1, .int axis), (2, .int up), (3, .int v1_), (4, .int ((S.1 7) / 16)), (5, .int ((S.1 8) / 16))]) dL_isEdge_137 rfl (nI_1 _) (by decide) rfl ?_
                  refine g_goto E 32 dL_isEdge_140 (by decide) ?_
                  refine g_lvs (lv' := [(0, .ref (x 0)), (1, .int axis), (2, .int up), (3, .int v1_), (4, .int ((S.1 7) / 16)), (5, .int ((S.1 8) / 16)), (6, .int (nI (k + 1)))]) [4, 5, 6, 7, 8, 9, 0] rfl ?_
                  subst hv9_
                  subst hv1_
                  exact ih (k + 1) (by omega) (by omega) (fun pc_ lv_ v_ u_ h1_ h2_ h3_ h4_ => RET pc_ lv_ v_ u_ h1_ h2_ (h3_.trans (by rw [r_L_isEdge_at32, if_neg c_37, if_pos c_42, if_pos c_57, if_pos c_92, if_pos c_114, if_neg c_126, if_pos c_132])) h4_)
                · skip
                  refine g_iconst E 0 dL_isEdge_135 (by decide) ?_
                  subst hv9_
                  subst hv1_
                  exact RET 136 _ 0 _ dL_isEdge_136 rfl (by rw [r_L_isEdge_at32, if_neg c_37, if_pos c_42, if_pos c_57, if_pos c_92, if_pos c_114, if_neg c_126, if_neg c_132]) rfl
          · skip
            refine g_iload E 0 dL_isEdge_95 rfl ?_
            refine g_ldc E ki_L_50 dL_isEdge_97 ?_
            refine g_icmpeq E 106 dL_isEdge_99 (by decide) (fun c_99 => ?_) (fun c_99 => ?_)
            · skip
              refine g_iconst E 0 dL_isEdge_106 (by decide) ?_
              refine g_istore E (lv' := [(9, .int 0), (8, .int v9_), (7, .int (nI k)), (0, .ref (x 0)), (1, .int axis), (2, .int up), (3, .int v1_), (4, .int ((S.1 7) / 16)), (5, .int ((S.1 8) / 16)), (6, .int (nI k))]) dL_isEdge_107 (by decide) rfl ?_
              refine g_iload E 0 dL_isEdge_109 rfl ?_
              refine g_iload E 9 dL_isEdge_111 rfl ?_
              refine g_iload_n E 6 dL_isEdge_113 rfl rfl ?_
              refine g_icmpne E 121 dL_isEdge_114 (by decide) (fun c_114 => ?_) (fun c_114 => ?_)
              · skip
                refine g_iconst E 0 dL_isEdge_121 (by decide) ?_
                refine g_icmpeq E 137 dL_isEdge_122 (by decide) (fun _ => ?_) (fun q_ => absurd q_ (by decide))
                refine g_iinc E (j := 9) (v := (nI (k + 1))) (lv' := [(6, .int (nI (k + 1))), (9, .int 0), (8, .int v9_), (7, .int (nI k)), (0, .ref (x 0)), (1, .int axis), (2, .int up), (3, .int v1_), (4, .int ((S.1 7) / 16)), (5, .int ((S.1 8) / 16))]) dL_isEdge_137 rfl (nI_1 _) (by decide) rfl ?_
                refine g_goto E 32 dL_isEdge_140 (by decide) ?_
                refine g_lvs (lv' := [(0, .ref (x 0)), (1, .int axis), (2, .int up), (3, .int v1_), (4, .int ((S.1 7) / 16)), (5, .int ((S.1 8) / 16)), (6, .int (nI (k + 1)))]) [4, 5, 6, 7, 8, 9, 0] rfl ?_
                subst hv9_
                subst hv1_
                exact ih (k + 1) (by omega) (by omega) (fun pc_ lv_ v_ u_ h1_ h2_ h3_ h4_ => RET pc_ lv_ v_ u_ h1_ h2_ (h3_.trans (by rw [r_L_isEdge_at32, if_neg c_37, if_pos c_42, if_pos c_57, if_neg c_92, if_pos c_99, if_neg c_114])) h4_)
              · skip
                refine g_iconst E 1 dL_isEdge_117 (by decide) ?_
                refine g_goto E 122 dL_isEdge_118 (by decide) ?_
                refine g_icmpeq E 137 dL_isEdge_122 (by decide) (fun q_ => absurd q_ (by decide)) (fun _ => ?_)
                refine g_iload_n E 6 dL_isEdge_125 rfl rfl ?_
                refine g_iflt E 135 dL_isEdge_126 (by decide) (fun c_126 => ?_) (fun c_126 => ?_)
                · skip
                  refine g_iconst E 0 dL_isEdge_135 (by decide) ?_
                  subst hv9_
                  subst hv1_
                  exact RET 136 _ 0 _ dL_isEdge_136 rfl (by rw [r_L_isEdge_at32, if_neg c_37, if_pos c_42, if_pos c_57, if_neg c_92, if_pos c_99, if_pos c_114, if_pos c_126]) rfl
                · skip
                  refine g_iload E 9 dL_isEdge_129 rfl ?_
                  refine g_iload_n E 6 dL_isEdge_131 rfl rfl ?_
                  refine g_icmpgt E 137 dL_isEdge_132 (by decide) (fun c_132 => ?_) (fun c_132 => ?_)
                  · skip
                    refine g_iinc E (j := 9) (v := (nI (k + 1))) (lv' := [(6, .int (nI (k + 1))), (9, .int 0), (8, .int v9_), (7, .int (nI k)), (0, .ref (x 0)), (1, .int axis), (2, .int up), (3, .int v1_), (4, .int ((S.1 7) / 16)), (5, .int ((S.1 8) / 16))]) dL_isEdge_137 rfl (nI_1 _) (by decide) rfl ?_
                    refine g_goto E 32 dL_isEdge_140 (by decide) ?_
                    refine g_lvs (lv' := [(0, .ref (x 0)), (1, .int axis), (2, .int up), (3, .int v1_), (4, .int ((S.1 7) / 16)), (5, .int ((S.1 8) / 16)), (6, .int (nI (k + 1)))]) [4, 5, 6, 7, 8, 9, 0] rfl ?_
                    subst hv9_
                    subst hv1_
                    exact ih (k + 1) (by omega) (by omega) (fun pc_ lv_ v_ u_ h1_ h2_ h3_ h4_ => RET pc_ lv_ v_ u_ h1_ h2_ (h3_.trans (by rw [r_L_isEdge_at32, if_neg c_37, if_pos c_42, if_pos c_57, if_neg c_92, if_pos c_99, if_pos c_114, if_neg c_126, if_pos c_132])) h4_)
                  · skip
                    refine g_iconst E 0 dL_isEdge_135 (by decide) ?_
                    subst hv9_
                    subst hv1_
                    exact RET 136 _ 0 _ dL_isEdge_136 rfl (by rw [r_L_isEdge_at32, if_neg c_37, if_pos c_42, if_pos c_57, if_neg c_92, if_pos c_99, if_pos c_114, if_neg c_126, if_neg c_132]) rfl
            · skip
              refine g_iconst E 1 dL_isEdge_102 (by decide) ?_
              refine g_goto E 107 dL_isEdge_103 (by decide) ?_
              refine g_istore E (lv' := [(9, .int 1), (8, .int v9_), (7, .int (nI k)), (0, .ref (x 0)), (1, .int axis), (2, .int up), (3, .int v1_), (4, .int ((S.1 7) / 16)), (5, .int ((S.1 8) / 16)), (6, .int (nI k))]) dL_isEdge_107 (by decide) rfl ?_
              refine g_iload E 0 dL_isEdge_109 rfl ?_
              refine g_iload E 9 dL_isEdge_111 rfl ?_
              refine g_iload_n E 6 dL_isEdge_113 rfl rfl ?_
              refine g_icmpne E 121 dL_isEdge_114 (by decide) (fun c_114 => ?_) (fun c_114 => ?_)
              · skip
                refine g_iconst E 0 dL_isEdge_121 (by decide) ?_
                refine g_icmpeq E 137 dL_isEdge_122 (by decide) (fun q_ => absurd q_ (by decide)) (fun _ => ?_)
                refine g_iload_n E 6 dL_isEdge_125 rfl rfl ?_
                refine g_iflt E 135 dL_isEdge_126 (by decide) (fun c_126 => ?_) (fun c_126 => ?_)
                · skip
                  refine g_iconst E 0 dL_isEdge_135 (by decide) ?_
                  subst hv9_
                  subst hv1_
                  exact RET 136 _ 0 _ dL_isEdge_136 rfl (by rw [r_L_isEdge_at32, if_neg c_37, if_pos c_42, if_pos c_57, if_neg c_92, if_neg c_99, if_neg c_114, if_pos c_126]) rfl
                · skip
                  refine g_iload E 9 dL_isEdge_129 rfl ?_
                  refine g_iload_n E 6 dL_isEdge_131 rfl rfl ?_
                  refine g_icmpgt E 137 dL_isEdge_132 (by decide) (fun c_132 => ?_) (fun c_132 => ?_)
                  · skip
                    refine g_iinc E (j := 9) (v := (nI (k + 1))) (lv' := [(6, .int (nI (k + 1))), (9, .int 1), (8, .int v9_), (7, .int (nI k)), (0, .ref (x 0)), (1, .int axis), (2, .int up), (3, .int v1_), (4, .int ((S.1 7) / 16)), (5, .int ((S.1 8) / 16))]) dL_isEdge_137 rfl (nI_1 _) (by decide) rfl ?_
                    refine g_goto E 32 dL_isEdge_140 (by decide) ?_
                    refine g_lvs (lv' := [(0, .ref (x 0)), (1, .int axis), (2, .int up), (3, .int v1_), (4, .int ((S.1 7) / 16)), (5, .int ((S.1 8) / 16)), (6, .int (nI (k + 1)))]) [4, 5, 6, 7, 8, 9, 0] rfl ?_
                    subst hv9_
                    subst hv1_
                    exact ih (k + 1) (by omega) (by omega) (fun pc_ lv_ v_ u_ h1_ h2_ h3_ h4_ => RET pc_ lv_ v_ u_ h1_ h2_ (h3_.trans (by rw [r_L_isEdge_at32, if_neg c_37, if_pos c_42, if_pos c_57, if_neg c_92, if_neg c_99, if_neg c_114, if_neg c_126, if_pos c_132])) h4_)
                  · skip
                    refine g_iconst E 0 dL_isEdge_135 (by decide) ?_
                    subst hv9_
                    subst hv1_
                    exact RET 136 _ 0 _ dL_isEdge_136 rfl (by rw [r_L_isEdge_at32, if_neg c_37, if_pos c_42, if_pos c_57, if_neg c_92, if_neg c_99, if_neg c_114, if_neg c_126, if_neg c_132]) rfl
              · skip
                refine g_iconst E 1 dL_isEdge_117 (by decide) ?_
                refine g_goto E 122 dL_isEdge_118 (by decide) ?_
                refine g_icmpeq E 137 dL_isEdge_122 (by decide) (fun _ => ?_) (fun q_ => absurd q_ (by decide))
                refine g_iinc E (j := 9) (v := (nI (k + 1))) (lv' := [(6, .int (nI (k + 1))), (9, .int 1), (8, .int v9_), (7, .int (nI k)), (0, .ref (x 0)), (1, .int axis), (2, .int up), (3, .int v1_), (4, .int ((S.1 7) / 16)), (5, .int ((S.1 8) / 16))]) dL_isEdge_137 rfl (nI_1 _) (by decide) rfl ?_
                refine g_goto E 32 dL_isEdge_140 (by decide) ?_
                refine g_lvs (lv' := [(0, .ref (x 0)), (1, .int axis), (2, .int up), (3, .int v1_), (4, .int ((S.1 7) / 16)), (5, .int ((S.1 8) / 16)), (6, .int (nI (k + 1)))]) [4, 5, 6, 7, 8, 9, 0] rfl ?_
                subst hv9_
                subst hv1_
                exact ih (k + 1) (by omega) (by omega) (fun pc_ lv_ v_ u_ h1_ h2_ h3_ h4_ => RET pc_ lv_ v_ u_ h1_ h2_ (h3_.trans (by rw [r_L_isEdge_at32, if_neg c_37, if_pos c_42, if_pos c_57, if_neg c_92, if_neg c_99, if_pos c_114])) h4_)
set_option maxHeartbeats 1000000 in
set_option maxRecDepth 100000 in
theorem s_L_isEdge_0 (d : gD) (x : Nat → Nat) (a : Nat → Nat) (b : Nat → Nat) (c : Nat → Nat) (e : Nat → Nat) (axis : Int32) (up : Int32) (p : Nat → Nat → Nat) (q : Nat → Nat → Nat) (S : SS) (T : SS) (h : Nat → Int32) (t : Nat → Int32) (y : HS) (ss : Nat → Option SS)   {X : gX} (E : gE d X RL cL_isEdge 10 R_L_isEdge) (RET : ∀ (pc_ : Nat) (lv_ : List (Nat × Value)) (v_ : Int32) (u_ : va_W), decode cL_isEdge pc_ = .ok (.ireturn, 1) → narrow .boolean (.int v_) = .int v_ → v_ = r_L_isEdge axis up S → u_ = XW d (x, a, b, c, e) p q S T h t y ss → G d X u_ R_L_isEdge.cells R_L_isEdge.slots pc_ lv_ [.int v_]) : G d X (XW d (x, a, b, c, e) p q S T h t y ss) 0 0 0 [(0, .ref (x 0)), (1, .int axis), (2, .int up)] [] := by
  refine g_aload_n E 0 dL_isEdge_0 rfl rfl ?_
  refine g_iload_n E 1 dL_isEdge_1 rfl rfl ?_
  refine g_iload_n E 2 dL_isEdge_2 rfl rfl ?_
  refine g_callVi0 E gc_X4_edge ml_L_47 (t_X4_edge d x a b c e axis up p q S T h t y ss ) rfl rfl (ci := 4) 0 rfl rfl rfl rfl (ok_le rfl) ⟨ok_le rfl, ok_le rfl, ok_le rfl, ok_le rfl⟩ rfl rfl dL_isEdge_3 ?_
  refine g_nm (fun v1_ hv1_ => ?_)
  refine g_istore_n E (lv' := [(3, .int v1_), (0, .ref (x 0)), (1, .int axis), (2, .int up)]) dL_isEdge_6 rfl (by decide) rfl ?_
  refine g_aload_n E 1 dL_isEdge_7 rfl rfl ?_
  refine g_iconst E 0 dL_isEdge_8 (by decide) ?_
  refine g_iconst E 0 dL_isEdge_9 (by decide) ?_
  refine g_callVi0 E gc_X4_of ml_L_14 (t_X4_of d x a b c e 0 0 p q S T h t y ss ) rfl rfl (ci := 4) 0 rfl rfl rfl rfl (ok_le rfl) ⟨ok_le rfl, ok_le rfl, ok_le rfl, ok_le rfl⟩ rfl rfl dL_isEdge_10 ?_
  refine g_top (b := S.1 7) (of_0_0 _) ?_
  refine g_bipush E 16 dL_isEdge_13 (by decide) ?_
  refine g_idiv E dL_isEdge_15 (by decide) ?_
  refine g_istore E (lv' := [(4, .int ((S.1 7) / 16)), (3, .int v1_), (0, .ref (x 0)), (1, .int axis), (2, .int up)]) dL_isEdge_16 (by decide) rfl ?_
  refine g_aload_n E 2 dL_isEdge_18 rfl rfl ?_
  refine g_iconst E 1 dL_isEdge_19 (by decide) ?_
  refine g_iconst E 0 dL_isEdge_20 (by decide) ?_
  refine g_callVi0 E gc_X4_of ml_L_14 (t_X4_of d x a b c e 1 0 p q S T h t y ss ) rfl rfl (ci := 4) 0 rfl rfl rfl rfl (ok_le rfl) ⟨ok_le rfl, ok_le rfl, ok_le rfl, ok_le rfl⟩ rfl rfl dL_isEdge_21 ?_
  refine g_top (b := S.1 8) (of_1_0 _) ?_
  refine g_bipush E 16 dL_isEdge_24 (by decide) ?_
  refine g_idiv E dL_isEdge_26 (by decide) ?_
  refine g_istore E (lv' := [(5, .int ((S.1 8) / 16)), (4, .int ((S.1 7) / 16)), (3, .int v1_), (0, .ref (x 0)), (1, .int axis), (2, .int up)]) dL_isEdge_27 (by decide) rfl ?_
  refine g_iconst E 1 dL_isEdge_29 (by decide) ?_
  refine g_istore E (lv' := [(6, .int 1), (5, .int ((S.1 8) / 16)), (4, .int ((S.1 7) / 16)), (3, .int v1_), (0, .ref (x 0)), (1, .int axis), (2, .int up)]) dL_isEdge_30 (by decide) rfl ?_
  refine g_lvs (lv' := [(0, .ref (x 0)), (1, .int axis), (2, .int up), (3, .int v1_), (4, .int ((S.1 7) / 16)), (5, .int ((S.1 8) / 16)), (6, .int 1)]) [4, 5, 6, 3, 2, 1, 0] rfl ?_
  subst hv1_
  exact s_L_isEdge_32 d x a b c e axis up p q S T h t y ss  E 257 1 (by omega) (by omega) (fun pc_ lv_ v_ u_ h1_ h2_ h3_ h4_ => RET pc_ lv_ v_ u_ h1_ h2_ (h3_.trans (by rw [r_L_isEdge])) h4_)
set_option maxHeartbeats 1000000 in
set_option maxRecDepth 100000 in
theorem t_L_isEdge (d : gD) (x : Nat → Nat) (a : Nat → Nat) (b : Nat → Nat) (c : Nat → Nat) (e : Nat → Nat) (axis : Int32) (up : Int32) (p : Nat → Nat → Nat) (q : Nat → Nat → Nat) (S : SS) (T : SS) (h : Nat → Int32) (t : Nat → Int32) (y : HS) (ss : Nat → Option SS)  : gMi d yL_isEdge cL_isEdge 10 (some .boolean) R_L_isEdge [.ref (x 0), .int axis, .int up] (XW d (x, a, b, c, e) p q S T h t y ss) (fun r_ u_ => r_ = r_L_isEdge axis up S ∧ u_ = XW d (x, a, b, c, e) p q S T h t y ss) :=
  g_met_i RL rfl (by decide +kernel) (Nat.le_of_ble_eq_true rfl) [(0, .ref (x 0)), (1, .int axis), (2, .int up)] rfl (fun X E RET => s_L_isEdge_0 d x a b c e axis up p q S T h t y ss  E (fun pc_ lv_ v_ u_ h1_ h2_ h3_ h4_ => RET pc_ lv_ v_ u_ h1_ h2_ ⟨h3_, h4_⟩))
