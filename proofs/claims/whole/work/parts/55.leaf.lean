set_option maxRecDepth 20000 in
set_option maxHeartbeats 4000000 in
theorem gor_leaf1 {G : Cx} (d : Nat) {μ : Hp} {s : Nat → Int64} {t : Nat → Int32} {L : LT} {A B : LT × Int32} {ls : List (LT × Nat)} {v4 dg a9 u9 : Int32} {m le at9 fa op tr sg hm hi : Int32} {co wh : Int64} (h60 : μ 60 = some (modC m co wh (nI ls.length) A.2 B.2 1 le at9 fa op tr sg hm hi)) (h63 : μ 63 = some (mlg L)) (h65 : μ 65 = some (arJ 600 s)) (h66 : μ 66 = some (arI 120 t)) (h67 : μ 67 = some (mlg A.1)) (h68 : μ 68 = some (mlg B.1)) (hs : Sn ls s t) (hlen : ls.length < 120) (hne : ¬ nI ls.length = 0) (hL : Eb 1000 L) (hA : Eb 1000 A.1) (hB : Eb 1000 B.1) : V G M_X7_goesOrders (d + 4) 0 0 (fun r μ' => r = none ∧ μ' 60 = some (modC m co wh (nI (meetO (ls, A, B) (L, dg)).1.length) (meetO (ls, A, B) (L, dg)).2.1.2 (meetO (ls, A, B) (L, dg)).2.2.2 1 le at9 fa op tr sg hm hi) ∧ (∃ s t, μ' 65 = some (arJ 600 s) ∧ μ' 66 = some (arI 120 t) ∧ Sn (meetO (ls, A, B) (L, dg)).1 s t) ∧ μ' 67 = some (mlg (meetO (ls, A, B) (L, dg)).2.1.1) ∧ μ' 68 = some (mlg (meetO (ls, A, B) (L, dg)).2.2.1) ∧ ∀ i, i < 60 ∨ (60 < i ∧ i < 65) ∨ 68 < i → μ' i = μ i) 114 [(4, .int v4), (3, .int dg), (0, .ref 60), (1, .int a9), (2, .int u9)] [] μ := by
  refine v_aload_n 2 dX7_goesOrders_114 rfl rfl ?_
  refine v_callV (c_X7_sees (d + 2) h60 h63 h65 h66 hs hlen) cs_X7_245 dX7_goesOrders_115 h60 rfl rfl (Nat.le_of_ble_eq_true rfl) ?_
  rintro _ _ ⟨rfl, s2, t2, rfl, hs2⟩
  refine v_aload_n 2 dX7_goesOrders_118 rfl rfl ?_
  refine v_get fl_X7_248 dX7_goesOrders_119 (up_s _ _ _) rfl ?_
  refine v_if_eq (tgt := 155) dX7_goesOrders_122 (by decide) (fun hc122 => ?_) (fun hc122 => ?_)
  · exact absurd hc122 (by decide)
  ·
    refine v_aload_n 2 dX7_goesOrders_125 rfl rfl ?_
    refine v_get fl_X7_21 dX7_goesOrders_126 (up_s _ _ _) rfl ?_
    refine v_iconst (v := 0) dX7_goesOrders_129 (by first | rfl | decide) ?_
    refine v_lald dX7_goesOrders_130 (up_n (by decide) (up_n (by decide) (up_n (by decide) h63))) (nI_in' (k := 0) (by decide)) ?_
    refine v_aload_n 2 dX7_goesOrders_131 rfl rfl ?_
    refine v_get fl_X7_21 dX7_goesOrders_132 (up_s _ _ _) rfl ?_
    refine v_iconst (v := 4) dX7_goesOrders_135 (by first | rfl | decide) ?_
    refine v_lald dX7_goesOrders_136 (up_n (by decide) (up_n (by decide) (up_n (by decide) h63))) (nI_in' (k := 4) (by decide)) ?_
    refine v_aload_n 2 dX7_goesOrders_137 rfl rfl ?_
    refine v_get fl_X7_33 dX7_goesOrders_138 (up_s _ _ _) rfl ?_
    refine v_iconst (v := 0) dX7_goesOrders_141 (by first | rfl | decide) ?_
    refine v_lald dX7_goesOrders_142 (up_n (by decide) (up_n (by decide) (up_n (by decide) h67))) (nI_in' (k := 0) (by decide)) ?_
    refine v_aload_n 2 dX7_goesOrders_143 rfl rfl ?_
    refine v_get fl_X7_33 dX7_goesOrders_144 (up_s _ _ _) rfl ?_
    refine v_iconst (v := 4) dX7_goesOrders_147 (by first | rfl | decide) ?_
    refine v_lald dX7_goesOrders_148 (up_n (by decide) (up_n (by decide) (up_n (by decide) h67))) (nI_in' (k := 4) (by decide)) ?_
    refine v_callS (c_X7_compared (d + 3) (L := L) (K := A.1) hL hA) cs_X7_252 dX7_goesOrders_149 rfl rfl (Nat.le_of_ble_eq_true rfl) ?_
    refine rt_k ?_
    refine v_if_ge (tgt := 174) dX7_goesOrders_152 (by decide) (fun hc152 => ?_) (fun hc152 => ?_)
    ·
      refine v_aload_n 2 dX7_goesOrders_174 rfl rfl ?_
      refine v_get fl_X7_248 dX7_goesOrders_175 (up_s _ _ _) rfl ?_
      refine v_if_eq (tgt := 211) dX7_goesOrders_178 (by decide) (fun hc178 => ?_) (fun hc178 => ?_)
      · exact absurd hc178 (by decide)
      ·
        refine v_aload_n 2 dX7_goesOrders_181 rfl rfl ?_
        refine v_get fl_X7_21 dX7_goesOrders_182 (up_s _ _ _) rfl ?_
        refine v_iconst (v := 0) dX7_goesOrders_185 (by first | rfl | decide) ?_
        refine v_lald dX7_goesOrders_186 (up_n (by decide) (up_n (by decide) (up_n (by decide) h63))) (nI_in' (k := 0) (by decide)) ?_
        refine v_aload_n 2 dX7_goesOrders_187 rfl rfl ?_
        refine v_get fl_X7_21 dX7_goesOrders_188 (up_s _ _ _) rfl ?_
        refine v_iconst (v := 4) dX7_goesOrders_191 (by first | rfl | decide) ?_
        refine v_lald dX7_goesOrders_192 (up_n (by decide) (up_n (by decide) (up_n (by decide) h63))) (nI_in' (k := 4) (by decide)) ?_
        refine v_aload_n 2 dX7_goesOrders_193 rfl rfl ?_
        refine v_get fl_X7_36 dX7_goesOrders_194 (up_s _ _ _) rfl ?_
        refine v_iconst (v := 0) dX7_goesOrders_197 (by first | rfl | decide) ?_
        refine v_lald dX7_goesOrders_198 (up_n (by decide) (up_n (by decide) (up_n (by decide) h68))) (nI_in' (k := 0) (by decide)) ?_
        refine v_aload_n 2 dX7_goesOrders_199 rfl rfl ?_
        refine v_get fl_X7_36 dX7_goesOrders_200 (up_s _ _ _) rfl ?_
        refine v_iconst (v := 4) dX7_goesOrders_203 (by first | rfl | decide) ?_
        refine v_lald dX7_goesOrders_204 (up_n (by decide) (up_n (by decide) (up_n (by decide) h68))) (nI_in' (k := 4) (by decide)) ?_
        refine v_callS (c_X7_compared (d + 3) (L := L) (K := B.1) hL hB) cs_X7_252 dX7_goesOrders_205 rfl rfl (Nat.le_of_ble_eq_true rfl) ?_
        refine rt_k ?_
        refine v_if_le (tgt := 230) dX7_goesOrders_208 (by decide) (fun hc208 => ?_) (fun hc208 => ?_)
        ·
          refine v_aload_n 2 dX7_goesOrders_230 rfl rfl ?_
          refine v_iconst (v := 1) dX7_goesOrders_231 (by first | rfl | decide) ?_
          refine v_put fp_X7_248 dX7_goesOrders_232 (up_s _ _ _) (Nat.le_of_ble_eq_true rfl) (by first | rfl | decide) (by first | rfl | decide) ?_
          refine v_vret dX7_goesOrders_235 rfl ?_
          have hM : meetO (ls, A, B) (L, dg) = (remO L ls, A, B) := by simp only [meetO, if_neg hne, if_neg (Int32.not_lt.mpr hc152), if_neg (Int32.not_lt.mpr hc208)]
          rw [hM]
          exact ⟨rfl, (up_s _ _ _), ⟨s2, t2, (up_n (by decide) (up_n (by decide) (up_n (by decide) (up_s _ _ _)))), (up_n (by decide) (up_n (by decide) (up_s _ _ _))), hs2⟩, (up_n (by decide) (up_n (by decide) (up_n (by decide) (up_n (by decide) h67)))), (up_n (by decide) (up_n (by decide) (up_n (by decide) (up_n (by decide) h68)))), fun i hi => by repeat (first | rfl | refine up_n (by omega) ?_)⟩
        ·
          refine v_aload_n 2 dX7_goesOrders_211 rfl rfl ?_
          refine v_iload_n 1 dX7_goesOrders_212 rfl rfl ?_
          refine v_put fp_X7_259 dX7_goesOrders_213 (up_s _ _ _) (Nat.le_of_ble_eq_true rfl) (by first | rfl | decide) (by first | rfl | decide) ?_
          refine v_aload_n 2 dX7_goesOrders_216 rfl rfl ?_
          refine v_get fl_X7_21 dX7_goesOrders_217 (up_s _ _ _) rfl ?_
          refine v_iconst (v := 0) dX7_goesOrders_220 (by first | rfl | decide) ?_
          refine v_aload_n 2 dX7_goesOrders_221 rfl rfl ?_
          refine v_get fl_X7_36 dX7_goesOrders_222 (up_s _ _ _) rfl ?_
          refine v_iconst (v := 0) dX7_goesOrders_225 (by first | rfl | decide) ?_
          refine v_iconst (v := 5) dX7_goesOrders_226 (by first | rfl | decide) ?_
          refine v_copyl cs_X7_140 dX7_goesOrders_227 (up_n (by decide) (up_n (by decide) (up_n (by decide) (up_n (by decide) h63)))) (up_n (by decide) (up_n (by decide) (up_n (by decide) (up_n (by decide) h68)))) rfl rfl (by decide) (by decide) (by decide) (by decide) (by decide) (fun i _ => rfl) (Nat.le_of_ble_eq_true rfl) ?_
          refine v_njJ (g := lvO L) (fun x hx => ?_) ?_
          · show va_cpy (lvO L) _ 0 0 5 x = lvO L x
            unfold va_cpy
            rw [if_pos (by omega)]
            simp
          refine v_aload_n 2 dX7_goesOrders_230 rfl rfl ?_
          refine v_iconst (v := 1) dX7_goesOrders_231 (by first | rfl | decide) ?_
          refine v_put fp_X7_248 dX7_goesOrders_232 (up_n (by decide) (up_s _ _ _)) (Nat.le_of_ble_eq_true rfl) (by first | rfl | decide) (by first | rfl | decide) ?_
          refine v_vret dX7_goesOrders_235 rfl ?_
          have hM : meetO (ls, A, B) (L, dg) = (remO L ls, A, (L, dg)) := by simp only [meetO, if_neg hne, if_neg (Int32.not_lt.mpr hc152), if_pos (Int32.not_le.mp hc208)]
          rw [hM]
          exact ⟨rfl, (up_s _ _ _), ⟨s2, t2, (up_n (by decide) (up_n (by decide) (up_n (by decide) (up_n (by decide) (up_n (by decide) (up_s _ _ _)))))), (up_n (by decide) (up_n (by decide) (up_n (by decide) (up_n (by decide) (up_s _ _ _))))), hs2⟩, (up_n (by decide) (up_n (by decide) (up_n (by decide) (up_n (by decide) (up_n (by decide) (up_n (by decide) h67)))))), (up_n (by decide) (up_s _ _ _)), fun i hi => by repeat (first | rfl | refine up_n (by omega) ?_)⟩
    ·
      refine v_aload_n 2 dX7_goesOrders_155 rfl rfl ?_
      refine v_iload_n 1 dX7_goesOrders_156 rfl rfl ?_
      refine v_put fp_X7_256 dX7_goesOrders_157 (up_s _ _ _) (Nat.le_of_ble_eq_true rfl) (by first | rfl | decide) (by first | rfl | decide) ?_
      refine v_aload_n 2 dX7_goesOrders_160 rfl rfl ?_
      refine v_get fl_X7_21 dX7_goesOrders_161 (up_s _ _ _) rfl ?_
      refine v_iconst (v := 0) dX7_goesOrders_164 (by first | rfl | decide) ?_
      refine v_aload_n 2 dX7_goesOrders_165 rfl rfl ?_
      refine v_get fl_X7_33 dX7_goesOrders_166 (up_s _ _ _) rfl ?_
      refine v_iconst (v := 0) dX7_goesOrders_169 (by first | rfl | decide) ?_
      refine v_iconst (v := 5) dX7_goesOrders_170 (by first | rfl | decide) ?_
      refine v_copyl cs_X7_140 dX7_goesOrders_171 (up_n (by decide) (up_n (by decide) (up_n (by decide) (up_n (by decide) h63)))) (up_n (by decide) (up_n (by decide) (up_n (by decide) (up_n (by decide) h67)))) rfl rfl (by decide) (by decide) (by decide) (by decide) (by decide) (fun i _ => rfl) (Nat.le_of_ble_eq_true rfl) ?_
      refine v_njJ (g := lvO L) (fun x hx => ?_) ?_
      · show va_cpy (lvO L) _ 0 0 5 x = lvO L x
        unfold va_cpy
        rw [if_pos (by omega)]
        simp
      refine v_aload_n 2 dX7_goesOrders_174 rfl rfl ?_
      refine v_get fl_X7_248 dX7_goesOrders_175 (up_n (by decide) (up_s _ _ _)) rfl ?_
      refine v_if_eq (tgt := 211) dX7_goesOrders_178 (by decide) (fun hc178 => ?_) (fun hc178 => ?_)
      · exact absurd hc178 (by decide)
      ·
        refine v_aload_n 2 dX7_goesOrders_181 rfl rfl ?_
        refine v_get fl_X7_21 dX7_goesOrders_182 (up_n (by decide) (up_s _ _ _)) rfl ?_
        refine v_iconst (v := 0) dX7_goesOrders_185 (by first | rfl | decide) ?_
        refine v_lald dX7_goesOrders_186 (up_n (by decide) (up_n (by decide) (up_n (by decide) (up_n (by decide) (up_n (by decide) h63))))) (nI_in' (k := 0) (by decide)) ?_
        refine v_aload_n 2 dX7_goesOrders_187 rfl rfl ?_
        refine v_get fl_X7_21 dX7_goesOrders_188 (up_n (by decide) (up_s _ _ _)) rfl ?_
        refine v_iconst (v := 4) dX7_goesOrders_191 (by first | rfl | decide) ?_
        refine v_lald dX7_goesOrders_192 (up_n (by decide) (up_n (by decide) (up_n (by decide) (up_n (by decide) (up_n (by decide) h63))))) (nI_in' (k := 4) (by decide)) ?_
        refine v_aload_n 2 dX7_goesOrders_193 rfl rfl ?_
        refine v_get fl_X7_36 dX7_goesOrders_194 (up_n (by decide) (up_s _ _ _)) rfl ?_
        refine v_iconst (v := 0) dX7_goesOrders_197 (by first | rfl | decide) ?_
        refine v_lald dX7_goesOrders_198 (up_n (by decide) (up_n (by decide) (up_n (by decide) (up_n (by decide) (up_n (by decide) h68))))) (nI_in' (k := 0) (by decide)) ?_
        refine v_aload_n 2 dX7_goesOrders_199 rfl rfl ?_
        refine v_get fl_X7_36 dX7_goesOrders_200 (up_n (by decide) (up_s _ _ _)) rfl ?_
        refine v_iconst (v := 4) dX7_goesOrders_203 (by first | rfl | decide) ?_
        refine v_lald dX7_goesOrders_204 (up_n (by decide) (up_n (by decide) (up_n (by decide) (up_n (by decide) (up_n (by decide) h68))))) (nI_in' (k := 4) (by decide)) ?_
        refine v_callS (c_X7_compared (d + 3) (L := L) (K := B.1) hL hB) cs_X7_252 dX7_goesOrders_205 rfl rfl (Nat.le_of_ble_eq_true rfl) ?_
        refine rt_k ?_
        refine v_if_le (tgt := 230) dX7_goesOrders_208 (by decide) (fun hc208 => ?_) (fun hc208 => ?_)
        ·
          refine v_aload_n 2 dX7_goesOrders_230 rfl rfl ?_
          refine v_iconst (v := 1) dX7_goesOrders_231 (by first | rfl | decide) ?_
          refine v_put fp_X7_248 dX7_goesOrders_232 (up_n (by decide) (up_s _ _ _)) (Nat.le_of_ble_eq_true rfl) (by first | rfl | decide) (by first | rfl | decide) ?_
          refine v_vret dX7_goesOrders_235 rfl ?_
          have hM : meetO (ls, A, B) (L, dg) = (remO L ls, (L, dg), B) := by simp only [meetO, if_neg hne, if_pos (Int32.not_le.mp hc152), if_neg (Int32.not_lt.mpr hc208)]
          rw [hM]
          exact ⟨rfl, (up_s _ _ _), ⟨s2, t2, (up_n (by decide) (up_n (by decide) (up_n (by decide) (up_n (by decide) (up_n (by decide) (up_s _ _ _)))))), (up_n (by decide) (up_n (by decide) (up_n (by decide) (up_n (by decide) (up_s _ _ _))))), hs2⟩, (up_n (by decide) (up_s _ _ _)), (up_n (by decide) (up_n (by decide) (up_n (by decide) (up_n (by decide) (up_n (by decide) (up_n (by decide) h68)))))), fun i hi => by repeat (first | rfl | refine up_n (by omega) ?_)⟩
        ·
          refine v_aload_n 2 dX7_goesOrders_211 rfl rfl ?_
          refine v_iload_n 1 dX7_goesOrders_212 rfl rfl ?_
          refine v_put fp_X7_259 dX7_goesOrders_213 (up_n (by decide) (up_s _ _ _)) (Nat.le_of_ble_eq_true rfl) (by first | rfl | decide) (by first | rfl | decide) ?_
          refine v_aload_n 2 dX7_goesOrders_216 rfl rfl ?_
          refine v_get fl_X7_21 dX7_goesOrders_217 (up_s _ _ _) rfl ?_
          refine v_iconst (v := 0) dX7_goesOrders_220 (by first | rfl | decide) ?_
          refine v_aload_n 2 dX7_goesOrders_221 rfl rfl ?_
          refine v_get fl_X7_36 dX7_goesOrders_222 (up_s _ _ _) rfl ?_
          refine v_iconst (v := 0) dX7_goesOrders_225 (by first | rfl | decide) ?_
          refine v_iconst (v := 5) dX7_goesOrders_226 (by first | rfl | decide) ?_
          refine v_copyl cs_X7_140 dX7_goesOrders_227 (up_n (by decide) (up_n (by decide) (up_n (by decide) (up_n (by decide) (up_n (by decide) (up_n (by decide) h63)))))) (up_n (by decide) (up_n (by decide) (up_n (by decide) (up_n (by decide) (up_n (by decide) (up_n (by decide) h68)))))) rfl rfl (by decide) (by decide) (by decide) (by decide) (by decide) (fun i _ => rfl) (Nat.le_of_ble_eq_true rfl) ?_
          refine v_njJ (g := lvO L) (fun x hx => ?_) ?_
          · show va_cpy (lvO L) _ 0 0 5 x = lvO L x
            unfold va_cpy
            rw [if_pos (by omega)]
            simp
          refine v_aload_n 2 dX7_goesOrders_230 rfl rfl ?_
          refine v_iconst (v := 1) dX7_goesOrders_231 (by first | rfl | decide) ?_
          refine v_put fp_X7_248 dX7_goesOrders_232 (up_n (by decide) (up_s _ _ _)) (Nat.le_of_ble_eq_true rfl) (by first | rfl | decide) (by first | rfl | decide) ?_
          refine v_vret dX7_goesOrders_235 rfl ?_
          have hM : meetO (ls, A, B) (L, dg) = (remO L ls, (L, dg), (L, dg)) := by simp only [meetO, if_neg hne, if_pos (Int32.not_le.mp hc152), if_pos (Int32.not_le.mp hc208)]
          rw [hM]
          exact ⟨rfl, (up_s _ _ _), ⟨s2, t2, (up_n (by decide) (up_n (by decide) (up_n (by decide) (up_n (by decide) (up_n (by decide) (up_n (by decide) (up_n (by decide) (up_s _ _ _)))))))), (up_n (by decide) (up_n (by decide) (up_n (by decide) (up_n (by decide) (up_n (by decide) (up_n (by decide) (up_s _ _ _))))))), hs2⟩, (up_n (by decide) (up_n (by decide) (up_n (by decide) (up_s _ _ _)))), (up_n (by decide) (up_s _ _ _)), fun i hi => by repeat (first | rfl | refine up_n (by omega) ?_)⟩

set_option maxRecDepth 20000 in
set_option maxHeartbeats 4000000 in
theorem gor_leaf0 {G : Cx} (d : Nat) {μ : Hp} {s : Nat → Int64} {t : Nat → Int32} {x7 x8 : Nat → Int64} {L : LT} {A B : LT × Int32} {lr mr : Int32} {v4 dg a9 u9 : Int32} {m le at9 fa op tr sg hm hi : Int32} {co wh : Int64} (h60 : μ 60 = some (modC m co wh (nI ([] : List (LT × Nat)).length) lr mr 0 le at9 fa op tr sg hm hi)) (h63 : μ 63 = some (mlg L)) (h65 : μ 65 = some (arJ 600 s)) (h66 : μ 66 = some (arI 120 t)) (h67 : μ 67 = some (arJ 5 x7)) (h68 : μ 68 = some (arJ 5 x8)) : V G M_X7_goesOrders (d + 4) 0 0 (fun r μ' => r = none ∧ μ' 60 = some (modC m co wh (nI (meetO ([], A, B) (L, dg)).1.length) (meetO ([], A, B) (L, dg)).2.1.2 (meetO ([], A, B) (L, dg)).2.2.2 1 le at9 fa op tr sg hm hi) ∧ (∃ s t, μ' 65 = some (arJ 600 s) ∧ μ' 66 = some (arI 120 t) ∧ Sn (meetO ([], A, B) (L, dg)).1 s t) ∧ μ' 67 = some (mlg (meetO ([], A, B) (L, dg)).2.1.1) ∧ μ' 68 = some (mlg (meetO ([], A, B) (L, dg)).2.2.1) ∧ ∀ i, i < 60 ∨ (60 < i ∧ i < 65) ∨ 68 < i → μ' i = μ i) 114 [(4, .int v4), (3, .int dg), (0, .ref 60), (1, .int a9), (2, .int u9)] [] μ := by
  have hs : Sn [] s t := fun j K k h => by simp at h
  have hlen : ([] : List (LT × Nat)).length < 120 := by decide
  refine v_aload_n 2 dX7_goesOrders_114 rfl rfl ?_
  refine v_callV (c_X7_sees (d + 2) h60 h63 h65 h66 hs hlen) cs_X7_245 dX7_goesOrders_115 h60 rfl rfl (Nat.le_of_ble_eq_true rfl) ?_
  rintro _ _ ⟨rfl, s2, t2, rfl, hs2⟩
  refine v_aload_n 2 dX7_goesOrders_118 rfl rfl ?_
  refine v_get fl_X7_248 dX7_goesOrders_119 (up_s _ _ _) rfl ?_
  refine v_if_eq (tgt := 155) dX7_goesOrders_122 (by decide) (fun hc122 => ?_) (fun hc122 => ?_)
  ·
    refine v_aload_n 2 dX7_goesOrders_155 rfl rfl ?_
    refine v_iload_n 1 dX7_goesOrders_156 rfl rfl ?_
    refine v_put fp_X7_256 dX7_goesOrders_157 (up_s _ _ _) (Nat.le_of_ble_eq_true rfl) (by first | rfl | decide) (by first | rfl | decide) ?_
    refine v_aload_n 2 dX7_goesOrders_160 rfl rfl ?_
    refine v_get fl_X7_21 dX7_goesOrders_161 (up_s _ _ _) rfl ?_
    refine v_iconst (v := 0) dX7_goesOrders_164 (by first | rfl | decide) ?_
    refine v_aload_n 2 dX7_goesOrders_165 rfl rfl ?_
    refine v_get fl_X7_33 dX7_goesOrders_166 (up_s _ _ _) rfl ?_
    refine v_iconst (v := 0) dX7_goesOrders_169 (by first | rfl | decide) ?_
    refine v_iconst (v := 5) dX7_goesOrders_170 (by first | rfl | decide) ?_
    refine v_copyl cs_X7_140 dX7_goesOrders_171 (up_n (by decide) (up_n (by decide) (up_n (by decide) (up_n (by decide) h63)))) (up_n (by decide) (up_n (by decide) (up_n (by decide) (up_n (by decide) h67)))) rfl rfl (by decide) (by decide) (by decide) (by decide) (by decide) (fun i _ => rfl) (Nat.le_of_ble_eq_true rfl) ?_
    refine v_njJ (g := lvO L) (fun x hx => ?_) ?_
    · show va_cpy (lvO L) _ 0 0 5 x = lvO L x
      unfold va_cpy
      rw [if_pos (by omega)]
      simp
    refine v_aload_n 2 dX7_goesOrders_174 rfl rfl ?_
    refine v_get fl_X7_248 dX7_goesOrders_175 (up_n (by decide) (up_s _ _ _)) rfl ?_
    refine v_if_eq (tgt := 211) dX7_goesOrders_178 (by decide) (fun hc178 => ?_) (fun hc178 => ?_)
    ·
      refine v_aload_n 2 dX7_goesOrders_211 rfl rfl ?_
      refine v_iload_n 1 dX7_goesOrders_212 rfl rfl ?_
      refine v_put fp_X7_259 dX7_goesOrders_213 (up_n (by decide) (up_s _ _ _)) (Nat.le_of_ble_eq_true rfl) (by first | rfl | decide) (by first | rfl | decide) ?_
      refine v_aload_n 2 dX7_goesOrders_216 rfl rfl ?_
      refine v_get fl_X7_21 dX7_goesOrders_217 (up_s _ _ _) rfl ?_
      refine v_iconst (v := 0) dX7_goesOrders_220 (by first | rfl | decide) ?_
      refine v_aload_n 2 dX7_goesOrders_221 rfl rfl ?_
      refine v_get fl_X7_36 dX7_goesOrders_222 (up_s _ _ _) rfl ?_
      refine v_iconst (v := 0) dX7_goesOrders_225 (by first | rfl | decide) ?_
      refine v_iconst (v := 5) dX7_goesOrders_226 (by first | rfl | decide) ?_
      refine v_copyl cs_X7_140 dX7_goesOrders_227 (up_n (by decide) (up_n (by decide) (up_n (by decide) (up_n (by decide) (up_n (by decide) (up_n (by decide) h63)))))) (up_n (by decide) (up_n (by decide) (up_n (by decide) (up_n (by decide) (up_n (by decide) (up_n (by decide) h68)))))) rfl rfl (by decide) (by decide) (by decide) (by decide) (by decide) (fun i _ => rfl) (Nat.le_of_ble_eq_true rfl) ?_
      refine v_njJ (g := lvO L) (fun x hx => ?_) ?_
      · show va_cpy (lvO L) _ 0 0 5 x = lvO L x
        unfold va_cpy
        rw [if_pos (by omega)]
        simp
      refine v_aload_n 2 dX7_goesOrders_230 rfl rfl ?_
      refine v_iconst (v := 1) dX7_goesOrders_231 (by first | rfl | decide) ?_
      refine v_put fp_X7_248 dX7_goesOrders_232 (up_n (by decide) (up_s _ _ _)) (Nat.le_of_ble_eq_true rfl) (by first | rfl | decide) (by first | rfl | decide) ?_
      refine v_vret dX7_goesOrders_235 rfl ?_
      rw [meet_0]
      exact ⟨rfl, (up_s _ _ _), ⟨s2, t2, (up_n (by decide) (up_n (by decide) (up_n (by decide) (up_n (by decide) (up_n (by decide) (up_n (by decide) (up_n (by decide) (up_s _ _ _)))))))), (up_n (by decide) (up_n (by decide) (up_n (by decide) (up_n (by decide) (up_n (by decide) (up_n (by decide) (up_s _ _ _))))))), hs2⟩, (up_n (by decide) (up_n (by decide) (up_n (by decide) (up_s _ _ _)))), (up_n (by decide) (up_s _ _ _)), fun i hi => by repeat (first | rfl | refine up_n (by omega) ?_)⟩
    · exact absurd rfl hc178
  · exact absurd rfl hc122

