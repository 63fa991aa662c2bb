def kl_S_group (R : Nat → kc_Sg → Prop) : Prop := ∀ (n : Nat) (σ : kc_Sg) (p0 : Int32) (p1 : Int32) (p2 : Int32), n < 512 → R n σ → ∃ (tag : Nat) (σ1 σ2 : kc_Sg) (d : Nat), (tag = 0 ∨ tag = 3) ∧ d ≤ 5 ∧ (∀ l : Launch, l.stackTraces = false → ∀ V : kc_V, kc_G V → kx_Met l y_K_group b_K_group 4 none (kx_rm 6) V [.ref (kc_ad V 0), .int p0, .int p1, .int p2] σ tag none σ1) ∧ (∀ (l : Launch) (V : kc_V), kc_G V → kc_Met l y_M_group b_M_group 6 none (kc_rm d) V [.ref (kc_ad V 38), .int p0, .int p1, .int p2] (if tag = 0 then σ1 else σ) none σ2) ∧ σ2 38 0 = kw_c_group tag ∧ R (n + 1) σ2
def kl_S_found (R : Nat → kc_Sg → Prop) : Prop := ∀ (n : Nat) (σ : kc_Sg) (p0 : Int32) (p1 : Int32) (p2 : Int32) (p3 : Int32), n < 512 → R n σ → ∃ (tag : Nat) (σ1 σ2 : kc_Sg) (d : Nat), (tag = 0 ∨ tag = 1 ∨ tag = 3) ∧ d ≤ 5 ∧ (∀ l : Launch, l.stackTraces = false → ∀ V : kc_V, kc_G V → kx_Met l y_K_found b_K_found 6 none (kx_rm 6) V [.ref (kc_ad V 0), .int p0, .int p1, .int p2, .int p3] σ tag none σ1) ∧ (∀ (l : Launch) (V : kc_V), kc_G V → kc_Met l y_M_found b_M_found 6 none (kc_rm d) V [.ref (kc_ad V 38), .int p0, .int p1, .int p2, .int p3] (if tag = 0 then σ1 else σ) none σ2) ∧ σ2 38 0 = kw_c_found tag ∧ R (n + 1) σ2
def kl_S_fault (R : Nat → kc_Sg → Prop) : Prop := ∀ (n : Nat) (σ : kc_Sg) (p0 : Int32) (p1 : Int32), n < 512 → R n σ → ∃ (tag : Nat) (σ1 σ2 : kc_Sg) (d : Nat), (tag = 0 ∨ tag = 1 ∨ tag = 2 ∨ tag = 3 ∨ tag = 4) ∧ d ≤ 5 ∧ (∀ l : Launch, l.stackTraces = false → ∀ V : kc_V, kc_G V → kx_Met l y_K_fault b_K_fault 3 none (kx_rm 7) V [.ref (kc_ad V 0), .int p0, .int p1] σ tag none σ1) ∧ (∀ (l : Launch) (V : kc_V), kc_G V → kc_Met l y_M_fault b_M_fault 5 none (kc_rm d) V [.ref (kc_ad V 38), .int p0, .int p1] (if tag = 0 then σ1 else σ) none σ2) ∧ σ2 38 0 = kw_c_fault tag ∧ R (n + 1) σ2
def kl_S_deal (R : Nat → kc_Sg → Prop) : Prop := ∀ (n : Nat) (σ : kc_Sg) (p0 : Int32) (p1 : Int32) (p2 : Int32) (p3 : Int32), n < 512 → R n σ → ∃ (tag : Nat) (σ1 σ2 : kc_Sg) (d : Nat), (tag = 0 ∨ tag = 1 ∨ tag = 2 ∨ tag = 3 ∨ tag = 4) ∧ d ≤ 5 ∧ (∀ l : Launch, l.stackTraces = false → ∀ V : kc_V, kc_G V → kx_Met l y_K_deal b_K_deal 5 none (kx_rm 7) V [.ref (kc_ad V 0), .int p0, .int p1, .int p2, .int p3] σ tag none σ1) ∧ (∀ (l : Launch) (V : kc_V), kc_G V → kc_Met l y_M_deal b_M_deal 6 none (kc_rm d) V [.ref (kc_ad V 38), .int p0, .int p1, .int p2, .int p3] (if tag = 0 then σ1 else σ) none σ2) ∧ σ2 38 0 = kw_c_deal tag ∧ R (n + 1) σ2
def kl_S_look (R : Nat → kc_Sg → Prop) : Prop := ∀ (n : Nat) (σ : kc_Sg) (p0 : Int32), n < 512 → R n σ → ∃ (tag : Nat) (σ1 σ2 : kc_Sg) (d : Nat) (v b : Int32), (tag = 0 ∨ tag = 1 ∨ tag = 2 ∨ tag = 4) ∧ d ≤ 5 ∧ (∀ l : Launch, l.stackTraces = false → ∀ V : kc_V, kc_G V → kx_Met l y_K_look b_K_look 5 (some .int) (kx_rm 7) V [.ref (kc_ad V 0), .int p0] σ tag (some (.int v)) σ1) ∧ (∀ (l : Launch) (V : kc_V), kc_G V → kc_Met l y_M_look b_M_look 4 (some .int) (kc_rm d) V [.ref (kc_ad V 38), .int p0] (if tag = 0 then (kc_up σ1 50 0 v) else σ) (some (.int b)) σ2) ∧ σ2 38 0 = kw_c_look tag ∧ (tag = 0 → σ2 50 0 = b) ∧ R (n + 1) σ2
def kl_S_answer (R : Nat → kc_Sg → Prop) : Prop := ∀ (n : Nat) (σ : kc_Sg) (p0 : Int32) (p1 : Int32), n < 512 → R n σ → ∃ (tag : Nat) (σ1 σ2 : kc_Sg) (d : Nat) (v b : Int32), (tag = 0 ∨ tag = 1 ∨ tag = 2 ∨ tag = 3 ∨ tag = 4) ∧ d ≤ 5 ∧ (∀ l : Launch, l.stackTraces = false → ∀ V : kc_V, kc_G V → kx_Met l y_K_answer b_K_answer 4 (some .boolean) (kx_rm 7) V [.ref (kc_ad V 0), .int p0, .int p1] σ tag (some (.int v)) σ1) ∧ (∀ (l : Launch) (V : kc_V), kc_G V → kc_Met l y_M_answer b_M_answer 5 (some .boolean) (kc_rm d) V [.ref (kc_ad V 38), .int p0, .int p1] (if tag = 0 then (kc_up σ1 50 0 (if v = 0 then nI 0 else nI 1)) else σ) (some (.int b)) σ2) ∧ σ2 38 0 = kw_c_answer tag ∧ (tag = 0 → σ2 50 0 = if b = 0 then nI 0 else nI 1) ∧ R (n + 1) σ2
def kl_S_close (R : Nat → kc_Sg → Prop) : Prop := ∀ (n : Nat) (σ : kc_Sg), n < 512 → R n σ → ∃ (tag : Nat) (σ1 σ2 : kc_Sg) (d : Nat) (v b : Int32), (tag = 0 ∨ tag = 1) ∧ d ≤ 5 ∧ (∀ l : Launch, l.stackTraces = false → ∀ V : kc_V, kc_G V → kx_Met l y_K_close b_K_close 3 (some .int) (kx_rm 7) V [.ref (kc_ad V 0)] σ tag (some (.int v)) σ1) ∧ (∀ (l : Launch) (V : kc_V), kc_G V → kc_Met l y_M_close b_M_close 4 (some .int) (kc_rm d) V [.ref (kc_ad V 38)] (if tag = 0 then (kc_up σ1 50 0 v) else σ) (some (.int b)) σ2) ∧ σ2 38 0 = kw_c_close tag ∧ (tag = 0 → σ2 50 0 = b) ∧ R (n + 1) σ2
def kl_S_wipe (R : Nat → kc_Sg → Prop) : Prop := ∀ (n : Nat) (σ : kc_Sg) (p0 : Int32), n < 512 → R n σ → ∃ (tag : Nat) (σ1 σ2 : kc_Sg) (d : Nat), (tag = 0 ∨ tag = 1 ∨ tag = 2 ∨ tag = 4) ∧ d ≤ 5 ∧ (∀ l : Launch, l.stackTraces = false → ∀ V : kc_V, kc_G V → kx_Met l y_K_wipe b_K_wipe 2 none (kx_rm 7) V [.ref (kc_ad V 0), .int p0] σ tag none σ1) ∧ (∀ (l : Launch) (V : kc_V), kc_G V → kc_Met l y_M_wipe b_M_wipe 2 none (kc_rm d) V [.ref (kc_ad V 38), .int p0] (if tag = 0 then σ1 else σ) none σ2) ∧ σ2 38 0 = kw_c_wipe tag ∧ R (n + 1) σ2
def kl_S_recover (R : Nat → kc_Sg → Prop) : Prop := ∀ (n : Nat) (σ : kc_Sg) (p0 : Int32), n < 512 → R n σ → ∃ (tag : Nat) (σ1 σ2 : kc_Sg) (d : Nat) (v b : Int32), (tag = 0 ∨ tag = 1 ∨ tag = 2 ∨ tag = 4) ∧ d ≤ 5 ∧ (∀ l : Launch, l.stackTraces = false → ∀ V : kc_V, kc_G V → kx_Met l y_K_recover b_K_recover 4 (some .int) (kx_rm 7) V [.ref (kc_ad V 0), .int p0] σ tag (some (.int v)) σ1) ∧ (∀ (l : Launch) (V : kc_V), kc_G V → kc_Met l y_M_recover b_M_recover 4 (some .int) (kc_rm d) V [.ref (kc_ad V 38), .int p0] (if tag = 0 then (kc_up σ1 50 0 v) else σ) (some (.int b)) σ2) ∧ σ2 38 0 = kw_c_recover tag ∧ (tag = 0 → σ2 50 0 = b) ∧ R (n + 1) σ2
def kl_S_share (R : Nat → kc_Sg → Prop) : Prop := ∀ (n : Nat) (σ : kc_Sg) (p0 : Int32), n < 512 → R n σ → ∃ (tag : Nat) (σ1 σ2 : kc_Sg) (d : Nat) (v b : Int32), (tag = 0 ∨ tag = 1 ∨ tag = 2) ∧ d ≤ 5 ∧ (∀ l : Launch, l.stackTraces = false → ∀ V : kc_V, kc_G V → kx_Met l y_K_share b_K_share 2 (some .int) (kx_rm 7) V [.ref (kc_ad V 0), .int p0] σ tag (some (.int v)) σ1) ∧ (∀ (l : Launch) (V : kc_V), kc_G V → kc_Met l y_M_share b_M_share 2 (some .int) (kc_rm d) V [.ref (kc_ad V 38), .int p0] (if tag = 0 then (kc_up σ1 50 0 v) else σ) (some (.int b)) σ2) ∧ σ2 38 0 = kw_c_share tag ∧ (tag = 0 → σ2 50 0 = b) ∧ R (n + 1) σ2
def kl_S_fits (R : Nat → kc_Sg → Prop) : Prop := ∀ (n : Nat) (σ : kc_Sg) (p0 : Int32), n < 512 → R n σ → ∃ (tag : Nat) (σ1 σ2 : kc_Sg) (d : Nat) (v b : Int32), (tag = 0 ∨ tag = 1 ∨ tag = 2) ∧ d ≤ 5 ∧ (∀ l : Launch, l.stackTraces = false → ∀ V : kc_V, kc_G V → kx_Met l y_K_fits b_K_fits 2 (some .boolean) (kx_rm 7) V [.ref (kc_ad V 0), .int p0] σ tag (some (.int v)) σ1) ∧ (∀ (l : Launch) (V : kc_V), kc_G V → kc_Met l y_M_fits b_M_fits 2 (some .boolean) (kc_rm d) V [.ref (kc_ad V 38), .int p0] (if tag = 0 then (kc_up σ1 50 0 (if v = 0 then nI 0 else nI 1)) else σ) (some (.int b)) σ2) ∧ σ2 38 0 = kw_c_fits tag ∧ (tag = 0 → σ2 50 0 = if b = 0 then nI 0 else nI 1) ∧ R (n + 1) σ2
def kl_S_sum (R : Nat → kc_Sg → Prop) : Prop := ∀ (n : Nat) (σ : kc_Sg) (p0 : Int32), n < 512 → R n σ → ∃ (tag : Nat) (σ1 σ2 : kc_Sg) (d : Nat) (v b : Int32), (tag = 0 ∨ tag = 1 ∨ tag = 5) ∧ d ≤ 5 ∧ (∀ l : Launch, l.stackTraces = false → ∀ V : kc_V, kc_G V → kx_Met l y_K_sum b_K_sum 2 (some .int) (kx_rm 7) V [.ref (kc_ad V 0), .int p0] σ tag (some (.int v)) σ1) ∧ (∀ (l : Launch) (V : kc_V), kc_G V → kc_Met l y_M_sum b_M_sum 2 (some .int) (kc_rm d) V [.ref (kc_ad V 38), .int p0] (if tag = 0 then (kc_up σ1 50 0 v) else σ) (some (.int b)) σ2) ∧ σ2 38 0 = kw_c_sum tag ∧ (tag = 0 → σ2 50 0 = b) ∧ R (n + 1) σ2
def kl_S_element (R : Nat → kc_Sg → Prop) : Prop := ∀ (n : Nat) (σ : kc_Sg) (p0 : Int32), n < 512 → R n σ → ∃ (tag : Nat) (σ1 σ2 : kc_Sg) (d : Nat) (v b : Int32), (tag = 0 ∨ tag = 1 ∨ tag = 2) ∧ d ≤ 5 ∧ (∀ l : Launch, l.stackTraces = false → ∀ V : kc_V, kc_G V → kx_Met l y_K_element b_K_element 2 (some .int) (kx_rm 7) V [.ref (kc_ad V 0), .int p0] σ tag (some (.int v)) σ1) ∧ (∀ (l : Launch) (V : kc_V), kc_G V → kc_Met l y_M_element b_M_element 2 (some .int) (kc_rm d) V [.ref (kc_ad V 38), .int p0] (if tag = 0 then (kc_up σ1 50 0 v) else σ) (some (.int b)) σ2) ∧ σ2 38 0 = kw_c_element tag ∧ (tag = 0 → σ2 50 0 = b) ∧ R (n + 1) σ2
def kl_S_reconstruct (R : Nat → kc_Sg → Prop) : Prop := ∀ (n : Nat) (σ : kc_Sg) (p0 : Int32), n < 512 → R n σ → ∃ (tag : Nat) (σ1 σ2 : kc_Sg) (d : Nat) (v b : Int32), (tag = 0 ∨ tag = 1 ∨ tag = 3) ∧ d ≤ 5 ∧ (∀ l : Launch, l.stackTraces = false → ∀ V : kc_V, kc_G V → kx_Met l y_K_reconstruct b_K_reconstruct 2 (some .int) (kx_rm 7) V [.ref (kc_ad V 0), .int p0] σ tag (some (.int v)) σ1) ∧ (∀ (l : Launch) (V : kc_V), kc_G V → kc_Met l y_M_reconstruct b_M_reconstruct 3 (some .int) (kc_rm d) V [.ref (kc_ad V 38), .int p0] (if tag = 0 then (kc_up σ1 50 0 v) else σ) (some (.int b)) σ2) ∧ σ2 38 0 = kw_c_reconstruct tag ∧ (tag = 0 → σ2 50 0 = b) ∧ R (n + 1) σ2
def kl_S_post (R : Nat → kc_Sg → Prop) : Prop := ∀ (n : Nat) (σ : kc_Sg) (p0 : Int32) (p1 : Int32), n < 512 → R n σ → ∃ (tag : Nat) (σ1 σ2 : kc_Sg) (d : Nat) (v b : Int32), (tag = 0 ∨ tag = 1 ∨ tag = 5 ∨ tag = 3) ∧ d ≤ 5 ∧ (∀ l : Launch, l.stackTraces = false → ∀ V : kc_V, kc_G V → kx_Met l y_K_post b_K_post 3 (some .int) (kx_rm 7) V [.ref (kc_ad V 0), .int p0, .int p1] σ tag (some (.int v)) σ1) ∧ (∀ (l : Launch) (V : kc_V), kc_G V → kc_Met l y_M_post b_M_post 3 (some .int) (kc_rm d) V [.ref (kc_ad V 38), .int p0, .int p1] (if tag = 0 then (kc_up σ1 50 0 v) else σ) (some (.int b)) σ2) ∧ σ2 38 0 = kw_c_post tag ∧ (tag = 0 → σ2 50 0 = b) ∧ R (n + 1) σ2
def kl_S_about (R : Nat → kc_Sg → Prop) : Prop := ∀ (n : Nat) (σ : kc_Sg) (p0 : Int32), n < 512 → R n σ → ∃ (tag : Nat) (σ1 σ2 : kc_Sg) (d : Nat) (v b : Int32), (tag = 0 ∨ tag = 3) ∧ d ≤ 5 ∧ (∀ l : Launch, l.stackTraces = false → ∀ V : kc_V, kc_G V → kx_Met l y_K_about b_K_about 2 (some .int) (kx_rm 6) V [.ref (kc_ad V 0), .int p0] σ tag (some (.int v)) σ1) ∧ (∀ (l : Launch) (V : kc_V), kc_G V → kc_Met l y_M_about b_M_about 5 (some .int) (kc_rm d) V [.ref (kc_ad V 38), .int p0] (if tag = 0 then (kc_up σ1 50 0 v) else σ) (some (.int b)) σ2) ∧ σ2 38 0 = kw_c_about tag ∧ (tag = 0 → σ2 50 0 = b) ∧ R (n + 1) σ2
set_option maxHeartbeats 4000000 in
set_option maxRecDepth 100000 in
theorem kl_c_group {C : kc_C} {V : kc_V} {z : Nat × Nat} {Q : State → Prop} {σ : kc_Sg} {b N n : Nat} {xs : Nat → Int32} {w0 : Cond} {ret : Option FieldType} {R : Nat → kc_Sg → Prop} (h : kl_H C V b N xs w0 ret) (hS : kl_S_group R) (hn : 5 * n + 5 ≤ N) (hR : R n σ) (hz : z.1 + 1 ≤ 601024 ∧ z.2 + 6 ≤ 7293034) (k : ∀ σ2 : kc_Sg, R (n + 1) σ2 → kc_Go C V 7 (z.1 + 1, z.2 + 6) Q σ2 1046 (kl_L V b n) []) : kc_Go C V 7 z Q σ 116 (kl_L V b n) [] := by
  have hC := h.1
  have hV := h.2.1
  have hN := h.2.2.2.2.1
  obtain ⟨tag, σ1, σ2, d0, ht, hd, hK, hM, he, hR2⟩ := hS n σ (xs (5 * n + 1)) (xs (5 * n + 2)) (xs (5 * n + 3)) (by omega) hR
  refine kg_aload_n hC d_L_law_116 1 rfl ?_
  refine kg_aload_n hC d_L_law_117 0 rfl ?_
  refine kg_iload hC d_L_law_118 4 rfl ?_
  refine kg_iconst hC d_L_law_120 (v := nI 1) (by decide +kernel) ?_
  refine kg_iadd hC d_L_law_121 ?_
  refine kl_sld h (i := 5 * n + 1) (nI_add _ _) (by omega) d_L_law_122 ?_
  refine kg_aload_n hC d_L_law_123 0 rfl ?_
  refine kg_iload hC d_L_law_124 4 rfl ?_
  refine kg_iconst hC d_L_law_126 (v := nI 2) (by decide +kernel) ?_
  refine kg_iadd hC d_L_law_127 ?_
  refine kl_sld h (i := 5 * n + 2) (nI_add _ _) (by omega) d_L_law_128 ?_
  refine kg_aload_n hC d_L_law_129 0 rfl ?_
  refine kg_iload hC d_L_law_130 4 rfl ?_
  refine kg_iconst hC d_L_law_132 (v := nI 3) (by decide +kernel) ?_
  refine kg_iadd hC d_L_law_133 ?_
  refine kl_sld h (i := 5 * n + 3) (nI_add _ _) (by omega) d_L_law_134 ?_
  refine kw_static hC h.2.2.1.1 h.2.2.1.2 (kw_L_group (kc_l C) hV σ σ1 (xs (5 * n + 1)) (xs (5 * n + 2)) (xs (5 * n + 3)) tag (hK (kc_l C) h.2.2.2.2.2 V hV) ht) tw_116 tw_0 (n := 4) (by decide +kernel) tw_115 tw_114 rfl ⟨⟨rfl, rfl⟩, Nat.le_of_ble_eq_true rfl, Nat.le_of_ble_eq_true rfl⟩ hz (rest := []) rfl (Nat.le_of_ble_eq_true rfl) d_L_law_135 ?_
  refine kg_istore hC d_L_law_138 [(5, .int (kw_c_group tag)), (0, .ref b), (1, .ref (kc_ad V 0)), (2, .ref (kc_ad V 38)), (3, .ref (kc_ad V 50)), (4, .int (nI (5 * n)))] rfl (by decide) ?_
  refine kg_aload_n hC d_L_law_140 3 rfl ?_
  refine kg_aload_n hC d_L_law_141 1 rfl ?_
  refine kg_iload hC d_L_law_142 5 rfl ?_
  refine kg_iconst hC d_L_law_144 (v := nI 1) (by decide +kernel) ?_
  refine kg_iadd hC d_L_law_145 ?_
  refine kl_sld h (i := 5 * n + 1) (nI_add _ _) (by omega) d_L_law_146 ?_
  refine kg_aload_n hC d_L_law_147 1 rfl ?_
  refine kg_iload hC d_L_law_148 5 rfl ?_
  refine kg_iconst hC d_L_law_150 (v := nI 2) (by decide +kernel) ?_
  refine kg_iadd hC d_L_law_151 ?_
  refine kl_sld h (i := 5 * n + 2) (nI_add _ _) (by omega) d_L_law_152 ?_
  refine kg_aload_n hC d_L_law_153 1 rfl ?_
  refine kg_iload hC d_L_law_154 5 rfl ?_
  refine kg_iconst hC d_L_law_156 (v := nI 3) (by decide +kernel) ?_
  refine kg_iadd hC d_L_law_157 ?_
  refine kl_sld h (i := 5 * n + 3) (nI_add _ _) (by omega) d_L_law_158 ?_
  refine kg_virtualV hC (hM (kc_l C) V hV) cal_M_group tw_665 tw_666 tw_664 (ko_38 hV) rfl rfl ⟨⟨rfl, rfl⟩, by show d0 + 1 ≤ 11; omega, by show 8 + (6 + 11) + 36 * d0 ≤ 380; omega⟩ (rest := []) rfl (Nat.le_of_ble_eq_true rfl) d_L_law_159 ?_ ⟨by show z.1 + 1 + 0 ≤ 601024; omega, by show z.2 + 6 + 0 ≤ 7293034; omega⟩
  refine kg_aload_n hC d_L_law_162 3 rfl ?_
  refine kg_virtualI hC (kk_M_thrown (kc_l C) hV σ2) cal_M_thrown tw_661 tw_662 tw_660 (ko_38 hV) rfl rfl ⟨⟨rfl, rfl⟩, Nat.le_of_ble_eq_true rfl, Nat.le_of_ble_eq_true rfl⟩ (rest := []) rfl (Nat.le_of_ble_eq_true rfl) d_L_law_163 ?_ ⟨by show z.1 + 1 + 0 ≤ 601024; omega, by show z.2 + 6 + 0 ≤ 7293034; omega⟩
  refine kg_iload hC d_L_law_166 0 rfl ?_
  refine kg_icmp_eq hC d_L_law_168 (tgt := 173) rfl (fun _ => ?_) (fun q => absurd he q)
  refine kg_goto hC d_L_law_173 (tgt := 1046) rfl ?_
  exact kg_loc [1, 2, 3, 4, 5] rfl (k σ2 hR2)
set_option maxHeartbeats 4000000 in
set_option maxRecDepth 100000 in
theorem kl_c_found {C : kc_C} {V : kc_V} {z : Nat × Nat} {Q : State → Prop} {σ : kc_Sg} {b N n : Nat} {xs : Nat → Int32} {w0 : Cond} {ret : Option FieldType} {R : Nat → kc_Sg → Prop} (h : kl_H C V b N xs w0 ret) (hS : kl_S_found R) (hn : 5 * n + 5 ≤ N) (hR : R n σ) (hz : z.1 + 1 ≤ 601024 ∧ z.2 + 6 ≤ 7293034) (k : ∀ σ2 : kc_Sg, R (n + 1) σ2 → kc_Go C V 7 (z.1 + 1, z.2 + 6) Q σ2 1046 (kl_L V b n) []) : kc_Go C V 7 z Q σ 176 (kl_L V b n) [] := by
  have hC := h.1
  have hV := h.2.1
  have hN := h.2.2.2.2.1
  obtain ⟨tag, σ1, σ2, d0, ht, hd, hK, hM, he, hR2⟩ := hS n σ (xs (5 * n + 1)) (xs (5 * n + 2)) (xs (5 * n + 3)) (xs (5 * n + 4)) (by omega) hR
  refine kg_aload_n hC d_L_law_176 1 rfl ?_
  refine kg_aload_n hC d_L_law_177 0 rfl ?_
  refine kg_iload hC d_L_law_178 4 rfl ?_
  refine kg_iconst hC d_L_law_180 (v := nI 1) (by decide +kernel) ?_
  refine kg_iadd hC d_L_law_181 ?_
  refine kl_sld h (i := 5 * n + 1) (nI_add _ _) (by omega) d_L_law_182 ?_
  refine kg_aload_n hC d_L_law_183 0 rfl ?_
  refine kg_iload hC d_L_law_184 4 rfl ?_
  refine kg_iconst hC d_L_law_186 (v := nI 2) (by decide +kernel) ?_
  refine kg_iadd hC d_L_law_187 ?_
  refine kl_sld h (i := 5 * n + 2) (nI_add _ _) (by omega) d_L_law_188 ?_
  refine kg_aload_n hC d_L_law_189 0 rfl ?_
  refine kg_iload hC d_L_law_190 4 rfl ?_
  refine kg_iconst hC d_L_law_192 (v := nI 3) (by decide +kernel) ?_
  refine kg_iadd hC d_L_law_193 ?_
  refine kl_sld h (i := 5 * n + 3) (nI_add _ _) (by omega) d_L_law_194 ?_
  refine kg_aload_n hC d_L_law_195 0 rfl ?_
  refine kg_iload hC d_L_law_196 4 rfl ?_
  refine kg_iconst hC d_L_law_198 (v := nI 4) (by decide +kernel) ?_
  refine kg_iadd hC d_L_law_199 ?_
  refine kl_sld h (i := 5 * n + 4) (nI_add _ _) (by omega) d_L_law_200 ?_
  refine kw_static hC h.2.2.1.1 h.2.2.1.2 (kw_L_found (kc_l C) hV σ σ1 (xs (5 * n + 1)) (xs (5 * n + 2)) (xs (5 * n + 3)) (xs (5 * n + 4)) tag (hK (kc_l C) h.2.2.2.2.2 V hV) ht) tw_214 tw_0 (n := 5) (by decide +kernel) tw_213 tw_212 rfl ⟨⟨rfl, rfl⟩, Nat.le_of_ble_eq_true rfl, Nat.le_of_ble_eq_true rfl⟩ hz (rest := []) rfl (Nat.le_of_ble_eq_true rfl) d_L_law_201 ?_
  refine kg_istore hC d_L_law_204 [(5, .int (kw_c_found tag)), (0, .ref b), (1, .ref (kc_ad V 0)), (2, .ref (kc_ad V 38)), (3, .ref (kc_ad V 50)), (4, .int (nI (5 * n)))] rfl (by decide) ?_
  refine kg_aload_n hC d_L_law_206 3 rfl ?_
  refine kg_aload_n hC d_L_law_207 1 rfl ?_
  refine kg_iload hC d_L_law_208 5 rfl ?_
  refine kg_iconst hC d_L_law_210 (v := nI 1) (by decide +kernel) ?_
  refine kg_iadd hC d_L_law_211 ?_
  refine kl_sld h (i := 5 * n + 1) (nI_add _ _) (by omega) d_L_law_212 ?_
  refine kg_aload_n hC d_L_law_213 1 rfl ?_
  refine kg_iload hC d_L_law_214 5 rfl ?_
  refine kg_iconst hC d_L_law_216 (v := nI 2) (by decide +kernel) ?_
  refine kg_iadd hC d_L_law_217 ?_
  refine kl_sld h (i := 5 * n + 2) (nI_add _ _) (by omega) d_L_law_218 ?_
  refine kg_aload_n hC d_L_law_219 1 rfl ?_
  refine kg_iload hC d_L_law_220 5 rfl ?_
  refine kg_iconst hC d_L_law_222 (v := nI 3) (by decide +kernel) ?_
  refine kg_iadd hC d_L_law_223 ?_
  refine kl_sld h (i := 5 * n + 3) (nI_add _ _) (by omega) d_L_law_224 ?_
  refine kg_aload_n hC d_L_law_225 1 rfl ?_
  refine kg_iload hC d_L_law_226 5 rfl ?_
  refine kg_iconst hC d_L_law_228 (v := nI 4) (by decide +kernel) ?_
  refine kg_iadd hC d_L_law_229 ?_
  refine kl_sld h (i := 5 * n + 4) (nI_add _ _) (by omega) d_L_law_230 ?_
  refine kg_virtualV hC (hM (kc_l C) V hV) cal_M_found tw_677 tw_678 tw_676 (ko_38 hV) rfl rfl ⟨⟨rfl, rfl⟩, by show d0 + 1 ≤ 11; omega, by show 8 + (6 + 11) + 36 * d0 ≤ 380; omega⟩ (rest := []) rfl (Nat.le_of_ble_eq_true rfl) d_L_law_231 ?_ ⟨by show z.1 + 1 + 0 ≤ 601024; omega, by show z.2 + 6 + 0 ≤ 7293034; omega⟩
  refine kg_aload_n hC d_L_law_234 3 rfl ?_
  refine kg_virtualI hC (kk_M_thrown (kc_l C) hV σ2) cal_M_thrown tw_661 tw_662 tw_660 (ko_38 hV) rfl rfl ⟨⟨rfl, rfl⟩, Nat.le_of_ble_eq_true rfl, Nat.le_of_ble_eq_true rfl⟩ (rest := []) rfl (Nat.le_of_ble_eq_true rfl) d_L_law_235 ?_ ⟨by show z.1 + 1 + 0 ≤ 601024; omega, by show z.2 + 6 + 0 ≤ 7293034; omega⟩
  refine kg_iload hC d_L_law_238 0 rfl ?_
  refine kg_icmp_eq hC d_L_law_240 (tgt := 245) rfl (fun _ => ?_) (fun q => absurd he q)
  refine kg_goto hC d_L_law_245 (tgt := 1046) rfl ?_
  exact kg_loc [1, 2, 3, 4, 5] rfl (k σ2 hR2)
set_option maxHeartbeats 4000000 in
set_option maxRecDepth 100000 in
theorem kl_c_fault {C : kc_C} {V : kc_V} {z : Nat × Nat} {Q : State → Prop} {σ : kc_Sg} {b N n : Nat} {xs : Nat → Int32} {w0 : Cond} {ret : Option FieldType} {R : Nat → kc_Sg → Prop} (h : kl_H C V b N xs w0 ret) (hS : kl_S_fault R) (hn : 5 * n + 5 ≤ N) (hR : R n σ) (hz : z.1 + 1 ≤ 601024 ∧ z.2 + 6 ≤ 7293034) (k : ∀ σ2 : kc_Sg, R (n + 1) σ2 → kc_Go C V 7 (z.1 + 1, z.2 + 6) Q σ2 1046 (kl_L V b n) []) : kc_Go C V 7 z Q σ 248 (kl_L V b n) [] := by
  have hC := h.1
  have hV := h.2.1
  have hN := h.2.2.2.2.1
  obtain ⟨tag, σ1, σ2, d0, ht, hd, hK, hM, he, hR2⟩ := hS n σ (xs (5 * n + 1)) (xs (5 * n + 2)) (by omega) hR
  refine kg_aload_n hC d_L_law_248 1 rfl ?_
  refine kg_aload_n hC d_L_law_249 0 rfl ?_
  refine kg_iload hC d_L_law_250 4 rfl ?_
  refine kg_iconst hC d_L_law_252 (v := nI 1) (by decide +kernel) ?_
  refine kg_iadd hC d_L_law_253 ?_
  refine kl_sld h (i := 5 * n + 1) (nI_add _ _) (by omega) d_L_law_254 ?_
  refine kg_aload_n hC d_L_law_255 0 rfl ?_
  refine kg_iload hC d_L_law_256 4 rfl ?_
  refine kg_iconst hC d_L_law_258 (v := nI 2) (by decide +kernel) ?_
  refine kg_iadd hC d_L_law_259 ?_
  refine kl_sld h (i := 5 * n + 2) (nI_add _ _) (by omega) d_L_law_260 ?_
  refine kw_static hC h.2.2.1.1 h.2.2.1.2 (kw_L_fault (kc_l C) hV σ σ1 (xs (5 * n + 1)) (xs (5 * n + 2)) tag (hK (kc_l C) h.2.2.2.2.2 V hV) ht) tw_269 tw_0 (n := 3) (by decide +kernel) tw_268 tw_267 rfl ⟨⟨rfl, rfl⟩, Nat.le_of_ble_eq_true rfl, Nat.le_of_ble_eq_true rfl⟩ hz (rest := []) rfl (Nat.le_of_ble_eq_true rfl) d_L_law_261 ?_
  refine kg_istore hC d_L_law_264 [(5, .int (kw_c_fault tag)), (0, .ref b), (1, .ref (kc_ad V 0)), (2, .ref (kc_ad V 38)), (3, .ref (kc_ad V 50)), (4, .int (nI (5 * n)))] rfl (by decide) ?_
  refine kg_aload_n hC d_L_law_266 3 rfl ?_
  refine kg_aload_n hC d_L_law_267 1 rfl ?_
  refine kg_iload hC d_L_law_268 5 rfl ?_
  refine kg_iconst hC d_L_law_270 (v := nI 1) (by decide +kernel) ?_
  refine kg_iadd hC d_L_law_271 ?_
  refine kl_sld h (i := 5 * n + 1) (nI_add _ _) (by omega) d_L_law_272 ?_
  refine kg_aload_n hC d_L_law_273 1 rfl ?_
  refine kg_iload hC d_L_law_274 5 rfl ?_
  refine kg_iconst hC d_L_law_276 (v := nI 2) (by decide +kernel) ?_
  refine kg_iadd hC d_L_law_277 ?_
  refine kl_sld h (i := 5 * n + 2) (nI_add _ _) (by omega) d_L_law_278 ?_
  refine kg_virtualV hC (hM (kc_l C) V hV) cal_M_fault tw_693 tw_694 tw_692 (ko_38 hV) rfl rfl ⟨⟨rfl, rfl⟩, by show d0 + 1 ≤ 11; omega, by show 8 + (5 + 11) + 36 * d0 ≤ 380; omega⟩ (rest := []) rfl (Nat.le_of_ble_eq_true rfl) d_L_law_279 ?_ ⟨by show z.1 + 1 + 0 ≤ 601024; omega, by show z.2 + 6 + 0 ≤ 7293034; omega⟩
  refine kg_aload_n hC d_L_law_282 3 rfl ?_
  refine kg_virtualI hC (kk_M_thrown (kc_l C) hV σ2) cal_M_thrown tw_661 tw_662 tw_660 (ko_38 hV) rfl rfl ⟨⟨rfl, rfl⟩, Nat.le_of_ble_eq_true rfl, Nat.le_of_ble_eq_true rfl⟩ (rest := []) rfl (Nat.le_of_ble_eq_true rfl) d_L_law_283 ?_ ⟨by show z.1 + 1 + 0 ≤ 601024; omega, by show z.2 + 6 + 0 ≤ 7293034; omega⟩
  refine kg_iload hC d_L_law_286 0 rfl ?_
  refine kg_icmp_eq hC d_L_law_288 (tgt := 293) rfl (fun _ => ?_) (fun q => absurd he q)
  refine kg_goto hC d_L_law_293 (tgt := 1046) rfl ?_
  exact kg_loc [1, 2, 3, 4, 5] rfl (k σ2 hR2)
set_option maxHeartbeats 4000000 in
set_option maxRecDepth 100000 in
theorem kl_c_deal {C : kc_C} {V : kc_V} {z : Nat × Nat} {Q : State → Prop} {σ : kc_Sg} {b N n : Nat} {xs : Nat → Int32} {w0 : Cond} {ret : Option FieldType} {R : Nat → kc_Sg → Prop} (h : kl_H C V b N xs w0 ret) (hS : kl_S_deal R) (hn : 5 * n + 5 ≤ N) (hR : R n σ) (hz : z.1 + 1 ≤ 601024 ∧ z.2 + 6 ≤ 7293034) (k : ∀ σ2 : kc_Sg, R (n + 1) σ2 → kc_Go C V 7 (z.1 + 1, z.2 + 6) Q σ2 1046 (kl_L V b n) []) : kc_Go C V 7 z Q σ 296 (kl_L V b n) [] := by
  have hC := h.1
  have hV := h.2.1
  have hN := h.2.2.2.2.1
  obtain ⟨tag, σ1, σ2, d0, ht, hd, hK, hM, he, hR2⟩ := hS n σ (xs (5 * n + 1)) (xs (5 * n + 2)) (xs (5 * n + 3)) (xs (5 * n + 4)) (by omega) hR
  refine kg_aload_n hC d_L_law_296 1 rfl ?_
  refine kg_aload_n hC d_L_law_297 0 rfl ?_
  refine kg_iload hC d_L_law_298 4 rfl ?_
  refine kg_iconst hC d_L_law_300 (v := nI 1) (by decide +kernel) ?_
  refine kg_iadd hC d_L_law_301 ?_
  refine kl_sld h (i := 5 * n + 1) (nI_add _ _) (by omega) d_L_law_302 ?_
  refine kg_aload_n hC d_L_law_303 0 rfl ?_
  refine kg_iload hC d_L_law_304 4 rfl ?_
  refine kg_iconst hC d_L_law_306 (v := nI 2) (by decide +kernel) ?_
  refine kg_iadd hC d_L_law_307 ?_
  refine kl_sld h (i := 5 * n + 2) (nI_add _ _) (by omega) d_L_law_308 ?_
  refine kg_aload_n hC d_L_law_309 0 rfl ?_
  refine kg_iload hC d_L_law_310 4 rfl ?_
  refine kg_iconst hC d_L_law_312 (v := nI 3) (by decide +kernel) ?_
  refine kg_iadd hC d_L_law_313 ?_
  refine kl_sld h (i := 5 * n + 3) (nI_add _ _) (by omega) d_L_law_314 ?_
  refine kg_aload_n hC d_L_law_315 0 rfl ?_
  refine kg_iload hC d_L_law_316 4 rfl ?_
  refine kg_iconst hC d_L_law_318 (v := nI 4) (by decide +kernel) ?_
  refine kg_iadd hC d_L_law_319 ?_
  refine kl_sld h (i := 5 * n + 4) (nI_add _ _) (by omega) d_L_law_320 ?_
  refine kw_static hC h.2.2.1.1 h.2.2.1.2 (kw_L_deal (kc_l C) hV σ σ1 (xs (5 * n + 1)) (xs (5 * n + 2)) (xs (5 * n + 3)) (xs (5 * n + 4)) tag (hK (kc_l C) h.2.2.2.2.2 V hV) ht) tw_344 tw_0 (n := 5) (by decide +kernel) tw_343 tw_342 rfl ⟨⟨rfl, rfl⟩, Nat.le_of_ble_eq_true rfl, Nat.le_of_ble_eq_true rfl⟩ hz (rest := []) rfl (Nat.le_of_ble_eq_true rfl) d_L_law_321 ?_
  refine kg_istore hC d_L_law_324 [(5, .int (kw_c_deal tag)), (0, .ref b), (1, .ref (kc_ad V 0)), (2, .ref (kc_ad V 38)), (3, .ref (kc_ad V 50)), (4, .int (nI (5 * n)))] rfl (by decide) ?_
  refine kg_aload_n hC d_L_law_326 3 rfl ?_
  refine kg_aload_n hC d_L_law_327 1 rfl ?_
  refine kg_iload hC d_L_law_328 5 rfl ?_
  refine kg_iconst hC d_L_law_330 (v := nI 1) (by decide +kernel) ?_
  refine kg_iadd hC d_L_law_331 ?_
  refine kl_sld h (i := 5 * n + 1) (nI_add _ _) (by omega) d_L_law_332 ?_
  refine kg_aload_n hC d_L_law_333 1 rfl ?_
  refine kg_iload hC d_L_law_334 5 rfl ?_
  refine kg_iconst hC d_L_law_336 (v := nI 2) (by decide +kernel) ?_
  refine kg_iadd hC d_L_law_337 ?_
  refine kl_sld h (i := 5 * n + 2) (nI_add _ _) (by omega) d_L_law_338 ?_
  refine kg_aload_n hC d_L_law_339 1 rfl ?_
  refine kg_iload hC d_L_law_340 5 rfl ?_
  refine kg_iconst hC d_L_law_342 (v := nI 3) (by decide +kernel) ?_
  refine kg_iadd hC d_L_law_343 ?_
  refine kl_sld h (i := 5 * n + 3) (nI_add _ _) (by omega) d_L_law_344 ?_
  refine kg_aload_n hC d_L_law_345 1 rfl ?_
  refine kg_iload hC d_L_law_346 5 rfl ?_
  refine kg_iconst hC d_L_law_348 (v := nI 4) (by decide +kernel) ?_
  refine kg_iadd hC d_L_law_349 ?_
  refine kl_sld h (i := 5 * n + 4) (nI_add _ _) (by omega) d_L_law_350 ?_
  refine kg_virtualV hC (hM (kc_l C) V hV) cal_M_deal tw_704 tw_705 tw_703 (ko_38 hV) rfl rfl ⟨⟨rfl, rfl⟩, by show d0 + 1 ≤ 11; omega, by show 8 + (6 + 11) + 36 * d0 ≤ 380; omega⟩ (rest := []) rfl (Nat.le_of_ble_eq_true rfl) d_L_law_351 ?_ ⟨by show z.1 + 1 + 0 ≤ 601024; omega, by show z.2 + 6 + 0 ≤ 7293034; omega⟩
  refine kg_aload_n hC d_L_law_354 3 rfl ?_
  refine kg_virtualI hC (kk_M_thrown (kc_l C) hV σ2) cal_M_thrown tw_661 tw_662 tw_660 (ko_38 hV) rfl rfl ⟨⟨rfl, rfl⟩, Nat.le_of_ble_eq_true rfl, Nat.le_of_ble_eq_true rfl⟩ (rest := []) rfl (Nat.le_of_ble_eq_true rfl) d_L_law_355 ?_ ⟨by show z.1 + 1 + 0 ≤ 601024; omega, by show z.2 + 6 + 0 ≤ 7293034; omega⟩
  refine kg_iload hC d_L_law_358 0 rfl ?_
  refine kg_icmp_eq hC d_L_law_360 (tgt := 365) rfl (fun _ => ?_) (fun q => absurd he q)
  refine kg_goto hC d_L_law_365 (tgt := 1046) rfl ?_
  exact kg_loc [1, 2, 3, 4, 5] rfl (k σ2 hR2)
set_option maxHeartbeats 4000000 in
set_option maxRecDepth 100000 in
theorem kl_c_look {C : kc_C} {V : kc_V} {z : Nat × Nat} {Q : State → Prop} {σ : kc_Sg} {b N n : Nat} {xs : Nat → Int32} {w0 : Cond} {ret : Option FieldType} {R : Nat → kc_Sg → Prop} (h : kl_H C V b N xs w0 ret) (hS : kl_S_look R) (hn : 5 * n + 5 ≤ N) (hR : R n σ) (hz : z.1 + 1 ≤ 601024 ∧ z.2 + 6 ≤ 7293034) (k : ∀ σ2 : kc_Sg, R (n + 1) σ2 → kc_Go C V 7 (z.1 + 1, z.2 + 6) Q σ2 1046 (kl_L V b n) []) : kc_Go C V 7 z Q σ 368 (kl_L V b n) [] := by
  have hC := h.1
  have hV := h.2.1
  have hN := h.2.2.2.2.1
  obtain ⟨tag, σ1, σ2, d0, v, b0, ht, hd, hK, hM, he, hb, hR2⟩ := hS n σ (xs (5 * n + 1)) (by omega) hR
  have hc0 : kw_c_look tag = 0 → tag = 0 := fun q => by
    rcases ht with rfl | rfl | rfl | rfl <;> first | rfl | exact absurd q (by decide +kernel)
  refine kg_aload_n hC d_L_law_368 1 rfl ?_
  refine kg_aload_n hC d_L_law_369 0 rfl ?_
  refine kg_iload hC d_L_law_370 4 rfl ?_
  refine kg_iconst hC d_L_law_372 (v := nI 1) (by decide +kernel) ?_
  refine kg_iadd hC d_L_law_373 ?_
  refine kl_sld h (i := 5 * n + 1) (nI_add _ _) (by omega) d_L_law_374 ?_
  refine kg_aload_n hC d_L_law_375 3 rfl ?_
  refine kw_static hC h.2.2.1.1 h.2.2.1.2 (kw_L_look (kc_l C) hV σ σ1 (xs (5 * n + 1)) tag v (hK (kc_l C) h.2.2.2.2.2 V hV) ht) tw_394 tw_0 (n := 3) (by decide +kernel) tw_393 tw_392 rfl ⟨⟨rfl, rfl⟩, Nat.le_of_ble_eq_true rfl, Nat.le_of_ble_eq_true rfl⟩ hz (rest := []) rfl (Nat.le_of_ble_eq_true rfl) d_L_law_376 ?_
  refine kg_istore hC d_L_law_379 [(5, .int (kw_c_look tag)), (0, .ref b), (1, .ref (kc_ad V 0)), (2, .ref (kc_ad V 38)), (3, .ref (kc_ad V 50)), (4, .int (nI (5 * n)))] rfl (by decide) ?_
  refine kg_aload_n hC d_L_law_381 3 rfl ?_
  refine kg_aload_n hC d_L_law_382 1 rfl ?_
  refine kg_iload hC d_L_law_383 5 rfl ?_
  refine kg_iconst hC d_L_law_385 (v := nI 1) (by decide +kernel) ?_
  refine kg_iadd hC d_L_law_386 ?_
  refine kl_sld h (i := 5 * n + 1) (nI_add _ _) (by omega) d_L_law_387 ?_
  refine kg_virtualI hC (hM (kc_l C) V hV) cal_M_look tw_716 tw_717 tw_715 (ko_38 hV) rfl rfl ⟨⟨rfl, rfl⟩, by show d0 + 1 ≤ 11; omega, by show 8 + (4 + 11) + 36 * d0 ≤ 380; omega⟩ (rest := []) rfl (Nat.le_of_ble_eq_true rfl) d_L_law_388 ?_ ⟨by show z.1 + 1 + 0 ≤ 601024; omega, by show z.2 + 6 + 0 ≤ 7293034; omega⟩
  refine kg_istore hC d_L_law_391 [(6, .int b0), (5, .int (kw_c_look tag)), (0, .ref b), (1, .ref (kc_ad V 0)), (2, .ref (kc_ad V 38)), (3, .ref (kc_ad V 50)), (4, .int (nI (5 * n)))] rfl (by decide) ?_
  refine kg_aload_n hC d_L_law_393 4 rfl ?_
  refine kg_virtualI hC (kk_M_thrown (kc_l C) hV σ2) cal_M_thrown tw_661 tw_662 tw_660 (ko_38 hV) rfl rfl ⟨⟨rfl, rfl⟩, Nat.le_of_ble_eq_true rfl, Nat.le_of_ble_eq_true rfl⟩ (rest := []) rfl (Nat.le_of_ble_eq_true rfl) d_L_law_394 ?_ ⟨by show z.1 + 1 + 0 ≤ 601024; omega, by show z.2 + 6 + 0 ≤ 7293034; omega⟩
  refine kg_iload hC d_L_law_397 1 rfl ?_
  refine kg_icmp_eq hC d_L_law_399 (tgt := 404) rfl (fun _ => ?_) (fun q => absurd he q)
  refine kg_iload hC d_L_law_404 1 rfl ?_
  refine kg_if_ne hC d_L_law_406 (tgt := 421) rfl (fun _ => ?_) (fun h0 => ?_)
  · skip
    refine kg_goto hC d_L_law_421 (tgt := 1046) rfl ?_
    exact kg_loc [2, 3, 4, 5, 6] rfl (k σ2 hR2)
  · have hb := hb (hc0 h0)
    refine kg_aload_n hC d_L_law_409 5 rfl ?_
    refine kg_iconst hC d_L_law_410 (v := nI 0) (by decide +kernel) ?_
    refine kg_lald hC (ka_50 hV) rfl (by decide) d_L_law_411 ?_
    refine kg_iload hC d_L_law_412 0 rfl ?_
    refine kg_i2l hC d_L_law_414 ?_
    refine kl_lcmp h (congrArg Int32.toInt64 (hb)) d_L_law_415 ?_
    refine kg_if_eq hC d_L_law_416 (tgt := 421) rfl (fun _ => ?_) (fun q => absurd rfl q)
    refine kg_goto hC d_L_law_421 (tgt := 1046) rfl ?_
    exact kg_loc [2, 3, 4, 5, 6] rfl (k σ2 hR2)
set_option maxHeartbeats 4000000 in
set_option maxRecDepth 100000 in
theorem kl_c_answer {C : kc_C} {V : kc_V} {z : Nat × Nat} {Q : State → Prop} {σ : kc_Sg} {b N n : Nat} {xs : Nat → Int32} {w0 : Cond} {ret : Option FieldType} {R : Nat → kc_Sg → Prop} (h : kl_H C V b N xs w0 ret) (hS : kl_S_answer R) (hn : 5 * n + 5 ≤ N) (hR : R n σ) (hz : z.1 + 1 ≤ 601024 ∧ z.2 + 6 ≤ 7293034) (k : ∀ σ2 : kc_Sg, R (n + 1) σ2 → kc_Go C V 7 (z.1 + 1, z.2 + 6) Q σ2 1046 (kl_L V b n) []) : kc_Go C V 7 z Q σ 424 (kl_L V b n) [] := by
  have hC := h.1
  have hV := h.2.1
  have hN := h.2.2.2.2.1
  obtain ⟨tag, σ1, σ2, d0, v, b0, ht, hd, hK, hM, he, hb, hR2⟩ := hS n σ (xs (5 * n + 1)) (xs (5 * n + 2)) (by omega) hR
  have hc0 : kw_c_answer tag = 0 → tag = 0 := fun q => by
    rcases ht with rfl | rfl | rfl | rfl | rfl <;> first | rfl | exact absurd q (by decide +kernel)
  refine kg_aload_n hC d_L_law_424 1 rfl ?_
  refine kg_aload_n hC d_L_law_425 0 rfl ?_
  refine kg_iload hC d_L_law_426 4 rfl ?_
  refine kg_iconst hC d_L_law_428 (v := nI 1) (by decide +kernel) ?_
  refine kg_iadd hC d_L_law_429 ?_
  refine kl_sld h (i := 5 * n + 1) (nI_add _ _) (by omega) d_L_law_430 ?_
  refine kg_aload_n hC d_L_law_431 0 rfl ?_
  refine kg_iload hC d_L_law_432 4 rfl ?_
  refine kg_iconst hC d_L_law_434 (v := nI 2) (by decide +kernel) ?_
  refine kg_iadd hC d_L_law_435 ?_
  refine kl_sld h (i := 5 * n + 2) (nI_add _ _) (by omega) d_L_law_436 ?_
  refine kg_aload_n hC d_L_law_437 3 rfl ?_
  refine kw_static hC h.2.2.1.1 h.2.2.1.2 (kw_L_answer (kc_l C) hV σ σ1 (xs (5 * n + 1)) (xs (5 * n + 2)) tag v (hK (kc_l C) h.2.2.2.2.2 V hV) ht) tw_428 tw_0 (n := 4) (by decide +kernel) tw_427 tw_426 rfl ⟨⟨rfl, rfl⟩, Nat.le_of_ble_eq_true rfl, Nat.le_of_ble_eq_true rfl⟩ hz (rest := []) rfl (Nat.le_of_ble_eq_true rfl) d_L_law_438 ?_
  refine kg_istore hC d_L_law_441 [(5, .int (kw_c_answer tag)), (0, .ref b), (1, .ref (kc_ad V 0)), (2, .ref (kc_ad V 38)), (3, .ref (kc_ad V 50)), (4, .int (nI (5 * n)))] rfl (by decide) ?_
  refine kg_aload_n hC d_L_law_443 3 rfl ?_
  refine kg_aload_n hC d_L_law_444 1 rfl ?_
  refine kg_iload hC d_L_law_445 5 rfl ?_
  refine kg_iconst hC d_L_law_447 (v := nI 1) (by decide +kernel) ?_
  refine kg_iadd hC d_L_law_448 ?_
  refine kl_sld h (i := 5 * n + 1) (nI_add _ _) (by omega) d_L_law_449 ?_
  refine kg_aload_n hC d_L_law_450 1 rfl ?_
  refine kg_iload hC d_L_law_451 5 rfl ?_
  refine kg_iconst hC d_L_law_453 (v := nI 2) (by decide +kernel) ?_
  refine kg_iadd hC d_L_law_454 ?_
  refine kl_sld h (i := 5 * n + 2) (nI_add _ _) (by omega) d_L_law_455 ?_
  refine kg_virtualI hC (hM (kc_l C) V hV) cal_M_answer tw_736 tw_737 tw_735 (ko_38 hV) rfl rfl ⟨⟨rfl, rfl⟩, by show d0 + 1 ≤ 11; omega, by show 8 + (5 + 11) + 36 * d0 ≤ 380; omega⟩ (rest := []) rfl (Nat.le_of_ble_eq_true rfl) d_L_law_456 ?_ ⟨by show z.1 + 1 + 0 ≤ 601024; omega, by show z.2 + 6 + 0 ≤ 7293034; omega⟩
  refine kg_istore hC d_L_law_459 [(6, .int b0), (5, .int (kw_c_answer tag)), (0, .ref b), (1, .ref (kc_ad V 0)), (2, .ref (kc_ad V 38)), (3, .ref (kc_ad V 50)), (4, .int (nI (5 * n)))] rfl (by decide) ?_
  refine kg_aload_n hC d_L_law_461 4 rfl ?_
  refine kg_virtualI hC (kk_M_thrown (kc_l C) hV σ2) cal_M_thrown tw_661 tw_662 tw_660 (ko_38 hV) rfl rfl ⟨⟨rfl, rfl⟩, Nat.le_of_ble_eq_true rfl, Nat.le_of_ble_eq_true rfl⟩ (rest := []) rfl (Nat.le_of_ble_eq_true rfl) d_L_law_462 ?_ ⟨by show z.1 + 1 + 0 ≤ 601024; omega, by show z.2 + 6 + 0 ≤ 7293034; omega⟩
  refine kg_iload hC d_L_law_465 1 rfl ?_
  refine kg_icmp_eq hC d_L_law_467 (tgt := 472) rfl (fun _ => ?_) (fun q => absurd he q)
  refine kg_iload hC d_L_law_472 1 rfl ?_
  refine kg_if_ne hC d_L_law_474 (tgt := 496) rfl (fun _ => ?_) (fun h0 => ?_)
  · skip
    refine kg_goto hC d_L_law_496 (tgt := 1046) rfl ?_
    exact kg_loc [2, 3, 4, 5, 6] rfl (k σ2 hR2)
  · have hb := hb (hc0 h0)
    refine kg_aload_n hC d_L_law_477 5 rfl ?_
    refine kg_iconst hC d_L_law_478 (v := nI 0) (by decide +kernel) ?_
    refine kg_lald hC (ka_50 hV) rfl (by decide) d_L_law_479 ?_
    refine kg_iload hC d_L_law_480 0 rfl ?_
    refine kg_if_eq hC d_L_law_482 (tgt := 489) rfl (fun q => ?_) (fun q => ?_)
    · skip
      refine kg_lconst hC d_L_law_489 (v := Int32.toInt64 (nI 0)) (by decide +kernel) ?_
      refine kl_lcmp h (congrArg Int32.toInt64 (hb.trans (if_pos q))) d_L_law_490 ?_
      refine kg_if_eq hC d_L_law_491 (tgt := 496) rfl (fun _ => ?_) (fun q => absurd rfl q)
      refine kg_goto hC d_L_law_496 (tgt := 1046) rfl ?_
      exact kg_loc [2, 3, 4, 5, 6] rfl (k σ2 hR2)
    · skip
      refine kg_lconst hC d_L_law_485 (v := Int32.toInt64 (nI 1)) (by decide +kernel) ?_
      refine kg_goto hC d_L_law_486 (tgt := 490) rfl ?_
      refine kl_lcmp h (congrArg Int32.toInt64 (hb.trans (if_neg q))) d_L_law_490 ?_
      refine kg_if_eq hC d_L_law_491 (tgt := 496) rfl (fun _ => ?_) (fun q => absurd rfl q)
      refine kg_goto hC d_L_law_496 (tgt := 1046) rfl ?_
      exact kg_loc [2, 3, 4, 5, 6] rfl (k σ2 hR2)
set_option maxHeartbeats 4000000 in
set_option maxRecDepth 100000 in
theorem kl_c_close {C : kc_C} {V : kc_V} {z : Nat × Nat} {Q : State → Prop} {σ : kc_Sg} {b N n : Nat} {xs : Nat → Int32} {w0 : Cond} {ret : Option FieldType} {R : Nat → kc_Sg → Prop} (h : kl_H C V b N xs w0 ret) (hS : kl_S_close R) (hn : 5 * n + 5 ≤ N) (hR : R n σ) (hz : z.1 + 1 ≤ 601024 ∧ z.2 + 6 ≤ 7293034) (k : ∀ σ2 : kc_Sg, R (n + 1) σ2 → kc_Go C V 7 (z.1 + 1, z.2 + 6) Q σ2 1046 (kl_L V b n) []) : kc_Go C V 7 z Q σ 499 (kl_L V b n) [] := by
  have hC := h.1
  have hV := h.2.1
  have hN := h.2.2.2.2.1
  obtain ⟨tag, σ1, σ2, d0, v, b0, ht, hd, hK, hM, he, hb, hR2⟩ := hS n σ (by omega) hR
  have hc0 : kw_c_close tag = 0 → tag = 0 := fun q => by
    rcases ht with rfl | rfl <;> first | rfl | exact absurd q (by decide +kernel)
  refine kg_aload_n hC d_L_law_499 1 rfl ?_
  refine kg_aload_n hC d_L_law_500 3 rfl ?_
  refine kw_static hC h.2.2.1.1 h.2.2.1.2 (kw_L_close (kc_l C) hV σ σ1 tag v (hK (kc_l C) h.2.2.2.2.2 V hV) ht) tw_447 tw_0 (n := 2) (by decide +kernel) tw_446 tw_445 rfl ⟨⟨rfl, rfl⟩, Nat.le_of_ble_eq_true rfl, Nat.le_of_ble_eq_true rfl⟩ hz (rest := []) rfl (Nat.le_of_ble_eq_true rfl) d_L_law_501 ?_
  refine kg_istore hC d_L_law_504 [(5, .int (kw_c_close tag)), (0, .ref b), (1, .ref (kc_ad V 0)), (2, .ref (kc_ad V 38)), (3, .ref (kc_ad V 50)), (4, .int (nI (5 * n)))] rfl (by decide) ?_
  refine kg_aload_n hC d_L_law_506 3 rfl ?_
  refine kg_virtualI hC (hM (kc_l C) V hV) cal_M_close tw_740 tw_741 tw_739 (ko_38 hV) rfl rfl ⟨⟨rfl, rfl⟩, by show d0 + 1 ≤ 11; omega, by show 8 + (4 + 11) + 36 * d0 ≤ 380; omega⟩ (rest := []) rfl (Nat.le_of_ble_eq_true rfl) d_L_law_507 ?_ ⟨by show z.1 + 1 + 0 ≤ 601024; omega, by show z.2 + 6 + 0 ≤ 7293034; omega⟩
  refine kg_istore hC d_L_law_510 [(6, .int b0), (5, .int (kw_c_close tag)), (0, .ref b), (1, .ref (kc_ad V 0)), (2, .ref (kc_ad V 38)), (3, .ref (kc_ad V 50)), (4, .int (nI (5 * n)))] rfl (by decide) ?_
  refine kg_aload_n hC d_L_law_512 4 rfl ?_
  refine kg_virtualI hC (kk_M_thrown (kc_l C) hV σ2) cal_M_thrown tw_661 tw_662 tw_660 (ko_38 hV) rfl rfl ⟨⟨rfl, rfl⟩, Nat.le_of_ble_eq_true rfl, Nat.le_of_ble_eq_true rfl⟩ (rest := []) rfl (Nat.le_of_ble_eq_true rfl) d_L_law_513 ?_ ⟨by show z.1 + 1 + 0 ≤ 601024; omega, by show z.2 + 6 + 0 ≤ 7293034; omega⟩
  refine kg_iload hC d_L_law_516 1 rfl ?_
  refine kg_icmp_eq hC d_L_law_518 (tgt := 523) rfl (fun _ => ?_) (fun q => absurd he q)
  refine kg_iload hC d_L_law_523 1 rfl ?_
  refine kg_if_ne hC d_L_law_525 (tgt := 540) rfl (fun _ => ?_) (fun h0 => ?_)
  · skip
    refine kg_goto hC d_L_law_540 (tgt := 1046) rfl ?_
    exact kg_loc [2, 3, 4, 5, 6] rfl (k σ2 hR2)
  · have hb := hb (hc0 h0)
    refine kg_aload_n hC d_L_law_528 5 rfl ?_
    refine kg_iconst hC d_L_law_529 (v := nI 0) (by decide +kernel) ?_
    refine kg_lald hC (ka_50 hV) rfl (by decide) d_L_law_530 ?_
    refine kg_iload hC d_L_law_531 0 rfl ?_
    refine kg_i2l hC d_L_law_533 ?_
    refine kl_lcmp h (congrArg Int32.toInt64 (hb)) d_L_law_534 ?_
    refine kg_if_eq hC d_L_law_535 (tgt := 540) rfl (fun _ => ?_) (fun q => absurd rfl q)
    refine kg_goto hC d_L_law_540 (tgt := 1046) rfl ?_
    exact kg_loc [2, 3, 4, 5, 6] rfl (k σ2 hR2)
set_option maxHeartbeats 4000000 in
set_option maxRecDepth 100000 in
theorem kl_c_wipe {C : kc_C} {V : kc_V} {z : Nat × Nat} {Q : State → Prop} {σ : kc_Sg} {b N n : Nat} {xs : Nat → Int32} {w0 : Cond} {ret : Option FieldType} {R : Nat → kc_Sg → Prop} (h : kl_H C V b N xs w0 ret) (hS : kl_S_wipe R) (hn : 5 * n + 5 ≤ N) (hR : R n σ) (hz : z.1 + 1 ≤ 601024 ∧ z.2 + 6 ≤ 7293034) (k : ∀ σ2 : kc_Sg, R (n + 1) σ2 → kc_Go C V 7 (z.1 + 1, z.2 + 6) Q σ2 1046 (kl_L V b n) []) : kc_Go C V 7 z Q σ 543 (kl_L V b n) [] := by
  have hC := h.1
  have hV := h.2.1
  have hN := h.2.2.2.2.1
  obtain ⟨tag, σ1, σ2, d0, ht, hd, hK, hM, he, hR2⟩ := hS n σ (xs (5 * n + 1)) (by omega) hR
  refine kg_aload_n hC d_L_law_543 1 rfl ?_
  refine kg_aload_n hC d_L_law_544 0 rfl ?_
  refine kg_iload hC d_L_law_545 4 rfl ?_
  refine kg_iconst hC d_L_law_547 (v := nI 1) (by decide +kernel) ?_
  refine kg_iadd hC d_L_law_548 ?_
  refine kl_sld h (i := 5 * n + 1) (nI_add _ _) (by omega) d_L_law_549 ?_
  refine kw_static hC h.2.2.1.1 h.2.2.1.2 (kw_L_wipe (kc_l C) hV σ σ1 (xs (5 * n + 1)) tag (hK (kc_l C) h.2.2.2.2.2 V hV) ht) tw_472 tw_0 (n := 2) (by decide +kernel) tw_471 tw_470 rfl ⟨⟨rfl, rfl⟩, Nat.le_of_ble_eq_true rfl, Nat.le_of_ble_eq_true rfl⟩ hz (rest := []) rfl (Nat.le_of_ble_eq_true rfl) d_L_law_550 ?_
  refine kg_istore hC d_L_law_553 [(5, .int (kw_c_wipe tag)), (0, .ref b), (1, .ref (kc_ad V 0)), (2, .ref (kc_ad V 38)), (3, .ref (kc_ad V 50)), (4, .int (nI (5 * n)))] rfl (by decide) ?_
  refine kg_aload_n hC d_L_law_555 3 rfl ?_
  refine kg_aload_n hC d_L_law_556 1 rfl ?_
  refine kg_iload hC d_L_law_557 5 rfl ?_
  refine kg_iconst hC d_L_law_559 (v := nI 1) (by decide +kernel) ?_
  refine kg_iadd hC d_L_law_560 ?_
  refine kl_sld h (i := 5 * n + 1) (nI_add _ _) (by omega) d_L_law_561 ?_
  refine kg_virtualV hC (hM (kc_l C) V hV) cal_M_wipe tw_748 tw_749 tw_747 (ko_38 hV) rfl rfl ⟨⟨rfl, rfl⟩, by show d0 + 1 ≤ 11; omega, by show 8 + (2 + 11) + 36 * d0 ≤ 380; omega⟩ (rest := []) rfl (Nat.le_of_ble_eq_true rfl) d_L_law_562 ?_ ⟨by show z.1 + 1 + 0 ≤ 601024; omega, by show z.2 + 6 + 0 ≤ 7293034; omega⟩
  refine kg_aload_n hC d_L_law_565 3 rfl ?_
  refine kg_virtualI hC (kk_M_thrown (kc_l C) hV σ2) cal_M_thrown tw_661 tw_662 tw_660 (ko_38 hV) rfl rfl ⟨⟨rfl, rfl⟩, Nat.le_of_ble_eq_true rfl, Nat.le_of_ble_eq_true rfl⟩ (rest := []) rfl (Nat.le_of_ble_eq_true rfl) d_L_law_566 ?_ ⟨by show z.1 + 1 + 0 ≤ 601024; omega, by show z.2 + 6 + 0 ≤ 7293034; omega⟩
  refine kg_iload hC d_L_law_569 0 rfl ?_
  refine kg_icmp_eq hC d_L_law_571 (tgt := 576) rfl (fun _ => ?_) (fun q => absurd he q)
  refine kg_goto hC d_L_law_576 (tgt := 1046) rfl ?_
  exact kg_loc [1, 2, 3, 4, 5] rfl (k σ2 hR2)
set_option maxHeartbeats 4000000 in
set_option maxRecDepth 100000 in
theorem kl_c_recover {C : kc_C} {V : kc_V} {z : Nat × Nat} {Q : State → Prop} {σ : kc_Sg} {b N n : Nat} {xs : Nat → Int32} {w0 : Cond} {ret : Option FieldType} {R : Nat → kc_Sg → Prop} (h : kl_H C V b N xs w0 ret) (hS : kl_S_recover R) (hn : 5 * n + 5 ≤ N) (hR : R n σ) (hz : z.1 + 1 ≤ 601024 ∧ z.2 + 6 ≤ 7293034) (k : ∀ σ2 : kc_Sg, R (n + 1) σ2 → kc_Go C V 7 (z.1 + 1, z.2 + 6) Q σ2 1046 (kl_L V b n) []) : kc_Go C V 7 z Q σ 579 (kl_L V b n) [] := by
  have hC := h.1
  have hV := h.2.1
  have hN := h.2.2.2.2.1
  obtain ⟨tag, σ1, σ2, d0, v, b0, ht, hd, hK, hM, he, hb, hR2⟩ := hS n σ (xs (5 * n + 1)) (by omega) hR
  have hc0 : kw_c_recover tag = 0 → tag = 0 := fun q => by
    rcases ht with rfl | rfl | rfl | rfl <;> first | rfl | exact absurd q (by decide +kernel)
  refine kg_aload_n hC d_L_law_579 1 rfl ?_
  refine kg_aload_n hC d_L_law_580 0 rfl ?_
  refine kg_iload hC d_L_law_581 4 rfl ?_
  refine kg_iconst hC d_L_law_583 (v := nI 1) (by decide +kernel) ?_
  refine kg_iadd hC d_L_law_584 ?_
  refine kl_sld h (i := 5 * n + 1) (nI_add _ _) (by omega) d_L_law_585 ?_
  refine kg_aload_n hC d_L_law_586 3 rfl ?_
  refine kw_static hC h.2.2.1.1 h.2.2.1.2 (kw_L_recover (kc_l C) hV σ σ1 (xs (5 * n + 1)) tag v (hK (kc_l C) h.2.2.2.2.2 V hV) ht) tw_479 tw_0 (n := 3) (by decide +kernel) tw_478 tw_477 rfl ⟨⟨rfl, rfl⟩, Nat.le_of_ble_eq_true rfl, Nat.le_of_ble_eq_true rfl⟩ hz (rest := []) rfl (Nat.le_of_ble_eq_true rfl) d_L_law_587 ?_
  refine kg_istore hC d_L_law_590 [(5, .int (kw_c_recover tag)), (0, .ref b), (1, .ref (kc_ad V 0)), (2, .ref (kc_ad V 38)), (3, .ref (kc_ad V 50)), (4, .int (nI (5 * n)))] rfl (by decide) ?_
  refine kg_aload_n hC d_L_law_592 3 rfl ?_
  refine kg_aload_n hC d_L_law_593 1 rfl ?_
  refine kg_iload hC d_L_law_594 5 rfl ?_
  refine kg_iconst hC d_L_law_596 (v := nI 1) (by decide +kernel) ?_
  refine kg_iadd hC d_L_law_597 ?_
  refine kl_sld h (i := 5 * n + 1) (nI_add _ _) (by omega) d_L_law_598 ?_
  refine kg_virtualI hC (hM (kc_l C) V hV) cal_M_recover tw_752 tw_753 tw_751 (ko_38 hV) rfl rfl ⟨⟨rfl, rfl⟩, by show d0 + 1 ≤ 11; omega, by show 8 + (4 + 11) + 36 * d0 ≤ 380; omega⟩ (rest := []) rfl (Nat.le_of_ble_eq_true rfl) d_L_law_599 ?_ ⟨by show z.1 + 1 + 0 ≤ 601024; omega, by show z.2 + 6 + 0 ≤ 7293034; omega⟩
  refine kg_istore hC d_L_law_602 [(6, .int b0), (5, .int (kw_c_recover tag)), (0, .ref b), (1, .ref (kc_ad V 0)), (2, .ref (kc_ad V 38)), (3, .ref (kc_ad V 50)), (4, .int (nI (5 * n)))] rfl (by decide) ?_
  refine kg_aload_n hC d_L_law_604 4 rfl ?_
  refine kg_virtualI hC (kk_M_thrown (kc_l C) hV σ2) cal_M_thrown tw_661 tw_662 tw_660 (ko_38 hV) rfl rfl ⟨⟨rfl, rfl⟩, Nat.le_of_ble_eq_true rfl, Nat.le_of_ble_eq_true rfl⟩ (rest := []) rfl (Nat.le_of_ble_eq_true rfl) d_L_law_605 ?_ ⟨by show z.1 + 1 + 0 ≤ 601024; omega, by show z.2 + 6 + 0 ≤ 7293034; omega⟩
  refine kg_iload hC d_L_law_608 1 rfl ?_
  refine kg_icmp_eq hC d_L_law_610 (tgt := 615) rfl (fun _ => ?_) (fun q => absurd he q)
  refine kg_iload hC d_L_law_615 1 rfl ?_
  refine kg_if_ne hC d_L_law_617 (tgt := 632) rfl (fun _ => ?_) (fun h0 => ?_)
  · skip
    refine kg_goto hC d_L_law_632 (tgt := 1046) rfl ?_
    exact kg_loc [2, 3, 4, 5, 6] rfl (k σ2 hR2)
  · have hb := hb (hc0 h0)
    refine kg_aload_n hC d_L_law_620 5 rfl ?_
    refine kg_iconst hC d_L_law_621 (v := nI 0) (by decide +kernel) ?_
    refine kg_lald hC (ka_50 hV) rfl (by decide) d_L_law_622 ?_
    refine kg_iload hC d_L_law_623 0 rfl ?_
    refine kg_i2l hC d_L_law_625 ?_
    refine kl_lcmp h (congrArg Int32.toInt64 (hb)) d_L_law_626 ?_
    refine kg_if_eq hC d_L_law_627 (tgt := 632) rfl (fun _ => ?_) (fun q => absurd rfl q)
    refine kg_goto hC d_L_law_632 (tgt := 1046) rfl ?_
    exact kg_loc [2, 3, 4, 5, 6] rfl (k σ2 hR2)
set_option maxHeartbeats 4000000 in
set_option maxRecDepth 100000 in
theorem kl_c_share {C : kc_C} {V : kc_V} {z : Nat × Nat} {Q : State → Prop} {σ : kc_Sg} {b N n : Nat} {xs : Nat → Int32} {w0 : Cond} {ret : Option FieldType} {R : Nat → kc_Sg → Prop} (h : kl_H C V b N xs w0 ret) (hS : kl_S_share R) (hn : 5 * n + 5 ≤ N) (hR : R n σ) (hz : z.1 + 1 ≤ 601024 ∧ z.2 + 6 ≤ 7293034) (k : ∀ σ2 : kc_Sg, R (n + 1) σ2 → kc_Go C V 7 (z.1 + 1, z.2 + 6) Q σ2 1046 (kl_L V b n) []) : kc_Go C V 7 z Q σ 635 (kl_L V b n) [] := by
  have hC := h.1
  have hV := h.2.1
  have hN := h.2.2.2.2.1
  obtain ⟨tag, σ1, σ2, d0, v, b0, ht, hd, hK, hM, he, hb, hR2⟩ := hS n σ (xs (5 * n + 1)) (by omega) hR
  have hc0 : kw_c_share tag = 0 → tag = 0 := fun q => by
    rcases ht with rfl | rfl | rfl <;> first | rfl | exact absurd q (by decide +kernel)
  refine kg_aload_n hC d_L_law_635 1 rfl ?_
  refine kg_aload_n hC d_L_law_636 0 rfl ?_
  refine kg_iload hC d_L_law_637 4 rfl ?_
  refine kg_iconst hC d_L_law_639 (v := nI 1) (by decide +kernel) ?_
  refine kg_iadd hC d_L_law_640 ?_
  refine kl_sld h (i := 5 * n + 1) (nI_add _ _) (by omega) d_L_law_641 ?_
  refine kg_aload_n hC d_L_law_642 3 rfl ?_
  refine kw_static hC h.2.2.1.1 h.2.2.1.2 (kw_L_share (kc_l C) hV σ σ1 (xs (5 * n + 1)) tag v (hK (kc_l C) h.2.2.2.2.2 V hV) ht) tw_510 tw_0 (n := 3) (by decide +kernel) tw_509 tw_508 rfl ⟨⟨rfl, rfl⟩, Nat.le_of_ble_eq_true rfl, Nat.le_of_ble_eq_true rfl⟩ hz (rest := []) rfl (Nat.le_of_ble_eq_true rfl) d_L_law_643 ?_
  refine kg_istore hC d_L_law_646 [(5, .int (kw_c_share tag)), (0, .ref b), (1, .ref (kc_ad V 0)), (2, .ref (kc_ad V 38)), (3, .ref (kc_ad V 50)), (4, .int (nI (5 * n)))] rfl (by decide) ?_
  refine kg_aload_n hC d_L_law_648 3 rfl ?_
  refine kg_aload_n hC d_L_law_649 1 rfl ?_
  refine kg_iload hC d_L_law_650 5 rfl ?_
  refine kg_iconst hC d_L_law_652 (v := nI 1) (by decide +kernel) ?_
  refine kg_iadd hC d_L_law_653 ?_
  refine kl_sld h (i := 5 * n + 1) (nI_add _ _) (by omega) d_L_law_654 ?_
  refine kg_virtualI hC (hM (kc_l C) V hV) cal_M_share tw_771 tw_772 tw_770 (ko_38 hV) rfl rfl ⟨⟨rfl, rfl⟩, by show d0 + 1 ≤ 11; omega, by show 8 + (2 + 11) + 36 * d0 ≤ 380; omega⟩ (rest := []) rfl (Nat.le_of_ble_eq_true rfl) d_L_law_655 ?_ ⟨by show z.1 + 1 + 0 ≤ 601024; omega, by show z.2 + 6 + 0 ≤ 7293034; omega⟩
  refine kg_istore hC d_L_law_658 [(6, .int b0), (5, .int (kw_c_share tag)), (0, .ref b), (1, .ref (kc_ad V 0)), (2, .ref (kc_ad V 38)), (3, .ref (kc_ad V 50)), (4, .int (nI (5 * n)))] rfl (by decide) ?_
  refine kg_aload_n hC d_L_law_660 4 rfl ?_
  refine kg_virtualI hC (kk_M_thrown (kc_l C) hV σ2) cal_M_thrown tw_661 tw_662 tw_660 (ko_38 hV) rfl rfl ⟨⟨rfl, rfl⟩, Nat.le_of_ble_eq_true rfl, Nat.le_of_ble_eq_true rfl⟩ (rest := []) rfl (Nat.le_of_ble_eq_true rfl) d_L_law_661 ?_ ⟨by show z.1 + 1 + 0 ≤ 601024; omega, by show z.2 + 6 + 0 ≤ 7293034; omega⟩
  refine kg_iload hC d_L_law_664 1 rfl ?_
  refine kg_icmp_eq hC d_L_law_666 (tgt := 671) rfl (fun _ => ?_) (fun q => absurd he q)
  refine kg_iload hC d_L_law_671 1 rfl ?_
  refine kg_if_ne hC d_L_law_673 (tgt := 688) rfl (fun _ => ?_) (fun h0 => ?_)
  · skip
    refine kg_goto hC d_L_law_688 (tgt := 1046) rfl ?_
    exact kg_loc [2, 3, 4, 5, 6] rfl (k σ2 hR2)
  · have hb := hb (hc0 h0)
    refine kg_aload_n hC d_L_law_676 5 rfl ?_
    refine kg_iconst hC d_L_law_677 (v := nI 0) (by decide +kernel) ?_
    refine kg_lald hC (ka_50 hV) rfl (by decide) d_L_law_678 ?_
    refine kg_iload hC d_L_law_679 0 rfl ?_
    refine kg_i2l hC d_L_law_681 ?_
    refine kl_lcmp h (congrArg Int32.toInt64 (hb)) d_L_law_682 ?_
    refine kg_if_eq hC d_L_law_683 (tgt := 688) rfl (fun _ => ?_) (fun q => absurd rfl q)
    refine kg_goto hC d_L_law_688 (tgt := 1046) rfl ?_
    exact kg_loc [2, 3, 4, 5, 6] rfl (k σ2 hR2)
set_option maxHeartbeats 4000000 in
set_option maxRecDepth 100000 in
theorem kl_c_fits {C : kc_C} {V : kc_V} {z : Nat × Nat} {Q : State → Prop} {σ : kc_Sg} {b N n : Nat} {xs : Nat → Int32} {w0 : Cond} {ret : Option FieldType} {R : Nat → kc_Sg → Prop} (h : kl_H C V b N xs w0 ret) (hS : kl_S_fits R) (hn : 5 * n + 5 ≤ N) (hR : R n σ) (hz : z.1 + 1 ≤ 601024 ∧ z.2 + 6 ≤ 7293034) (k : ∀ σ2 : kc_Sg, R (n + 1) σ2 → kc_Go C V 7 (z.1 + 1, z.2 + 6) Q σ2 1046 (kl_L V b n) []) : kc_Go C V 7 z Q σ 691 (kl_L V b n) [] := by
  have hC := h.1
  have hV := h.2.1
  have hN := h.2.2.2.2.1
  obtain ⟨tag, σ1, σ2, d0, v, b0, ht, hd, hK, hM, he, hb, hR2⟩ := hS n σ (xs (5 * n + 1)) (by omega) hR
  have hc0 : kw_c_fits tag = 0 → tag = 0 := fun q => by
    rcases ht with rfl | rfl | rfl <;> first | rfl | exact absurd q (by decide +kernel)
  refine kg_aload_n hC d_L_law_691 1 rfl ?_
  refine kg_aload_n hC d_L_law_692 0 rfl ?_
  refine kg_iload hC d_L_law_693 4 rfl ?_
  refine kg_iconst hC d_L_law_695 (v := nI 1) (by decide +kernel) ?_
  refine kg_iadd hC d_L_law_696 ?_
  refine kl_sld h (i := 5 * n + 1) (nI_add _ _) (by omega) d_L_law_697 ?_
  refine kg_aload_n hC d_L_law_698 3 rfl ?_
  refine kw_static hC h.2.2.1.1 h.2.2.1.2 (kw_L_fits (kc_l C) hV σ σ1 (xs (5 * n + 1)) tag v (hK (kc_l C) h.2.2.2.2.2 V hV) ht) tw_517 tw_0 (n := 3) (by decide +kernel) tw_516 tw_515 rfl ⟨⟨rfl, rfl⟩, Nat.le_of_ble_eq_true rfl, Nat.le_of_ble_eq_true rfl⟩ hz (rest := []) rfl (Nat.le_of_ble_eq_true rfl) d_L_law_699 ?_
  refine kg_istore hC d_L_law_702 [(5, .int (kw_c_fits tag)), (0, .ref b), (1, .ref (kc_ad V 0)), (2, .ref (kc_ad V 38)), (3, .ref (kc_ad V 50)), (4, .int (nI (5 * n)))] rfl (by decide) ?_
  refine kg_aload_n hC d_L_law_704 3 rfl ?_
  refine kg_aload_n hC d_L_law_705 1 rfl ?_
  refine kg_iload hC d_L_law_706 5 rfl ?_
  refine kg_iconst hC d_L_law_708 (v := nI 1) (by decide +kernel) ?_
  refine kg_iadd hC d_L_law_709 ?_
  refine kl_sld h (i := 5 * n + 1) (nI_add _ _) (by omega) d_L_law_710 ?_
  refine kg_virtualI hC (hM (kc_l C) V hV) cal_M_fits tw_775 tw_776 tw_774 (ko_38 hV) rfl rfl ⟨⟨rfl, rfl⟩, by show d0 + 1 ≤ 11; omega, by show 8 + (2 + 11) + 36 * d0 ≤ 380; omega⟩ (rest := []) rfl (Nat.le_of_ble_eq_true rfl) d_L_law_711 ?_ ⟨by show z.1 + 1 + 0 ≤ 601024; omega, by show z.2 + 6 + 0 ≤ 7293034; omega⟩
  refine kg_istore hC d_L_law_714 [(6, .int b0), (5, .int (kw_c_fits tag)), (0, .ref b), (1, .ref (kc_ad V 0)), (2, .ref (kc_ad V 38)), (3, .ref (kc_ad V 50)), (4, .int (nI (5 * n)))] rfl (by decide) ?_
  refine kg_aload_n hC d_L_law_716 4 rfl ?_
  refine kg_virtualI hC (kk_M_thrown (kc_l C) hV σ2) cal_M_thrown tw_661 tw_662 tw_660 (ko_38 hV) rfl rfl ⟨⟨rfl, rfl⟩, Nat.le_of_ble_eq_true rfl, Nat.le_of_ble_eq_true rfl⟩ (rest := []) rfl (Nat.le_of_ble_eq_true rfl) d_L_law_717 ?_ ⟨by show z.1 + 1 + 0 ≤ 601024; omega, by show z.2 + 6 + 0 ≤ 7293034; omega⟩
  refine kg_iload hC d_L_law_720 1 rfl ?_
  refine kg_icmp_eq hC d_L_law_722 (tgt := 727) rfl (fun _ => ?_) (fun q => absurd he q)
  refine kg_iload hC d_L_law_727 1 rfl ?_
  refine kg_if_ne hC d_L_law_729 (tgt := 751) rfl (fun _ => ?_) (fun h0 => ?_)
  · skip
    refine kg_goto hC d_L_law_751 (tgt := 1046) rfl ?_
    exact kg_loc [2, 3, 4, 5, 6] rfl (k σ2 hR2)
  · have hb := hb (hc0 h0)
    refine kg_aload_n hC d_L_law_732 5 rfl ?_
    refine kg_iconst hC d_L_law_733 (v := nI 0) (by decide +kernel) ?_
    refine kg_lald hC (ka_50 hV) rfl (by decide) d_L_law_734 ?_
    refine kg_iload hC d_L_law_735 0 rfl ?_
    refine kg_if_eq hC d_L_law_737 (tgt := 744) rfl (fun q => ?_) (fun q => ?_)
    · skip
      refine kg_lconst hC d_L_law_744 (v := Int32.toInt64 (nI 0)) (by decide +kernel) ?_
      refine kl_lcmp h (congrArg Int32.toInt64 (hb.trans (if_pos q))) d_L_law_745 ?_
      refine kg_if_eq hC d_L_law_746 (tgt := 751) rfl (fun _ => ?_) (fun q => absurd rfl q)
      refine kg_goto hC d_L_law_751 (tgt := 1046) rfl ?_
      exact kg_loc [2, 3, 4, 5, 6] rfl (k σ2 hR2)
    · skip
      refine kg_lconst hC d_L_law_740 (v := Int32.toInt64 (nI 1)) (by decide +kernel) ?_
      refine kg_goto hC d_L_law_741 (tgt := 745) rfl ?_
      refine kl_lcmp h (congrArg Int32.toInt64 (hb.trans (if_neg q))) d_L_law_745 ?_
      refine kg_if_eq hC d_L_law_746 (tgt := 751) rfl (fun _ => ?_) (fun q => absurd rfl q)
      refine kg_goto hC d_L_law_751 (tgt := 1046) rfl ?_
      exact kg_loc [2, 3, 4, 5, 6] rfl (k σ2 hR2)
set_option maxHeartbeats 4000000 in
set_option maxRecDepth 100000 in
theorem kl_c_sum {C : kc_C} {V : kc_V} {z : Nat × Nat} {Q : State → Prop} {σ : kc_Sg} {b N n : Nat} {xs : Nat → Int32} {w0 : Cond} {ret : Option FieldType} {R : Nat → kc_Sg → Prop} (h : kl_H C V b N xs w0 ret) (hS : kl_S_sum R) (hn : 5 * n + 5 ≤ N) (hR : R n σ) (hz : z.1 + 1 ≤ 601024 ∧ z.2 + 6 ≤ 7293034) (k : ∀ σ2 : kc_Sg, R (n + 1) σ2 → kc_Go C V 7 (z.1 + 1, z.2 + 6) Q σ2 1046 (kl_L V b n) []) : kc_Go C V 7 z Q σ 754 (kl_L V b n) [] := by
  have hC := h.1
  have hV := h.2.1
  have hN := h.2.2.2.2.1
  obtain ⟨tag, σ1, σ2, d0, v, b0, ht, hd, hK, hM, he, hb, hR2⟩ := hS n σ (xs (5 * n + 1)) (by omega) hR
  have hc0 : kw_c_sum tag = 0 → tag = 0 := fun q => by
    rcases ht with rfl | rfl | rfl <;> first | rfl | exact absurd q (by decide +kernel)
  refine kg_aload_n hC d_L_law_754 1 rfl ?_
  refine kg_aload_n hC d_L_law_755 0 rfl ?_
  refine kg_iload hC d_L_law_756 4 rfl ?_
  refine kg_iconst hC d_L_law_758 (v := nI 1) (by decide +kernel) ?_
  refine kg_iadd hC d_L_law_759 ?_
  refine kl_sld h (i := 5 * n + 1) (nI_add _ _) (by omega) d_L_law_760 ?_
  refine kg_aload_n hC d_L_law_761 3 rfl ?_
  refine kw_static hC h.2.2.1.1 h.2.2.1.2 (kw_L_sum (kc_l C) hV σ σ1 (xs (5 * n + 1)) tag v (hK (kc_l C) h.2.2.2.2.2 V hV) ht) tw_524 tw_0 (n := 3) (by decide +kernel) tw_523 tw_522 rfl ⟨⟨rfl, rfl⟩, Nat.le_of_ble_eq_true rfl, Nat.le_of_ble_eq_true rfl⟩ hz (rest := []) rfl (Nat.le_of_ble_eq_true rfl) d_L_law_762 ?_
  refine kg_istore hC d_L_law_765 [(5, .int (kw_c_sum tag)), (0, .ref b), (1, .ref (kc_ad V 0)), (2, .ref (kc_ad V 38)), (3, .ref (kc_ad V 50)), (4, .int (nI (5 * n)))] rfl (by decide) ?_
  refine kg_aload_n hC d_L_law_767 3 rfl ?_
  refine kg_aload_n hC d_L_law_768 1 rfl ?_
  refine kg_iload hC d_L_law_769 5 rfl ?_
  refine kg_iconst hC d_L_law_771 (v := nI 1) (by decide +kernel) ?_
  refine kg_iadd hC d_L_law_772 ?_
  refine kl_sld h (i := 5 * n + 1) (nI_add _ _) (by omega) d_L_law_773 ?_
  refine kg_virtualI hC (hM (kc_l C) V hV) cal_M_sum tw_779 tw_780 tw_778 (ko_38 hV) rfl rfl ⟨⟨rfl, rfl⟩, by show d0 + 1 ≤ 11; omega, by show 8 + (2 + 11) + 36 * d0 ≤ 380; omega⟩ (rest := []) rfl (Nat.le_of_ble_eq_true rfl) d_L_law_774 ?_ ⟨by show z.1 + 1 + 0 ≤ 601024; omega, by show z.2 + 6 + 0 ≤ 7293034; omega⟩
  refine kg_istore hC d_L_law_777 [(6, .int b0), (5, .int (kw_c_sum tag)), (0, .ref b), (1, .ref (kc_ad V 0)), (2, .ref (kc_ad V 38)), (3, .ref (kc_ad V 50)), (4, .int (nI (5 * n)))] rfl (by decide) ?_
  refine kg_aload_n hC d_L_law_779 4 rfl ?_
  refine kg_virtualI hC (kk_M_thrown (kc_l C) hV σ2) cal_M_thrown tw_661 tw_662 tw_660 (ko_38 hV) rfl rfl ⟨⟨rfl, rfl⟩, Nat.le_of_ble_eq_true rfl, Nat.le_of_ble_eq_true rfl⟩ (rest := []) rfl (Nat.le_of_ble_eq_true rfl) d_L_law_780 ?_ ⟨by show z.1 + 1 + 0 ≤ 601024; omega, by show z.2 + 6 + 0 ≤ 7293034; omega⟩
  refine kg_iload hC d_L_law_783 1 rfl ?_
  refine kg_icmp_eq hC d_L_law_785 (tgt := 790) rfl (fun _ => ?_) (fun q => absurd he q)
  refine kg_iload hC d_L_law_790 1 rfl ?_
  refine kg_if_ne hC d_L_law_792 (tgt := 807) rfl (fun _ => ?_) (fun h0 => ?_)
  · skip
    refine kg_goto hC d_L_law_807 (tgt := 1046) rfl ?_
    exact kg_loc [2, 3, 4, 5, 6] rfl (k σ2 hR2)
  · have hb := hb (hc0 h0)
    refine kg_aload_n hC d_L_law_795 5 rfl ?_
    refine kg_iconst hC d_L_law_796 (v := nI 0) (by decide +kernel) ?_
    refine kg_lald hC (ka_50 hV) rfl (by decide) d_L_law_797 ?_
    refine kg_iload hC d_L_law_798 0 rfl ?_
    refine kg_i2l hC d_L_law_800 ?_
    refine kl_lcmp h (congrArg Int32.toInt64 (hb)) d_L_law_801 ?_
    refine kg_if_eq hC d_L_law_802 (tgt := 807) rfl (fun _ => ?_) (fun q => absurd rfl q)
    refine kg_goto hC d_L_law_807 (tgt := 1046) rfl ?_
    exact kg_loc [2, 3, 4, 5, 6] rfl (k σ2 hR2)
set_option maxHeartbeats 4000000 in
set_option maxRecDepth 100000 in
theorem kl_c_element {C : kc_C} {V : kc_V} {z : Nat × Nat} {Q : State → Prop} {σ : kc_Sg} {b N n : Nat} {xs : Nat → Int32} {w0 : Cond} {ret : Option FieldType} {R : Nat → kc_Sg → Prop} (h : kl_H C V b N xs w0 ret) (hS : kl_S_element R) (hn : 5 * n + 5 ≤ N) (hR : R n σ) (hz : z.1 + 1 ≤ 601024 ∧ z.2 + 6 ≤ 7293034) (k : ∀ σ2 : kc_Sg, R (n + 1) σ2 → kc_Go C V 7 (z.1 + 1, z.2 + 6) Q σ2 1046 (kl_L V b n) []) : kc_Go C V 7 z Q σ 810 (kl_L V b n) [] := by
  have hC := h.1
  have hV := h.2.1
  have hN := h.2.2.2.2.1
  obtain ⟨tag, σ1, σ2, d0, v, b0, ht, hd, hK, hM, he, hb, hR2⟩ := hS n σ (xs (5 * n + 1)) (by omega) hR
  have hc0 : kw_c_element tag = 0 → tag = 0 := fun q => by
    rcases ht with rfl | rfl | rfl <;> first | rfl | exact absurd q (by decide +kernel)
  refine kg_aload_n hC d_L_law_810 1 rfl ?_
  refine kg_aload_n hC d_L_law_811 0 rfl ?_
  refine kg_iload hC d_L_law_812 4 rfl ?_
  refine kg_iconst hC d_L_law_814 (v := nI 1) (by decide +kernel) ?_
  refine kg_iadd hC d_L_law_815 ?_
  refine kl_sld h (i := 5 * n + 1) (nI_add _ _) (by omega) d_L_law_816 ?_
  refine kg_aload_n hC d_L_law_817 3 rfl ?_
  refine kw_static hC h.2.2.1.1 h.2.2.1.2 (kw_L_element (kc_l C) hV σ σ1 (xs (5 * n + 1)) tag v (hK (kc_l C) h.2.2.2.2.2 V hV) ht) tw_547 tw_0 (n := 3) (by decide +kernel) tw_546 tw_545 rfl ⟨⟨rfl, rfl⟩, Nat.le_of_ble_eq_true rfl, Nat.le_of_ble_eq_true rfl⟩ hz (rest := []) rfl (Nat.le_of_ble_eq_true rfl) d_L_law_818 ?_
  refine kg_istore hC d_L_law_821 [(5, .int (kw_c_element tag)), (0, .ref b), (1, .ref (kc_ad V 0)), (2, .ref (kc_ad V 38)), (3, .ref (kc_ad V 50)), (4, .int (nI (5 * n)))] rfl (by decide) ?_
  refine kg_aload_n hC d_L_law_823 3 rfl ?_
  refine kg_aload_n hC d_L_law_824 1 rfl ?_
  refine kg_iload hC d_L_law_825 5 rfl ?_
  refine kg_iconst hC d_L_law_827 (v := nI 1) (by decide +kernel) ?_
  refine kg_iadd hC d_L_law_828 ?_
  refine kl_sld h (i := 5 * n + 1) (nI_add _ _) (by omega) d_L_law_829 ?_
  refine kg_virtualI hC (hM (kc_l C) V hV) cal_M_element tw_783 tw_784 tw_782 (ko_38 hV) rfl rfl ⟨⟨rfl, rfl⟩, by show d0 + 1 ≤ 11; omega, by show 8 + (2 + 11) + 36 * d0 ≤ 380; omega⟩ (rest := []) rfl (Nat.le_of_ble_eq_true rfl) d_L_law_830 ?_ ⟨by show z.1 + 1 + 0 ≤ 601024; omega, by show z.2 + 6 + 0 ≤ 7293034; omega⟩
  refine kg_istore hC d_L_law_833 [(6, .int b0), (5, .int (kw_c_element tag)), (0, .ref b), (1, .ref (kc_ad V 0)), (2, .ref (kc_ad V 38)), (3, .ref (kc_ad V 50)), (4, .int (nI (5 * n)))] rfl (by decide) ?_
  refine kg_aload_n hC d_L_law_835 4 rfl ?_
  refine kg_virtualI hC (kk_M_thrown (kc_l C) hV σ2) cal_M_thrown tw_661 tw_662 tw_660 (ko_38 hV) rfl rfl ⟨⟨rfl, rfl⟩, Nat.le_of_ble_eq_true rfl, Nat.le_of_ble_eq_true rfl⟩ (rest := []) rfl (Nat.le_of_ble_eq_true rfl) d_L_law_836 ?_ ⟨by show z.1 + 1 + 0 ≤ 601024; omega, by show z.2 + 6 + 0 ≤ 7293034; omega⟩
  refine kg_iload hC d_L_law_839 1 rfl ?_
  refine kg_icmp_eq hC d_L_law_841 (tgt := 846) rfl (fun _ => ?_) (fun q => absurd he q)
  refine kg_iload hC d_L_law_846 1 rfl ?_
  refine kg_if_ne hC d_L_law_848 (tgt := 863) rfl (fun _ => ?_) (fun h0 => ?_)
  · skip
    refine kg_goto hC d_L_law_863 (tgt := 1046) rfl ?_
    exact kg_loc [2, 3, 4, 5, 6] rfl (k σ2 hR2)
  · have hb := hb (hc0 h0)
    refine kg_aload_n hC d_L_law_851 5 rfl ?_
    refine kg_iconst hC d_L_law_852 (v := nI 0) (by decide +kernel) ?_
    refine kg_lald hC (ka_50 hV) rfl (by decide) d_L_law_853 ?_
    refine kg_iload hC d_L_law_854 0 rfl ?_
    refine kg_i2l hC d_L_law_856 ?_
    refine kl_lcmp h (congrArg Int32.toInt64 (hb)) d_L_law_857 ?_
    refine kg_if_eq hC d_L_law_858 (tgt := 863) rfl (fun _ => ?_) (fun q => absurd rfl q)
    refine kg_goto hC d_L_law_863 (tgt := 1046) rfl ?_
    exact kg_loc [2, 3, 4, 5, 6] rfl (k σ2 hR2)
set_option maxHeartbeats 4000000 in
set_option maxRecDepth 100000 in
theorem kl_c_reconstruct {C : kc_C} {V : kc_V} {z : Nat × Nat} {Q : State → Prop} {σ : kc_Sg} {b N n : Nat} {xs : Nat → Int32} {w0 : Cond} {ret : Option FieldType} {R : Nat → kc_Sg → Prop} (h : kl_H C V b N xs w0 ret) (hS : kl_S_reconstruct R) (hn : 5 * n + 5 ≤ N) (hR : R n σ) (hz : z.1 + 1 ≤ 601024 ∧ z.2 + 6 ≤ 7293034) (k : ∀ σ2 : kc_Sg, R (n + 1) σ2 → kc_Go C V 7 (z.1 + 1, z.2 + 6) Q σ2 1046 (kl_L V b n) []) : kc_Go C V 7 z Q σ 866 (kl_L V b n) [] := by
  have hC := h.1
  have hV := h.2.1
  have hN := h.2.2.2.2.1
  obtain ⟨tag, σ1, σ2, d0, v, b0, ht, hd, hK, hM, he, hb, hR2⟩ := hS n σ (xs (5 * n + 1)) (by omega) hR
  have hc0 : kw_c_reconstruct tag = 0 → tag = 0 := fun q => by
    rcases ht with rfl | rfl | rfl <;> first | rfl | exact absurd q (by decide +kernel)
  refine kg_aload_n hC d_L_law_866 1 rfl ?_
  refine kg_aload_n hC d_L_law_867 0 rfl ?_
  refine kg_iload hC d_L_law_868 4 rfl ?_
  refine kg_iconst hC d_L_law_870 (v := nI 1) (by decide +kernel) ?_
  refine kg_iadd hC d_L_law_871 ?_
  refine kl_sld h (i := 5 * n + 1) (nI_add _ _) (by omega) d_L_law_872 ?_
  refine kg_aload_n hC d_L_law_873 3 rfl ?_
  refine kw_static hC h.2.2.1.1 h.2.2.1.2 (kw_L_reconstruct (kc_l C) hV σ σ1 (xs (5 * n + 1)) tag v (hK (kc_l C) h.2.2.2.2.2 V hV) ht) tw_555 tw_0 (n := 3) (by decide +kernel) tw_554 tw_553 rfl ⟨⟨rfl, rfl⟩, Nat.le_of_ble_eq_true rfl, Nat.le_of_ble_eq_true rfl⟩ hz (rest := []) rfl (Nat.le_of_ble_eq_true rfl) d_L_law_874 ?_
  refine kg_istore hC d_L_law_877 [(5, .int (kw_c_reconstruct tag)), (0, .ref b), (1, .ref (kc_ad V 0)), (2, .ref (kc_ad V 38)), (3, .ref (kc_ad V 50)), (4, .int (nI (5 * n)))] rfl (by decide) ?_
  refine kg_aload_n hC d_L_law_879 3 rfl ?_
  refine kg_aload_n hC d_L_law_880 1 rfl ?_
  refine kg_iload hC d_L_law_881 5 rfl ?_
  refine kg_iconst hC d_L_law_883 (v := nI 1) (by decide +kernel) ?_
  refine kg_iadd hC d_L_law_884 ?_
  refine kl_sld h (i := 5 * n + 1) (nI_add _ _) (by omega) d_L_law_885 ?_
  refine kg_virtualI hC (hM (kc_l C) V hV) cal_M_reconstruct tw_787 tw_788 tw_786 (ko_38 hV) rfl rfl ⟨⟨rfl, rfl⟩, by show d0 + 1 ≤ 11; omega, by show 8 + (3 + 11) + 36 * d0 ≤ 380; omega⟩ (rest := []) rfl (Nat.le_of_ble_eq_true rfl) d_L_law_886 ?_ ⟨by show z.1 + 1 + 0 ≤ 601024; omega, by show z.2 + 6 + 0 ≤ 7293034; omega⟩
  refine kg_istore hC d_L_law_889 [(6, .int b0), (5, .int (kw_c_reconstruct tag)), (0, .ref b), (1, .ref (kc_ad V 0)), (2, .ref (kc_ad V 38)), (3, .ref (kc_ad V 50)), (4, .int (nI (5 * n)))] rfl (by decide) ?_
  refine kg_aload_n hC d_L_law_891 4 rfl ?_
  refine kg_virtualI hC (kk_M_thrown (kc_l C) hV σ2) cal_M_thrown tw_661 tw_662 tw_660 (ko_38 hV) rfl rfl ⟨⟨rfl, rfl⟩, Nat.le_of_ble_eq_true rfl, Nat.le_of_ble_eq_true rfl⟩ (rest := []) rfl (Nat.le_of_ble_eq_true rfl) d_L_law_892 ?_ ⟨by show z.1 + 1 + 0 ≤ 601024; omega, by show z.2 + 6 + 0 ≤ 7293034; omega⟩
  refine kg_iload hC d_L_law_895 1 rfl ?_
  refine kg_icmp_eq hC d_L_law_897 (tgt := 902) rfl (fun _ => ?_) (fun q => absurd he q)
  refine kg_iload hC d_L_law_902 1 rfl ?_
  refine kg_if_ne hC d_L_law_904 (tgt := 919) rfl (fun _ => ?_) (fun h0 => ?_)
  · skip
    refine kg_goto hC d_L_law_919 (tgt := 1046) rfl ?_
    exact kg_loc [2, 3, 4, 5, 6] rfl (k σ2 hR2)
  · have hb := hb (hc0 h0)
    refine kg_aload_n hC d_L_law_907 5 rfl ?_
    refine kg_iconst hC d_L_law_908 (v := nI 0) (by decide +kernel) ?_
    refine kg_lald hC (ka_50 hV) rfl (by decide) d_L_law_909 ?_
    refine kg_iload hC d_L_law_910 0 rfl ?_
    refine kg_i2l hC d_L_law_912 ?_
    refine kl_lcmp h (congrArg Int32.toInt64 (hb)) d_L_law_913 ?_
    refine kg_if_eq hC d_L_law_914 (tgt := 919) rfl (fun _ => ?_) (fun q => absurd rfl q)
    refine kg_goto hC d_L_law_919 (tgt := 1046) rfl ?_
    exact kg_loc [2, 3, 4, 5, 6] rfl (k σ2 hR2)
set_option maxHeartbeats 4000000 in
set_option maxRecDepth 100000 in
theorem kl_c_post {C : kc_C} {V : kc_V} {z : Nat × Nat} {Q : State → Prop} {σ : kc_Sg} {b N n : Nat} {xs : Nat → Int32} {w0 : Cond} {ret : Option FieldType} {R : Nat → kc_Sg → Prop} (h : kl_H C V b N xs w0 ret) (hS : kl_S_post R) (hn : 5 * n + 5 ≤ N) (hR : R n σ) (hz : z.1 + 1 ≤ 601024 ∧ z.2 + 6 ≤ 7293034) (k : ∀ σ2 : kc_Sg, R (n + 1) σ2 → kc_Go C V 7 (z.1 + 1, z.2 + 6) Q σ2 1046 (kl_L V b n) []) : kc_Go C V 7 z Q σ 922 (kl_L V b n) [] := by
  have hC := h.1
  have hV := h.2.1
  have hN := h.2.2.2.2.1
  obtain ⟨tag, σ1, σ2, d0, v, b0, ht, hd, hK, hM, he, hb, hR2⟩ := hS n σ (xs (5 * n + 1)) (xs (5 * n + 2)) (by omega) hR
  have hc0 : kw_c_post tag = 0 → tag = 0 := fun q => by
    rcases ht with rfl | rfl | rfl | rfl <;> first | rfl | exact absurd q (by decide +kernel)
  refine kg_aload_n hC d_L_law_922 1 rfl ?_
  refine kg_aload_n hC d_L_law_923 0 rfl ?_
  refine kg_iload hC d_L_law_924 4 rfl ?_
  refine kg_iconst hC d_L_law_926 (v := nI 1) (by decide +kernel) ?_
  refine kg_iadd hC d_L_law_927 ?_
  refine kl_sld h (i := 5 * n + 1) (nI_add _ _) (by omega) d_L_law_928 ?_
  refine kg_aload_n hC d_L_law_929 0 rfl ?_
  refine kg_iload hC d_L_law_930 4 rfl ?_
  refine kg_iconst hC d_L_law_932 (v := nI 2) (by decide +kernel) ?_
  refine kg_iadd hC d_L_law_933 ?_
  refine kl_sld h (i := 5 * n + 2) (nI_add _ _) (by omega) d_L_law_934 ?_
  refine kg_aload_n hC d_L_law_935 3 rfl ?_
  refine kw_static hC h.2.2.1.1 h.2.2.1.2 (kw_L_post (kc_l C) hV σ σ1 (xs (5 * n + 1)) (xs (5 * n + 2)) tag v (hK (kc_l C) h.2.2.2.2.2 V hV) ht) tw_566 tw_0 (n := 4) (by decide +kernel) tw_565 tw_564 rfl ⟨⟨rfl, rfl⟩, Nat.le_of_ble_eq_true rfl, Nat.le_of_ble_eq_true rfl⟩ hz (rest := []) rfl (Nat.le_of_ble_eq_true rfl) d_L_law_936 ?_
  refine kg_istore hC d_L_law_939 [(5, .int (kw_c_post tag)), (0, .ref b), (1, .ref (kc_ad V 0)), (2, .ref (kc_ad V 38)), (3, .ref (kc_ad V 50)), (4, .int (nI (5 * n)))] rfl (by decide) ?_
  refine kg_aload_n hC d_L_law_941 3 rfl ?_
  refine kg_aload_n hC d_L_law_942 1 rfl ?_
  refine kg_iload hC d_L_law_943 5 rfl ?_
  refine kg_iconst hC d_L_law_945 (v := nI 1) (by decide +kernel) ?_
  refine kg_iadd hC d_L_law_946 ?_
  refine kl_sld h (i := 5 * n + 1) (nI_add _ _) (by omega) d_L_law_947 ?_
  refine kg_aload_n hC d_L_law_948 1 rfl ?_
  refine kg_iload hC d_L_law_949 5 rfl ?_
  refine kg_iconst hC d_L_law_951 (v := nI 2) (by decide +kernel) ?_
  refine kg_iadd hC d_L_law_952 ?_
  refine kl_sld h (i := 5 * n + 2) (nI_add _ _) (by omega) d_L_law_953 ?_
  refine kg_virtualI hC (hM (kc_l C) V hV) cal_M_post tw_791 tw_792 tw_790 (ko_38 hV) rfl rfl ⟨⟨rfl, rfl⟩, by show d0 + 1 ≤ 11; omega, by show 8 + (3 + 11) + 36 * d0 ≤ 380; omega⟩ (rest := []) rfl (Nat.le_of_ble_eq_true rfl) d_L_law_954 ?_ ⟨by show z.1 + 1 + 0 ≤ 601024; omega, by show z.2 + 6 + 0 ≤ 7293034; omega⟩
  refine kg_istore hC d_L_law_957 [(6, .int b0), (5, .int (kw_c_post tag)), (0, .ref b), (1, .ref (kc_ad V 0)), (2, .ref (kc_ad V 38)), (3, .ref (kc_ad V 50)), (4, .int (nI (5 * n)))] rfl (by decide) ?_
  refine kg_aload_n hC d_L_law_959 4 rfl ?_
  refine kg_virtualI hC (kk_M_thrown (kc_l C) hV σ2) cal_M_thrown tw_661 tw_662 tw_660 (ko_38 hV) rfl rfl ⟨⟨rfl, rfl⟩, Nat.le_of_ble_eq_true rfl, Nat.le_of_ble_eq_true rfl⟩ (rest := []) rfl (Nat.le_of_ble_eq_true rfl) d_L_law_960 ?_ ⟨by show z.1 + 1 + 0 ≤ 601024; omega, by show z.2 + 6 + 0 ≤ 7293034; omega⟩
  refine kg_iload hC d_L_law_963 1 rfl ?_
  refine kg_icmp_eq hC d_L_law_965 (tgt := 970) rfl (fun _ => ?_) (fun q => absurd he q)
  refine kg_iload hC d_L_law_970 1 rfl ?_
  refine kg_if_ne hC d_L_law_972 (tgt := 987) rfl (fun _ => ?_) (fun h0 => ?_)
  · skip
    refine kg_goto hC d_L_law_987 (tgt := 1046) rfl ?_
    exact kg_loc [2, 3, 4, 5, 6] rfl (k σ2 hR2)
  · have hb := hb (hc0 h0)
    refine kg_aload_n hC d_L_law_975 5 rfl ?_
    refine kg_iconst hC d_L_law_976 (v := nI 0) (by decide +kernel) ?_
    refine kg_lald hC (ka_50 hV) rfl (by decide) d_L_law_977 ?_
    refine kg_iload hC d_L_law_978 0 rfl ?_
    refine kg_i2l hC d_L_law_980 ?_
    refine kl_lcmp h (congrArg Int32.toInt64 (hb)) d_L_law_981 ?_
    refine kg_if_eq hC d_L_law_982 (tgt := 987) rfl (fun _ => ?_) (fun q => absurd rfl q)
    refine kg_goto hC d_L_law_987 (tgt := 1046) rfl ?_
    exact kg_loc [2, 3, 4, 5, 6] rfl (k σ2 hR2)
set_option maxHeartbeats 4000000 in
set_option maxRecDepth 100000 in
theorem kl_c_about {C : kc_C} {V : kc_V} {z : Nat × Nat} {Q : State → Prop} {σ : kc_Sg} {b N n : Nat} {xs : Nat → Int32} {w0 : Cond} {ret : Option FieldType} {R : Nat → kc_Sg → Prop} (h : kl_H C V b N xs w0 ret) (hS : kl_S_about R) (hn : 5 * n + 5 ≤ N) (hR : R n σ) (hz : z.1 + 1 ≤ 601024 ∧ z.2 + 6 ≤ 7293034) (k : ∀ σ2 : kc_Sg, R (n + 1) σ2 → kc_Go C V 7 (z.1 + 1, z.2 + 6) Q σ2 1046 (kl_L V b n) []) : kc_Go C V 7 z Q σ 990 (kl_L V b n) [] := by
  have hC := h.1
  have hV := h.2.1
  have hN := h.2.2.2.2.1
  obtain ⟨tag, σ1, σ2, d0, v, b0, ht, hd, hK, hM, he, hb, hR2⟩ := hS n σ (xs (5 * n + 1)) (by omega) hR
  have hc0 : kw_c_about tag = 0 → tag = 0 := fun q => by
    rcases ht with rfl | rfl <;> first | rfl | exact absurd q (by decide +kernel)
  refine kg_aload_n hC d_L_law_990 1 rfl ?_
  refine kg_aload_n hC d_L_law_991 0 rfl ?_
  refine kg_iload hC d_L_law_992 4 rfl ?_
  refine kg_iconst hC d_L_law_994 (v := nI 1) (by decide +kernel) ?_
  refine kg_iadd hC d_L_law_995 ?_
  refine kl_sld h (i := 5 * n + 1) (nI_add _ _) (by omega) d_L_law_996 ?_
  refine kg_aload_n hC d_L_law_997 3 rfl ?_
  refine kw_static hC h.2.2.1.1 h.2.2.1.2 (kw_L_about (kc_l C) hV σ σ1 (xs (5 * n + 1)) tag v (hK (kc_l C) h.2.2.2.2.2 V hV) ht) tw_581 tw_0 (n := 3) (by decide +kernel) tw_580 tw_579 rfl ⟨⟨rfl, rfl⟩, Nat.le_of_ble_eq_true rfl, Nat.le_of_ble_eq_true rfl⟩ hz (rest := []) rfl (Nat.le_of_ble_eq_true rfl) d_L_law_998 ?_
  refine kg_istore hC d_L_law_1001 [(5, .int (kw_c_about tag)), (0, .ref b), (1, .ref (kc_ad V 0)), (2, .ref (kc_ad V 38)), (3, .ref (kc_ad V 50)), (4, .int (nI (5 * n)))] rfl (by decide) ?_
  refine kg_aload_n hC d_L_law_1003 3 rfl ?_
  refine kg_aload_n hC d_L_law_1004 1 rfl ?_
  refine kg_iload hC d_L_law_1005 5 rfl ?_
  refine kg_iconst hC d_L_law_1007 (v := nI 1) (by decide +kernel) ?_
  refine kg_iadd hC d_L_law_1008 ?_
  refine kl_sld h (i := 5 * n + 1) (nI_add _ _) (by omega) d_L_law_1009 ?_
  refine kg_virtualI hC (hM (kc_l C) V hV) cal_M_about tw_795 tw_796 tw_794 (ko_38 hV) rfl rfl ⟨⟨rfl, rfl⟩, by show d0 + 1 ≤ 11; omega, by show 8 + (5 + 11) + 36 * d0 ≤ 380; omega⟩ (rest := []) rfl (Nat.le_of_ble_eq_true rfl) d_L_law_1010 ?_ ⟨by show z.1 + 1 + 0 ≤ 601024; omega, by show z.2 + 6 + 0 ≤ 7293034; omega⟩
  refine kg_istore hC d_L_law_1013 [(6, .int b0), (5, .int (kw_c_about tag)), (0, .ref b), (1, .ref (kc_ad V 0)), (2, .ref (kc_ad V 38)), (3, .ref (kc_ad V 50)), (4, .int (nI (5 * n)))] rfl (by decide) ?_
  refine kg_aload_n hC d_L_law_1015 4 rfl ?_
  refine kg_virtualI hC (kk_M_thrown (kc_l C) hV σ2) cal_M_thrown tw_661 tw_662 tw_660 (ko_38 hV) rfl rfl ⟨⟨rfl, rfl⟩, Nat.le_of_ble_eq_true rfl, Nat.le_of_ble_eq_true rfl⟩ (rest := []) rfl (Nat.le_of_ble_eq_true rfl) d_L_law_1016 ?_ ⟨by show z.1 + 1 + 0 ≤ 601024; omega, by show z.2 + 6 + 0 ≤ 7293034; omega⟩
  refine kg_iload hC d_L_law_1019 1 rfl ?_
  refine kg_icmp_eq hC d_L_law_1021 (tgt := 1026) rfl (fun _ => ?_) (fun q => absurd he q)
  refine kg_iload hC d_L_law_1026 1 rfl ?_
  refine kg_if_ne hC d_L_law_1028 (tgt := 1043) rfl (fun _ => ?_) (fun h0 => ?_)
  · skip
    refine kg_goto hC d_L_law_1043 (tgt := 1046) rfl ?_
    exact kg_loc [2, 3, 4, 5, 6] rfl (k σ2 hR2)
  · have hb := hb (hc0 h0)
    refine kg_aload_n hC d_L_law_1031 5 rfl ?_
    refine kg_iconst hC d_L_law_1032 (v := nI 0) (by decide +kernel) ?_
    refine kg_lald hC (ka_50 hV) rfl (by decide) d_L_law_1033 ?_
    refine kg_iload hC d_L_law_1034 0 rfl ?_
    refine kg_i2l hC d_L_law_1036 ?_
    refine kl_lcmp h (congrArg Int32.toInt64 (hb)) d_L_law_1037 ?_
    refine kg_if_eq hC d_L_law_1038 (tgt := 1043) rfl (fun _ => ?_) (fun q => absurd rfl q)
    refine kg_goto hC d_L_law_1043 (tgt := 1046) rfl ?_
    exact kg_loc [2, 3, 4, 5, 6] rfl (k σ2 hR2)
