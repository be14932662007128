/-! at all groups: by program -/
theorem evC_fault : ∀ g, g < 24 → zX1 (fun a => f_X8_faulta [zR 1, zI a] (hCf g) (fun r h => zands [zrI r, zsubH h (hCf g)]))
  | 0, _ => zX1_of (zlwQ_cv _) evC_0_fault
  | 1, _ => zX1_of (zlwQ_cv _) evC_1_fault
  | 2, _ => zX1_of (zlwQ_cv _) evC_2_fault
  | 3, _ => zX1_of (zlwQ_cv _) evC_3_fault
  | 4, _ => zX1_of (zlwQ_cv _) evC_4_fault
  | 5, _ => zX1_of (zlwQ_cv _) evC_5_fault
  | 6, _ => zX1_of (zlwQ_cv _) evC_6_fault
  | 7, _ => zX1_of (zlwQ_cv _) evC_7_fault
  | 8, _ => zX1_of (zlwQ_cv _) evC_8_fault
  | 9, _ => zX1_of (zlwQ_cv _) evC_9_fault
  | 10, _ => zX1_of (zlwQ_cv _) evC_10_fault
  | 11, _ => zX1_of (zlwQ_cv _) evC_11_fault
  | 12, _ => zX1_of (zlwQ_cv _) evC_12_fault
  | 13, _ => zX1_of (zlwQ_cv _) evC_13_fault
  | 14, _ => zX1_of (zlwQ_cv _) evC_14_fault
  | 15, _ => zX1_of (zlwQ_cv _) evC_15_fault
  | 16, _ => zX1_of (zlwQ_cv _) evC_16_fault
  | 17, _ => zX1_of (zlwQ_cv _) evC_17_fault
  | 18, _ => zX1_of (zlwQ_cv _) evC_18_fault
  | 19, _ => zX1_of (zlwQ_cv _) evC_19_fault
  | 20, _ => zX1_of (zlwQ_cv _) evC_20_fault
  | 21, _ => zX1_of (zlwQ_cv _) evC_21_fault
  | 22, _ => zX1_of (zlwQ_cv _) evC_22_fault
  | 23, _ => zX1_of (zlwQ_cv _) evC_23_fault
  | n + 24, h => absurd h (by omega)
theorem evC_partition : ∀ g, g < 24 → zX2 (fun a b => f_X8_partitiona [zR 1, zI a, zI b] (hCf g) (fun r h => zands [zrI r, zsubH h (hCf g)]))
  | 0, _ => zX2_of (zlwQ_cv _) (fun _ => zlwQ_cv _) evC_0_partition
  | 1, _ => zX2_of (zlwQ_cv _) (fun _ => zlwQ_cv _) evC_1_partition
  | 2, _ => zX2_of (zlwQ_cv _) (fun _ => zlwQ_cv _) evC_2_partition
  | 3, _ => zX2_of (zlwQ_cv _) (fun _ => zlwQ_cv _) evC_3_partition
  | 4, _ => zX2_of (zlwQ_cv _) (fun _ => zlwQ_cv _) evC_4_partition
  | 5, _ => zX2_of (zlwQ_cv _) (fun _ => zlwQ_cv _) evC_5_partition
  | 6, _ => zX2_of (zlwQ_cv _) (fun _ => zlwQ_cv _) evC_6_partition
  | 7, _ => zX2_of (zlwQ_cv _) (fun _ => zlwQ_cv _) evC_7_partition
  | 8, _ => zX2_of (zlwQ_cv _) (fun _ => zlwQ_cv _) evC_8_partition
  | 9, _ => zX2_of (zlwQ_cv _) (fun _ => zlwQ_cv _) evC_9_partition
  | 10, _ => zX2_of (zlwQ_cv _) (fun _ => zlwQ_cv _) evC_10_partition
  | 11, _ => zX2_of (zlwQ_cv _) (fun _ => zlwQ_cv _) evC_11_partition
  | 12, _ => zX2_of (zlwQ_cv _) (fun _ => zlwQ_cv _) evC_12_partition
  | 13, _ => zX2_of (zlwQ_cv _) (fun _ => zlwQ_cv _) evC_13_partition
  | 14, _ => zX2_of (zlwQ_cv _) (fun _ => zlwQ_cv _) evC_14_partition
  | 15, _ => zX2_of (zlwQ_cv _) (fun _ => zlwQ_cv _) evC_15_partition
  | 16, _ => zX2_of (zlwQ_cv _) (fun _ => zlwQ_cv _) evC_16_partition
  | 17, _ => zX2_of (zlwQ_cv _) (fun _ => zlwQ_cv _) evC_17_partition
  | 18, _ => zX2_of (zlwQ_cv _) (fun _ => zlwQ_cv _) evC_18_partition
  | 19, _ => zX2_of (zlwQ_cv _) (fun _ => zlwQ_cv _) evC_19_partition
  | 20, _ => zX2_of (zlwQ_cv _) (fun _ => zlwQ_cv _) evC_20_partition
  | 21, _ => zX2_of (zlwQ_cv _) (fun _ => zlwQ_cv _) evC_21_partition
  | 22, _ => zX2_of (zlwQ_cv _) (fun _ => zlwQ_cv _) evC_22_partition
  | 23, _ => zX2_of (zlwQ_cv _) (fun _ => zlwQ_cv _) evC_23_partition
  | n + 24, h => absurd h (by omega)
theorem evC_of : ∀ g, g < 24 → zX2 (fun a b => f_X8_ofa [zR 1, zI a, zI b] (hCf g) (fun r h => zands [zrI r, zsubH h (hCf g)]))
  | 0, _ => zX2_of (zlwQ_cv _) (fun _ => zlwQ_cv _) evC_0_of
  | 1, _ => zX2_of (zlwQ_cv _) (fun _ => zlwQ_cv _) evC_1_of
  | 2, _ => zX2_of (zlwQ_cv _) (fun _ => zlwQ_cv _) evC_2_of
  | 3, _ => zX2_of (zlwQ_cv _) (fun _ => zlwQ_cv _) evC_3_of
  | 4, _ => zX2_of (zlwQ_cv _) (fun _ => zlwQ_cv _) evC_4_of
  | 5, _ => zX2_of (zlwQ_cv _) (fun _ => zlwQ_cv _) evC_5_of
  | 6, _ => zX2_of (zlwQ_cv _) (fun _ => zlwQ_cv _) evC_6_of
  | 7, _ => zX2_of (zlwQ_cv _) (fun _ => zlwQ_cv _) evC_7_of
  | 8, _ => zX2_of (zlwQ_cv _) (fun _ => zlwQ_cv _) evC_8_of
  | 9, _ => zX2_of (zlwQ_cv _) (fun _ => zlwQ_cv _) evC_9_of
  | 10, _ => zX2_of (zlwQ_cv _) (fun _ => zlwQ_cv _) evC_10_of
  | 11, _ => zX2_of (zlwQ_cv _) (fun _ => zlwQ_cv _) evC_11_of
  | 12, _ => zX2_of (zlwQ_cv _) (fun _ => zlwQ_cv _) evC_12_of
  | 13, _ => zX2_of (zlwQ_cv _) (fun _ => zlwQ_cv _) evC_13_of
  | 14, _ => zX2_of (zlwQ_cv _) (fun _ => zlwQ_cv _) evC_14_of
  | 15, _ => zX2_of (zlwQ_cv _) (fun _ => zlwQ_cv _) evC_15_of
  | 16, _ => zX2_of (zlwQ_cv _) (fun _ => zlwQ_cv _) evC_16_of
  | 17, _ => zX2_of (zlwQ_cv _) (fun _ => zlwQ_cv _) evC_17_of
  | 18, _ => zX2_of (zlwQ_cv _) (fun _ => zlwQ_cv _) evC_18_of
  | 19, _ => zX2_of (zlwQ_cv _) (fun _ => zlwQ_cv _) evC_19_of
  | 20, _ => zX2_of (zlwQ_cv _) (fun _ => zlwQ_cv _) evC_20_of
  | 21, _ => zX2_of (zlwQ_cv _) (fun _ => zlwQ_cv _) evC_21_of
  | 22, _ => zX2_of (zlwQ_cv _) (fun _ => zlwQ_cv _) evC_22_of
  | 23, _ => zX2_of (zlwQ_cv _) (fun _ => zlwQ_cv _) evC_23_of
  | n + 24, h => absurd h (by omega)
theorem evC_core : ∀ g, g < 24 → zX2 (fun a b => f_X8_corea [zR 1, zI a, zI b] (hCf g) (fun r h => zands [zrI r, zsubH h (hCf g)]))
  | 0, _ => zX2_of (zlwQ_cv _) (fun _ => zlwQ_cv _) evC_0_core
  | 1, _ => zX2_of (zlwQ_cv _) (fun _ => zlwQ_cv _) evC_1_core
  | 2, _ => zX2_of (zlwQ_cv _) (fun _ => zlwQ_cv _) evC_2_core
  | 3, _ => zX2_of (zlwQ_cv _) (fun _ => zlwQ_cv _) evC_3_core
  | 4, _ => zX2_of (zlwQ_cv _) (fun _ => zlwQ_cv _) evC_4_core
  | 5, _ => zX2_of (zlwQ_cv _) (fun _ => zlwQ_cv _) evC_5_core
  | 6, _ => zX2_of (zlwQ_cv _) (fun _ => zlwQ_cv _) evC_6_core
  | 7, _ => zX2_of (zlwQ_cv _) (fun _ => zlwQ_cv _) evC_7_core
  | 8, _ => zX2_of (zlwQ_cv _) (fun _ => zlwQ_cv _) evC_8_core
  | 9, _ => zX2_of (zlwQ_cv _) (fun _ => zlwQ_cv _) evC_9_core
  | 10, _ => zX2_of (zlwQ_cv _) (fun _ => zlwQ_cv _) evC_10_core
  | 11, _ => zX2_of (zlwQ_cv _) (fun _ => zlwQ_cv _) evC_11_core
  | 12, _ => zX2_of (zlwQ_cv _) (fun _ => zlwQ_cv _) evC_12_core
  | 13, _ => zX2_of (zlwQ_cv _) (fun _ => zlwQ_cv _) evC_13_core
  | 14, _ => zX2_of (zlwQ_cv _) (fun _ => zlwQ_cv _) evC_14_core
  | 15, _ => zX2_of (zlwQ_cv _) (fun _ => zlwQ_cv _) evC_15_core
  | 16, _ => zX2_of (zlwQ_cv _) (fun _ => zlwQ_cv _) evC_16_core
  | 17, _ => zX2_of (zlwQ_cv _) (fun _ => zlwQ_cv _) evC_17_core
  | 18, _ => zX2_of (zlwQ_cv _) (fun _ => zlwQ_cv _) evC_18_core
  | 19, _ => zX2_of (zlwQ_cv _) (fun _ => zlwQ_cv _) evC_19_core
  | 20, _ => zX2_of (zlwQ_cv _) (fun _ => zlwQ_cv _) evC_20_core
  | 21, _ => zX2_of (zlwQ_cv _) (fun _ => zlwQ_cv _) evC_21_core
  | 22, _ => zX2_of (zlwQ_cv _) (fun _ => zlwQ_cv _) evC_22_core
  | 23, _ => zX2_of (zlwQ_cv _) (fun _ => zlwQ_cv _) evC_23_core
  | n + 24, h => absurd h (by omega)
theorem evC_hook : ∀ g, g < 24 → zX3 (fun a b c => f_X8_hooka [zR 1, zI a, zI b, zI c] (hCf g) (fun r h => zands [zrI r, zsubH h (hCf g)]))
  | 0, _ => zX3_of (zlwQ_cv _) (fun _ => zlwQ_cv _) (fun _ _ => zlwQ_cv _) evC_0_hook
  | 1, _ => zX3_of (zlwQ_cv _) (fun _ => zlwQ_cv _) (fun _ _ => zlwQ_cv _) evC_1_hook
  | 2, _ => zX3_of (zlwQ_cv _) (fun _ => zlwQ_cv _) (fun _ _ => zlwQ_cv _) evC_2_hook
  | 3, _ => zX3_of (zlwQ_cv _) (fun _ => zlwQ_cv _) (fun _ _ => zlwQ_cv _) evC_3_hook
  | 4, _ => zX3_of (zlwQ_cv _) (fun _ => zlwQ_cv _) (fun _ _ => zlwQ_cv _) evC_4_hook
  | 5, _ => zX3_of (zlwQ_cv _) (fun _ => zlwQ_cv _) (fun _ _ => zlwQ_cv _) evC_5_hook
  | 6, _ => zX3_of (zlwQ_cv _) (fun _ => zlwQ_cv _) (fun _ _ => zlwQ_cv _) evC_6_hook
  | 7, _ => zX3_of (zlwQ_cv _) (fun _ => zlwQ_cv _) (fun _ _ => zlwQ_cv _) evC_7_hook
  | 8, _ => zX3_of (zlwQ_cv _) (fun _ => zlwQ_cv _) (fun _ _ => zlwQ_cv _) evC_8_hook
  | 9, _ => zX3_of (zlwQ_cv _) (fun _ => zlwQ_cv _) (fun _ _ => zlwQ_cv _) evC_9_hook
  | 10, _ => zX3_of (zlwQ_cv _) (fun _ => zlwQ_cv _) (fun _ _ => zlwQ_cv _) evC_10_hook
  | 11, _ => zX3_of (zlwQ_cv _) (fun _ => zlwQ_cv _) (fun _ _ => zlwQ_cv _) evC_11_hook
  | 12, _ => zX3_of (zlwQ_cv _) (fun _ => zlwQ_cv _) (fun _ _ => zlwQ_cv _) evC_12_hook
  | 13, _ => zX3_of (zlwQ_cv _) (fun _ => zlwQ_cv _) (fun _ _ => zlwQ_cv _) evC_13_hook
  | 14, _ => zX3_of (zlwQ_cv _) (fun _ => zlwQ_cv _) (fun _ _ => zlwQ_cv _) evC_14_hook
  | 15, _ => zX3_of (zlwQ_cv _) (fun _ => zlwQ_cv _) (fun _ _ => zlwQ_cv _) evC_15_hook
  | 16, _ => zX3_of (zlwQ_cv _) (fun _ => zlwQ_cv _) (fun _ _ => zlwQ_cv _) evC_16_hook
  | 17, _ => zX3_of (zlwQ_cv _) (fun _ => zlwQ_cv _) (fun _ _ => zlwQ_cv _) evC_17_hook
  | 18, _ => zX3_of (zlwQ_cv _) (fun _ => zlwQ_cv _) (fun _ _ => zlwQ_cv _) evC_18_hook
  | 19, _ => zX3_of (zlwQ_cv _) (fun _ => zlwQ_cv _) (fun _ _ => zlwQ_cv _) evC_19_hook
  | 20, _ => zX3_of (zlwQ_cv _) (fun _ => zlwQ_cv _) (fun _ _ => zlwQ_cv _) evC_20_hook
  | 21, _ => zX3_of (zlwQ_cv _) (fun _ => zlwQ_cv _) (fun _ _ => zlwQ_cv _) evC_21_hook
  | 22, _ => zX3_of (zlwQ_cv _) (fun _ => zlwQ_cv _) (fun _ _ => zlwQ_cv _) evC_22_hook
  | 23, _ => zX3_of (zlwQ_cv _) (fun _ => zlwQ_cv _) (fun _ _ => zlwQ_cv _) evC_23_hook
  | n + 24, h => absurd h (by omega)
theorem evC_classOf : ∀ g, g < 24 → zX2 (fun a b => f_X8_classOfa [zR 1, zI a, zI b] (hCf g) (fun r h => zands [zrI r, zsubH h (hCf g)]))
  | 0, _ => zX2_of (zlwQ_cv _) (fun _ => zlwQ_cv _) evC_0_classOf
  | 1, _ => zX2_of (zlwQ_cv _) (fun _ => zlwQ_cv _) evC_1_classOf
  | 2, _ => zX2_of (zlwQ_cv _) (fun _ => zlwQ_cv _) evC_2_classOf
  | 3, _ => zX2_of (zlwQ_cv _) (fun _ => zlwQ_cv _) evC_3_classOf
  | 4, _ => zX2_of (zlwQ_cv _) (fun _ => zlwQ_cv _) evC_4_classOf
  | 5, _ => zX2_of (zlwQ_cv _) (fun _ => zlwQ_cv _) evC_5_classOf
  | 6, _ => zX2_of (zlwQ_cv _) (fun _ => zlwQ_cv _) evC_6_classOf
  | 7, _ => zX2_of (zlwQ_cv _) (fun _ => zlwQ_cv _) evC_7_classOf
  | 8, _ => zX2_of (zlwQ_cv _) (fun _ => zlwQ_cv _) evC_8_classOf
  | 9, _ => zX2_of (zlwQ_cv _) (fun _ => zlwQ_cv _) evC_9_classOf
  | 10, _ => zX2_of (zlwQ_cv _) (fun _ => zlwQ_cv _) evC_10_classOf
  | 11, _ => zX2_of (zlwQ_cv _) (fun _ => zlwQ_cv _) evC_11_classOf
  | 12, _ => zX2_of (zlwQ_cv _) (fun _ => zlwQ_cv _) evC_12_classOf
  | 13, _ => zX2_of (zlwQ_cv _) (fun _ => zlwQ_cv _) evC_13_classOf
  | 14, _ => zX2_of (zlwQ_cv _) (fun _ => zlwQ_cv _) evC_14_classOf
  | 15, _ => zX2_of (zlwQ_cv _) (fun _ => zlwQ_cv _) evC_15_classOf
  | 16, _ => zX2_of (zlwQ_cv _) (fun _ => zlwQ_cv _) evC_16_classOf
  | 17, _ => zX2_of (zlwQ_cv _) (fun _ => zlwQ_cv _) evC_17_classOf
  | 18, _ => zX2_of (zlwQ_cv _) (fun _ => zlwQ_cv _) evC_18_classOf
  | 19, _ => zX2_of (zlwQ_cv _) (fun _ => zlwQ_cv _) evC_19_classOf
  | 20, _ => zX2_of (zlwQ_cv _) (fun _ => zlwQ_cv _) evC_20_classOf
  | 21, _ => zX2_of (zlwQ_cv _) (fun _ => zlwQ_cv _) evC_21_classOf
  | 22, _ => zX2_of (zlwQ_cv _) (fun _ => zlwQ_cv _) evC_22_classOf
  | 23, _ => zX2_of (zlwQ_cv _) (fun _ => zlwQ_cv _) evC_23_classOf
  | n + 24, h => absurd h (by omega)
theorem evC_character : ∀ g, g < 24 → zX2 (fun a b => f_X8_charactera [zR 1, zI a, zI b] (hCf g) (fun r h => zands [zrI r, zsubH h (hCf g)]))
  | 0, _ => zX2_of (zlwQ_cv _) (fun _ => zlwQ_cv _) evC_0_character
  | 1, _ => zX2_of (zlwQ_cv _) (fun _ => zlwQ_cv _) evC_1_character
  | 2, _ => zX2_of (zlwQ_cv _) (fun _ => zlwQ_cv _) evC_2_character
  | 3, _ => zX2_of (zlwQ_cv _) (fun _ => zlwQ_cv _) evC_3_character
  | 4, _ => zX2_of (zlwQ_cv _) (fun _ => zlwQ_cv _) evC_4_character
  | 5, _ => zX2_of (zlwQ_cv _) (fun _ => zlwQ_cv _) evC_5_character
  | 6, _ => zX2_of (zlwQ_cv _) (fun _ => zlwQ_cv _) evC_6_character
  | 7, _ => zX2_of (zlwQ_cv _) (fun _ => zlwQ_cv _) evC_7_character
  | 8, _ => zX2_of (zlwQ_cv _) (fun _ => zlwQ_cv _) evC_8_character
  | 9, _ => zX2_of (zlwQ_cv _) (fun _ => zlwQ_cv _) evC_9_character
  | 10, _ => zX2_of (zlwQ_cv _) (fun _ => zlwQ_cv _) evC_10_character
  | 11, _ => zX2_of (zlwQ_cv _) (fun _ => zlwQ_cv _) evC_11_character
  | 12, _ => zX2_of (zlwQ_cv _) (fun _ => zlwQ_cv _) evC_12_character
  | 13, _ => zX2_of (zlwQ_cv _) (fun _ => zlwQ_cv _) evC_13_character
  | 14, _ => zX2_of (zlwQ_cv _) (fun _ => zlwQ_cv _) evC_14_character
  | 15, _ => zX2_of (zlwQ_cv _) (fun _ => zlwQ_cv _) evC_15_character
  | 16, _ => zX2_of (zlwQ_cv _) (fun _ => zlwQ_cv _) evC_16_character
  | 17, _ => zX2_of (zlwQ_cv _) (fun _ => zlwQ_cv _) evC_17_character
  | 18, _ => zX2_of (zlwQ_cv _) (fun _ => zlwQ_cv _) evC_18_character
  | 19, _ => zX2_of (zlwQ_cv _) (fun _ => zlwQ_cv _) evC_19_character
  | 20, _ => zX2_of (zlwQ_cv _) (fun _ => zlwQ_cv _) evC_20_character
  | 21, _ => zX2_of (zlwQ_cv _) (fun _ => zlwQ_cv _) evC_21_character
  | 22, _ => zX2_of (zlwQ_cv _) (fun _ => zlwQ_cv _) evC_22_character
  | 23, _ => zX2_of (zlwQ_cv _) (fun _ => zlwQ_cv _) evC_23_character
  | n + 24, h => absurd h (by omega)
theorem evC_modular : ∀ g, g < 24 → zX2 (fun a b => f_X8_modulara [zR 1, zI a, zI b] (hCf g) (fun r h => zands [zrI r, zsubH h (hCf g)]))
  | 0, _ => zX2_of (zlwQ_cv _) (fun _ => zlwQ_cv _) evC_0_modular
  | 1, _ => zX2_of (zlwQ_cv _) (fun _ => zlwQ_cv _) evC_1_modular
  | 2, _ => zX2_of (zlwQ_cv _) (fun _ => zlwQ_cv _) evC_2_modular
  | 3, _ => zX2_of (zlwQ_cv _) (fun _ => zlwQ_cv _) evC_3_modular
  | 4, _ => zX2_of (zlwQ_cv _) (fun _ => zlwQ_cv _) evC_4_modular
  | 5, _ => zX2_of (zlwQ_cv _) (fun _ => zlwQ_cv _) evC_5_modular
  | 6, _ => zX2_of (zlwQ_cv _) (fun _ => zlwQ_cv _) evC_6_modular
  | 7, _ => zX2_of (zlwQ_cv _) (fun _ => zlwQ_cv _) evC_7_modular
  | 8, _ => zX2_of (zlwQ_cv _) (fun _ => zlwQ_cv _) evC_8_modular
  | 9, _ => zX2_of (zlwQ_cv _) (fun _ => zlwQ_cv _) evC_9_modular
  | 10, _ => zX2_of (zlwQ_cv _) (fun _ => zlwQ_cv _) evC_10_modular
  | 11, _ => zX2_of (zlwQ_cv _) (fun _ => zlwQ_cv _) evC_11_modular
  | 12, _ => zX2_of (zlwQ_cv _) (fun _ => zlwQ_cv _) evC_12_modular
  | 13, _ => zX2_of (zlwQ_cv _) (fun _ => zlwQ_cv _) evC_13_modular
  | 14, _ => zX2_of (zlwQ_cv _) (fun _ => zlwQ_cv _) evC_14_modular
  | 15, _ => zX2_of (zlwQ_cv _) (fun _ => zlwQ_cv _) evC_15_modular
  | 16, _ => zX2_of (zlwQ_cv _) (fun _ => zlwQ_cv _) evC_16_modular
  | 17, _ => zX2_of (zlwQ_cv _) (fun _ => zlwQ_cv _) evC_17_modular
  | 18, _ => zX2_of (zlwQ_cv _) (fun _ => zlwQ_cv _) evC_18_modular
  | 19, _ => zX2_of (zlwQ_cv _) (fun _ => zlwQ_cv _) evC_19_modular
  | 20, _ => zX2_of (zlwQ_cv _) (fun _ => zlwQ_cv _) evC_20_modular
  | 21, _ => zX2_of (zlwQ_cv _) (fun _ => zlwQ_cv _) evC_21_modular
  | 22, _ => zX2_of (zlwQ_cv _) (fun _ => zlwQ_cv _) evC_22_modular
  | 23, _ => zX2_of (zlwQ_cv _) (fun _ => zlwQ_cv _) evC_23_modular
  | n + 24, h => absurd h (by omega)
theorem evC_projective : ∀ g, g < 24 → zX2 (fun a b => f_X8_projectivea [zR 1, zI a, zI b] (hCf g) (fun r h => zands [zrI r, zsubH h (hCf g)]))
  | 0, _ => zX2_of (zlwQ_cv _) (fun _ => zlwQ_cv _) evC_0_projective
  | 1, _ => zX2_of (zlwQ_cv _) (fun _ => zlwQ_cv _) evC_1_projective
  | 2, _ => zX2_of (zlwQ_cv _) (fun _ => zlwQ_cv _) evC_2_projective
  | 3, _ => zX2_of (zlwQ_cv _) (fun _ => zlwQ_cv _) evC_3_projective
  | 4, _ => zX2_of (zlwQ_cv _) (fun _ => zlwQ_cv _) evC_4_projective
  | 5, _ => zX2_of (zlwQ_cv _) (fun _ => zlwQ_cv _) evC_5_projective
  | 6, _ => zX2_of (zlwQ_cv _) (fun _ => zlwQ_cv _) evC_6_projective
  | 7, _ => zX2_of (zlwQ_cv _) (fun _ => zlwQ_cv _) evC_7_projective
  | 8, _ => zX2_of (zlwQ_cv _) (fun _ => zlwQ_cv _) evC_8_projective
  | 9, _ => zX2_of (zlwQ_cv _) (fun _ => zlwQ_cv _) evC_9_projective
  | 10, _ => zX2_of (zlwQ_cv _) (fun _ => zlwQ_cv _) evC_10_projective
  | 11, _ => zX2_of (zlwQ_cv _) (fun _ => zlwQ_cv _) evC_11_projective
  | 12, _ => zX2_of (zlwQ_cv _) (fun _ => zlwQ_cv _) evC_12_projective
  | 13, _ => zX2_of (zlwQ_cv _) (fun _ => zlwQ_cv _) evC_13_projective
  | 14, _ => zX2_of (zlwQ_cv _) (fun _ => zlwQ_cv _) evC_14_projective
  | 15, _ => zX2_of (zlwQ_cv _) (fun _ => zlwQ_cv _) evC_15_projective
  | 16, _ => zX2_of (zlwQ_cv _) (fun _ => zlwQ_cv _) evC_16_projective
  | 17, _ => zX2_of (zlwQ_cv _) (fun _ => zlwQ_cv _) evC_17_projective
  | 18, _ => zX2_of (zlwQ_cv _) (fun _ => zlwQ_cv _) evC_18_projective
  | 19, _ => zX2_of (zlwQ_cv _) (fun _ => zlwQ_cv _) evC_19_projective
  | 20, _ => zX2_of (zlwQ_cv _) (fun _ => zlwQ_cv _) evC_20_projective
  | 21, _ => zX2_of (zlwQ_cv _) (fun _ => zlwQ_cv _) evC_21_projective
  | 22, _ => zX2_of (zlwQ_cv _) (fun _ => zlwQ_cv _) evC_22_projective
  | 23, _ => zX2_of (zlwQ_cv _) (fun _ => zlwQ_cv _) evC_23_projective
  | n + 24, h => absurd h (by omega)
theorem evC_decomposition : ∀ g, g < 24 → zX2 (fun a b => f_X8_decompositiona [zR 1, zI a, zI b] (hCf g) (fun r h => zands [zrI r, zsubH h (hCf g)]))
  | 0, _ => zX2_of (zlwQ_cv _) (fun _ => zlwQ_cv _) evC_0_decomposition
  | 1, _ => zX2_of (zlwQ_cv _) (fun _ => zlwQ_cv _) evC_1_decomposition
  | 2, _ => zX2_of (zlwQ_cv _) (fun _ => zlwQ_cv _) evC_2_decomposition
  | 3, _ => zX2_of (zlwQ_cv _) (fun _ => zlwQ_cv _) evC_3_decomposition
  | 4, _ => zX2_of (zlwQ_cv _) (fun _ => zlwQ_cv _) evC_4_decomposition
  | 5, _ => zX2_of (zlwQ_cv _) (fun _ => zlwQ_cv _) evC_5_decomposition
  | 6, _ => zX2_of (zlwQ_cv _) (fun _ => zlwQ_cv _) evC_6_decomposition
  | 7, _ => zX2_of (zlwQ_cv _) (fun _ => zlwQ_cv _) evC_7_decomposition
  | 8, _ => zX2_of (zlwQ_cv _) (fun _ => zlwQ_cv _) evC_8_decomposition
  | 9, _ => zX2_of (zlwQ_cv _) (fun _ => zlwQ_cv _) evC_9_decomposition
  | 10, _ => zX2_of (zlwQ_cv _) (fun _ => zlwQ_cv _) evC_10_decomposition
  | 11, _ => zX2_of (zlwQ_cv _) (fun _ => zlwQ_cv _) evC_11_decomposition
  | 12, _ => zX2_of (zlwQ_cv _) (fun _ => zlwQ_cv _) evC_12_decomposition
  | 13, _ => zX2_of (zlwQ_cv _) (fun _ => zlwQ_cv _) evC_13_decomposition
  | 14, _ => zX2_of (zlwQ_cv _) (fun _ => zlwQ_cv _) evC_14_decomposition
  | 15, _ => zX2_of (zlwQ_cv _) (fun _ => zlwQ_cv _) evC_15_decomposition
  | 16, _ => zX2_of (zlwQ_cv _) (fun _ => zlwQ_cv _) evC_16_decomposition
  | 17, _ => zX2_of (zlwQ_cv _) (fun _ => zlwQ_cv _) evC_17_decomposition
  | 18, _ => zX2_of (zlwQ_cv _) (fun _ => zlwQ_cv _) evC_18_decomposition
  | 19, _ => zX2_of (zlwQ_cv _) (fun _ => zlwQ_cv _) evC_19_decomposition
  | 20, _ => zX2_of (zlwQ_cv _) (fun _ => zlwQ_cv _) evC_20_decomposition
  | 21, _ => zX2_of (zlwQ_cv _) (fun _ => zlwQ_cv _) evC_21_decomposition
  | 22, _ => zX2_of (zlwQ_cv _) (fun _ => zlwQ_cv _) evC_22_decomposition
  | 23, _ => zX2_of (zlwQ_cv _) (fun _ => zlwQ_cv _) evC_23_decomposition
  | n + 24, h => absurd h (by omega)
theorem evC_cartan : ∀ g, g < 24 → zX2 (fun a b => f_X8_cartana [zR 1, zI a, zI b] (hCf g) (fun r h => zands [zrI r, zsubH h (hCf g)]))
  | 0, _ => zX2_of (zlwQ_cv _) (fun _ => zlwQ_cv _) evC_0_cartan
  | 1, _ => zX2_of (zlwQ_cv _) (fun _ => zlwQ_cv _) evC_1_cartan
  | 2, _ => zX2_of (zlwQ_cv _) (fun _ => zlwQ_cv _) evC_2_cartan
  | 3, _ => zX2_of (zlwQ_cv _) (fun _ => zlwQ_cv _) evC_3_cartan
  | 4, _ => zX2_of (zlwQ_cv _) (fun _ => zlwQ_cv _) evC_4_cartan
  | 5, _ => zX2_of (zlwQ_cv _) (fun _ => zlwQ_cv _) evC_5_cartan
  | 6, _ => zX2_of (zlwQ_cv _) (fun _ => zlwQ_cv _) evC_6_cartan
  | 7, _ => zX2_of (zlwQ_cv _) (fun _ => zlwQ_cv _) evC_7_cartan
  | 8, _ => zX2_of (zlwQ_cv _) (fun _ => zlwQ_cv _) evC_8_cartan
  | 9, _ => zX2_of (zlwQ_cv _) (fun _ => zlwQ_cv _) evC_9_cartan
  | 10, _ => zX2_of (zlwQ_cv _) (fun _ => zlwQ_cv _) evC_10_cartan
  | 11, _ => zX2_of (zlwQ_cv _) (fun _ => zlwQ_cv _) evC_11_cartan
  | 12, _ => zX2_of (zlwQ_cv _) (fun _ => zlwQ_cv _) evC_12_cartan
  | 13, _ => zX2_of (zlwQ_cv _) (fun _ => zlwQ_cv _) evC_13_cartan
  | 14, _ => zX2_of (zlwQ_cv _) (fun _ => zlwQ_cv _) evC_14_cartan
  | 15, _ => zX2_of (zlwQ_cv _) (fun _ => zlwQ_cv _) evC_15_cartan
  | 16, _ => zX2_of (zlwQ_cv _) (fun _ => zlwQ_cv _) evC_16_cartan
  | 17, _ => zX2_of (zlwQ_cv _) (fun _ => zlwQ_cv _) evC_17_cartan
  | 18, _ => zX2_of (zlwQ_cv _) (fun _ => zlwQ_cv _) evC_18_cartan
  | 19, _ => zX2_of (zlwQ_cv _) (fun _ => zlwQ_cv _) evC_19_cartan
  | 20, _ => zX2_of (zlwQ_cv _) (fun _ => zlwQ_cv _) evC_20_cartan
  | 21, _ => zX2_of (zlwQ_cv _) (fun _ => zlwQ_cv _) evC_21_cartan
  | 22, _ => zX2_of (zlwQ_cv _) (fun _ => zlwQ_cv _) evC_22_cartan
  | 23, _ => zX2_of (zlwQ_cv _) (fun _ => zlwQ_cv _) evC_23_cartan
  | n + 24, h => absurd h (by omega)
theorem evC_tableau : ∀ g, g < 24 → zX4 (fun a b c d => f_X8_tableaua [zR 1, zI a, zI b, zI c, zI d] (hCf g) (fun r h => zands [zrI r, zsubH h (hCf g)]))
  | 0, _ => zX4_of (zlwQ_cv _) (fun _ => zlwQ_cv _) (fun _ _ => zlwQ_cv _) (fun _ _ _ => zlwQ_cv _) evC_0_tableau
  | 1, _ => zX4_of (zlwQ_cv _) (fun _ => zlwQ_cv _) (fun _ _ => zlwQ_cv _) (fun _ _ _ => zlwQ_cv _) evC_1_tableau
  | 2, _ => zX4_of (zlwQ_cv _) (fun _ => zlwQ_cv _) (fun _ _ => zlwQ_cv _) (fun _ _ _ => zlwQ_cv _) evC_2_tableau
  | 3, _ => zX4_of (zlwQ_cv _) (fun _ => zlwQ_cv _) (fun _ _ => zlwQ_cv _) (fun _ _ _ => zlwQ_cv _) evC_3_tableau
  | 4, _ => zX4_of (zlwQ_cv _) (fun _ => zlwQ_cv _) (fun _ _ => zlwQ_cv _) (fun _ _ _ => zlwQ_cv _) evC_4_tableau
  | 5, _ => zX4_of (zlwQ_cv _) (fun _ => zlwQ_cv _) (fun _ _ => zlwQ_cv _) (fun _ _ _ => zlwQ_cv _) evC_5_tableau
  | 6, _ => zX4_of (zlwQ_cv _) (fun _ => zlwQ_cv _) (fun _ _ => zlwQ_cv _) (fun _ _ _ => zlwQ_cv _) evC_6_tableau
  | 7, _ => zX4_of (zlwQ_cv _) (fun _ => zlwQ_cv _) (fun _ _ => zlwQ_cv _) (fun _ _ _ => zlwQ_cv _) evC_7_tableau
  | 8, _ => zX4_of (zlwQ_cv _) (fun _ => zlwQ_cv _) (fun _ _ => zlwQ_cv _) (fun _ _ _ => zlwQ_cv _) evC_8_tableau
  | 9, _ => zX4_of (zlwQ_cv _) (fun _ => zlwQ_cv _) (fun _ _ => zlwQ_cv _) (fun _ _ _ => zlwQ_cv _) evC_9_tableau
  | 10, _ => zX4_of (zlwQ_cv _) (fun _ => zlwQ_cv _) (fun _ _ => zlwQ_cv _) (fun _ _ _ => zlwQ_cv _) evC_10_tableau
  | 11, _ => zX4_of (zlwQ_cv _) (fun _ => zlwQ_cv _) (fun _ _ => zlwQ_cv _) (fun _ _ _ => zlwQ_cv _) evC_11_tableau
  | 12, _ => zX4_of (zlwQ_cv _) (fun _ => zlwQ_cv _) (fun _ _ => zlwQ_cv _) (fun _ _ _ => zlwQ_cv _) evC_12_tableau
  | 13, _ => zX4_of (zlwQ_cv _) (fun _ => zlwQ_cv _) (fun _ _ => zlwQ_cv _) (fun _ _ _ => zlwQ_cv _) evC_13_tableau
  | 14, _ => zX4_of (zlwQ_cv _) (fun _ => zlwQ_cv _) (fun _ _ => zlwQ_cv _) (fun _ _ _ => zlwQ_cv _) evC_14_tableau
  | 15, _ => zX4_of (zlwQ_cv _) (fun _ => zlwQ_cv _) (fun _ _ => zlwQ_cv _) (fun _ _ _ => zlwQ_cv _) evC_15_tableau
  | 16, _ => zX4_of (zlwQ_cv _) (fun _ => zlwQ_cv _) (fun _ _ => zlwQ_cv _) (fun _ _ _ => zlwQ_cv _) evC_16_tableau
  | 17, _ => zX4_of (zlwQ_cv _) (fun _ => zlwQ_cv _) (fun _ _ => zlwQ_cv _) (fun _ _ _ => zlwQ_cv _) evC_17_tableau
  | 18, _ => zX4_of (zlwQ_cv _) (fun _ => zlwQ_cv _) (fun _ _ => zlwQ_cv _) (fun _ _ _ => zlwQ_cv _) evC_18_tableau
  | 19, _ => zX4_of (zlwQ_cv _) (fun _ => zlwQ_cv _) (fun _ _ => zlwQ_cv _) (fun _ _ _ => zlwQ_cv _) evC_19_tableau
  | 20, _ => zX4_of (zlwQ_cv _) (fun _ => zlwQ_cv _) (fun _ _ => zlwQ_cv _) (fun _ _ _ => zlwQ_cv _) evC_20_tableau
  | 21, _ => zX4_of (zlwQ_cv _) (fun _ => zlwQ_cv _) (fun _ _ => zlwQ_cv _) (fun _ _ _ => zlwQ_cv _) evC_21_tableau
  | 22, _ => zX4_of (zlwQ_cv _) (fun _ => zlwQ_cv _) (fun _ _ => zlwQ_cv _) (fun _ _ _ => zlwQ_cv _) evC_22_tableau
  | 23, _ => zX4_of (zlwQ_cv _) (fun _ => zlwQ_cv _) (fun _ _ => zlwQ_cv _) (fun _ _ _ => zlwQ_cv _) evC_23_tableau
  | n + 24, h => absurd h (by omega)
theorem evC_gram : ∀ g, g < 24 → zX3 (fun a b c => f_X8_grama [zR 1, zI a, zI b, zI c] (hCf g) (fun r h => zands [zrI r, zsubH h (hCf g)]))
  | 0, _ => zX3_of (zlwQ_cv _) (fun _ => zlwQ_cv _) (fun _ _ => zlwQ_cv _) evC_0_gram
  | 1, _ => zX3_of (zlwQ_cv _) (fun _ => zlwQ_cv _) (fun _ _ => zlwQ_cv _) evC_1_gram
  | 2, _ => zX3_of (zlwQ_cv _) (fun _ => zlwQ_cv _) (fun _ _ => zlwQ_cv _) evC_2_gram
  | 3, _ => zX3_of (zlwQ_cv _) (fun _ => zlwQ_cv _) (fun _ _ => zlwQ_cv _) evC_3_gram
  | 4, _ => zX3_of (zlwQ_cv _) (fun _ => zlwQ_cv _) (fun _ _ => zlwQ_cv _) evC_4_gram
  | 5, _ => zX3_of (zlwQ_cv _) (fun _ => zlwQ_cv _) (fun _ _ => zlwQ_cv _) evC_5_gram
  | 6, _ => zX3_of (zlwQ_cv _) (fun _ => zlwQ_cv _) (fun _ _ => zlwQ_cv _) evC_6_gram
  | 7, _ => zX3_of (zlwQ_cv _) (fun _ => zlwQ_cv _) (fun _ _ => zlwQ_cv _) evC_7_gram
  | 8, _ => zX3_of (zlwQ_cv _) (fun _ => zlwQ_cv _) (fun _ _ => zlwQ_cv _) evC_8_gram
  | 9, _ => zX3_of (zlwQ_cv _) (fun _ => zlwQ_cv _) (fun _ _ => zlwQ_cv _) evC_9_gram
  | 10, _ => zX3_of (zlwQ_cv _) (fun _ => zlwQ_cv _) (fun _ _ => zlwQ_cv _) evC_10_gram
  | 11, _ => zX3_of (zlwQ_cv _) (fun _ => zlwQ_cv _) (fun _ _ => zlwQ_cv _) evC_11_gram
  | 12, _ => zX3_of (zlwQ_cv _) (fun _ => zlwQ_cv _) (fun _ _ => zlwQ_cv _) evC_12_gram
  | 13, _ => zX3_of (zlwQ_cv _) (fun _ => zlwQ_cv _) (fun _ _ => zlwQ_cv _) evC_13_gram
  | 14, _ => zX3_of (zlwQ_cv _) (fun _ => zlwQ_cv _) (fun _ _ => zlwQ_cv _) evC_14_gram
  | 15, _ => zX3_of (zlwQ_cv _) (fun _ => zlwQ_cv _) (fun _ _ => zlwQ_cv _) evC_15_gram
  | 16, _ => zX3_of (zlwQ_cv _) (fun _ => zlwQ_cv _) (fun _ _ => zlwQ_cv _) evC_16_gram
  | 17, _ => zX3_of (zlwQ_cv _) (fun _ => zlwQ_cv _) (fun _ _ => zlwQ_cv _) evC_17_gram
  | 18, _ => zX3_of (zlwQ_cv _) (fun _ => zlwQ_cv _) (fun _ _ => zlwQ_cv _) evC_18_gram
  | 19, _ => zX3_of (zlwQ_cv _) (fun _ => zlwQ_cv _) (fun _ _ => zlwQ_cv _) evC_19_gram
  | 20, _ => zX3_of (zlwQ_cv _) (fun _ => zlwQ_cv _) (fun _ _ => zlwQ_cv _) evC_20_gram
  | 21, _ => zX3_of (zlwQ_cv _) (fun _ => zlwQ_cv _) (fun _ _ => zlwQ_cv _) evC_21_gram
  | 22, _ => zX3_of (zlwQ_cv _) (fun _ => zlwQ_cv _) (fun _ _ => zlwQ_cv _) evC_22_gram
  | 23, _ => zX3_of (zlwQ_cv _) (fun _ => zlwQ_cv _) (fun _ _ => zlwQ_cv _) evC_23_gram
  | n + 24, h => absurd h (by omega)
theorem evC_block : ∀ g, g < 24 → zX2 (fun a b => f_X8_blocka [zR 1, zI a, zI b] (hCf g) (fun r h => zands [zrI r, zsubH h (hCf g)]))
  | 0, _ => zX2_of (zlwQ_cv _) (fun _ => zlwQ_cv _) evC_0_block
  | 1, _ => zX2_of (zlwQ_cv _) (fun _ => zlwQ_cv _) evC_1_block
  | 2, _ => zX2_of (zlwQ_cv _) (fun _ => zlwQ_cv _) evC_2_block
  | 3, _ => zX2_of (zlwQ_cv _) (fun _ => zlwQ_cv _) evC_3_block
  | 4, _ => zX2_of (zlwQ_cv _) (fun _ => zlwQ_cv _) evC_4_block
  | 5, _ => zX2_of (zlwQ_cv _) (fun _ => zlwQ_cv _) evC_5_block
  | 6, _ => zX2_of (zlwQ_cv _) (fun _ => zlwQ_cv _) evC_6_block
  | 7, _ => zX2_of (zlwQ_cv _) (fun _ => zlwQ_cv _) evC_7_block
  | 8, _ => zX2_of (zlwQ_cv _) (fun _ => zlwQ_cv _) evC_8_block
  | 9, _ => zX2_of (zlwQ_cv _) (fun _ => zlwQ_cv _) evC_9_block
  | 10, _ => zX2_of (zlwQ_cv _) (fun _ => zlwQ_cv _) evC_10_block
  | 11, _ => zX2_of (zlwQ_cv _) (fun _ => zlwQ_cv _) evC_11_block
  | 12, _ => zX2_of (zlwQ_cv _) (fun _ => zlwQ_cv _) evC_12_block
  | 13, _ => zX2_of (zlwQ_cv _) (fun _ => zlwQ_cv _) evC_13_block
  | 14, _ => zX2_of (zlwQ_cv _) (fun _ => zlwQ_cv _) evC_14_block
  | 15, _ => zX2_of (zlwQ_cv _) (fun _ => zlwQ_cv _) evC_15_block
  | 16, _ => zX2_of (zlwQ_cv _) (fun _ => zlwQ_cv _) evC_16_block
  | 17, _ => zX2_of (zlwQ_cv _) (fun _ => zlwQ_cv _) evC_17_block
  | 18, _ => zX2_of (zlwQ_cv _) (fun _ => zlwQ_cv _) evC_18_block
  | 19, _ => zX2_of (zlwQ_cv _) (fun _ => zlwQ_cv _) evC_19_block
  | 20, _ => zX2_of (zlwQ_cv _) (fun _ => zlwQ_cv _) evC_20_block
  | 21, _ => zX2_of (zlwQ_cv _) (fun _ => zlwQ_cv _) evC_21_block
  | 22, _ => zX2_of (zlwQ_cv _) (fun _ => zlwQ_cv _) evC_22_block
  | 23, _ => zX2_of (zlwQ_cv _) (fun _ => zlwQ_cv _) evC_23_block
  | n + 24, h => absurd h (by omega)
theorem evC_value : ∀ g, g < 24 → zX2 (fun a b => f_X8_valuea [zR 1, zI a, zI b] (hCf g) (fun r h => zands [zrJ r, zsubH h (hCf g)]))
  | 0, _ => zX2_of (zlwQ_cv _) (fun _ => zlwQ_cv _) evC_0_value
  | 1, _ => zX2_of (zlwQ_cv _) (fun _ => zlwQ_cv _) evC_1_value
  | 2, _ => zX2_of (zlwQ_cv _) (fun _ => zlwQ_cv _) evC_2_value
  | 3, _ => zX2_of (zlwQ_cv _) (fun _ => zlwQ_cv _) evC_3_value
  | 4, _ => zX2_of (zlwQ_cv _) (fun _ => zlwQ_cv _) evC_4_value
  | 5, _ => zX2_of (zlwQ_cv _) (fun _ => zlwQ_cv _) evC_5_value
  | 6, _ => zX2_of (zlwQ_cv _) (fun _ => zlwQ_cv _) evC_6_value
  | 7, _ => zX2_of (zlwQ_cv _) (fun _ => zlwQ_cv _) evC_7_value
  | 8, _ => zX2_of (zlwQ_cv _) (fun _ => zlwQ_cv _) evC_8_value
  | 9, _ => zX2_of (zlwQ_cv _) (fun _ => zlwQ_cv _) evC_9_value
  | 10, _ => zX2_of (zlwQ_cv _) (fun _ => zlwQ_cv _) evC_10_value
  | 11, _ => zX2_of (zlwQ_cv _) (fun _ => zlwQ_cv _) evC_11_value
  | 12, _ => zX2_of (zlwQ_cv _) (fun _ => zlwQ_cv _) evC_12_value
  | 13, _ => zX2_of (zlwQ_cv _) (fun _ => zlwQ_cv _) evC_13_value
  | 14, _ => zX2_of (zlwQ_cv _) (fun _ => zlwQ_cv _) evC_14_value
  | 15, _ => zX2_of (zlwQ_cv _) (fun _ => zlwQ_cv _) evC_15_value
  | 16, _ => zX2_of (zlwQ_cv _) (fun _ => zlwQ_cv _) evC_16_value
  | 17, _ => zX2_of (zlwQ_cv _) (fun _ => zlwQ_cv _) evC_17_value
  | 18, _ => zX2_of (zlwQ_cv _) (fun _ => zlwQ_cv _) evC_18_value
  | 19, _ => zX2_of (zlwQ_cv _) (fun _ => zlwQ_cv _) evC_19_value
  | 20, _ => zX2_of (zlwQ_cv _) (fun _ => zlwQ_cv _) evC_20_value
  | 21, _ => zX2_of (zlwQ_cv _) (fun _ => zlwQ_cv _) evC_21_value
  | 22, _ => zX2_of (zlwQ_cv _) (fun _ => zlwQ_cv _) evC_22_value
  | 23, _ => zX2_of (zlwQ_cv _) (fun _ => zlwQ_cv _) evC_23_value
  | n + 24, h => absurd h (by omega)
theorem evC_parts : ∀ g, g < 24 → zX3 (fun a b c => f_X8_partst [zR 1, zI a, zI b, zI c] (hCf g) (fun r h => zands [zrJ r, zsubH h (hCf g)]))
  | 0, _ => zX3_of (zlwQ_cv _) (fun _ => zlwQ_cv _) (fun _ _ => zlwQ_cv _) evC_0_parts
  | 1, _ => zX3_of (zlwQ_cv _) (fun _ => zlwQ_cv _) (fun _ _ => zlwQ_cv _) evC_1_parts
  | 2, _ => zX3_of (zlwQ_cv _) (fun _ => zlwQ_cv _) (fun _ _ => zlwQ_cv _) evC_2_parts
  | 3, _ => zX3_of (zlwQ_cv _) (fun _ => zlwQ_cv _) (fun _ _ => zlwQ_cv _) evC_3_parts
  | 4, _ => zX3_of (zlwQ_cv _) (fun _ => zlwQ_cv _) (fun _ _ => zlwQ_cv _) evC_4_parts
  | 5, _ => zX3_of (zlwQ_cv _) (fun _ => zlwQ_cv _) (fun _ _ => zlwQ_cv _) evC_5_parts
  | 6, _ => zX3_of (zlwQ_cv _) (fun _ => zlwQ_cv _) (fun _ _ => zlwQ_cv _) evC_6_parts
  | 7, _ => zX3_of (zlwQ_cv _) (fun _ => zlwQ_cv _) (fun _ _ => zlwQ_cv _) evC_7_parts
  | 8, _ => zX3_of (zlwQ_cv _) (fun _ => zlwQ_cv _) (fun _ _ => zlwQ_cv _) evC_8_parts
  | 9, _ => zX3_of (zlwQ_cv _) (fun _ => zlwQ_cv _) (fun _ _ => zlwQ_cv _) evC_9_parts
  | 10, _ => zX3_of (zlwQ_cv _) (fun _ => zlwQ_cv _) (fun _ _ => zlwQ_cv _) evC_10_parts
  | 11, _ => zX3_of (zlwQ_cv _) (fun _ => zlwQ_cv _) (fun _ _ => zlwQ_cv _) evC_11_parts
  | 12, _ => zX3_of (zlwQ_cv _) (fun _ => zlwQ_cv _) (fun _ _ => zlwQ_cv _) evC_12_parts
  | 13, _ => zX3_of (zlwQ_cv _) (fun _ => zlwQ_cv _) (fun _ _ => zlwQ_cv _) evC_13_parts
  | 14, _ => zX3_of (zlwQ_cv _) (fun _ => zlwQ_cv _) (fun _ _ => zlwQ_cv _) evC_14_parts
  | 15, _ => zX3_of (zlwQ_cv _) (fun _ => zlwQ_cv _) (fun _ _ => zlwQ_cv _) evC_15_parts
  | 16, _ => zX3_of (zlwQ_cv _) (fun _ => zlwQ_cv _) (fun _ _ => zlwQ_cv _) evC_16_parts
  | 17, _ => zX3_of (zlwQ_cv _) (fun _ => zlwQ_cv _) (fun _ _ => zlwQ_cv _) evC_17_parts
  | 18, _ => zX3_of (zlwQ_cv _) (fun _ => zlwQ_cv _) (fun _ _ => zlwQ_cv _) evC_18_parts
  | 19, _ => zX3_of (zlwQ_cv _) (fun _ => zlwQ_cv _) (fun _ _ => zlwQ_cv _) evC_19_parts
  | 20, _ => zX3_of (zlwQ_cv _) (fun _ => zlwQ_cv _) (fun _ _ => zlwQ_cv _) evC_20_parts
  | 21, _ => zX3_of (zlwQ_cv _) (fun _ => zlwQ_cv _) (fun _ _ => zlwQ_cv _) evC_21_parts
  | 22, _ => zX3_of (zlwQ_cv _) (fun _ => zlwQ_cv _) (fun _ _ => zlwQ_cv _) evC_22_parts
  | 23, _ => zX3_of (zlwQ_cv _) (fun _ => zlwQ_cv _) (fun _ _ => zlwQ_cv _) evC_23_parts
  | n + 24, h => absurd h (by omega)
theorem evC_inner : ∀ g, g < 24 → zX2 (fun a b => f_X8_innera [zR 1, zI a, zI b] (hCf g) (fun r h => zands [zrJ r, zsubH h (hCf g)]))
  | 0, _ => zX2_of (zlwQ_cv _) (fun _ => zlwQ_cv _) evC_0_inner
  | 1, _ => zX2_of (zlwQ_cv _) (fun _ => zlwQ_cv _) evC_1_inner
  | 2, _ => zX2_of (zlwQ_cv _) (fun _ => zlwQ_cv _) evC_2_inner
  | 3, _ => zX2_of (zlwQ_cv _) (fun _ => zlwQ_cv _) evC_3_inner
  | 4, _ => zX2_of (zlwQ_cv _) (fun _ => zlwQ_cv _) evC_4_inner
  | 5, _ => zX2_of (zlwQ_cv _) (fun _ => zlwQ_cv _) evC_5_inner
  | 6, _ => zX2_of (zlwQ_cv _) (fun _ => zlwQ_cv _) evC_6_inner
  | 7, _ => zX2_of (zlwQ_cv _) (fun _ => zlwQ_cv _) evC_7_inner
  | 8, _ => zX2_of (zlwQ_cv _) (fun _ => zlwQ_cv _) evC_8_inner
  | 9, _ => zX2_of (zlwQ_cv _) (fun _ => zlwQ_cv _) evC_9_inner
  | 10, _ => zX2_of (zlwQ_cv _) (fun _ => zlwQ_cv _) evC_10_inner
  | 11, _ => zX2_of (zlwQ_cv _) (fun _ => zlwQ_cv _) evC_11_inner
  | 12, _ => zX2_of (zlwQ_cv _) (fun _ => zlwQ_cv _) evC_12_inner
  | 13, _ => zX2_of (zlwQ_cv _) (fun _ => zlwQ_cv _) evC_13_inner
  | 14, _ => zX2_of (zlwQ_cv _) (fun _ => zlwQ_cv _) evC_14_inner
  | 15, _ => zX2_of (zlwQ_cv _) (fun _ => zlwQ_cv _) evC_15_inner
  | 16, _ => zX2_of (zlwQ_cv _) (fun _ => zlwQ_cv _) evC_16_inner
  | 17, _ => zX2_of (zlwQ_cv _) (fun _ => zlwQ_cv _) evC_17_inner
  | 18, _ => zX2_of (zlwQ_cv _) (fun _ => zlwQ_cv _) evC_18_inner
  | 19, _ => zX2_of (zlwQ_cv _) (fun _ => zlwQ_cv _) evC_19_inner
  | 20, _ => zX2_of (zlwQ_cv _) (fun _ => zlwQ_cv _) evC_20_inner
  | 21, _ => zX2_of (zlwQ_cv _) (fun _ => zlwQ_cv _) evC_21_inner
  | 22, _ => zX2_of (zlwQ_cv _) (fun _ => zlwQ_cv _) evC_22_inner
  | 23, _ => zX2_of (zlwQ_cv _) (fun _ => zlwQ_cv _) evC_23_inner
  | n + 24, h => absurd h (by omega)
theorem evC_kind : ∀ g, g < 24 → zX2 (fun a b => f_X8_kinda [zR 1, zI a, zI b] (hCf g) (fun r h => zands [zrI r, zsubH h (hCf g)]))
  | 0, _ => zX2_of (zlwQ_cv _) (fun _ => zlwQ_cv _) evC_0_kind
  | 1, _ => zX2_of (zlwQ_cv _) (fun _ => zlwQ_cv _) evC_1_kind
  | 2, _ => zX2_of (zlwQ_cv _) (fun _ => zlwQ_cv _) evC_2_kind
  | 3, _ => zX2_of (zlwQ_cv _) (fun _ => zlwQ_cv _) evC_3_kind
  | 4, _ => zX2_of (zlwQ_cv _) (fun _ => zlwQ_cv _) evC_4_kind
  | 5, _ => zX2_of (zlwQ_cv _) (fun _ => zlwQ_cv _) evC_5_kind
  | 6, _ => zX2_of (zlwQ_cv _) (fun _ => zlwQ_cv _) evC_6_kind
  | 7, _ => zX2_of (zlwQ_cv _) (fun _ => zlwQ_cv _) evC_7_kind
  | 8, _ => zX2_of (zlwQ_cv _) (fun _ => zlwQ_cv _) evC_8_kind
  | 9, _ => zX2_of (zlwQ_cv _) (fun _ => zlwQ_cv _) evC_9_kind
  | 10, _ => zX2_of (zlwQ_cv _) (fun _ => zlwQ_cv _) evC_10_kind
  | 11, _ => zX2_of (zlwQ_cv _) (fun _ => zlwQ_cv _) evC_11_kind
  | 12, _ => zX2_of (zlwQ_cv _) (fun _ => zlwQ_cv _) evC_12_kind
  | 13, _ => zX2_of (zlwQ_cv _) (fun _ => zlwQ_cv _) evC_13_kind
  | 14, _ => zX2_of (zlwQ_cv _) (fun _ => zlwQ_cv _) evC_14_kind
  | 15, _ => zX2_of (zlwQ_cv _) (fun _ => zlwQ_cv _) evC_15_kind
  | 16, _ => zX2_of (zlwQ_cv _) (fun _ => zlwQ_cv _) evC_16_kind
  | 17, _ => zX2_of (zlwQ_cv _) (fun _ => zlwQ_cv _) evC_17_kind
  | 18, _ => zX2_of (zlwQ_cv _) (fun _ => zlwQ_cv _) evC_18_kind
  | 19, _ => zX2_of (zlwQ_cv _) (fun _ => zlwQ_cv _) evC_19_kind
  | 20, _ => zX2_of (zlwQ_cv _) (fun _ => zlwQ_cv _) evC_20_kind
  | 21, _ => zX2_of (zlwQ_cv _) (fun _ => zlwQ_cv _) evC_21_kind
  | 22, _ => zX2_of (zlwQ_cv _) (fun _ => zlwQ_cv _) evC_22_kind
  | 23, _ => zX2_of (zlwQ_cv _) (fun _ => zlwQ_cv _) evC_23_kind
  | n + 24, h => absurd h (by omega)
theorem evC_cut : ∀ g, g < 24 → zX3 (fun a b c => f_X8_cuta [zR 1, zI a, zI b, zI c] (hCf g) (fun r h => zands [zrI r, zsubH h (hCf g)]))
  | 0, _ => zX3_of (zlwQ_cv _) (fun _ => zlwQ_cv _) (fun _ _ => zlwQ_cv _) evC_0_cut
  | 1, _ => zX3_of (zlwQ_cv _) (fun _ => zlwQ_cv _) (fun _ _ => zlwQ_cv _) evC_1_cut
  | 2, _ => zX3_of (zlwQ_cv _) (fun _ => zlwQ_cv _) (fun _ _ => zlwQ_cv _) evC_2_cut
  | 3, _ => zX3_of (zlwQ_cv _) (fun _ => zlwQ_cv _) (fun _ _ => zlwQ_cv _) evC_3_cut
  | 4, _ => zX3_of (zlwQ_cv _) (fun _ => zlwQ_cv _) (fun _ _ => zlwQ_cv _) evC_4_cut
  | 5, _ => zX3_of (zlwQ_cv _) (fun _ => zlwQ_cv _) (fun _ _ => zlwQ_cv _) evC_5_cut
  | 6, _ => zX3_of (zlwQ_cv _) (fun _ => zlwQ_cv _) (fun _ _ => zlwQ_cv _) evC_6_cut
  | 7, _ => zX3_of (zlwQ_cv _) (fun _ => zlwQ_cv _) (fun _ _ => zlwQ_cv _) evC_7_cut
  | 8, _ => zX3_of (zlwQ_cv _) (fun _ => zlwQ_cv _) (fun _ _ => zlwQ_cv _) evC_8_cut
  | 9, _ => zX3_of (zlwQ_cv _) (fun _ => zlwQ_cv _) (fun _ _ => zlwQ_cv _) evC_9_cut
  | 10, _ => zX3_of (zlwQ_cv _) (fun _ => zlwQ_cv _) (fun _ _ => zlwQ_cv _) evC_10_cut
  | 11, _ => zX3_of (zlwQ_cv _) (fun _ => zlwQ_cv _) (fun _ _ => zlwQ_cv _) evC_11_cut
  | 12, _ => zX3_of (zlwQ_cv _) (fun _ => zlwQ_cv _) (fun _ _ => zlwQ_cv _) evC_12_cut
  | 13, _ => zX3_of (zlwQ_cv _) (fun _ => zlwQ_cv _) (fun _ _ => zlwQ_cv _) evC_13_cut
  | 14, _ => zX3_of (zlwQ_cv _) (fun _ => zlwQ_cv _) (fun _ _ => zlwQ_cv _) evC_14_cut
  | 15, _ => zX3_of (zlwQ_cv _) (fun _ => zlwQ_cv _) (fun _ _ => zlwQ_cv _) evC_15_cut
  | 16, _ => zX3_of (zlwQ_cv _) (fun _ => zlwQ_cv _) (fun _ _ => zlwQ_cv _) evC_16_cut
  | 17, _ => zX3_of (zlwQ_cv _) (fun _ => zlwQ_cv _) (fun _ _ => zlwQ_cv _) evC_17_cut
  | 18, _ => zX3_of (zlwQ_cv _) (fun _ => zlwQ_cv _) (fun _ _ => zlwQ_cv _) evC_18_cut
  | 19, _ => zX3_of (zlwQ_cv _) (fun _ => zlwQ_cv _) (fun _ _ => zlwQ_cv _) evC_19_cut
  | 20, _ => zX3_of (zlwQ_cv _) (fun _ => zlwQ_cv _) (fun _ _ => zlwQ_cv _) evC_20_cut
  | 21, _ => zX3_of (zlwQ_cv _) (fun _ => zlwQ_cv _) (fun _ _ => zlwQ_cv _) evC_21_cut
  | 22, _ => zX3_of (zlwQ_cv _) (fun _ => zlwQ_cv _) (fun _ _ => zlwQ_cv _) evC_22_cut
  | 23, _ => zX3_of (zlwQ_cv _) (fun _ => zlwQ_cv _) (fun _ _ => zlwQ_cv _) evC_23_cut
  | n + 24, h => absurd h (by omega)
theorem evC_look : ∀ g, g < 24 → zX1 (fun a => f_X8_lookt [zR 1, zI a] (hCf g) (fun r h => zands [zrI r, zsubH h (hCf g)]))
  | 0, _ => zX1_of (zlwQ_cv _) evC_0_look
  | 1, _ => zX1_of (zlwQ_cv _) evC_1_look
  | 2, _ => zX1_of (zlwQ_cv _) evC_2_look
  | 3, _ => zX1_of (zlwQ_cv _) evC_3_look
  | 4, _ => zX1_of (zlwQ_cv _) evC_4_look
  | 5, _ => zX1_of (zlwQ_cv _) evC_5_look
  | 6, _ => zX1_of (zlwQ_cv _) evC_6_look
  | 7, _ => zX1_of (zlwQ_cv _) evC_7_look
  | 8, _ => zX1_of (zlwQ_cv _) evC_8_look
  | 9, _ => zX1_of (zlwQ_cv _) evC_9_look
  | 10, _ => zX1_of (zlwQ_cv _) evC_10_look
  | 11, _ => zX1_of (zlwQ_cv _) evC_11_look
  | 12, _ => zX1_of (zlwQ_cv _) evC_12_look
  | 13, _ => zX1_of (zlwQ_cv _) evC_13_look
  | 14, _ => zX1_of (zlwQ_cv _) evC_14_look
  | 15, _ => zX1_of (zlwQ_cv _) evC_15_look
  | 16, _ => zX1_of (zlwQ_cv _) evC_16_look
  | 17, _ => zX1_of (zlwQ_cv _) evC_17_look
  | 18, _ => zX1_of (zlwQ_cv _) evC_18_look
  | 19, _ => zX1_of (zlwQ_cv _) evC_19_look
  | 20, _ => zX1_of (zlwQ_cv _) evC_20_look
  | 21, _ => zX1_of (zlwQ_cv _) evC_21_look
  | 22, _ => zX1_of (zlwQ_cv _) evC_22_look
  | 23, _ => zX1_of (zlwQ_cv _) evC_23_look
  | n + 24, h => absurd h (by omega)
theorem evR_fault : ∀ g, g < 24 → zX1 (fun a => f_X9_faulta [zR 1, zI a] (hRf g) (fun r h => zands [zrI r, zsubH h (hRf g)]))
  | 0, _ => zX1_of (zlvR_cv) evR_0_fault
  | 1, _ => zX1_of (zlvR_cv) evR_1_fault
  | 2, _ => zX1_of (zlvR_cv) evR_2_fault
  | 3, _ => zX1_of (zlvR_cv) evR_3_fault
  | 4, _ => zX1_of (zlvR_cv) evR_4_fault
  | 5, _ => zX1_of (zlvR_cv) evR_5_fault
  | 6, _ => zX1_of (zlvR_cv) evR_6_fault
  | 7, _ => zX1_of (zlvR_cv) evR_7_fault
  | 8, _ => zX1_of (zlvR_cv) evR_8_fault
  | 9, _ => zX1_of (zlvR_cv) evR_9_fault
  | 10, _ => zX1_of (zlvR_cv) evR_10_fault
  | 11, _ => zX1_of (zlvR_cv) evR_11_fault
  | 12, _ => zX1_of (zlvR_cv) evR_12_fault
  | 13, _ => zX1_of (zlvR_cv) evR_13_fault
  | 14, _ => zX1_of (zlvR_cv) evR_14_fault
  | 15, _ => zX1_of (zlvR_cv) evR_15_fault
  | 16, _ => zX1_of (zlvR_cv) evR_16_fault
  | 17, _ => zX1_of (zlvR_cv) evR_17_fault
  | 18, _ => zX1_of (zlvR_cv) evR_18_fault
  | 19, _ => zX1_of (zlvR_cv) evR_19_fault
  | 20, _ => zX1_of (zlvR_cv) evR_20_fault
  | 21, _ => zX1_of (zlvR_cv) evR_21_fault
  | 22, _ => zX1_of (zlvR_cv) evR_22_fault
  | 23, _ => zX1_of (zlvR_cv) evR_23_fault
  | n + 24, h => absurd h (by omega)
theorem evR_partition : ∀ g, g < 24 → zX2 (fun a b => f_X9_partitiona [zR 1, zI a, zI b] (hRf g) (fun r h => zands [zrI r, zsubH h (hRf g)]))
  | 0, _ => zX2_of (zlwQ_cv _) (fun _ => zlwQ_cv _) evR_0_partition
  | 1, _ => zX2_of (zlwQ_cv _) (fun _ => zlwQ_cv _) evR_1_partition
  | 2, _ => zX2_of (zlwQ_cv _) (fun _ => zlwQ_cv _) evR_2_partition
  | 3, _ => zX2_of (zlwQ_cv _) (fun _ => zlwQ_cv _) evR_3_partition
  | 4, _ => zX2_of (zlwQ_cv _) (fun _ => zlwQ_cv _) evR_4_partition
  | 5, _ => zX2_of (zlwQ_cv _) (fun _ => zlwQ_cv _) evR_5_partition
  | 6, _ => zX2_of (zlwQ_cv _) (fun _ => zlwQ_cv _) evR_6_partition
  | 7, _ => zX2_of (zlwQ_cv _) (fun _ => zlwQ_cv _) evR_7_partition
  | 8, _ => zX2_of (zlwQ_cv _) (fun _ => zlwQ_cv _) evR_8_partition
  | 9, _ => zX2_of (zlwQ_cv _) (fun _ => zlwQ_cv _) evR_9_partition
  | 10, _ => zX2_of (zlwQ_cv _) (fun _ => zlwQ_cv _) evR_10_partition
  | 11, _ => zX2_of (zlwQ_cv _) (fun _ => zlwQ_cv _) evR_11_partition
  | 12, _ => zX2_of (zlwQ_cv _) (fun _ => zlwQ_cv _) evR_12_partition
  | 13, _ => zX2_of (zlwQ_cv _) (fun _ => zlwQ_cv _) evR_13_partition
  | 14, _ => zX2_of (zlwQ_cv _) (fun _ => zlwQ_cv _) evR_14_partition
  | 15, _ => zX2_of (zlwQ_cv _) (fun _ => zlwQ_cv _) evR_15_partition
  | 16, _ => zX2_of (zlwQ_cv _) (fun _ => zlwQ_cv _) evR_16_partition
  | 17, _ => zX2_of (zlwQ_cv _) (fun _ => zlwQ_cv _) evR_17_partition
  | 18, _ => zX2_of (zlwQ_cv _) (fun _ => zlwQ_cv _) evR_18_partition
  | 19, _ => zX2_of (zlwQ_cv _) (fun _ => zlwQ_cv _) evR_19_partition
  | 20, _ => zX2_of (zlwQ_cv _) (fun _ => zlwQ_cv _) evR_20_partition
  | 21, _ => zX2_of (zlwQ_cv _) (fun _ => zlwQ_cv _) evR_21_partition
  | 22, _ => zX2_of (zlwQ_cv _) (fun _ => zlwQ_cv _) evR_22_partition
  | 23, _ => zX2_of (zlwQ_cv _) (fun _ => zlwQ_cv _) evR_23_partition
  | n + 24, h => absurd h (by omega)
theorem evR_of : ∀ g, g < 24 → zX2 (fun a b => f_X9_ofa [zR 1, zI a, zI b] (hRf g) (fun r h => zands [zrI r, zsubH h (hRf g)]))
  | 0, _ => zX2_of (zlwQ_cv _) (fun _ => zlwQ_cv _) evR_0_of
  | 1, _ => zX2_of (zlwQ_cv _) (fun _ => zlwQ_cv _) evR_1_of
  | 2, _ => zX2_of (zlwQ_cv _) (fun _ => zlwQ_cv _) evR_2_of
  | 3, _ => zX2_of (zlwQ_cv _) (fun _ => zlwQ_cv _) evR_3_of
  | 4, _ => zX2_of (zlwQ_cv _) (fun _ => zlwQ_cv _) evR_4_of
  | 5, _ => zX2_of (zlwQ_cv _) (fun _ => zlwQ_cv _) evR_5_of
  | 6, _ => zX2_of (zlwQ_cv _) (fun _ => zlwQ_cv _) evR_6_of
  | 7, _ => zX2_of (zlwQ_cv _) (fun _ => zlwQ_cv _) evR_7_of
  | 8, _ => zX2_of (zlwQ_cv _) (fun _ => zlwQ_cv _) evR_8_of
  | 9, _ => zX2_of (zlwQ_cv _) (fun _ => zlwQ_cv _) evR_9_of
  | 10, _ => zX2_of (zlwQ_cv _) (fun _ => zlwQ_cv _) evR_10_of
  | 11, _ => zX2_of (zlwQ_cv _) (fun _ => zlwQ_cv _) evR_11_of
  | 12, _ => zX2_of (zlwQ_cv _) (fun _ => zlwQ_cv _) evR_12_of
  | 13, _ => zX2_of (zlwQ_cv _) (fun _ => zlwQ_cv _) evR_13_of
  | 14, _ => zX2_of (zlwQ_cv _) (fun _ => zlwQ_cv _) evR_14_of
  | 15, _ => zX2_of (zlwQ_cv _) (fun _ => zlwQ_cv _) evR_15_of
  | 16, _ => zX2_of (zlwQ_cv _) (fun _ => zlwQ_cv _) evR_16_of
  | 17, _ => zX2_of (zlwQ_cv _) (fun _ => zlwQ_cv _) evR_17_of
  | 18, _ => zX2_of (zlwQ_cv _) (fun _ => zlwQ_cv _) evR_18_of
  | 19, _ => zX2_of (zlwQ_cv _) (fun _ => zlwQ_cv _) evR_19_of
  | 20, _ => zX2_of (zlwQ_cv _) (fun _ => zlwQ_cv _) evR_20_of
  | 21, _ => zX2_of (zlwQ_cv _) (fun _ => zlwQ_cv _) evR_21_of
  | 22, _ => zX2_of (zlwQ_cv _) (fun _ => zlwQ_cv _) evR_22_of
  | 23, _ => zX2_of (zlwQ_cv _) (fun _ => zlwQ_cv _) evR_23_of
  | n + 24, h => absurd h (by omega)
theorem evR_core : ∀ g, g < 24 → zX2 (fun a b => f_X9_corea [zR 1, zI a, zI b] (hRf g) (fun r h => zands [zrI r, zsubH h (hRf g)]))
  | 0, _ => zX2_of (zlwQ_cv _) (fun _ => zlwQ_cv _) evR_0_core
  | 1, _ => zX2_of (zlwQ_cv _) (fun _ => zlwQ_cv _) evR_1_core
  | 2, _ => zX2_of (zlwQ_cv _) (fun _ => zlwQ_cv _) evR_2_core
  | 3, _ => zX2_of (zlwQ_cv _) (fun _ => zlwQ_cv _) evR_3_core
  | 4, _ => zX2_of (zlwQ_cv _) (fun _ => zlwQ_cv _) evR_4_core
  | 5, _ => zX2_of (zlwQ_cv _) (fun _ => zlwQ_cv _) evR_5_core
  | 6, _ => zX2_of (zlwQ_cv _) (fun _ => zlwQ_cv _) evR_6_core
  | 7, _ => zX2_of (zlwQ_cv _) (fun _ => zlwQ_cv _) evR_7_core
  | 8, _ => zX2_of (zlwQ_cv _) (fun _ => zlwQ_cv _) evR_8_core
  | 9, _ => zX2_of (zlwQ_cv _) (fun _ => zlwQ_cv _) evR_9_core
  | 10, _ => zX2_of (zlwQ_cv _) (fun _ => zlwQ_cv _) evR_10_core
  | 11, _ => zX2_of (zlwQ_cv _) (fun _ => zlwQ_cv _) evR_11_core
  | 12, _ => zX2_of (zlwQ_cv _) (fun _ => zlwQ_cv _) evR_12_core
  | 13, _ => zX2_of (zlwQ_cv _) (fun _ => zlwQ_cv _) evR_13_core
  | 14, _ => zX2_of (zlwQ_cv _) (fun _ => zlwQ_cv _) evR_14_core
  | 15, _ => zX2_of (zlwQ_cv _) (fun _ => zlwQ_cv _) evR_15_core
  | 16, _ => zX2_of (zlwQ_cv _) (fun _ => zlwQ_cv _) evR_16_core
  | 17, _ => zX2_of (zlwQ_cv _) (fun _ => zlwQ_cv _) evR_17_core
  | 18, _ => zX2_of (zlwQ_cv _) (fun _ => zlwQ_cv _) evR_18_core
  | 19, _ => zX2_of (zlwQ_cv _) (fun _ => zlwQ_cv _) evR_19_core
  | 20, _ => zX2_of (zlwQ_cv _) (fun _ => zlwQ_cv _) evR_20_core
  | 21, _ => zX2_of (zlwQ_cv _) (fun _ => zlwQ_cv _) evR_21_core
  | 22, _ => zX2_of (zlwQ_cv _) (fun _ => zlwQ_cv _) evR_22_core
  | 23, _ => zX2_of (zlwQ_cv _) (fun _ => zlwQ_cv _) evR_23_core
  | n + 24, h => absurd h (by omega)
theorem evR_hook : ∀ g, g < 24 → zX3 (fun a b c => f_X9_hooka [zR 1, zI a, zI b, zI c] (hRf g) (fun r h => zands [zrI r, zsubH h (hRf g)]))
  | 0, _ => zX3_of (zlwQ_cv _) (fun _ => zlwQ_cv _) (fun _ _ => zlwQ_cv _) evR_0_hook
  | 1, _ => zX3_of (zlwQ_cv _) (fun _ => zlwQ_cv _) (fun _ _ => zlwQ_cv _) evR_1_hook
  | 2, _ => zX3_of (zlwQ_cv _) (fun _ => zlwQ_cv _) (fun _ _ => zlwQ_cv _) evR_2_hook
  | 3, _ => zX3_of (zlwQ_cv _) (fun _ => zlwQ_cv _) (fun _ _ => zlwQ_cv _) evR_3_hook
  | 4, _ => zX3_of (zlwQ_cv _) (fun _ => zlwQ_cv _) (fun _ _ => zlwQ_cv _) evR_4_hook
  | 5, _ => zX3_of (zlwQ_cv _) (fun _ => zlwQ_cv _) (fun _ _ => zlwQ_cv _) evR_5_hook
  | 6, _ => zX3_of (zlwQ_cv _) (fun _ => zlwQ_cv _) (fun _ _ => zlwQ_cv _) evR_6_hook
  | 7, _ => zX3_of (zlwQ_cv _) (fun _ => zlwQ_cv _) (fun _ _ => zlwQ_cv _) evR_7_hook
  | 8, _ => zX3_of (zlwQ_cv _) (fun _ => zlwQ_cv _) (fun _ _ => zlwQ_cv _) evR_8_hook
  | 9, _ => zX3_of (zlwQ_cv _) (fun _ => zlwQ_cv _) (fun _ _ => zlwQ_cv _) evR_9_hook
  | 10, _ => zX3_of (zlwQ_cv _) (fun _ => zlwQ_cv _) (fun _ _ => zlwQ_cv _) evR_10_hook
  | 11, _ => zX3_of (zlwQ_cv _) (fun _ => zlwQ_cv _) (fun _ _ => zlwQ_cv _) evR_11_hook
  | 12, _ => zX3_of (zlwQ_cv _) (fun _ => zlwQ_cv _) (fun _ _ => zlwQ_cv _) evR_12_hook
  | 13, _ => zX3_of (zlwQ_cv _) (fun _ => zlwQ_cv _) (fun _ _ => zlwQ_cv _) evR_13_hook
  | 14, _ => zX3_of (zlwQ_cv _) (fun _ => zlwQ_cv _) (fun _ _ => zlwQ_cv _) evR_14_hook
  | 15, _ => zX3_of (zlwQ_cv _) (fun _ => zlwQ_cv _) (fun _ _ => zlwQ_cv _) evR_15_hook
  | 16, _ => zX3_of (zlwQ_cv _) (fun _ => zlwQ_cv _) (fun _ _ => zlwQ_cv _) evR_16_hook
  | 17, _ => zX3_of (zlwQ_cv _) (fun _ => zlwQ_cv _) (fun _ _ => zlwQ_cv _) evR_17_hook
  | 18, _ => zX3_of (zlwQ_cv _) (fun _ => zlwQ_cv _) (fun _ _ => zlwQ_cv _) evR_18_hook
  | 19, _ => zX3_of (zlwQ_cv _) (fun _ => zlwQ_cv _) (fun _ _ => zlwQ_cv _) evR_19_hook
  | 20, _ => zX3_of (zlwQ_cv _) (fun _ => zlwQ_cv _) (fun _ _ => zlwQ_cv _) evR_20_hook
  | 21, _ => zX3_of (zlwQ_cv _) (fun _ => zlwQ_cv _) (fun _ _ => zlwQ_cv _) evR_21_hook
  | 22, _ => zX3_of (zlwQ_cv _) (fun _ => zlwQ_cv _) (fun _ _ => zlwQ_cv _) evR_22_hook
  | 23, _ => zX3_of (zlwQ_cv _) (fun _ => zlwQ_cv _) (fun _ _ => zlwQ_cv _) evR_23_hook
  | n + 24, h => absurd h (by omega)
theorem evR_classOf : ∀ g, g < 24 → zX2 (fun a b => f_X9_classOfa [zR 1, zI a, zI b] (hRf g) (fun r h => zands [zrI r, zsubH h (hRf g)]))
  | 0, _ => zX2_of (zlwQ_cv _) (fun _ => zlwQ_cv _) evR_0_classOf
  | 1, _ => zX2_of (zlwQ_cv _) (fun _ => zlwQ_cv _) evR_1_classOf
  | 2, _ => zX2_of (zlwQ_cv _) (fun _ => zlwQ_cv _) evR_2_classOf
  | 3, _ => zX2_of (zlwQ_cv _) (fun _ => zlwQ_cv _) evR_3_classOf
  | 4, _ => zX2_of (zlwQ_cv _) (fun _ => zlwQ_cv _) evR_4_classOf
  | 5, _ => zX2_of (zlwQ_cv _) (fun _ => zlwQ_cv _) evR_5_classOf
  | 6, _ => zX2_of (zlwQ_cv _) (fun _ => zlwQ_cv _) evR_6_classOf
  | 7, _ => zX2_of (zlwQ_cv _) (fun _ => zlwQ_cv _) evR_7_classOf
  | 8, _ => zX2_of (zlwQ_cv _) (fun _ => zlwQ_cv _) evR_8_classOf
  | 9, _ => zX2_of (zlwQ_cv _) (fun _ => zlwQ_cv _) evR_9_classOf
  | 10, _ => zX2_of (zlwQ_cv _) (fun _ => zlwQ_cv _) evR_10_classOf
  | 11, _ => zX2_of (zlwQ_cv _) (fun _ => zlwQ_cv _) evR_11_classOf
  | 12, _ => zX2_of (zlwQ_cv _) (fun _ => zlwQ_cv _) evR_12_classOf
  | 13, _ => zX2_of (zlwQ_cv _) (fun _ => zlwQ_cv _) evR_13_classOf
  | 14, _ => zX2_of (zlwQ_cv _) (fun _ => zlwQ_cv _) evR_14_classOf
  | 15, _ => zX2_of (zlwQ_cv _) (fun _ => zlwQ_cv _) evR_15_classOf
  | 16, _ => zX2_of (zlwQ_cv _) (fun _ => zlwQ_cv _) evR_16_classOf
  | 17, _ => zX2_of (zlwQ_cv _) (fun _ => zlwQ_cv _) evR_17_classOf
  | 18, _ => zX2_of (zlwQ_cv _) (fun _ => zlwQ_cv _) evR_18_classOf
  | 19, _ => zX2_of (zlwQ_cv _) (fun _ => zlwQ_cv _) evR_19_classOf
  | 20, _ => zX2_of (zlwQ_cv _) (fun _ => zlwQ_cv _) evR_20_classOf
  | 21, _ => zX2_of (zlwQ_cv _) (fun _ => zlwQ_cv _) evR_21_classOf
  | 22, _ => zX2_of (zlwQ_cv _) (fun _ => zlwQ_cv _) evR_22_classOf
  | 23, _ => zX2_of (zlwQ_cv _) (fun _ => zlwQ_cv _) evR_23_classOf
  | n + 24, h => absurd h (by omega)
theorem evR_character : ∀ g, g < 24 → zX2 (fun a b => f_X9_charactera [zR 1, zI a, zI b] (hRf g) (fun r h => zands [zrI r, zsubH h (hRf g)]))
  | 0, _ => zX2_of (zlwQ_cv _) (fun _ => zlwQ_cv _) evR_0_character
  | 1, _ => zX2_of (zlwQ_cv _) (fun _ => zlwQ_cv _) evR_1_character
  | 2, _ => zX2_of (zlwQ_cv _) (fun _ => zlwQ_cv _) evR_2_character
  | 3, _ => zX2_of (zlwQ_cv _) (fun _ => zlwQ_cv _) evR_3_character
  | 4, _ => zX2_of (zlwQ_cv _) (fun _ => zlwQ_cv _) evR_4_character
  | 5, _ => zX2_of (zlwQ_cv _) (fun _ => zlwQ_cv _) evR_5_character
  | 6, _ => zX2_of (zlwQ_cv _) (fun _ => zlwQ_cv _) evR_6_character
  | 7, _ => zX2_of (zlwQ_cv _) (fun _ => zlwQ_cv _) evR_7_character
  | 8, _ => zX2_of (zlwQ_cv _) (fun _ => zlwQ_cv _) evR_8_character
  | 9, _ => zX2_of (zlwQ_cv _) (fun _ => zlwQ_cv _) evR_9_character
  | 10, _ => zX2_of (zlwQ_cv _) (fun _ => zlwQ_cv _) evR_10_character
  | 11, _ => zX2_of (zlwQ_cv _) (fun _ => zlwQ_cv _) evR_11_character
  | 12, _ => zX2_of (zlwQ_cv _) (fun _ => zlwQ_cv _) evR_12_character
  | 13, _ => zX2_of (zlwQ_cv _) (fun _ => zlwQ_cv _) evR_13_character
  | 14, _ => zX2_of (zlwQ_cv _) (fun _ => zlwQ_cv _) evR_14_character
  | 15, _ => zX2_of (zlwQ_cv _) (fun _ => zlwQ_cv _) evR_15_character
  | 16, _ => zX2_of (zlwQ_cv _) (fun _ => zlwQ_cv _) evR_16_character
  | 17, _ => zX2_of (zlwQ_cv _) (fun _ => zlwQ_cv _) evR_17_character
  | 18, _ => zX2_of (zlwQ_cv _) (fun _ => zlwQ_cv _) evR_18_character
  | 19, _ => zX2_of (zlwQ_cv _) (fun _ => zlwQ_cv _) evR_19_character
  | 20, _ => zX2_of (zlwQ_cv _) (fun _ => zlwQ_cv _) evR_20_character
  | 21, _ => zX2_of (zlwQ_cv _) (fun _ => zlwQ_cv _) evR_21_character
  | 22, _ => zX2_of (zlwQ_cv _) (fun _ => zlwQ_cv _) evR_22_character
  | 23, _ => zX2_of (zlwQ_cv _) (fun _ => zlwQ_cv _) evR_23_character
  | n + 24, h => absurd h (by omega)
theorem evR_modular : ∀ g, g < 24 → zX2 (fun a b => f_X9_modulara [zR 1, zI a, zI b] (hRf g) (fun r h => zands [zrI r, zsubH h (hRf g)]))
  | 0, _ => zX2_of (zlwQ_cv _) (fun _ => zlwQ_cv _) evR_0_modular
  | 1, _ => zX2_of (zlwQ_cv _) (fun _ => zlwQ_cv _) evR_1_modular
  | 2, _ => zX2_of (zlwQ_cv _) (fun _ => zlwQ_cv _) evR_2_modular
  | 3, _ => zX2_of (zlwQ_cv _) (fun _ => zlwQ_cv _) evR_3_modular
  | 4, _ => zX2_of (zlwQ_cv _) (fun _ => zlwQ_cv _) evR_4_modular
  | 5, _ => zX2_of (zlwQ_cv _) (fun _ => zlwQ_cv _) evR_5_modular
  | 6, _ => zX2_of (zlwQ_cv _) (fun _ => zlwQ_cv _) evR_6_modular
  | 7, _ => zX2_of (zlwQ_cv _) (fun _ => zlwQ_cv _) evR_7_modular
  | 8, _ => zX2_of (zlwQ_cv _) (fun _ => zlwQ_cv _) evR_8_modular
  | 9, _ => zX2_of (zlwQ_cv _) (fun _ => zlwQ_cv _) evR_9_modular
  | 10, _ => zX2_of (zlwQ_cv _) (fun _ => zlwQ_cv _) evR_10_modular
  | 11, _ => zX2_of (zlwQ_cv _) (fun _ => zlwQ_cv _) evR_11_modular
  | 12, _ => zX2_of (zlwQ_cv _) (fun _ => zlwQ_cv _) evR_12_modular
  | 13, _ => zX2_of (zlwQ_cv _) (fun _ => zlwQ_cv _) evR_13_modular
  | 14, _ => zX2_of (zlwQ_cv _) (fun _ => zlwQ_cv _) evR_14_modular
  | 15, _ => zX2_of (zlwQ_cv _) (fun _ => zlwQ_cv _) evR_15_modular
  | 16, _ => zX2_of (zlwQ_cv _) (fun _ => zlwQ_cv _) evR_16_modular
  | 17, _ => zX2_of (zlwQ_cv _) (fun _ => zlwQ_cv _) evR_17_modular
  | 18, _ => zX2_of (zlwQ_cv _) (fun _ => zlwQ_cv _) evR_18_modular
  | 19, _ => zX2_of (zlwQ_cv _) (fun _ => zlwQ_cv _) evR_19_modular
  | 20, _ => zX2_of (zlwQ_cv _) (fun _ => zlwQ_cv _) evR_20_modular
  | 21, _ => zX2_of (zlwQ_cv _) (fun _ => zlwQ_cv _) evR_21_modular
  | 22, _ => zX2_of (zlwQ_cv _) (fun _ => zlwQ_cv _) evR_22_modular
  | 23, _ => zX2_of (zlwQ_cv _) (fun _ => zlwQ_cv _) evR_23_modular
  | n + 24, h => absurd h (by omega)
theorem evR_projective : ∀ g, g < 24 → zX2 (fun a b => f_X9_projectivea [zR 1, zI a, zI b] (hRf g) (fun r h => zands [zrI r, zsubH h (hRf g)]))
  | 0, _ => zX2_of (zlwQ_cv _) (fun _ => zlwQ_cv _) evR_0_projective
  | 1, _ => zX2_of (zlwQ_cv _) (fun _ => zlwQ_cv _) evR_1_projective
  | 2, _ => zX2_of (zlwQ_cv _) (fun _ => zlwQ_cv _) evR_2_projective
  | 3, _ => zX2_of (zlwQ_cv _) (fun _ => zlwQ_cv _) evR_3_projective
  | 4, _ => zX2_of (zlwQ_cv _) (fun _ => zlwQ_cv _) evR_4_projective
  | 5, _ => zX2_of (zlwQ_cv _) (fun _ => zlwQ_cv _) evR_5_projective
  | 6, _ => zX2_of (zlwQ_cv _) (fun _ => zlwQ_cv _) evR_6_projective
  | 7, _ => zX2_of (zlwQ_cv _) (fun _ => zlwQ_cv _) evR_7_projective
  | 8, _ => zX2_of (zlwQ_cv _) (fun _ => zlwQ_cv _) evR_8_projective
  | 9, _ => zX2_of (zlwQ_cv _) (fun _ => zlwQ_cv _) evR_9_projective
  | 10, _ => zX2_of (zlwQ_cv _) (fun _ => zlwQ_cv _) evR_10_projective
  | 11, _ => zX2_of (zlwQ_cv _) (fun _ => zlwQ_cv _) evR_11_projective
  | 12, _ => zX2_of (zlwQ_cv _) (fun _ => zlwQ_cv _) evR_12_projective
  | 13, _ => zX2_of (zlwQ_cv _) (fun _ => zlwQ_cv _) evR_13_projective
  | 14, _ => zX2_of (zlwQ_cv _) (fun _ => zlwQ_cv _) evR_14_projective
  | 15, _ => zX2_of (zlwQ_cv _) (fun _ => zlwQ_cv _) evR_15_projective
  | 16, _ => zX2_of (zlwQ_cv _) (fun _ => zlwQ_cv _) evR_16_projective
  | 17, _ => zX2_of (zlwQ_cv _) (fun _ => zlwQ_cv _) evR_17_projective
  | 18, _ => zX2_of (zlwQ_cv _) (fun _ => zlwQ_cv _) evR_18_projective
  | 19, _ => zX2_of (zlwQ_cv _) (fun _ => zlwQ_cv _) evR_19_projective
  | 20, _ => zX2_of (zlwQ_cv _) (fun _ => zlwQ_cv _) evR_20_projective
  | 21, _ => zX2_of (zlwQ_cv _) (fun _ => zlwQ_cv _) evR_21_projective
  | 22, _ => zX2_of (zlwQ_cv _) (fun _ => zlwQ_cv _) evR_22_projective
  | 23, _ => zX2_of (zlwQ_cv _) (fun _ => zlwQ_cv _) evR_23_projective
  | n + 24, h => absurd h (by omega)
theorem evR_decomposition : ∀ g, g < 24 → zX2 (fun a b => f_X9_decompositiona [zR 1, zI a, zI b] (hRf g) (fun r h => zands [zrI r, zsubH h (hRf g)]))
  | 0, _ => zX2_of (zlwQ_cv _) (fun _ => zlwQ_cv _) evR_0_decomposition
  | 1, _ => zX2_of (zlwQ_cv _) (fun _ => zlwQ_cv _) evR_1_decomposition
  | 2, _ => zX2_of (zlwQ_cv _) (fun _ => zlwQ_cv _) evR_2_decomposition
  | 3, _ => zX2_of (zlwQ_cv _) (fun _ => zlwQ_cv _) evR_3_decomposition
  | 4, _ => zX2_of (zlwQ_cv _) (fun _ => zlwQ_cv _) evR_4_decomposition
  | 5, _ => zX2_of (zlwQ_cv _) (fun _ => zlwQ_cv _) evR_5_decomposition
  | 6, _ => zX2_of (zlwQ_cv _) (fun _ => zlwQ_cv _) evR_6_decomposition
  | 7, _ => zX2_of (zlwQ_cv _) (fun _ => zlwQ_cv _) evR_7_decomposition
  | 8, _ => zX2_of (zlwQ_cv _) (fun _ => zlwQ_cv _) evR_8_decomposition
  | 9, _ => zX2_of (zlwQ_cv _) (fun _ => zlwQ_cv _) evR_9_decomposition
  | 10, _ => zX2_of (zlwQ_cv _) (fun _ => zlwQ_cv _) evR_10_decomposition
  | 11, _ => zX2_of (zlwQ_cv _) (fun _ => zlwQ_cv _) evR_11_decomposition
  | 12, _ => zX2_of (zlwQ_cv _) (fun _ => zlwQ_cv _) evR_12_decomposition
  | 13, _ => zX2_of (zlwQ_cv _) (fun _ => zlwQ_cv _) evR_13_decomposition
  | 14, _ => zX2_of (zlwQ_cv _) (fun _ => zlwQ_cv _) evR_14_decomposition
  | 15, _ => zX2_of (zlwQ_cv _) (fun _ => zlwQ_cv _) evR_15_decomposition
  | 16, _ => zX2_of (zlwQ_cv _) (fun _ => zlwQ_cv _) evR_16_decomposition
  | 17, _ => zX2_of (zlwQ_cv _) (fun _ => zlwQ_cv _) evR_17_decomposition
  | 18, _ => zX2_of (zlwQ_cv _) (fun _ => zlwQ_cv _) evR_18_decomposition
  | 19, _ => zX2_of (zlwQ_cv _) (fun _ => zlwQ_cv _) evR_19_decomposition
  | 20, _ => zX2_of (zlwQ_cv _) (fun _ => zlwQ_cv _) evR_20_decomposition
  | 21, _ => zX2_of (zlwQ_cv _) (fun _ => zlwQ_cv _) evR_21_decomposition
  | 22, _ => zX2_of (zlwQ_cv _) (fun _ => zlwQ_cv _) evR_22_decomposition
  | 23, _ => zX2_of (zlwQ_cv _) (fun _ => zlwQ_cv _) evR_23_decomposition
  | n + 24, h => absurd h (by omega)
theorem evR_cartan : ∀ g, g < 24 → zX2 (fun a b => f_X9_cartana [zR 1, zI a, zI b] (hRf g) (fun r h => zands [zrI r, zsubH h (hRf g)]))
  | 0, _ => zX2_of (zlwQ_cv _) (fun _ => zlwQ_cv _) evR_0_cartan
  | 1, _ => zX2_of (zlwQ_cv _) (fun _ => zlwQ_cv _) evR_1_cartan
  | 2, _ => zX2_of (zlwQ_cv _) (fun _ => zlwQ_cv _) evR_2_cartan
  | 3, _ => zX2_of (zlwQ_cv _) (fun _ => zlwQ_cv _) evR_3_cartan
  | 4, _ => zX2_of (zlwQ_cv _) (fun _ => zlwQ_cv _) evR_4_cartan
  | 5, _ => zX2_of (zlwQ_cv _) (fun _ => zlwQ_cv _) evR_5_cartan
  | 6, _ => zX2_of (zlwQ_cv _) (fun _ => zlwQ_cv _) evR_6_cartan
  | 7, _ => zX2_of (zlwQ_cv _) (fun _ => zlwQ_cv _) evR_7_cartan
  | 8, _ => zX2_of (zlwQ_cv _) (fun _ => zlwQ_cv _) evR_8_cartan
  | 9, _ => zX2_of (zlwQ_cv _) (fun _ => zlwQ_cv _) evR_9_cartan
  | 10, _ => zX2_of (zlwQ_cv _) (fun _ => zlwQ_cv _) evR_10_cartan
  | 11, _ => zX2_of (zlwQ_cv _) (fun _ => zlwQ_cv _) evR_11_cartan
  | 12, _ => zX2_of (zlwQ_cv _) (fun _ => zlwQ_cv _) evR_12_cartan
  | 13, _ => zX2_of (zlwQ_cv _) (fun _ => zlwQ_cv _) evR_13_cartan
  | 14, _ => zX2_of (zlwQ_cv _) (fun _ => zlwQ_cv _) evR_14_cartan
  | 15, _ => zX2_of (zlwQ_cv _) (fun _ => zlwQ_cv _) evR_15_cartan
  | 16, _ => zX2_of (zlwQ_cv _) (fun _ => zlwQ_cv _) evR_16_cartan
  | 17, _ => zX2_of (zlwQ_cv _) (fun _ => zlwQ_cv _) evR_17_cartan
  | 18, _ => zX2_of (zlwQ_cv _) (fun _ => zlwQ_cv _) evR_18_cartan
  | 19, _ => zX2_of (zlwQ_cv _) (fun _ => zlwQ_cv _) evR_19_cartan
  | 20, _ => zX2_of (zlwQ_cv _) (fun _ => zlwQ_cv _) evR_20_cartan
  | 21, _ => zX2_of (zlwQ_cv _) (fun _ => zlwQ_cv _) evR_21_cartan
  | 22, _ => zX2_of (zlwQ_cv _) (fun _ => zlwQ_cv _) evR_22_cartan
  | 23, _ => zX2_of (zlwQ_cv _) (fun _ => zlwQ_cv _) evR_23_cartan
  | n + 24, h => absurd h (by omega)
theorem evR_tableau : ∀ g, g < 24 → zX4 (fun a b c d => f_X9_tableaua [zR 1, zI a, zI b, zI c, zI d] (hRf g) (fun r h => zands [zrI r, zsubH h (hRf g)]))
  | 0, _ => zX4_of (zlwQ_cv _) (fun _ => zlwQ_cv _) (fun _ _ => zlwQ_cv _) (fun _ _ _ => zlwQ_cv _) evR_0_tableau
  | 1, _ => zX4_of (zlwQ_cv _) (fun _ => zlwQ_cv _) (fun _ _ => zlwQ_cv _) (fun _ _ _ => zlwQ_cv _) evR_1_tableau
  | 2, _ => zX4_of (zlwQ_cv _) (fun _ => zlwQ_cv _) (fun _ _ => zlwQ_cv _) (fun _ _ _ => zlwQ_cv _) evR_2_tableau
  | 3, _ => zX4_of (zlwQ_cv _) (fun _ => zlwQ_cv _) (fun _ _ => zlwQ_cv _) (fun _ _ _ => zlwQ_cv _) evR_3_tableau
  | 4, _ => zX4_of (zlwQ_cv _) (fun _ => zlwQ_cv _) (fun _ _ => zlwQ_cv _) (fun _ _ _ => zlwQ_cv _) evR_4_tableau
  | 5, _ => zX4_of (zlwQ_cv _) (fun _ => zlwQ_cv _) (fun _ _ => zlwQ_cv _) (fun _ _ _ => zlwQ_cv _) evR_5_tableau
  | 6, _ => zX4_of (zlwQ_cv _) (fun _ => zlwQ_cv _) (fun _ _ => zlwQ_cv _) (fun _ _ _ => zlwQ_cv _) evR_6_tableau
  | 7, _ => zX4_of (zlwQ_cv _) (fun _ => zlwQ_cv _) (fun _ _ => zlwQ_cv _) (fun _ _ _ => zlwQ_cv _) evR_7_tableau
  | 8, _ => zX4_of (zlwQ_cv _) (fun _ => zlwQ_cv _) (fun _ _ => zlwQ_cv _) (fun _ _ _ => zlwQ_cv _) evR_8_tableau
  | 9, _ => zX4_of (zlwQ_cv _) (fun _ => zlwQ_cv _) (fun _ _ => zlwQ_cv _) (fun _ _ _ => zlwQ_cv _) evR_9_tableau
  | 10, _ => zX4_of (zlwQ_cv _) (fun _ => zlwQ_cv _) (fun _ _ => zlwQ_cv _) (fun _ _ _ => zlwQ_cv _) evR_10_tableau
  | 11, _ => zX4_of (zlwQ_cv _) (fun _ => zlwQ_cv _) (fun _ _ => zlwQ_cv _) (fun _ _ _ => zlwQ_cv _) evR_11_tableau
  | 12, _ => zX4_of (zlwQ_cv _) (fun _ => zlwQ_cv _) (fun _ _ => zlwQ_cv _) (fun _ _ _ => zlwQ_cv _) evR_12_tableau
  | 13, _ => zX4_of (zlwQ_cv _) (fun _ => zlwQ_cv _) (fun _ _ => zlwQ_cv _) (fun _ _ _ => zlwQ_cv _) evR_13_tableau
  | 14, _ => zX4_of (zlwQ_cv _) (fun _ => zlwQ_cv _) (fun _ _ => zlwQ_cv _) (fun _ _ _ => zlwQ_cv _) evR_14_tableau
  | 15, _ => zX4_of (zlwQ_cv _) (fun _ => zlwQ_cv _) (fun _ _ => zlwQ_cv _) (fun _ _ _ => zlwQ_cv _) evR_15_tableau
  | 16, _ => zX4_of (zlwQ_cv _) (fun _ => zlwQ_cv _) (fun _ _ => zlwQ_cv _) (fun _ _ _ => zlwQ_cv _) evR_16_tableau
  | 17, _ => zX4_of (zlwQ_cv _) (fun _ => zlwQ_cv _) (fun _ _ => zlwQ_cv _) (fun _ _ _ => zlwQ_cv _) evR_17_tableau
  | 18, _ => zX4_of (zlwQ_cv _) (fun _ => zlwQ_cv _) (fun _ _ => zlwQ_cv _) (fun _ _ _ => zlwQ_cv _) evR_18_tableau
  | 19, _ => zX4_of (zlwQ_cv _) (fun _ => zlwQ_cv _) (fun _ _ => zlwQ_cv _) (fun _ _ _ => zlwQ_cv _) evR_19_tableau
  | 20, _ => zX4_of (zlwQ_cv _) (fun _ => zlwQ_cv _) (fun _ _ => zlwQ_cv _) (fun _ _ _ => zlwQ_cv _) evR_20_tableau
  | 21, _ => zX4_of (zlwQ_cv _) (fun _ => zlwQ_cv _) (fun _ _ => zlwQ_cv _) (fun _ _ _ => zlwQ_cv _) evR_21_tableau
  | 22, _ => zX4_of (zlwQ_cv _) (fun _ => zlwQ_cv _) (fun _ _ => zlwQ_cv _) (fun _ _ _ => zlwQ_cv _) evR_22_tableau
  | 23, _ => zX4_of (zlwQ_cv _) (fun _ => zlwQ_cv _) (fun _ _ => zlwQ_cv _) (fun _ _ _ => zlwQ_cv _) evR_23_tableau
  | n + 24, h => absurd h (by omega)
theorem evR_gram : ∀ g, g < 24 → zX3 (fun a b c => f_X9_grama [zR 1, zI a, zI b, zI c] (hRf g) (fun r h => zands [zrI r, zsubH h (hRf g)]))
  | 0, _ => zX3_of (zlwQ_cv _) (fun _ => zlwQ_cv _) (fun _ _ => zlwQ_cv _) evR_0_gram
  | 1, _ => zX3_of (zlwQ_cv _) (fun _ => zlwQ_cv _) (fun _ _ => zlwQ_cv _) evR_1_gram
  | 2, _ => zX3_of (zlwQ_cv _) (fun _ => zlwQ_cv _) (fun _ _ => zlwQ_cv _) evR_2_gram
  | 3, _ => zX3_of (zlwQ_cv _) (fun _ => zlwQ_cv _) (fun _ _ => zlwQ_cv _) evR_3_gram
  | 4, _ => zX3_of (zlwQ_cv _) (fun _ => zlwQ_cv _) (fun _ _ => zlwQ_cv _) evR_4_gram
  | 5, _ => zX3_of (zlwQ_cv _) (fun _ => zlwQ_cv _) (fun _ _ => zlwQ_cv _) evR_5_gram
  | 6, _ => zX3_of (zlwQ_cv _) (fun _ => zlwQ_cv _) (fun _ _ => zlwQ_cv _) evR_6_gram
  | 7, _ => zX3_of (zlwQ_cv _) (fun _ => zlwQ_cv _) (fun _ _ => zlwQ_cv _) evR_7_gram
  | 8, _ => zX3_of (zlwQ_cv _) (fun _ => zlwQ_cv _) (fun _ _ => zlwQ_cv _) evR_8_gram
  | 9, _ => zX3_of (zlwQ_cv _) (fun _ => zlwQ_cv _) (fun _ _ => zlwQ_cv _) evR_9_gram
  | 10, _ => zX3_of (zlwQ_cv _) (fun _ => zlwQ_cv _) (fun _ _ => zlwQ_cv _) evR_10_gram
  | 11, _ => zX3_of (zlwQ_cv _) (fun _ => zlwQ_cv _) (fun _ _ => zlwQ_cv _) evR_11_gram
  | 12, _ => zX3_of (zlwQ_cv _) (fun _ => zlwQ_cv _) (fun _ _ => zlwQ_cv _) evR_12_gram
  | 13, _ => zX3_of (zlwQ_cv _) (fun _ => zlwQ_cv _) (fun _ _ => zlwQ_cv _) evR_13_gram
  | 14, _ => zX3_of (zlwQ_cv _) (fun _ => zlwQ_cv _) (fun _ _ => zlwQ_cv _) evR_14_gram
  | 15, _ => zX3_of (zlwQ_cv _) (fun _ => zlwQ_cv _) (fun _ _ => zlwQ_cv _) evR_15_gram
  | 16, _ => zX3_of (zlwQ_cv _) (fun _ => zlwQ_cv _) (fun _ _ => zlwQ_cv _) evR_16_gram
  | 17, _ => zX3_of (zlwQ_cv _) (fun _ => zlwQ_cv _) (fun _ _ => zlwQ_cv _) evR_17_gram
  | 18, _ => zX3_of (zlwQ_cv _) (fun _ => zlwQ_cv _) (fun _ _ => zlwQ_cv _) evR_18_gram
  | 19, _ => zX3_of (zlwQ_cv _) (fun _ => zlwQ_cv _) (fun _ _ => zlwQ_cv _) evR_19_gram
  | 20, _ => zX3_of (zlwQ_cv _) (fun _ => zlwQ_cv _) (fun _ _ => zlwQ_cv _) evR_20_gram
  | 21, _ => zX3_of (zlwQ_cv _) (fun _ => zlwQ_cv _) (fun _ _ => zlwQ_cv _) evR_21_gram
  | 22, _ => zX3_of (zlwQ_cv _) (fun _ => zlwQ_cv _) (fun _ _ => zlwQ_cv _) evR_22_gram
  | 23, _ => zX3_of (zlwQ_cv _) (fun _ => zlwQ_cv _) (fun _ _ => zlwQ_cv _) evR_23_gram
  | n + 24, h => absurd h (by omega)
theorem evR_block : ∀ g, g < 24 → zX2 (fun a b => f_X9_blockt [zR 1, zI a, zI b] (hRf g) (fun r h => zands [zrI r, zsubH h (hRf g)]))
  | 0, _ => zX2_of (zlwQ_cv _) (fun _ => zlwQ_cv _) evR_0_block
  | 1, _ => zX2_of (zlwQ_cv _) (fun _ => zlwQ_cv _) evR_1_block
  | 2, _ => zX2_of (zlwQ_cv _) (fun _ => zlwQ_cv _) evR_2_block
  | 3, _ => zX2_of (zlwQ_cv _) (fun _ => zlwQ_cv _) evR_3_block
  | 4, _ => zX2_of (zlwQ_cv _) (fun _ => zlwQ_cv _) evR_4_block
  | 5, _ => zX2_of (zlwQ_cv _) (fun _ => zlwQ_cv _) evR_5_block
  | 6, _ => zX2_of (zlwQ_cv _) (fun _ => zlwQ_cv _) evR_6_block
  | 7, _ => zX2_of (zlwQ_cv _) (fun _ => zlwQ_cv _) evR_7_block
  | 8, _ => zX2_of (zlwQ_cv _) (fun _ => zlwQ_cv _) evR_8_block
  | 9, _ => zX2_of (zlwQ_cv _) (fun _ => zlwQ_cv _) evR_9_block
  | 10, _ => zX2_of (zlwQ_cv _) (fun _ => zlwQ_cv _) evR_10_block
  | 11, _ => zX2_of (zlwQ_cv _) (fun _ => zlwQ_cv _) evR_11_block
  | 12, _ => zX2_of (zlwQ_cv _) (fun _ => zlwQ_cv _) evR_12_block
  | 13, _ => zX2_of (zlwQ_cv _) (fun _ => zlwQ_cv _) evR_13_block
  | 14, _ => zX2_of (zlwQ_cv _) (fun _ => zlwQ_cv _) evR_14_block
  | 15, _ => zX2_of (zlwQ_cv _) (fun _ => zlwQ_cv _) evR_15_block
  | 16, _ => zX2_of (zlwQ_cv _) (fun _ => zlwQ_cv _) evR_16_block
  | 17, _ => zX2_of (zlwQ_cv _) (fun _ => zlwQ_cv _) evR_17_block
  | 18, _ => zX2_of (zlwQ_cv _) (fun _ => zlwQ_cv _) evR_18_block
  | 19, _ => zX2_of (zlwQ_cv _) (fun _ => zlwQ_cv _) evR_19_block
  | 20, _ => zX2_of (zlwQ_cv _) (fun _ => zlwQ_cv _) evR_20_block
  | 21, _ => zX2_of (zlwQ_cv _) (fun _ => zlwQ_cv _) evR_21_block
  | 22, _ => zX2_of (zlwQ_cv _) (fun _ => zlwQ_cv _) evR_22_block
  | 23, _ => zX2_of (zlwQ_cv _) (fun _ => zlwQ_cv _) evR_23_block
  | n + 24, h => absurd h (by omega)
theorem evR_value : ∀ g, g < 24 → zX2 (fun a b => f_X9_valuev [zR 1, zI a, zI b] (hRf g) (fun r h => zands [zrJ r, zsubH h (hRf g)]))
  | 0, _ => zX2_of (zlwQ_cv _) (fun _ => zlwQ_cv _) evR_0_value
  | 1, _ => zX2_of (zlwQ_cv _) (fun _ => zlwQ_cv _) evR_1_value
  | 2, _ => zX2_of (zlwQ_cv _) (fun _ => zlwQ_cv _) evR_2_value
  | 3, _ => zX2_of (zlwQ_cv _) (fun _ => zlwQ_cv _) evR_3_value
  | 4, _ => zX2_of (zlwQ_cv _) (fun _ => zlwQ_cv _) evR_4_value
  | 5, _ => zX2_of (zlwQ_cv _) (fun _ => zlwQ_cv _) evR_5_value
  | 6, _ => zX2_of (zlwQ_cv _) (fun _ => zlwQ_cv _) evR_6_value
  | 7, _ => zX2_of (zlwQ_cv _) (fun _ => zlwQ_cv _) evR_7_value
  | 8, _ => zX2_of (zlwQ_cv _) (fun _ => zlwQ_cv _) evR_8_value
  | 9, _ => zX2_of (zlwQ_cv _) (fun _ => zlwQ_cv _) evR_9_value
  | 10, _ => zX2_of (zlwQ_cv _) (fun _ => zlwQ_cv _) evR_10_value
  | 11, _ => zX2_of (zlwQ_cv _) (fun _ => zlwQ_cv _) evR_11_value
  | 12, _ => zX2_of (zlwQ_cv _) (fun _ => zlwQ_cv _) evR_12_value
  | 13, _ => zX2_of (zlwQ_cv _) (fun _ => zlwQ_cv _) evR_13_value
  | 14, _ => zX2_of (zlwQ_cv _) (fun _ => zlwQ_cv _) evR_14_value
  | 15, _ => zX2_of (zlwQ_cv _) (fun _ => zlwQ_cv _) evR_15_value
  | 16, _ => zX2_of (zlwQ_cv _) (fun _ => zlwQ_cv _) evR_16_value
  | 17, _ => zX2_of (zlwQ_cv _) (fun _ => zlwQ_cv _) evR_17_value
  | 18, _ => zX2_of (zlwQ_cv _) (fun _ => zlwQ_cv _) evR_18_value
  | 19, _ => zX2_of (zlwQ_cv _) (fun _ => zlwQ_cv _) evR_19_value
  | 20, _ => zX2_of (zlwQ_cv _) (fun _ => zlwQ_cv _) evR_20_value
  | 21, _ => zX2_of (zlwQ_cv _) (fun _ => zlwQ_cv _) evR_21_value
  | 22, _ => zX2_of (zlwQ_cv _) (fun _ => zlwQ_cv _) evR_22_value
  | 23, _ => zX2_of (zlwQ_cv _) (fun _ => zlwQ_cv _) evR_23_value
  | n + 24, h => absurd h (by omega)
theorem evR_parts : ∀ g, g < 24 → zX3 (fun a b c => f_X9_partsv [zR 1, zI a, zI b, zI c] (hRf g) (fun r h => zands [zrJ r, zsubH h (hRf g)]))
  | 0, _ => zX3_of (zlwQ_cv _) (fun _ => zlwQ_cv _) (fun _ _ => zlwQ_cv _) evR_0_parts
  | 1, _ => zX3_of (zlwQ_cv _) (fun _ => zlwQ_cv _) (fun _ _ => zlwQ_cv _) evR_1_parts
  | 2, _ => zX3_of (zlwQ_cv _) (fun _ => zlwQ_cv _) (fun _ _ => zlwQ_cv _) evR_2_parts
  | 3, _ => zX3_of (zlwQ_cv _) (fun _ => zlwQ_cv _) (fun _ _ => zlwQ_cv _) evR_3_parts
  | 4, _ => zX3_of (zlwQ_cv _) (fun _ => zlwQ_cv _) (fun _ _ => zlwQ_cv _) evR_4_parts
  | 5, _ => zX3_of (zlwQ_cv _) (fun _ => zlwQ_cv _) (fun _ _ => zlwQ_cv _) evR_5_parts
  | 6, _ => zX3_of (zlwQ_cv _) (fun _ => zlwQ_cv _) (fun _ _ => zlwQ_cv _) evR_6_parts
  | 7, _ => zX3_of (zlwQ_cv _) (fun _ => zlwQ_cv _) (fun _ _ => zlwQ_cv _) evR_7_parts
  | 8, _ => zX3_of (zlwQ_cv _) (fun _ => zlwQ_cv _) (fun _ _ => zlwQ_cv _) evR_8_parts
  | 9, _ => zX3_of (zlwQ_cv _) (fun _ => zlwQ_cv _) (fun _ _ => zlwQ_cv _) evR_9_parts
  | 10, _ => zX3_of (zlwQ_cv _) (fun _ => zlwQ_cv _) (fun _ _ => zlwQ_cv _) evR_10_parts
  | 11, _ => zX3_of (zlwQ_cv _) (fun _ => zlwQ_cv _) (fun _ _ => zlwQ_cv _) evR_11_parts
  | 12, _ => zX3_of (zlwQ_cv _) (fun _ => zlwQ_cv _) (fun _ _ => zlwQ_cv _) evR_12_parts
  | 13, _ => zX3_of (zlwQ_cv _) (fun _ => zlwQ_cv _) (fun _ _ => zlwQ_cv _) evR_13_parts
  | 14, _ => zX3_of (zlwQ_cv _) (fun _ => zlwQ_cv _) (fun _ _ => zlwQ_cv _) evR_14_parts
  | 15, _ => zX3_of (zlwQ_cv _) (fun _ => zlwQ_cv _) (fun _ _ => zlwQ_cv _) evR_15_parts
  | 16, _ => zX3_of (zlwQ_cv _) (fun _ => zlwQ_cv _) (fun _ _ => zlwQ_cv _) evR_16_parts
  | 17, _ => zX3_of (zlwQ_cv _) (fun _ => zlwQ_cv _) (fun _ _ => zlwQ_cv _) evR_17_parts
  | 18, _ => zX3_of (zlwQ_cv _) (fun _ => zlwQ_cv _) (fun _ _ => zlwQ_cv _) evR_18_parts
  | 19, _ => zX3_of (zlwQ_cv _) (fun _ => zlwQ_cv _) (fun _ _ => zlwQ_cv _) evR_19_parts
  | 20, _ => zX3_of (zlwQ_cv _) (fun _ => zlwQ_cv _) (fun _ _ => zlwQ_cv _) evR_20_parts
  | 21, _ => zX3_of (zlwQ_cv _) (fun _ => zlwQ_cv _) (fun _ _ => zlwQ_cv _) evR_21_parts
  | 22, _ => zX3_of (zlwQ_cv _) (fun _ => zlwQ_cv _) (fun _ _ => zlwQ_cv _) evR_22_parts
  | 23, _ => zX3_of (zlwQ_cv _) (fun _ => zlwQ_cv _) (fun _ _ => zlwQ_cv _) evR_23_parts
  | n + 24, h => absurd h (by omega)
theorem evR_inner : ∀ g, g < 24 → zX2 (fun a b => f_X9_innerv [zR 1, zI a, zI b] (hRf g) (fun r h => zands [zrJ r, zsubH h (hRf g)]))
  | 0, _ => zX2_of (zlwQ_cv _) (fun _ => zlwQ_cv _) evR_0_inner
  | 1, _ => zX2_of (zlwQ_cv _) (fun _ => zlwQ_cv _) evR_1_inner
  | 2, _ => zX2_of (zlwQ_cv _) (fun _ => zlwQ_cv _) evR_2_inner
  | 3, _ => zX2_of (zlwQ_cv _) (fun _ => zlwQ_cv _) evR_3_inner
  | 4, _ => zX2_of (zlwQ_cv _) (fun _ => zlwQ_cv _) evR_4_inner
  | 5, _ => zX2_of (zlwQ_cv _) (fun _ => zlwQ_cv _) evR_5_inner
  | 6, _ => zX2_of (zlwQ_cv _) (fun _ => zlwQ_cv _) evR_6_inner
  | 7, _ => zX2_of (zlwQ_cv _) (fun _ => zlwQ_cv _) evR_7_inner
  | 8, _ => zX2_of (zlwQ_cv _) (fun _ => zlwQ_cv _) evR_8_inner
  | 9, _ => zX2_of (zlwQ_cv _) (fun _ => zlwQ_cv _) evR_9_inner
  | 10, _ => zX2_of (zlwQ_cv _) (fun _ => zlwQ_cv _) evR_10_inner
  | 11, _ => zX2_of (zlwQ_cv _) (fun _ => zlwQ_cv _) evR_11_inner
  | 12, _ => zX2_of (zlwQ_cv _) (fun _ => zlwQ_cv _) evR_12_inner
  | 13, _ => zX2_of (zlwQ_cv _) (fun _ => zlwQ_cv _) evR_13_inner
  | 14, _ => zX2_of (zlwQ_cv _) (fun _ => zlwQ_cv _) evR_14_inner
  | 15, _ => zX2_of (zlwQ_cv _) (fun _ => zlwQ_cv _) evR_15_inner
  | 16, _ => zX2_of (zlwQ_cv _) (fun _ => zlwQ_cv _) evR_16_inner
  | 17, _ => zX2_of (zlwQ_cv _) (fun _ => zlwQ_cv _) evR_17_inner
  | 18, _ => zX2_of (zlwQ_cv _) (fun _ => zlwQ_cv _) evR_18_inner
  | 19, _ => zX2_of (zlwQ_cv _) (fun _ => zlwQ_cv _) evR_19_inner
  | 20, _ => zX2_of (zlwQ_cv _) (fun _ => zlwQ_cv _) evR_20_inner
  | 21, _ => zX2_of (zlwQ_cv _) (fun _ => zlwQ_cv _) evR_21_inner
  | 22, _ => zX2_of (zlwQ_cv _) (fun _ => zlwQ_cv _) evR_22_inner
  | 23, _ => zX2_of (zlwQ_cv _) (fun _ => zlwQ_cv _) evR_23_inner
  | n + 24, h => absurd h (by omega)
theorem evR_kind : ∀ g, g < 24 → zX2 (fun a b => f_X9_kindv [zR 1, zI a, zI b] (hRf g) (fun r h => zands [zrI r, zsubH h (hRf g)]))
  | 0, _ => zX2_of (zlwQ_cv _) (fun _ => zlwQ_cv _) evR_0_kind
  | 1, _ => zX2_of (zlwQ_cv _) (fun _ => zlwQ_cv _) evR_1_kind
  | 2, _ => zX2_of (zlwQ_cv _) (fun _ => zlwQ_cv _) evR_2_kind
  | 3, _ => zX2_of (zlwQ_cv _) (fun _ => zlwQ_cv _) evR_3_kind
  | 4, _ => zX2_of (zlwQ_cv _) (fun _ => zlwQ_cv _) evR_4_kind
  | 5, _ => zX2_of (zlwQ_cv _) (fun _ => zlwQ_cv _) evR_5_kind
  | 6, _ => zX2_of (zlwQ_cv _) (fun _ => zlwQ_cv _) evR_6_kind
  | 7, _ => zX2_of (zlwQ_cv _) (fun _ => zlwQ_cv _) evR_7_kind
  | 8, _ => zX2_of (zlwQ_cv _) (fun _ => zlwQ_cv _) evR_8_kind
  | 9, _ => zX2_of (zlwQ_cv _) (fun _ => zlwQ_cv _) evR_9_kind
  | 10, _ => zX2_of (zlwQ_cv _) (fun _ => zlwQ_cv _) evR_10_kind
  | 11, _ => zX2_of (zlwQ_cv _) (fun _ => zlwQ_cv _) evR_11_kind
  | 12, _ => zX2_of (zlwQ_cv _) (fun _ => zlwQ_cv _) evR_12_kind
  | 13, _ => zX2_of (zlwQ_cv _) (fun _ => zlwQ_cv _) evR_13_kind
  | 14, _ => zX2_of (zlwQ_cv _) (fun _ => zlwQ_cv _) evR_14_kind
  | 15, _ => zX2_of (zlwQ_cv _) (fun _ => zlwQ_cv _) evR_15_kind
  | 16, _ => zX2_of (zlwQ_cv _) (fun _ => zlwQ_cv _) evR_16_kind
  | 17, _ => zX2_of (zlwQ_cv _) (fun _ => zlwQ_cv _) evR_17_kind
  | 18, _ => zX2_of (zlwQ_cv _) (fun _ => zlwQ_cv _) evR_18_kind
  | 19, _ => zX2_of (zlwQ_cv _) (fun _ => zlwQ_cv _) evR_19_kind
  | 20, _ => zX2_of (zlwQ_cv _) (fun _ => zlwQ_cv _) evR_20_kind
  | 21, _ => zX2_of (zlwQ_cv _) (fun _ => zlwQ_cv _) evR_21_kind
  | 22, _ => zX2_of (zlwQ_cv _) (fun _ => zlwQ_cv _) evR_22_kind
  | 23, _ => zX2_of (zlwQ_cv _) (fun _ => zlwQ_cv _) evR_23_kind
  | n + 24, h => absurd h (by omega)
theorem evR_cut : ∀ g, g < 24 → zX3 (fun a b c => f_X9_cutv [zR 1, zI a, zI b, zI c] (hRf g) (fun r h => zands [zrI r, zsubH h (hRf g)]))
  | 0, _ => zX3_of (zlwQ_cv _) (fun _ => zlwQ_cv _) (fun _ _ => zlwQ_cv _) evR_0_cut
  | 1, _ => zX3_of (zlwQ_cv _) (fun _ => zlwQ_cv _) (fun _ _ => zlwQ_cv _) evR_1_cut
  | 2, _ => zX3_of (zlwQ_cv _) (fun _ => zlwQ_cv _) (fun _ _ => zlwQ_cv _) evR_2_cut
  | 3, _ => zX3_of (zlwQ_cv _) (fun _ => zlwQ_cv _) (fun _ _ => zlwQ_cv _) evR_3_cut
  | 4, _ => zX3_of (zlwQ_cv _) (fun _ => zlwQ_cv _) (fun _ _ => zlwQ_cv _) evR_4_cut
  | 5, _ => zX3_of (zlwQ_cv _) (fun _ => zlwQ_cv _) (fun _ _ => zlwQ_cv _) evR_5_cut
  | 6, _ => zX3_of (zlwQ_cv _) (fun _ => zlwQ_cv _) (fun _ _ => zlwQ_cv _) evR_6_cut
  | 7, _ => zX3_of (zlwQ_cv _) (fun _ => zlwQ_cv _) (fun _ _ => zlwQ_cv _) evR_7_cut
  | 8, _ => zX3_of (zlwQ_cv _) (fun _ => zlwQ_cv _) (fun _ _ => zlwQ_cv _) evR_8_cut
  | 9, _ => zX3_of (zlwQ_cv _) (fun _ => zlwQ_cv _) (fun _ _ => zlwQ_cv _) evR_9_cut
  | 10, _ => zX3_of (zlwQ_cv _) (fun _ => zlwQ_cv _) (fun _ _ => zlwQ_cv _) evR_10_cut
  | 11, _ => zX3_of (zlwQ_cv _) (fun _ => zlwQ_cv _) (fun _ _ => zlwQ_cv _) evR_11_cut
  | 12, _ => zX3_of (zlwQ_cv _) (fun _ => zlwQ_cv _) (fun _ _ => zlwQ_cv _) evR_12_cut
  | 13, _ => zX3_of (zlwQ_cv _) (fun _ => zlwQ_cv _) (fun _ _ => zlwQ_cv _) evR_13_cut
  | 14, _ => zX3_of (zlwQ_cv _) (fun _ => zlwQ_cv _) (fun _ _ => zlwQ_cv _) evR_14_cut
  | 15, _ => zX3_of (zlwQ_cv _) (fun _ => zlwQ_cv _) (fun _ _ => zlwQ_cv _) evR_15_cut
  | 16, _ => zX3_of (zlwQ_cv _) (fun _ => zlwQ_cv _) (fun _ _ => zlwQ_cv _) evR_16_cut
  | 17, _ => zX3_of (zlwQ_cv _) (fun _ => zlwQ_cv _) (fun _ _ => zlwQ_cv _) evR_17_cut
  | 18, _ => zX3_of (zlwQ_cv _) (fun _ => zlwQ_cv _) (fun _ _ => zlwQ_cv _) evR_18_cut
  | 19, _ => zX3_of (zlwQ_cv _) (fun _ => zlwQ_cv _) (fun _ _ => zlwQ_cv _) evR_19_cut
  | 20, _ => zX3_of (zlwQ_cv _) (fun _ => zlwQ_cv _) (fun _ _ => zlwQ_cv _) evR_20_cut
  | 21, _ => zX3_of (zlwQ_cv _) (fun _ => zlwQ_cv _) (fun _ _ => zlwQ_cv _) evR_21_cut
  | 22, _ => zX3_of (zlwQ_cv _) (fun _ => zlwQ_cv _) (fun _ _ => zlwQ_cv _) evR_22_cut
  | 23, _ => zX3_of (zlwQ_cv _) (fun _ => zlwQ_cv _) (fun _ _ => zlwQ_cv _) evR_23_cut
  | n + 24, h => absurd h (by omega)
theorem evR_look : ∀ g, g < 24 → zX1 (fun a => f_X9_lookv [zR 1, zI a] (hRf g) (fun r h => zands [zrI r, zsubH h (hRf g)]))
  | 0, _ => zX1_of (zlwQ_cv _) evR_0_look
  | 1, _ => zX1_of (zlwQ_cv _) evR_1_look
  | 2, _ => zX1_of (zlwQ_cv _) evR_2_look
  | 3, _ => zX1_of (zlwQ_cv _) evR_3_look
  | 4, _ => zX1_of (zlwQ_cv _) evR_4_look
  | 5, _ => zX1_of (zlwQ_cv _) evR_5_look
  | 6, _ => zX1_of (zlwQ_cv _) evR_6_look
  | 7, _ => zX1_of (zlwQ_cv _) evR_7_look
  | 8, _ => zX1_of (zlwQ_cv _) evR_8_look
  | 9, _ => zX1_of (zlwQ_cv _) evR_9_look
  | 10, _ => zX1_of (zlwQ_cv _) evR_10_look
  | 11, _ => zX1_of (zlwQ_cv _) evR_11_look
  | 12, _ => zX1_of (zlwQ_cv _) evR_12_look
  | 13, _ => zX1_of (zlwQ_cv _) evR_13_look
  | 14, _ => zX1_of (zlwQ_cv _) evR_14_look
  | 15, _ => zX1_of (zlwQ_cv _) evR_15_look
  | 16, _ => zX1_of (zlwQ_cv _) evR_16_look
  | 17, _ => zX1_of (zlwQ_cv _) evR_17_look
  | 18, _ => zX1_of (zlwQ_cv _) evR_18_look
  | 19, _ => zX1_of (zlwQ_cv _) evR_19_look
  | 20, _ => zX1_of (zlwQ_cv _) evR_20_look
  | 21, _ => zX1_of (zlwQ_cv _) evR_21_look
  | 22, _ => zX1_of (zlwQ_cv _) evR_22_look
  | 23, _ => zX1_of (zlwQ_cv _) evR_23_look
  | n + 24, h => absurd h (by omega)
