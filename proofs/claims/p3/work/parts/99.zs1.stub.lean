/-! what is to come: stubs -/
noncomputable def f_X8_groupa {d : Nat} : List zV → zH d → zP d → Bool := fun _ _ _ => false
theorem m_X8_groupa {d : Nat} : zMet (d := d) X_X8_group yX8_group 13 f_X8_groupa := sorry
noncomputable def f_X9_groupb {d : Nat} : List zV → zH d → zP d → Bool := fun _ _ _ => false
theorem m_X9_groupb {d : Nat} : zMet (d := d) X_X9_group yX9_group 21 f_X9_groupb := sorry
noncomputable def fTC {d : Nat} (n : Nat) : List zV → zH d → zP d → Bool := fun _ _ _ => Nat.beq n 1000
theorem mTC {d : Nat} (n : Nat) : zMet (d := d) X_X8_text yX8_text 115 (fTC n) := sorry
noncomputable def fTR {d : Nat} (n : Nat) : List zV → zH d → zP d → Bool := fun _ _ _ => Nat.beq n 1000
theorem mTR {d : Nat} (n : Nat) : zMet (d := d) X_X9_text yX9_text 413 (fTR n) := sorry
theorem ev_grp : ∀ (n p : Int32), (∃ g, g < 24 ∧ zi n = qgN g ∧ zi p = qgP g) ∨ ∃ r1 r2, (∀ G : zGh, @zIs G r1 n) ∧ (∀ G : zGh, @zIs G r2 p) ∧ f_X8_groupa [zR 1, zI r1, zI r2] hs0C (fun r h => zands [zeqI r (zI 4294967295), zsubH h hs0C]) = true ∧ f_X9_groupb [zR 1, zI r1, zI r2] hs0R (fun r h => zands [zeqI r (zI 4294967295), zsubH h hs0R]) = true := sorry
theorem ev_grpA : ∀ g, g < 24 → qevA f_X8_groupa [zI (qgN g), zI (qgP g)] g = true := sorry
theorem ev_grpB : ∀ g, g < 24 → qevB f_X8_groupa [zI (qgN g), zI (qgP g)] g = true := sorry
theorem ev_grpC : ∀ g, g < 24 → qevC f_X8_groupa [zI (qgN g), zI (qgP g)] g = true := sorry
theorem ev_grpR : ∀ g, g < 24 → f_X9_groupb [zR 1, zI (qgN g), zI (qgP g)] hRw (fun r h => zands [zeqI r (zI (qgA g)), zsubH h (hRf g)]) = true := sorry
theorem ev_hRw : zands [Nat.beq hRw.2.2.1 0, Nat.beq hRw.2.2.2 0, Nat.beq (zget 6 hRw.1 0).1 (16 + 9)] = true := sorry
theorem ev_obR : zsubH hs0R hbR = true := sorry
theorem ev_txtC : ∀ g, g < 24 → fTC (qgN g) [zR 1, zI 4294967296] (hCt g 4294967497) (fun r h => zands [zrI r, zsubH h (hCt g 0)]) = true := sorry
theorem ev_txtR : ∀ g, g < 24 → fTR (qgN g) [zR 1, zI 4294967296] (hRt g 4294967497) (fun r h => zands [zrI r, zsubH h (hRt g 0)]) = true := sorry
theorem evC_fault : ∀ g, g < 24 → zX1 (fun a => f_X8_faulta [zR 1, zI a] (hCf g) (fun r h => zands [zrI r, zsubH h (hCf g)])) := sorry
theorem evC_partition : ∀ g, g < 24 → zX2 (fun a b => f_X8_partitiona [zR 1, zI a, zI b] (hCf g) (fun r h => zands [zrI r, zsubH h (hCf g)])) := sorry
theorem evC_of : ∀ g, g < 24 → zX2 (fun a b => f_X8_ofa [zR 1, zI a, zI b] (hCf g) (fun r h => zands [zrI r, zsubH h (hCf g)])) := sorry
theorem evC_core : ∀ g, g < 24 → zX2 (fun a b => f_X8_corea [zR 1, zI a, zI b] (hCf g) (fun r h => zands [zrI r, zsubH h (hCf g)])) := sorry
theorem evC_hook : ∀ g, g < 24 → zX3 (fun a b c => f_X8_hooka [zR 1, zI a, zI b, zI c] (hCf g) (fun r h => zands [zrI r, zsubH h (hCf g)])) := sorry
theorem evC_classOf : ∀ g, g < 24 → zX2 (fun a b => f_X8_classOfa [zR 1, zI a, zI b] (hCf g) (fun r h => zands [zrI r, zsubH h (hCf g)])) := sorry
theorem evC_character : ∀ g, g < 24 → zX2 (fun a b => f_X8_charactera [zR 1, zI a, zI b] (hCf g) (fun r h => zands [zrI r, zsubH h (hCf g)])) := sorry
theorem evC_modular : ∀ g, g < 24 → zX2 (fun a b => f_X8_modulara [zR 1, zI a, zI b] (hCf g) (fun r h => zands [zrI r, zsubH h (hCf g)])) := sorry
theorem evC_projective : ∀ g, g < 24 → zX2 (fun a b => f_X8_projectivea [zR 1, zI a, zI b] (hCf g) (fun r h => zands [zrI r, zsubH h (hCf g)])) := sorry
theorem evC_decomposition : ∀ g, g < 24 → zX2 (fun a b => f_X8_decompositiona [zR 1, zI a, zI b] (hCf g) (fun r h => zands [zrI r, zsubH h (hCf g)])) := sorry
theorem evC_cartan : ∀ g, g < 24 → zX2 (fun a b => f_X8_cartana [zR 1, zI a, zI b] (hCf g) (fun r h => zands [zrI r, zsubH h (hCf g)])) := sorry
theorem evC_tableau : ∀ g, g < 24 → zX4 (fun a b c d => f_X8_tableaua [zR 1, zI a, zI b, zI c, zI d] (hCf g) (fun r h => zands [zrI r, zsubH h (hCf g)])) := sorry
theorem evC_gram : ∀ g, g < 24 → zX3 (fun a b c => f_X8_grama [zR 1, zI a, zI b, zI c] (hCf g) (fun r h => zands [zrI r, zsubH h (hCf g)])) := sorry
theorem evC_block : ∀ g, g < 24 → zX2 (fun a b => f_X8_blocka [zR 1, zI a, zI b] (hCf g) (fun r h => zands [zrI r, zsubH h (hCf g)])) := sorry
theorem evC_value : ∀ g, g < 24 → zX2 (fun a b => f_X8_valuea [zR 1, zI a, zI b] (hCf g) (fun r h => zands [zrJ r, zsubH h (hCf g)])) := sorry
theorem evC_parts : ∀ g, g < 24 → zX3 (fun a b c => f_X8_partst [zR 1, zI a, zI b, zI c] (hCf g) (fun r h => zands [zrJ r, zsubH h (hCf g)])) := sorry
theorem evC_inner : ∀ g, g < 24 → zX2 (fun a b => f_X8_innera [zR 1, zI a, zI b] (hCf g) (fun r h => zands [zrJ r, zsubH h (hCf g)])) := sorry
theorem evC_kind : ∀ g, g < 24 → zX2 (fun a b => f_X8_kinda [zR 1, zI a, zI b] (hCf g) (fun r h => zands [zrI r, zsubH h (hCf g)])) := sorry
theorem evC_cut : ∀ g, g < 24 → zX3 (fun a b c => f_X8_cuta [zR 1, zI a, zI b, zI c] (hCf g) (fun r h => zands [zrI r, zsubH h (hCf g)])) := sorry
theorem evC_look : ∀ g, g < 24 → zX1 (fun a => f_X8_lookt [zR 1, zI a] (hCf g) (fun r h => zands [zrI r, zsubH h (hCf g)])) := sorry
theorem evR_fault : ∀ g, g < 24 → zX1 (fun a => f_X9_faulta [zR 1, zI a] (hRf g) (fun r h => zands [zrI r, zsubH h (hRf g)])) := sorry
theorem evR_partition : ∀ g, g < 24 → zX2 (fun a b => f_X9_partitiona [zR 1, zI a, zI b] (hRf g) (fun r h => zands [zrI r, zsubH h (hRf g)])) := sorry
theorem evR_of : ∀ g, g < 24 → zX2 (fun a b => f_X9_ofa [zR 1, zI a, zI b] (hRf g) (fun r h => zands [zrI r, zsubH h (hRf g)])) := sorry
theorem evR_core : ∀ g, g < 24 → zX2 (fun a b => f_X9_corea [zR 1, zI a, zI b] (hRf g) (fun r h => zands [zrI r, zsubH h (hRf g)])) := sorry
theorem evR_hook : ∀ g, g < 24 → zX3 (fun a b c => f_X9_hooka [zR 1, zI a, zI b, zI c] (hRf g) (fun r h => zands [zrI r, zsubH h (hRf g)])) := sorry
theorem evR_classOf : ∀ g, g < 24 → zX2 (fun a b => f_X9_classOfa [zR 1, zI a, zI b] (hRf g) (fun r h => zands [zrI r, zsubH h (hRf g)])) := sorry
theorem evR_character : ∀ g, g < 24 → zX2 (fun a b => f_X9_charactera [zR 1, zI a, zI b] (hRf g) (fun r h => zands [zrI r, zsubH h (hRf g)])) := sorry
theorem evR_modular : ∀ g, g < 24 → zX2 (fun a b => f_X9_modulara [zR 1, zI a, zI b] (hRf g) (fun r h => zands [zrI r, zsubH h (hRf g)])) := sorry
theorem evR_projective : ∀ g, g < 24 → zX2 (fun a b => f_X9_projectivea [zR 1, zI a, zI b] (hRf g) (fun r h => zands [zrI r, zsubH h (hRf g)])) := sorry
theorem evR_decomposition : ∀ g, g < 24 → zX2 (fun a b => f_X9_decompositiona [zR 1, zI a, zI b] (hRf g) (fun r h => zands [zrI r, zsubH h (hRf g)])) := sorry
theorem evR_cartan : ∀ g, g < 24 → zX2 (fun a b => f_X9_cartana [zR 1, zI a, zI b] (hRf g) (fun r h => zands [zrI r, zsubH h (hRf g)])) := sorry
theorem evR_tableau : ∀ g, g < 24 → zX4 (fun a b c d => f_X9_tableaua [zR 1, zI a, zI b, zI c, zI d] (hRf g) (fun r h => zands [zrI r, zsubH h (hRf g)])) := sorry
theorem evR_gram : ∀ g, g < 24 → zX3 (fun a b c => f_X9_grama [zR 1, zI a, zI b, zI c] (hRf g) (fun r h => zands [zrI r, zsubH h (hRf g)])) := sorry
theorem evR_block : ∀ g, g < 24 → zX2 (fun a b => f_X9_blockt [zR 1, zI a, zI b] (hRf g) (fun r h => zands [zrI r, zsubH h (hRf g)])) := sorry
theorem evR_value : ∀ g, g < 24 → zX2 (fun a b => f_X9_valuea [zR 1, zI a, zI b] (hRf g) (fun r h => zands [zrJ r, zsubH h (hRf g)])) := sorry
theorem evR_parts : ∀ g, g < 24 → zX3 (fun a b c => f_X9_partst [zR 1, zI a, zI b, zI c] (hRf g) (fun r h => zands [zrJ r, zsubH h (hRf g)])) := sorry
theorem evR_inner : ∀ g, g < 24 → zX2 (fun a b => f_X9_innera [zR 1, zI a, zI b] (hRf g) (fun r h => zands [zrJ r, zsubH h (hRf g)])) := sorry
theorem evR_kind : ∀ g, g < 24 → zX2 (fun a b => f_X9_kindt [zR 1, zI a, zI b] (hRf g) (fun r h => zands [zrI r, zsubH h (hRf g)])) := sorry
theorem evR_cut : ∀ g, g < 24 → zX3 (fun a b c => f_X9_cuta [zR 1, zI a, zI b, zI c] (hRf g) (fun r h => zands [zrI r, zsubH h (hRf g)])) := sorry
theorem evR_look : ∀ g, g < 24 → zX1 (fun a => f_X9_lookt [zR 1, zI a] (hRf g) (fun r h => zands [zrI r, zsubH h (hRf g)])) := sorry
