/-! ===== Which words are carried by themselves ===== -/
theorem mm_tg_all : lw_tbl.all (fun w => !(mm_kg w) || goodWord w) = true := by decide +kernel
theorem mm_tg_good : GoodIn mm_tg mm_tg := fun w h => ⟨h, by
  obtain ⟨h1, h2⟩ := List.mem_filter.mp h
  have h3 := List.all_eq_true.mp mm_tg_all w h1
  rw [h2] at h3
  exact good_of_word h3⟩
