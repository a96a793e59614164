theorem pm_2_1 (b0 b1 : va_W) : List.Perm (b0 ++ b1) (b1 ++ b0) := by
  have h := pm_ok [b0, b1] [b1, b0] [1, 0] (show List.Perm _ (List.range 2) by decide) rfl
  simpa only [List.flatten_cons, List.flatten_nil, List.append_nil, List.append_assoc] using h
theorem pm_3_0_1 (b0 b1 b2 : va_W) : List.Perm (b0 ++ (b1 ++ b2)) ((b0 ++ b1) ++ b2) := by
  have h := pm_ok [b0, b1, b2] [b0, b1, b2] [0, 1, 2] (show List.Perm _ (List.range 3) by decide) rfl
  simpa only [List.flatten_cons, List.flatten_nil, List.append_nil, List.append_assoc] using h
theorem pm_3_0_2 (b0 b1 b2 : va_W) : List.Perm (b0 ++ (b1 ++ b2)) ((b0 ++ b2) ++ b1) := by
  have h := pm_ok [b0, b1, b2] [b0, b2, b1] [0, 2, 1] (show List.Perm _ (List.range 3) by decide) rfl
  simpa only [List.flatten_cons, List.flatten_nil, List.append_nil, List.append_assoc] using h
theorem pm_3_1 (b0 b1 b2 : va_W) : List.Perm (b0 ++ (b1 ++ b2)) (b1 ++ (b0 ++ b2)) := by
  have h := pm_ok [b0, b1, b2] [b1, b0, b2] [1, 0, 2] (show List.Perm _ (List.range 3) by decide) rfl
  simpa only [List.flatten_cons, List.flatten_nil, List.append_nil, List.append_assoc] using h
theorem pm_3_1_2 (b0 b1 b2 : va_W) : List.Perm (b0 ++ (b1 ++ b2)) ((b1 ++ b2) ++ b0) := by
  have h := pm_ok [b0, b1, b2] [b1, b2, b0] [1, 2, 0] (show List.Perm _ (List.range 3) by decide) rfl
  simpa only [List.flatten_cons, List.flatten_nil, List.append_nil, List.append_assoc] using h
theorem pm_3_2 (b0 b1 b2 : va_W) : List.Perm (b0 ++ (b1 ++ b2)) (b2 ++ (b0 ++ b1)) := by
  have h := pm_ok [b0, b1, b2] [b2, b0, b1] [2, 0, 1] (show List.Perm _ (List.range 3) by decide) rfl
  simpa only [List.flatten_cons, List.flatten_nil, List.append_nil, List.append_assoc] using h
theorem pm_3_2_1 (b0 b1 b2 : va_W) : List.Perm (b0 ++ (b1 ++ b2)) ((b2 ++ b1) ++ b0) := by
  have h := pm_ok [b0, b1, b2] [b2, b1, b0] [2, 1, 0] (show List.Perm _ (List.range 3) by decide) rfl
  simpa only [List.flatten_cons, List.flatten_nil, List.append_nil, List.append_assoc] using h
theorem pm_4_0_2 (b0 b1 b2 b3 : va_W) : List.Perm (b0 ++ (b1 ++ (b2 ++ b3))) ((b0 ++ b2) ++ (b1 ++ b3)) := by
  have h := pm_ok [b0, b1, b2, b3] [b0, b2, b1, b3] [0, 2, 1, 3] (show List.Perm _ (List.range 4) by decide) rfl
  simpa only [List.flatten_cons, List.flatten_nil, List.append_nil, List.append_assoc] using h
theorem pm_4_0_2_3 (b0 b1 b2 b3 : va_W) : List.Perm (b0 ++ (b1 ++ (b2 ++ b3))) ((b0 ++ (b2 ++ b3)) ++ b1) := by
  have h := pm_ok [b0, b1, b2, b3] [b0, b2, b3, b1] [0, 2, 3, 1] (show List.Perm _ (List.range 4) by decide) rfl
  simpa only [List.flatten_cons, List.flatten_nil, List.append_nil, List.append_assoc] using h
theorem pm_4_0_3 (b0 b1 b2 b3 : va_W) : List.Perm (b0 ++ (b1 ++ (b2 ++ b3))) ((b0 ++ b3) ++ (b1 ++ b2)) := by
  have h := pm_ok [b0, b1, b2, b3] [b0, b3, b1, b2] [0, 3, 1, 2] (show List.Perm _ (List.range 4) by decide) rfl
  simpa only [List.flatten_cons, List.flatten_nil, List.append_nil, List.append_assoc] using h
theorem pm_4_1 (b0 b1 b2 b3 : va_W) : List.Perm (b0 ++ (b1 ++ (b2 ++ b3))) (b1 ++ (b0 ++ (b2 ++ b3))) := by
  have h := pm_ok [b0, b1, b2, b3] [b1, b0, b2, b3] [1, 0, 2, 3] (show List.Perm _ (List.range 4) by decide) rfl
  simpa only [List.flatten_cons, List.flatten_nil, List.append_nil, List.append_assoc] using h
theorem pm_4_1_2 (b0 b1 b2 b3 : va_W) : List.Perm (b0 ++ (b1 ++ (b2 ++ b3))) ((b1 ++ b2) ++ (b0 ++ b3)) := by
  have h := pm_ok [b0, b1, b2, b3] [b1, b2, b0, b3] [1, 2, 0, 3] (show List.Perm _ (List.range 4) by decide) rfl
  simpa only [List.flatten_cons, List.flatten_nil, List.append_nil, List.append_assoc] using h
theorem pm_4_2 (b0 b1 b2 b3 : va_W) : List.Perm (b0 ++ (b1 ++ (b2 ++ b3))) (b2 ++ (b0 ++ (b1 ++ b3))) := by
  have h := pm_ok [b0, b1, b2, b3] [b2, b0, b1, b3] [2, 0, 1, 3] (show List.Perm _ (List.range 4) by decide) rfl
  simpa only [List.flatten_cons, List.flatten_nil, List.append_nil, List.append_assoc] using h
theorem pm_4_2_1 (b0 b1 b2 b3 : va_W) : List.Perm (b0 ++ (b1 ++ (b2 ++ b3))) ((b2 ++ b1) ++ (b0 ++ b3)) := by
  have h := pm_ok [b0, b1, b2, b3] [b2, b1, b0, b3] [2, 1, 0, 3] (show List.Perm _ (List.range 4) by decide) rfl
  simpa only [List.flatten_cons, List.flatten_nil, List.append_nil, List.append_assoc] using h
theorem pm_4_2_3 (b0 b1 b2 b3 : va_W) : List.Perm (b0 ++ (b1 ++ (b2 ++ b3))) ((b2 ++ b3) ++ (b0 ++ b1)) := by
  have h := pm_ok [b0, b1, b2, b3] [b2, b3, b0, b1] [2, 3, 0, 1] (show List.Perm _ (List.range 4) by decide) rfl
  simpa only [List.flatten_cons, List.flatten_nil, List.append_nil, List.append_assoc] using h
theorem pm_4_3_1 (b0 b1 b2 b3 : va_W) : List.Perm (b0 ++ (b1 ++ (b2 ++ b3))) ((b3 ++ b1) ++ (b0 ++ b2)) := by
  have h := pm_ok [b0, b1, b2, b3] [b3, b1, b0, b2] [3, 1, 0, 2] (show List.Perm _ (List.range 4) by decide) rfl
  simpa only [List.flatten_cons, List.flatten_nil, List.append_nil, List.append_assoc] using h
theorem pm_7_2 (b0 b1 b2 b3 b4 b5 b6 : va_W) : List.Perm (b0 ++ (b1 ++ (b2 ++ (b3 ++ (b4 ++ (b5 ++ b6)))))) (b2 ++ (b0 ++ (b1 ++ (b3 ++ (b4 ++ (b5 ++ b6)))))) := by
  have h := pm_ok [b0, b1, b2, b3, b4, b5, b6] [b2, b0, b1, b3, b4, b5, b6] [2, 0, 1, 3, 4, 5, 6] (show List.Perm _ (List.range 7) by decide) rfl
  simpa only [List.flatten_cons, List.flatten_nil, List.append_nil, List.append_assoc] using h
theorem pm_8_2 (b0 b1 b2 b3 b4 b5 b6 b7 : va_W) : List.Perm (b0 ++ (b1 ++ (b2 ++ (b3 ++ (b4 ++ (b5 ++ (b6 ++ b7))))))) (b2 ++ (b0 ++ (b1 ++ (b3 ++ (b4 ++ (b5 ++ (b6 ++ b7))))))) := by
  have h := pm_ok [b0, b1, b2, b3, b4, b5, b6, b7] [b2, b0, b1, b3, b4, b5, b6, b7] [2, 0, 1, 3, 4, 5, 6, 7] (show List.Perm _ (List.range 8) by decide) rfl
  simpa only [List.flatten_cons, List.flatten_nil, List.append_nil, List.append_assoc] using h
theorem pm_8_5 (b0 b1 b2 b3 b4 b5 b6 b7 : va_W) : List.Perm (b0 ++ (b1 ++ (b2 ++ (b3 ++ (b4 ++ (b5 ++ (b6 ++ b7))))))) (b5 ++ (b0 ++ (b1 ++ (b2 ++ (b3 ++ (b4 ++ (b6 ++ b7))))))) := by
  have h := pm_ok [b0, b1, b2, b3, b4, b5, b6, b7] [b5, b0, b1, b2, b3, b4, b6, b7] [5, 0, 1, 2, 3, 4, 6, 7] (show List.Perm _ (List.range 8) by decide) rfl
  simpa only [List.flatten_cons, List.flatten_nil, List.append_nil, List.append_assoc] using h
theorem pm_8_5_1 (b0 b1 b2 b3 b4 b5 b6 b7 : va_W) : List.Perm (b0 ++ (b1 ++ (b2 ++ (b3 ++ (b4 ++ (b5 ++ (b6 ++ b7))))))) ((b5 ++ b1) ++ (b0 ++ (b2 ++ (b3 ++ (b4 ++ (b6 ++ b7)))))) := by
  have h := pm_ok [b0, b1, b2, b3, b4, b5, b6, b7] [b5, b1, b0, b2, b3, b4, b6, b7] [5, 1, 0, 2, 3, 4, 6, 7] (show List.Perm _ (List.range 8) by decide) rfl
  simpa only [List.flatten_cons, List.flatten_nil, List.append_nil, List.append_assoc] using h
theorem pm_8_6 (b0 b1 b2 b3 b4 b5 b6 b7 : va_W) : List.Perm (b0 ++ (b1 ++ (b2 ++ (b3 ++ (b4 ++ (b5 ++ (b6 ++ b7))))))) (b6 ++ (b0 ++ (b1 ++ (b2 ++ (b3 ++ (b4 ++ (b5 ++ b7))))))) := by
  have h := pm_ok [b0, b1, b2, b3, b4, b5, b6, b7] [b6, b0, b1, b2, b3, b4, b5, b7] [6, 0, 1, 2, 3, 4, 5, 7] (show List.Perm _ (List.range 8) by decide) rfl
  simpa only [List.flatten_cons, List.flatten_nil, List.append_nil, List.append_assoc] using h
theorem pm_8_7 (b0 b1 b2 b3 b4 b5 b6 b7 : va_W) : List.Perm (b0 ++ (b1 ++ (b2 ++ (b3 ++ (b4 ++ (b5 ++ (b6 ++ b7))))))) (b7 ++ (b0 ++ (b1 ++ (b2 ++ (b3 ++ (b4 ++ (b5 ++ b6))))))) := by
  have h := pm_ok [b0, b1, b2, b3, b4, b5, b6, b7] [b7, b0, b1, b2, b3, b4, b5, b6] [7, 0, 1, 2, 3, 4, 5, 6] (show List.Perm _ (List.range 8) by decide) rfl
  simpa only [List.flatten_cons, List.flatten_nil, List.append_nil, List.append_assoc] using h
