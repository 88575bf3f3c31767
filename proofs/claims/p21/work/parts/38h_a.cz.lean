set_option maxRecDepth 100000 in
theorem cs_len0 (h : List ik_E) : ik_F 212 [.retAddr 1] h (fun rv h' => rv = [fI 6] ∧ h' = h) := ⟨60, (10, [some (.retAddr 1)], [.int 6], h, 0, 0), rfl, .ireturn, [fI 6], rfl, rfl, rfl, rfl, rfl, rfl⟩

set_option maxRecDepth 100000 in
theorem cs_ch0_0 (h : List ik_E) : ik_F 213 [.retAddr 1, fI 0] h (fun rv h' => rv = [fI 98] ∧ h' = h) := ⟨60, (15, [some (.retAddr 1), some (.int 0)], [.int 98], h, 0, 0), rfl, .ireturn, [fI 98], rfl, rfl, rfl, rfl, rfl, rfl⟩

set_option maxRecDepth 100000 in
theorem cs_ch0_1 (h : List ik_E) : ik_F 213 [.retAddr 1, fI 1] h (fun rv h' => rv = [fI 114] ∧ h' = h) := ⟨60, (15, [some (.retAddr 1), some (.int 1)], [.int 114], h, 0, 0), rfl, .ireturn, [fI 114], rfl, rfl, rfl, rfl, rfl, rfl⟩

set_option maxRecDepth 100000 in
theorem cs_ch0_2 (h : List ik_E) : ik_F 213 [.retAddr 1, fI 2] h (fun rv h' => rv = [fI 105] ∧ h' = h) := ⟨60, (15, [some (.retAddr 1), some (.int 2)], [.int 105], h, 0, 0), rfl, .ireturn, [fI 105], rfl, rfl, rfl, rfl, rfl, rfl⟩

set_option maxRecDepth 100000 in
theorem cs_ch0_3 (h : List ik_E) : ik_F 213 [.retAddr 1, fI 3] h (fun rv h' => rv = [fI 100] ∧ h' = h) := ⟨60, (15, [some (.retAddr 1), some (.int 3)], [.int 100], h, 0, 0), rfl, .ireturn, [fI 100], rfl, rfl, rfl, rfl, rfl, rfl⟩

set_option maxRecDepth 100000 in
theorem cs_ch0_4 (h : List ik_E) : ik_F 213 [.retAddr 1, fI 4] h (fun rv h' => rv = [fI 103] ∧ h' = h) := ⟨60, (15, [some (.retAddr 1), some (.int 4)], [.int 103], h, 0, 0), rfl, .ireturn, [fI 103], rfl, rfl, rfl, rfl, rfl, rfl⟩

set_option maxRecDepth 100000 in
theorem cs_ch0_5 (h : List ik_E) : ik_F 213 [.retAddr 1, fI 5] h (fun rv h' => rv = [fI 101] ∧ h' = h) := ⟨60, (15, [some (.retAddr 1), some (.int 5)], [.int 101], h, 0, 0), rfl, .ireturn, [fI 101], rfl, rfl, rfl, rfl, rfl, rfl⟩

set_option maxRecDepth 100000 in
theorem cs_len1 (h : List ik_E) : ik_F 212 [.retAddr 3] h (fun rv h' => rv = [fI 5] ∧ h' = h) := ⟨60, (10, [some (.retAddr 3)], [.int 5], h, 0, 0), rfl, .ireturn, [fI 5], rfl, rfl, rfl, rfl, rfl, rfl⟩

set_option maxRecDepth 100000 in
theorem cs_ch1_0 (h : List ik_E) : ik_F 213 [.retAddr 3, fI 0] h (fun rv h' => rv = [fI 112] ∧ h' = h) := ⟨60, (15, [some (.retAddr 3), some (.int 0)], [.int 112], h, 0, 0), rfl, .ireturn, [fI 112], rfl, rfl, rfl, rfl, rfl, rfl⟩

set_option maxRecDepth 100000 in
theorem cs_ch1_1 (h : List ik_E) : ik_F 213 [.retAddr 3, fI 1] h (fun rv h' => rv = [fI 108] ∧ h' = h) := ⟨60, (15, [some (.retAddr 3), some (.int 1)], [.int 108], h, 0, 0), rfl, .ireturn, [fI 108], rfl, rfl, rfl, rfl, rfl, rfl⟩

set_option maxRecDepth 100000 in
theorem cs_ch1_2 (h : List ik_E) : ik_F 213 [.retAddr 3, fI 2] h (fun rv h' => rv = [fI 97] ∧ h' = h) := ⟨60, (15, [some (.retAddr 3), some (.int 2)], [.int 97], h, 0, 0), rfl, .ireturn, [fI 97], rfl, rfl, rfl, rfl, rfl, rfl⟩

set_option maxRecDepth 100000 in
theorem cs_ch1_3 (h : List ik_E) : ik_F 213 [.retAddr 3, fI 3] h (fun rv h' => rv = [fI 99] ∧ h' = h) := ⟨60, (15, [some (.retAddr 3), some (.int 3)], [.int 99], h, 0, 0), rfl, .ireturn, [fI 99], rfl, rfl, rfl, rfl, rfl, rfl⟩

set_option maxRecDepth 100000 in
theorem cs_ch1_4 (h : List ik_E) : ik_F 213 [.retAddr 3, fI 4] h (fun rv h' => rv = [fI 101] ∧ h' = h) := ⟨60, (15, [some (.retAddr 3), some (.int 4)], [.int 101], h, 0, 0), rfl, .ireturn, [fI 101], rfl, rfl, rfl, rfl, rfl, rfl⟩

set_option maxRecDepth 100000 in
theorem cs_len2 (h : List ik_E) : ik_F 212 [.retAddr 5] h (fun rv h' => rv = [fI 2] ∧ h' = h) := ⟨60, (10, [some (.retAddr 5)], [.int 2], h, 0, 0), rfl, .ireturn, [fI 2], rfl, rfl, rfl, rfl, rfl, rfl⟩

set_option maxRecDepth 100000 in
theorem cs_ch2_0 (h : List ik_E) : ik_F 213 [.retAddr 5, fI 0] h (fun rv h' => rv = [fI 116] ∧ h' = h) := ⟨60, (15, [some (.retAddr 5), some (.int 0)], [.int 116], h, 0, 0), rfl, .ireturn, [fI 116], rfl, rfl, rfl, rfl, rfl, rfl⟩

set_option maxRecDepth 100000 in
theorem cs_ch2_1 (h : List ik_E) : ik_F 213 [.retAddr 5, fI 1] h (fun rv h' => rv = [fI 111] ∧ h' = h) := ⟨60, (15, [some (.retAddr 5), some (.int 1)], [.int 111], h, 0, 0), rfl, .ireturn, [fI 111], rfl, rfl, rfl, rfl, rfl, rfl⟩

