/-! 46.xok: laid by program (wip/whole) -/
theorem zip_mem {α β : Type} : ∀ {L : List β} {is : List α}, is.length = L.length → ∀ {w : β}, w ∈ L → ∃ i, (i, w) ∈ is.zip L
  | [], _, _, _, h => nomatch h
  | b :: L, [], hl, _, _ => by simp at hl
  | b :: L, i :: is, hl, w, h => by
    rcases List.mem_cons.mp h with rfl | h
    · exact ⟨i, List.mem_cons_self⟩
    · obtain ⟨j, hj⟩ := zip_mem (L := L) (is := is) (by simpa using hl) h
      exact ⟨j, List.mem_cons_of_mem _ hj⟩
theorem xok_idx {L : List Cond} (is : List Nat) (hl : is.length = L.length) (h : (is.zip L).all (fun q => decide (q.2 = .isRef (.static "java/lang/Throwable" "UNASSIGNED_STACK" "[Ljava/lang/StackTraceElement;")) || decide (q.2 = .isRef (.static "java/lang/Throwable" "SUPPRESSED_SENTINEL" "Ljava/util/List;")) || decide (q.2 = .laysStatic "java/lang/Throwable" "UNASSIGNED_STACK" "[Ljava/lang/StackTraceElement;") || decide (q.2 = .laysStatic "java/lang/Throwable" "SUPPRESSED_SENTINEL" "Ljava/util/List;") || (decide (tables_1[q.1]? = some q.2) && (goodWord q.2 || isNw q.2))) = true) :
    ∀ w ∈ L, w ∈ gw ∨ (w ∈ tables_1 ∧ isNw w = true) ∨ w = .isRef (.static "java/lang/Throwable" "UNASSIGNED_STACK" "[Ljava/lang/StackTraceElement;") ∨ w = .isRef (.static "java/lang/Throwable" "SUPPRESSED_SENTINEL" "Ljava/util/List;") ∨ w = .laysStatic "java/lang/Throwable" "UNASSIGNED_STACK" "[Ljava/lang/StackTraceElement;" ∨ w = .laysStatic "java/lang/Throwable" "SUPPRESSED_SENTINEL" "Ljava/util/List;" := fun w hw => by
  obtain ⟨i, hi⟩ := zip_mem hl hw
  have h1 := List.all_eq_true.mp h (i, w) hi
  simp only [Bool.or_eq_true, Bool.and_eq_true, decide_eq_true_eq] at h1
  rcases h1 with (((h1 | h1) | h1) | h1) | ⟨h1, h2 | h2⟩
  · exact Or.inr (Or.inr (Or.inl h1))
  · exact Or.inr (Or.inr (Or.inr (Or.inl h1)))
  · exact Or.inr (Or.inr (Or.inr (Or.inr (Or.inl h1))))
  · exact Or.inr (Or.inr (Or.inr (Or.inr (Or.inr h1))))
  · exact Or.inl (gw_t i h1 h2)
  · exact Or.inr (Or.inl ⟨List.mem_of_getElem? h1, h2⟩)
theorem xok_IX : XOK 111 113 "java/lang/IndexOutOfBoundsException" := ⟨xok_idx [18, 425, 434, 439, 442, 444, 426, 427, 38, 39, 428, 433, 440, 456, 415, 457, 417, 458, 419, 429, 430, 431, 432, 421, 446, 447, 448, 449, 406, 449, 450, 451, 452, 408, 452, 453, 454, 426, 410, 445, 404, 405, 412, 413, 414, 416, 418, 420, 0, 0, 424, 423, 422] (by decide +kernel) (by decide +kernel), by decide +kernel, gw_t 403 (by decide +kernel) (by decide +kernel), gw_t 404 (by decide +kernel) (by decide +kernel), gw_t 21 (by decide +kernel) (by decide +kernel)⟩
theorem xok_IA : XOK 116 118 "java/lang/IllegalArgumentException" := ⟨xok_idx [18, 425, 434, 439, 442, 444, 426, 427, 38, 39, 428, 433, 440, 456, 415, 457, 417, 458, 419, 429, 430, 431, 432, 421, 479, 480, 481, 449, 406, 449, 450, 451, 452, 408, 452, 453, 454, 426, 410, 478, 470, 471, 472, 437, 473, 474, 475, 476, 0, 0, 424, 423, 477] (by decide +kernel) (by decide +kernel), by decide +kernel, gw_t 469 (by decide +kernel) (by decide +kernel), gw_t 470 (by decide +kernel) (by decide +kernel), gw_t 22 (by decide +kernel) (by decide +kernel)⟩
theorem xok_AR : XOK 133 135 "java/lang/ArithmeticException" := ⟨xok_idx [18, 425, 434, 439, 442, 444, 426, 427, 38, 39, 428, 433, 440, 456, 415, 457, 417, 458, 419, 429, 430, 431, 432, 421, 510, 511, 512, 449, 406, 449, 450, 451, 452, 408, 452, 453, 454, 426, 410, 509, 501, 502, 503, 436, 504, 505, 506, 507, 0, 0, 424, 423, 508] (by decide +kernel) (by decide +kernel), by decide +kernel, gw_t 500 (by decide +kernel) (by decide +kernel), gw_t 501 (by decide +kernel) (by decide +kernel), gw_t 24 (by decide +kernel) (by decide +kernel)⟩
theorem xok_UO : XOK 161 163 "java/lang/UnsupportedOperationException" := ⟨xok_idx [18, 425, 434, 439, 442, 444, 426, 427, 38, 39, 428, 433, 440, 456, 415, 457, 417, 458, 419, 429, 430, 431, 432, 421, 760, 761, 762, 449, 406, 449, 450, 451, 452, 408, 452, 453, 454, 426, 410, 759, 751, 752, 753, 438, 754, 755, 756, 757, 0, 0, 424, 423, 758] (by decide +kernel) (by decide +kernel), by decide +kernel, gw_t 750 (by decide +kernel) (by decide +kernel), gw_t 751 (by decide +kernel) (by decide +kernel), gw_t 26 (by decide +kernel) (by decide +kernel)⟩
