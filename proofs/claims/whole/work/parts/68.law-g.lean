def lgP (w : Cond) : Prop := w ∈ wsL_law ∧ ((w.onTables && w.keeps) = true ∨ ∃ ty, w = .arrayClass ty)
theorem inlr1 : ∀ w ∈ wsL_law_r1, w ∈ wsL_law := fun _ h => (List.mem_append_left _ (List.mem_append_left _ (List.mem_append_left _ (List.mem_append_left _ (List.mem_append_left _ (List.mem_append_left _ (List.mem_append_left _ (List.mem_append_left _ (List.mem_append_left _ (List.mem_append_left _ (List.mem_append_left _ (List.mem_append_left _ h))))))))))))
theorem inlr2 : ∀ w ∈ wsL_law_r2, w ∈ wsL_law := fun _ h => (List.mem_append_left _ (List.mem_append_left _ (List.mem_append_left _ (List.mem_append_left _ (List.mem_append_left _ (List.mem_append_left _ (List.mem_append_left _ (List.mem_append_left _ (List.mem_append_left _ (List.mem_append_left _ (List.mem_append_left _ (List.mem_append_right _ (List.mem_append_left _ h)))))))))))))
theorem inlr3 : ∀ w ∈ wsL_law_r3, w ∈ wsL_law := fun _ h => (List.mem_append_left _ (List.mem_append_left _ (List.mem_append_left _ (List.mem_append_left _ (List.mem_append_left _ (List.mem_append_left _ (List.mem_append_left _ (List.mem_append_left _ (List.mem_append_left _ (List.mem_append_left _ (List.mem_append_left _ (List.mem_append_right _ (List.mem_append_right _ (List.mem_append_left _ h))))))))))))))
theorem inlr4 : ∀ w ∈ wsL_law_r4, w ∈ wsL_law := fun _ h => (List.mem_append_left _ (List.mem_append_left _ (List.mem_append_left _ (List.mem_append_left _ (List.mem_append_left _ (List.mem_append_left _ (List.mem_append_left _ (List.mem_append_left _ (List.mem_append_left _ (List.mem_append_left _ (List.mem_append_left _ (List.mem_append_right _ (List.mem_append_right _ (List.mem_append_right _ (List.mem_append_left _ h)))))))))))))))
theorem inlr5 : ∀ w ∈ wsL_law_r5, w ∈ wsL_law := fun _ h => (List.mem_append_left _ (List.mem_append_left _ (List.mem_append_left _ (List.mem_append_left _ (List.mem_append_left _ (List.mem_append_left _ (List.mem_append_left _ (List.mem_append_left _ (List.mem_append_left _ (List.mem_append_left _ (List.mem_append_left _ (List.mem_append_right _ (List.mem_append_right _ (List.mem_append_right _ (List.mem_append_right _ (List.mem_append_left _ h))))))))))))))))
theorem inlr6 : ∀ w ∈ wsL_law_r6, w ∈ wsL_law := fun _ h => (List.mem_append_left _ (List.mem_append_left _ (List.mem_append_left _ (List.mem_append_left _ (List.mem_append_left _ (List.mem_append_left _ (List.mem_append_left _ (List.mem_append_left _ (List.mem_append_left _ (List.mem_append_left _ (List.mem_append_left _ (List.mem_append_right _ (List.mem_append_right _ (List.mem_append_right _ (List.mem_append_right _ (List.mem_append_right _ (List.mem_append_left _ h)))))))))))))))))
theorem inlr7 : ∀ w ∈ wsL_law_r7, w ∈ wsL_law := fun _ h => (List.mem_append_left _ (List.mem_append_left _ (List.mem_append_left _ (List.mem_append_left _ (List.mem_append_left _ (List.mem_append_left _ (List.mem_append_left _ (List.mem_append_left _ (List.mem_append_left _ (List.mem_append_left _ (List.mem_append_left _ (List.mem_append_right _ (List.mem_append_right _ (List.mem_append_right _ (List.mem_append_right _ (List.mem_append_right _ (List.mem_append_right _ (List.mem_append_left _ h))))))))))))))))))
theorem inlr8 : ∀ w ∈ wsL_law_r8, w ∈ wsL_law := fun _ h => (List.mem_append_left _ (List.mem_append_left _ (List.mem_append_left _ (List.mem_append_left _ (List.mem_append_left _ (List.mem_append_left _ (List.mem_append_left _ (List.mem_append_left _ (List.mem_append_left _ (List.mem_append_left _ (List.mem_append_left _ (List.mem_append_right _ (List.mem_append_right _ (List.mem_append_right _ (List.mem_append_right _ (List.mem_append_right _ (List.mem_append_right _ (List.mem_append_right _ (List.mem_append_left _ h)))))))))))))))))))
theorem inlr9 : ∀ w ∈ wsL_law_r9, w ∈ wsL_law := fun _ h => (List.mem_append_left _ (List.mem_append_left _ (List.mem_append_left _ (List.mem_append_left _ (List.mem_append_left _ (List.mem_append_left _ (List.mem_append_left _ (List.mem_append_left _ (List.mem_append_left _ (List.mem_append_left _ (List.mem_append_left _ (List.mem_append_right _ (List.mem_append_right _ (List.mem_append_right _ (List.mem_append_right _ (List.mem_append_right _ (List.mem_append_right _ (List.mem_append_right _ (List.mem_append_right _ (List.mem_append_left _ h))))))))))))))))))))
theorem inlr10 : ∀ w ∈ wsL_law_r10, w ∈ wsL_law := fun _ h => (List.mem_append_left _ (List.mem_append_left _ (List.mem_append_left _ (List.mem_append_left _ (List.mem_append_left _ (List.mem_append_left _ (List.mem_append_left _ (List.mem_append_left _ (List.mem_append_left _ (List.mem_append_left _ (List.mem_append_left _ (List.mem_append_right _ (List.mem_append_right _ (List.mem_append_right _ (List.mem_append_right _ (List.mem_append_right _ (List.mem_append_right _ (List.mem_append_right _ (List.mem_append_right _ (List.mem_append_right _ (List.mem_append_left _ h)))))))))))))))))))))
theorem inlr11 : ∀ w ∈ wsL_law_r11, w ∈ wsL_law := fun _ h => (List.mem_append_left _ (List.mem_append_left _ (List.mem_append_left _ (List.mem_append_left _ (List.mem_append_left _ (List.mem_append_left _ (List.mem_append_left _ (List.mem_append_left _ (List.mem_append_left _ (List.mem_append_left _ (List.mem_append_left _ (List.mem_append_right _ (List.mem_append_right _ (List.mem_append_right _ (List.mem_append_right _ (List.mem_append_right _ (List.mem_append_right _ (List.mem_append_right _ (List.mem_append_right _ (List.mem_append_right _ (List.mem_append_right _ (List.mem_append_left _ h))))))))))))))))))))))
theorem inlr12 : ∀ w ∈ wsL_law_r12, w ∈ wsL_law := fun _ h => (List.mem_append_left _ (List.mem_append_left _ (List.mem_append_left _ (List.mem_append_left _ (List.mem_append_left _ (List.mem_append_left _ (List.mem_append_left _ (List.mem_append_left _ (List.mem_append_left _ (List.mem_append_left _ (List.mem_append_left _ (List.mem_append_right _ (List.mem_append_right _ (List.mem_append_right _ (List.mem_append_right _ (List.mem_append_right _ (List.mem_append_right _ (List.mem_append_right _ (List.mem_append_right _ (List.mem_append_right _ (List.mem_append_right _ (List.mem_append_right _ (List.mem_append_left _ h)))))))))))))))))))))))
theorem inlr13 : ∀ w ∈ wsL_law_r13, w ∈ wsL_law := fun _ h => (List.mem_append_left _ (List.mem_append_left _ (List.mem_append_left _ (List.mem_append_left _ (List.mem_append_left _ (List.mem_append_left _ (List.mem_append_left _ (List.mem_append_left _ (List.mem_append_left _ (List.mem_append_left _ (List.mem_append_left _ (List.mem_append_right _ (List.mem_append_right _ (List.mem_append_right _ (List.mem_append_right _ (List.mem_append_right _ (List.mem_append_right _ (List.mem_append_right _ (List.mem_append_right _ (List.mem_append_right _ (List.mem_append_right _ (List.mem_append_right _ (List.mem_append_right _ (List.mem_append_left _ h))))))))))))))))))))))))
theorem inlr14 : ∀ w ∈ wsL_law_r14, w ∈ wsL_law := fun _ h => (List.mem_append_left _ (List.mem_append_left _ (List.mem_append_left _ (List.mem_append_left _ (List.mem_append_left _ (List.mem_append_left _ (List.mem_append_left _ (List.mem_append_left _ (List.mem_append_left _ (List.mem_append_left _ (List.mem_append_left _ (List.mem_append_right _ (List.mem_append_right _ (List.mem_append_right _ (List.mem_append_right _ (List.mem_append_right _ (List.mem_append_right _ (List.mem_append_right _ (List.mem_append_right _ (List.mem_append_right _ (List.mem_append_right _ (List.mem_append_right _ (List.mem_append_right _ (List.mem_append_right _ (List.mem_append_left _ h)))))))))))))))))))))))))
theorem inlr15 : ∀ w ∈ wsL_law_r15, w ∈ wsL_law := fun _ h => (List.mem_append_left _ (List.mem_append_left _ (List.mem_append_left _ (List.mem_append_left _ (List.mem_append_left _ (List.mem_append_left _ (List.mem_append_left _ (List.mem_append_left _ (List.mem_append_left _ (List.mem_append_left _ (List.mem_append_left _ (List.mem_append_right _ (List.mem_append_right _ (List.mem_append_right _ (List.mem_append_right _ (List.mem_append_right _ (List.mem_append_right _ (List.mem_append_right _ (List.mem_append_right _ (List.mem_append_right _ (List.mem_append_right _ (List.mem_append_right _ (List.mem_append_right _ (List.mem_append_right _ (List.mem_append_right _ (List.mem_append_left _ h))))))))))))))))))))))))))
theorem inlr16 : ∀ w ∈ wsL_law_r16, w ∈ wsL_law := fun _ h => (List.mem_append_left _ (List.mem_append_left _ (List.mem_append_left _ (List.mem_append_left _ (List.mem_append_left _ (List.mem_append_left _ (List.mem_append_left _ (List.mem_append_left _ (List.mem_append_left _ (List.mem_append_left _ (List.mem_append_left _ (List.mem_append_right _ (List.mem_append_right _ (List.mem_append_right _ (List.mem_append_right _ (List.mem_append_right _ (List.mem_append_right _ (List.mem_append_right _ (List.mem_append_right _ (List.mem_append_right _ (List.mem_append_right _ (List.mem_append_right _ (List.mem_append_right _ (List.mem_append_right _ (List.mem_append_right _ (List.mem_append_right _ (List.mem_append_left _ h)))))))))))))))))))))))))))
theorem inlr17 : ∀ w ∈ wsL_law_r17, w ∈ wsL_law := fun _ h => (List.mem_append_left _ (List.mem_append_left _ (List.mem_append_left _ (List.mem_append_left _ (List.mem_append_left _ (List.mem_append_left _ (List.mem_append_left _ (List.mem_append_left _ (List.mem_append_left _ (List.mem_append_left _ (List.mem_append_left _ (List.mem_append_right _ (List.mem_append_right _ (List.mem_append_right _ (List.mem_append_right _ (List.mem_append_right _ (List.mem_append_right _ (List.mem_append_right _ (List.mem_append_right _ (List.mem_append_right _ (List.mem_append_right _ (List.mem_append_right _ (List.mem_append_right _ (List.mem_append_right _ (List.mem_append_right _ (List.mem_append_right _ (List.mem_append_right _ (List.mem_append_left _ h))))))))))))))))))))))))))))
theorem inlr18 : ∀ w ∈ wsL_law_r18, w ∈ wsL_law := fun _ h => (List.mem_append_left _ (List.mem_append_left _ (List.mem_append_left _ (List.mem_append_left _ (List.mem_append_left _ (List.mem_append_left _ (List.mem_append_left _ (List.mem_append_left _ (List.mem_append_left _ (List.mem_append_left _ (List.mem_append_left _ (List.mem_append_right _ (List.mem_append_right _ (List.mem_append_right _ (List.mem_append_right _ (List.mem_append_right _ (List.mem_append_right _ (List.mem_append_right _ (List.mem_append_right _ (List.mem_append_right _ (List.mem_append_right _ (List.mem_append_right _ (List.mem_append_right _ (List.mem_append_right _ (List.mem_append_right _ (List.mem_append_right _ (List.mem_append_right _ (List.mem_append_right _ (List.mem_append_left _ h)))))))))))))))))))))))))))))
theorem inlr19 : ∀ w ∈ wsL_law_r19, w ∈ wsL_law := fun _ h => (List.mem_append_left _ (List.mem_append_left _ (List.mem_append_left _ (List.mem_append_left _ (List.mem_append_left _ (List.mem_append_left _ (List.mem_append_left _ (List.mem_append_left _ (List.mem_append_left _ (List.mem_append_left _ (List.mem_append_left _ (List.mem_append_right _ (List.mem_append_right _ (List.mem_append_right _ (List.mem_append_right _ (List.mem_append_right _ (List.mem_append_right _ (List.mem_append_right _ (List.mem_append_right _ (List.mem_append_right _ (List.mem_append_right _ (List.mem_append_right _ (List.mem_append_right _ (List.mem_append_right _ (List.mem_append_right _ (List.mem_append_right _ (List.mem_append_right _ (List.mem_append_right _ (List.mem_append_right _ (List.mem_append_left _ h))))))))))))))))))))))))))))))
theorem inlr20 : ∀ w ∈ wsL_law_r20, w ∈ wsL_law := fun _ h => (List.mem_append_left _ (List.mem_append_left _ (List.mem_append_left _ (List.mem_append_left _ (List.mem_append_left _ (List.mem_append_left _ (List.mem_append_left _ (List.mem_append_left _ (List.mem_append_left _ (List.mem_append_left _ (List.mem_append_left _ (List.mem_append_right _ (List.mem_append_right _ (List.mem_append_right _ (List.mem_append_right _ (List.mem_append_right _ (List.mem_append_right _ (List.mem_append_right _ (List.mem_append_right _ (List.mem_append_right _ (List.mem_append_right _ (List.mem_append_right _ (List.mem_append_right _ (List.mem_append_right _ (List.mem_append_right _ (List.mem_append_right _ (List.mem_append_right _ (List.mem_append_right _ (List.mem_append_right _ (List.mem_append_right _ (List.mem_append_left _ h)))))))))))))))))))))))))))))))
theorem inlr21 : ∀ w ∈ wsL_law_r21, w ∈ wsL_law := fun _ h => (List.mem_append_left _ (List.mem_append_left _ (List.mem_append_left _ (List.mem_append_left _ (List.mem_append_left _ (List.mem_append_left _ (List.mem_append_left _ (List.mem_append_left _ (List.mem_append_left _ (List.mem_append_left _ (List.mem_append_left _ (List.mem_append_right _ (List.mem_append_right _ (List.mem_append_right _ (List.mem_append_right _ (List.mem_append_right _ (List.mem_append_right _ (List.mem_append_right _ (List.mem_append_right _ (List.mem_append_right _ (List.mem_append_right _ (List.mem_append_right _ (List.mem_append_right _ (List.mem_append_right _ (List.mem_append_right _ (List.mem_append_right _ (List.mem_append_right _ (List.mem_append_right _ (List.mem_append_right _ (List.mem_append_right _ (List.mem_append_right _ (List.mem_append_left _ h))))))))))))))))))))))))))))))))
theorem inlr22 : ∀ w ∈ wsL_law_r22, w ∈ wsL_law := fun _ h => (List.mem_append_left _ (List.mem_append_left _ (List.mem_append_left _ (List.mem_append_left _ (List.mem_append_left _ (List.mem_append_left _ (List.mem_append_left _ (List.mem_append_left _ (List.mem_append_left _ (List.mem_append_left _ (List.mem_append_left _ (List.mem_append_right _ (List.mem_append_right _ (List.mem_append_right _ (List.mem_append_right _ (List.mem_append_right _ (List.mem_append_right _ (List.mem_append_right _ (List.mem_append_right _ (List.mem_append_right _ (List.mem_append_right _ (List.mem_append_right _ (List.mem_append_right _ (List.mem_append_right _ (List.mem_append_right _ (List.mem_append_right _ (List.mem_append_right _ (List.mem_append_right _ (List.mem_append_right _ (List.mem_append_right _ (List.mem_append_right _ (List.mem_append_right _ (List.mem_append_left _ h)))))))))))))))))))))))))))))))))
theorem inlr23 : ∀ w ∈ wsL_law_r23, w ∈ wsL_law := fun _ h => (List.mem_append_left _ (List.mem_append_left _ (List.mem_append_left _ (List.mem_append_left _ (List.mem_append_left _ (List.mem_append_left _ (List.mem_append_left _ (List.mem_append_left _ (List.mem_append_left _ (List.mem_append_left _ (List.mem_append_left _ (List.mem_append_right _ (List.mem_append_right _ (List.mem_append_right _ (List.mem_append_right _ (List.mem_append_right _ (List.mem_append_right _ (List.mem_append_right _ (List.mem_append_right _ (List.mem_append_right _ (List.mem_append_right _ (List.mem_append_right _ (List.mem_append_right _ (List.mem_append_right _ (List.mem_append_right _ (List.mem_append_right _ (List.mem_append_right _ (List.mem_append_right _ (List.mem_append_right _ (List.mem_append_right _ (List.mem_append_right _ (List.mem_append_right _ (List.mem_append_right _ (List.mem_append_left _ h))))))))))))))))))))))))))))))))))
theorem inlr24 : ∀ w ∈ wsL_law_r24, w ∈ wsL_law := fun _ h => (List.mem_append_left _ (List.mem_append_left _ (List.mem_append_left _ (List.mem_append_left _ (List.mem_append_left _ (List.mem_append_left _ (List.mem_append_left _ (List.mem_append_left _ (List.mem_append_left _ (List.mem_append_left _ (List.mem_append_left _ (List.mem_append_right _ (List.mem_append_right _ (List.mem_append_right _ (List.mem_append_right _ (List.mem_append_right _ (List.mem_append_right _ (List.mem_append_right _ (List.mem_append_right _ (List.mem_append_right _ (List.mem_append_right _ (List.mem_append_right _ (List.mem_append_right _ (List.mem_append_right _ (List.mem_append_right _ (List.mem_append_right _ (List.mem_append_right _ (List.mem_append_right _ (List.mem_append_right _ (List.mem_append_right _ (List.mem_append_right _ (List.mem_append_right _ (List.mem_append_right _ (List.mem_append_right _ (List.mem_append_left _ h)))))))))))))))))))))))))))))))))))
theorem inlr25 : ∀ w ∈ wsL_law_r25, w ∈ wsL_law := fun _ h => (List.mem_append_left _ (List.mem_append_left _ (List.mem_append_left _ (List.mem_append_left _ (List.mem_append_left _ (List.mem_append_left _ (List.mem_append_left _ (List.mem_append_left _ (List.mem_append_left _ (List.mem_append_left _ (List.mem_append_left _ (List.mem_append_right _ (List.mem_append_right _ (List.mem_append_right _ (List.mem_append_right _ (List.mem_append_right _ (List.mem_append_right _ (List.mem_append_right _ (List.mem_append_right _ (List.mem_append_right _ (List.mem_append_right _ (List.mem_append_right _ (List.mem_append_right _ (List.mem_append_right _ (List.mem_append_right _ (List.mem_append_right _ (List.mem_append_right _ (List.mem_append_right _ (List.mem_append_right _ (List.mem_append_right _ (List.mem_append_right _ (List.mem_append_right _ (List.mem_append_right _ (List.mem_append_right _ (List.mem_append_right _ (List.mem_append_left _ h))))))))))))))))))))))))))))))))))))
theorem inlr26 : ∀ w ∈ wsL_law_r26, w ∈ wsL_law := fun _ h => (List.mem_append_left _ (List.mem_append_left _ (List.mem_append_left _ (List.mem_append_left _ (List.mem_append_left _ (List.mem_append_left _ (List.mem_append_left _ (List.mem_append_left _ (List.mem_append_left _ (List.mem_append_left _ (List.mem_append_left _ (List.mem_append_right _ (List.mem_append_right _ (List.mem_append_right _ (List.mem_append_right _ (List.mem_append_right _ (List.mem_append_right _ (List.mem_append_right _ (List.mem_append_right _ (List.mem_append_right _ (List.mem_append_right _ (List.mem_append_right _ (List.mem_append_right _ (List.mem_append_right _ (List.mem_append_right _ (List.mem_append_right _ (List.mem_append_right _ (List.mem_append_right _ (List.mem_append_right _ (List.mem_append_right _ (List.mem_append_right _ (List.mem_append_right _ (List.mem_append_right _ (List.mem_append_right _ (List.mem_append_right _ (List.mem_append_right _ (List.mem_append_left _ h)))))))))))))))))))))))))))))))))))))
theorem inlr27 : ∀ w ∈ wsL_law_r27, w ∈ wsL_law := fun _ h => (List.mem_append_left _ (List.mem_append_left _ (List.mem_append_left _ (List.mem_append_left _ (List.mem_append_left _ (List.mem_append_left _ (List.mem_append_left _ (List.mem_append_left _ (List.mem_append_left _ (List.mem_append_left _ (List.mem_append_left _ (List.mem_append_right _ (List.mem_append_right _ (List.mem_append_right _ (List.mem_append_right _ (List.mem_append_right _ (List.mem_append_right _ (List.mem_append_right _ (List.mem_append_right _ (List.mem_append_right _ (List.mem_append_right _ (List.mem_append_right _ (List.mem_append_right _ (List.mem_append_right _ (List.mem_append_right _ (List.mem_append_right _ (List.mem_append_right _ (List.mem_append_right _ (List.mem_append_right _ (List.mem_append_right _ (List.mem_append_right _ (List.mem_append_right _ (List.mem_append_right _ (List.mem_append_right _ (List.mem_append_right _ (List.mem_append_right _ (List.mem_append_right _ (List.mem_append_left _ h))))))))))))))))))))))))))))))))))))))
theorem inlr28 : ∀ w ∈ wsL_law_r28, w ∈ wsL_law := fun _ h => (List.mem_append_left _ (List.mem_append_left _ (List.mem_append_left _ (List.mem_append_left _ (List.mem_append_left _ (List.mem_append_left _ (List.mem_append_left _ (List.mem_append_left _ (List.mem_append_left _ (List.mem_append_left _ (List.mem_append_left _ (List.mem_append_right _ (List.mem_append_right _ (List.mem_append_right _ (List.mem_append_right _ (List.mem_append_right _ (List.mem_append_right _ (List.mem_append_right _ (List.mem_append_right _ (List.mem_append_right _ (List.mem_append_right _ (List.mem_append_right _ (List.mem_append_right _ (List.mem_append_right _ (List.mem_append_right _ (List.mem_append_right _ (List.mem_append_right _ (List.mem_append_right _ (List.mem_append_right _ (List.mem_append_right _ (List.mem_append_right _ (List.mem_append_right _ (List.mem_append_right _ (List.mem_append_right _ (List.mem_append_right _ (List.mem_append_right _ (List.mem_append_right _ (List.mem_append_right _ (List.mem_append_left _ h)))))))))))))))))))))))))))))))))))))))
theorem inlr29 : ∀ w ∈ wsL_law_r29, w ∈ wsL_law := fun _ h => (List.mem_append_left _ (List.mem_append_left _ (List.mem_append_left _ (List.mem_append_left _ (List.mem_append_left _ (List.mem_append_left _ (List.mem_append_left _ (List.mem_append_left _ (List.mem_append_left _ (List.mem_append_left _ (List.mem_append_left _ (List.mem_append_right _ (List.mem_append_right _ (List.mem_append_right _ (List.mem_append_right _ (List.mem_append_right _ (List.mem_append_right _ (List.mem_append_right _ (List.mem_append_right _ (List.mem_append_right _ (List.mem_append_right _ (List.mem_append_right _ (List.mem_append_right _ (List.mem_append_right _ (List.mem_append_right _ (List.mem_append_right _ (List.mem_append_right _ (List.mem_append_right _ (List.mem_append_right _ (List.mem_append_right _ (List.mem_append_right _ (List.mem_append_right _ (List.mem_append_right _ (List.mem_append_right _ (List.mem_append_right _ (List.mem_append_right _ (List.mem_append_right _ (List.mem_append_right _ (List.mem_append_right _ (List.mem_append_left _ h))))))))))))))))))))))))))))))))))))))))
theorem inlr30 : ∀ w ∈ wsL_law_r30, w ∈ wsL_law := fun _ h => (List.mem_append_left _ (List.mem_append_left _ (List.mem_append_left _ (List.mem_append_left _ (List.mem_append_left _ (List.mem_append_left _ (List.mem_append_left _ (List.mem_append_left _ (List.mem_append_left _ (List.mem_append_left _ (List.mem_append_left _ (List.mem_append_right _ (List.mem_append_right _ (List.mem_append_right _ (List.mem_append_right _ (List.mem_append_right _ (List.mem_append_right _ (List.mem_append_right _ (List.mem_append_right _ (List.mem_append_right _ (List.mem_append_right _ (List.mem_append_right _ (List.mem_append_right _ (List.mem_append_right _ (List.mem_append_right _ (List.mem_append_right _ (List.mem_append_right _ (List.mem_append_right _ (List.mem_append_right _ (List.mem_append_right _ (List.mem_append_right _ (List.mem_append_right _ (List.mem_append_right _ (List.mem_append_right _ (List.mem_append_right _ (List.mem_append_right _ (List.mem_append_right _ (List.mem_append_right _ (List.mem_append_right _ (List.mem_append_right _ (List.mem_append_left _ h)))))))))))))))))))))))))))))))))))))))))
theorem inlr31 : ∀ w ∈ wsL_law_r31, w ∈ wsL_law := fun _ h => (List.mem_append_left _ (List.mem_append_left _ (List.mem_append_left _ (List.mem_append_left _ (List.mem_append_left _ (List.mem_append_left _ (List.mem_append_left _ (List.mem_append_left _ (List.mem_append_left _ (List.mem_append_left _ (List.mem_append_left _ (List.mem_append_right _ (List.mem_append_right _ (List.mem_append_right _ (List.mem_append_right _ (List.mem_append_right _ (List.mem_append_right _ (List.mem_append_right _ (List.mem_append_right _ (List.mem_append_right _ (List.mem_append_right _ (List.mem_append_right _ (List.mem_append_right _ (List.mem_append_right _ (List.mem_append_right _ (List.mem_append_right _ (List.mem_append_right _ (List.mem_append_right _ (List.mem_append_right _ (List.mem_append_right _ (List.mem_append_right _ (List.mem_append_right _ (List.mem_append_right _ (List.mem_append_right _ (List.mem_append_right _ (List.mem_append_right _ (List.mem_append_right _ (List.mem_append_right _ (List.mem_append_right _ (List.mem_append_right _ (List.mem_append_right _ (List.mem_append_left _ h))))))))))))))))))))))))))))))))))))))))))
theorem inlr32 : ∀ w ∈ wsL_law_r32, w ∈ wsL_law := fun _ h => (List.mem_append_left _ (List.mem_append_left _ (List.mem_append_left _ (List.mem_append_left _ (List.mem_append_left _ (List.mem_append_left _ (List.mem_append_left _ (List.mem_append_left _ (List.mem_append_left _ (List.mem_append_left _ (List.mem_append_left _ (List.mem_append_right _ (List.mem_append_right _ (List.mem_append_right _ (List.mem_append_right _ (List.mem_append_right _ (List.mem_append_right _ (List.mem_append_right _ (List.mem_append_right _ (List.mem_append_right _ (List.mem_append_right _ (List.mem_append_right _ (List.mem_append_right _ (List.mem_append_right _ (List.mem_append_right _ (List.mem_append_right _ (List.mem_append_right _ (List.mem_append_right _ (List.mem_append_right _ (List.mem_append_right _ (List.mem_append_right _ (List.mem_append_right _ (List.mem_append_right _ (List.mem_append_right _ (List.mem_append_right _ (List.mem_append_right _ (List.mem_append_right _ (List.mem_append_right _ (List.mem_append_right _ (List.mem_append_right _ (List.mem_append_right _ (List.mem_append_right _ h))))))))))))))))))))))))))))))))))))))))))
theorem inlX0 : ∀ w ∈ wsX00, w ∈ wsL_law := fun _ h => List.mem_append_left _ (List.mem_append_left _ (List.mem_append_left _ (List.mem_append_left _ (List.mem_append_right _ h))))
theorem inlX1 : ∀ w ∈ wsX10, w ∈ wsL_law := fun _ h => List.mem_append_left _ (List.mem_append_right _ h)
theorem inlX2 : ∀ w ∈ wsX20, w ∈ wsL_law := fun _ h => List.mem_append_left _ (List.mem_append_left _ (List.mem_append_left _ (List.mem_append_left _ (List.mem_append_left _ (List.mem_append_left _ (List.mem_append_left _ (List.mem_append_left _ (List.mem_append_right _ h))))))))
theorem inlX4 : ∀ w ∈ wsX40, w ∈ wsL_law := fun _ h => List.mem_append_left _ (List.mem_append_left _ (List.mem_append_left _ (List.mem_append_left _ (List.mem_append_left _ (List.mem_append_left _ (List.mem_append_left _ (List.mem_append_right _ h)))))))
theorem inlX6 : ∀ w ∈ wsX60, w ∈ wsL_law := fun _ h => List.mem_append_left _ (List.mem_append_left _ (List.mem_append_left _ (List.mem_append_right _ h)))
theorem inlX7 : ∀ w ∈ wsX70, w ∈ wsL_law := fun _ h => List.mem_append_left _ (List.mem_append_left _ (List.mem_append_left _ (List.mem_append_left _ (List.mem_append_left _ (List.mem_append_right _ h)))))
theorem inlX8 : ∀ w ∈ wsX80, w ∈ wsL_law := fun _ h => List.mem_append_left _ (List.mem_append_left _ (List.mem_append_right _ h))
theorem inlX9 : ∀ w ∈ wsX90, w ∈ wsL_law := fun _ h => List.mem_append_left _ (List.mem_append_left _ (List.mem_append_left _ (List.mem_append_left _ (List.mem_append_left _ (List.mem_append_left _ (List.mem_append_right _ h))))))
theorem inlX10 : ∀ w ∈ wsX100, w ∈ wsL_law := fun _ h => List.mem_append_left _ (List.mem_append_left _ (List.mem_append_left _ (List.mem_append_left _ (List.mem_append_left _ (List.mem_append_left _ (List.mem_append_left _ (List.mem_append_left _ (List.mem_append_left _ (List.mem_append_left _ (List.mem_append_right _ h))))))))))
theorem inlX11 : ∀ w ∈ wsX110, w ∈ wsL_law := fun _ h => List.mem_append_left _ (List.mem_append_left _ (List.mem_append_left _ (List.mem_append_left _ (List.mem_append_left _ (List.mem_append_left _ (List.mem_append_left _ (List.mem_append_left _ (List.mem_append_left _ (List.mem_append_right _ h)))))))))
theorem lgwsX100 : ∀ w ∈ wsX100, lgP w := fun w h => ⟨inlX10 w h, good_of_word (List.all_eq_true.mp (show wsX100.all goodWord = true by decide +kernel) w h)⟩
theorem lgwsX110 : ∀ w ∈ wsX110, lgP w := fun w h => ⟨inlX11 w h, good_of_word (List.all_eq_true.mp (show wsX110.all goodWord = true by decide +kernel) w h)⟩
theorem lgwsX20 : ∀ w ∈ wsX20, lgP w := fun w h => ⟨inlX2 w h, good_of_word (List.all_eq_true.mp (show wsX20.all goodWord = true by decide +kernel) w h)⟩
theorem lgwsX40 : ∀ w ∈ wsX40, lgP w := fun w h => ⟨inlX4 w h, good_of_word (List.all_eq_true.mp (show wsX40.all goodWord = true by decide +kernel) w h)⟩
theorem lgwsX90 : ∀ w ∈ wsX90, lgP w := fun w h => ⟨inlX9 w h, good_of_word (List.all_eq_true.mp (show wsX90.all goodWord = true by decide +kernel) w h)⟩
theorem lgwsX70 : ∀ w ∈ wsX70, lgP w := fun w h => ⟨inlX7 w h, good_of_word (List.all_eq_true.mp (show wsX70.all goodWord = true by decide +kernel) w h)⟩
theorem lgwsX00 : ∀ w ∈ wsX00, lgP w := fun w h => ⟨inlX0 w h, good_of_word (List.all_eq_true.mp (show wsX00.all goodWord = true by decide +kernel) w h)⟩
theorem lgwsX60 : ∀ w ∈ wsX60, lgP w := fun w h => ⟨inlX6 w h, good_of_word (List.all_eq_true.mp (show wsX60.all goodWord = true by decide +kernel) w h)⟩
theorem lgwsX80 : ∀ w ∈ wsX80, lgP w := fun w h => ⟨inlX8 w h, good_of_word (List.all_eq_true.mp (show wsX80.all goodWord = true by decide +kernel) w h)⟩
theorem lgwsX10 : ∀ w ∈ wsX10, lgP w := fun w h => ⟨inlX1 w h, good_of_word (List.all_eq_true.mp (show wsX10.all goodWord = true by decide +kernel) w h)⟩

set_option maxRecDepth 100000 in
theorem lg_1_0 : lgP (Cond.classLink RL 7 RX10) := ⟨inlr1 _ (List.mem_of_getElem? (i := 0) rfl), good_of_word rfl⟩

set_option maxRecDepth 100000 in
theorem lg_1_1 : lgP (Cond.instantiable RX10 10) := ⟨inlr1 _ (List.mem_of_getElem? (i := 1) rfl), good_of_word rfl⟩

set_option maxRecDepth 100000 in
theorem lg_1_2 : lgP (Cond.initialized RX10) := ⟨inlr1 _ (List.mem_of_getElem? (i := 2) rfl), good_of_word rfl⟩

set_option maxRecDepth 100000 in
theorem lg_1_3 : lgP (Cond.classLink RL 10 RX11) := ⟨inlr1 _ (List.mem_of_getElem? (i := 3) rfl), good_of_word rfl⟩

set_option maxRecDepth 100000 in
theorem lg_1_4 : lgP (Cond.instantiable RX11 23) := ⟨inlr1 _ (List.mem_of_getElem? (i := 4) rfl), good_of_word rfl⟩

set_option maxRecDepth 100000 in
theorem lg_1_5 : lgP (Cond.initialized RX11) := ⟨inlr1 _ (List.mem_of_getElem? (i := 5) rfl), good_of_word rfl⟩

set_option maxRecDepth 100000 in
theorem lg_1_6 : lgP (Cond.methodLink RL 9 yX10_init) := ⟨inlr1 _ (List.mem_of_getElem? (i := 6) rfl), good_of_word rfl⟩

set_option maxRecDepth 100000 in
theorem lg_1_7 : lgP (Cond.instanceMethod yX10_init) := ⟨inlr1 _ (List.mem_of_getElem? (i := 7) rfl), good_of_word rfl⟩

set_option maxRecDepth 100000 in
theorem lg_1_8 : lgP (Cond.code yX10_init cX10_init 1 none) := ⟨inlr1 _ (List.mem_of_getElem? (i := 8) rfl), good_of_word rfl⟩

set_option maxRecDepth 100000 in
theorem lg_1_9 : lgP (Cond.methodLink RX10 1 objectInit) := ⟨inlr1 _ (List.mem_of_getElem? (i := 9) rfl), good_of_word rfl⟩

set_option maxRecDepth 100000 in
theorem lg_1_10 : lgP (Cond.instanceMethod objectInit) := ⟨inlr1 _ (List.mem_of_getElem? (i := 10) rfl), good_of_word rfl⟩

set_option maxRecDepth 100000 in
theorem lg_1_11 : lgP (Cond.code objectInit ⟨#[0xb1]⟩ 1 none) := ⟨inlr1 _ (List.mem_of_getElem? (i := 11) rfl), good_of_word rfl⟩

set_option maxRecDepth 100000 in
theorem lg_1_12 : lgP (Cond.classLink RX10 7 RX2) := ⟨inlr1 _ (List.mem_of_getElem? (i := 12) rfl), good_of_word rfl⟩

set_option maxRecDepth 100000 in
theorem lg_1_13 : lgP (Cond.instantiable RX2 8) := ⟨inlr1 _ (List.mem_of_getElem? (i := 13) rfl), good_of_word rfl⟩

set_option maxRecDepth 100000 in
theorem lg_1_14 : lgP (Cond.initialized RX2) := ⟨inlr1 _ (List.mem_of_getElem? (i := 14) rfl), good_of_word rfl⟩

set_option maxRecDepth 100000 in
theorem lg_1_15 : lgP (Cond.fieldLink RX10 10 "HornCity" "now" "LHornCity$City;") := ⟨inlr1 _ (List.mem_of_getElem? (i := 15) rfl), good_of_word rfl⟩

set_option maxRecDepth 100000 in
theorem lg_1_16 : lgP (Cond.fieldLink RX10 16 "HornCity" "firstImage" "LHornCity$City;") := ⟨inlr1 _ (List.mem_of_getElem? (i := 16) rfl), good_of_word rfl⟩

set_option maxRecDepth 100000 in
theorem lg_1_17 : lgP (Cond.fieldLink RX10 19 "HornCity" "secondImage" "LHornCity$City;") := ⟨inlr1 _ (List.mem_of_getElem? (i := 17) rfl), good_of_word rfl⟩

set_option maxRecDepth 100000 in
theorem lg_1_18 : lgP (Cond.arrayClass .boolean) := ⟨inlr1 _ (List.mem_of_getElem? (i := 18) rfl), good_of_word rfl⟩

set_option maxRecDepth 100000 in
theorem lg_1_19 : lgP (Cond.fieldLink RX10 22 "HornCity" "kept" "[Z") := ⟨inlr1 _ (List.mem_of_getElem? (i := 19) rfl), good_of_word rfl⟩

set_option maxRecDepth 100000 in
theorem lg_1_20 : lgP (Cond.classLink RX10 26 RX4) := ⟨inlr1 _ (List.mem_of_getElem? (i := 20) rfl), good_of_word rfl⟩

set_option maxRecDepth 100000 in
theorem lg_1_21 : lgP (Cond.instantiable RX4 2) := ⟨inlr1 _ (List.mem_of_getElem? (i := 21) rfl), good_of_word rfl⟩

set_option maxRecDepth 100000 in
theorem lg_1_22 : lgP (Cond.initialized RX4) := ⟨inlr1 _ (List.mem_of_getElem? (i := 22) rfl), good_of_word rfl⟩

set_option maxRecDepth 100000 in
theorem lg_1_23 : lgP (Cond.fieldLink RX10 29 "HornCity" "pad" "LHornCity$Pad;") := ⟨inlr1 _ (List.mem_of_getElem? (i := 23) rfl), good_of_word rfl⟩

set_option maxRecDepth 100000 in
theorem lg_2_0 : lgP (Cond.classLink RX10 33 RX9) := ⟨inlr2 _ (List.mem_of_getElem? (i := 0) rfl), good_of_word rfl⟩

set_option maxRecDepth 100000 in
theorem lg_2_1 : lgP (Cond.instantiable RX9 6) := ⟨inlr2 _ (List.mem_of_getElem? (i := 1) rfl), good_of_word rfl⟩

set_option maxRecDepth 100000 in
theorem lg_2_2 : lgP (Cond.initialized RX9) := ⟨inlr2 _ (List.mem_of_getElem? (i := 2) rfl), good_of_word rfl⟩

set_option maxRecDepth 100000 in
theorem lg_2_3 : lgP (Cond.fieldLink RX10 36 "HornCity" "years" "LHornCity$Years;") := ⟨inlr2 _ (List.mem_of_getElem? (i := 3) rfl), good_of_word rfl⟩

set_option maxRecDepth 100000 in
theorem lg_2_4 : lgP (Cond.classLink RX10 40 RX7) := ⟨inlr2 _ (List.mem_of_getElem? (i := 4) rfl), good_of_word rfl⟩

set_option maxRecDepth 100000 in
theorem lg_2_5 : lgP (Cond.instantiable RX7 3) := ⟨inlr2 _ (List.mem_of_getElem? (i := 5) rfl), good_of_word rfl⟩

set_option maxRecDepth 100000 in
theorem lg_2_6 : lgP (Cond.initialized RX7) := ⟨inlr2 _ (List.mem_of_getElem? (i := 6) rfl), good_of_word rfl⟩

set_option maxRecDepth 100000 in
theorem lg_2_7 : lgP (Cond.fieldLink RX10 43 "HornCity" "turns" "LHornCity$Turns;") := ⟨inlr2 _ (List.mem_of_getElem? (i := 7) rfl), good_of_word rfl⟩

set_option maxRecDepth 100000 in
theorem lg_2_8 : lgP (Cond.classLink RX10 47 RX0) := ⟨inlr2 _ (List.mem_of_getElem? (i := 8) rfl), good_of_word rfl⟩

set_option maxRecDepth 100000 in
theorem lg_2_9 : lgP (Cond.instantiable RX0 3) := ⟨inlr2 _ (List.mem_of_getElem? (i := 9) rfl), good_of_word rfl⟩

set_option maxRecDepth 100000 in
theorem lg_2_10 : lgP (Cond.initialized RX0) := ⟨inlr2 _ (List.mem_of_getElem? (i := 10) rfl), good_of_word rfl⟩

set_option maxRecDepth 100000 in
theorem lg_2_11 : lgP (Cond.fieldLink RX10 50 "HornCity" "asking" "LHornCity$Asking;") := ⟨inlr2 _ (List.mem_of_getElem? (i := 11) rfl), good_of_word rfl⟩

set_option maxRecDepth 100000 in
theorem lg_2_12 : lgP (Cond.classLink RX10 54 RX6) := ⟨inlr2 _ (List.mem_of_getElem? (i := 12) rfl), good_of_word rfl⟩

set_option maxRecDepth 100000 in
theorem lg_2_13 : lgP (Cond.instantiable RX6 1) := ⟨inlr2 _ (List.mem_of_getElem? (i := 13) rfl), good_of_word rfl⟩

set_option maxRecDepth 100000 in
theorem lg_2_14 : lgP (Cond.initialized RX6) := ⟨inlr2 _ (List.mem_of_getElem? (i := 14) rfl), good_of_word rfl⟩

set_option maxRecDepth 100000 in
theorem lg_2_15 : lgP (Cond.fieldLink RX10 57 "HornCity" "taking" "LHornCity$Taking;") := ⟨inlr2 _ (List.mem_of_getElem? (i := 15) rfl), good_of_word rfl⟩

set_option maxRecDepth 100000 in
theorem lg_2_16 : lgP (Cond.classLink RX10 61 RX8) := ⟨inlr2 _ (List.mem_of_getElem? (i := 16) rfl), good_of_word rfl⟩

set_option maxRecDepth 100000 in
theorem lg_2_17 : lgP (Cond.instantiable RX8 4) := ⟨inlr2 _ (List.mem_of_getElem? (i := 17) rfl), good_of_word rfl⟩

set_option maxRecDepth 100000 in
theorem lg_2_18 : lgP (Cond.initialized RX8) := ⟨inlr2 _ (List.mem_of_getElem? (i := 18) rfl), good_of_word rfl⟩

set_option maxRecDepth 100000 in
theorem lg_2_19 : lgP (Cond.fieldLink RX10 64 "HornCity" "weathercock" "LHornCity$Weathercock;") := ⟨inlr2 _ (List.mem_of_getElem? (i := 19) rfl), good_of_word rfl⟩

set_option maxRecDepth 100000 in
theorem lg_2_20 : lgP (Cond.methodLink RX10 9 yX2_init) := ⟨inlr2 _ (List.mem_of_getElem? (i := 20) rfl), good_of_word rfl⟩

set_option maxRecDepth 100000 in
theorem lg_2_21 : lgP (Cond.instanceMethod yX2_init) := ⟨inlr2 _ (List.mem_of_getElem? (i := 21) rfl), good_of_word rfl⟩

set_option maxRecDepth 100000 in
theorem lg_2_22 : lgP (Cond.code yX2_init cX2_init 2 none) := ⟨inlr2 _ (List.mem_of_getElem? (i := 22) rfl), good_of_word rfl⟩

set_option maxRecDepth 100000 in
theorem lg_2_23 : lgP (Cond.methodLink RX2 3 objectInit) := ⟨inlr2 _ (List.mem_of_getElem? (i := 23) rfl), good_of_word rfl⟩

set_option maxRecDepth 100000 in
theorem lg_3_0 : lgP (Cond.arrayClass .int) := ⟨inlr3 _ (List.mem_of_getElem? (i := 0) rfl), good_of_word rfl⟩

set_option maxRecDepth 100000 in
theorem lg_3_1 : lgP (Cond.fieldLink RX2 9 "HornCity$City" "inclines" "[I") := ⟨inlr3 _ (List.mem_of_getElem? (i := 1) rfl), good_of_word rfl⟩

set_option maxRecDepth 100000 in
theorem lg_3_2 : lgP (Cond.fieldLink RX2 15 "HornCity$City" "drifting" "[I") := ⟨inlr3 _ (List.mem_of_getElem? (i := 2) rfl), good_of_word rfl⟩

set_option maxRecDepth 100000 in
theorem lg_3_3 : lgP (Cond.fieldLink RX2 18 "HornCity$City" "mates" "[I") := ⟨inlr3 _ (List.mem_of_getElem? (i := 3) rfl), good_of_word rfl⟩

set_option maxRecDepth 100000 in
theorem lg_3_4 : lgP (Cond.fieldLink RX2 21 "HornCity$City" "ahead" "[I") := ⟨inlr3 _ (List.mem_of_getElem? (i := 4) rfl), good_of_word rfl⟩

set_option maxRecDepth 100000 in
theorem lg_3_5 : lgP (Cond.classLink RX2 24 RX1) := ⟨inlr3 _ (List.mem_of_getElem? (i := 5) rfl), good_of_word rfl⟩

set_option maxRecDepth 100000 in
theorem lg_3_6 : lgP (Cond.instantiable RX1 3) := ⟨inlr3 _ (List.mem_of_getElem? (i := 6) rfl), good_of_word rfl⟩

set_option maxRecDepth 100000 in
theorem lg_3_7 : lgP (Cond.initialized RX1) := ⟨inlr3 _ (List.mem_of_getElem? (i := 7) rfl), good_of_word rfl⟩

set_option maxRecDepth 100000 in
theorem lg_3_8 : lgP (Cond.fieldLink RX2 27 "HornCity$City" "chalks" "LHornCity$Chalks;") := ⟨inlr3 _ (List.mem_of_getElem? (i := 8) rfl), good_of_word rfl⟩

set_option maxRecDepth 100000 in
theorem lg_3_9 : lgP (Cond.methodLink RX2 26 yX1_init) := ⟨inlr3 _ (List.mem_of_getElem? (i := 9) rfl), good_of_word rfl⟩

set_option maxRecDepth 100000 in
theorem lg_3_10 : lgP (Cond.instanceMethod yX1_init) := ⟨inlr3 _ (List.mem_of_getElem? (i := 10) rfl), good_of_word rfl⟩

set_option maxRecDepth 100000 in
theorem lg_3_11 : lgP (Cond.code yX1_init cX1_init 1 none) := ⟨inlr3 _ (List.mem_of_getElem? (i := 11) rfl), good_of_word rfl⟩

set_option maxRecDepth 100000 in
theorem lg_3_12 : lgP (Cond.methodLink RX1 3 objectInit) := ⟨inlr3 _ (List.mem_of_getElem? (i := 12) rfl), good_of_word rfl⟩

set_option maxRecDepth 100000 in
theorem lg_3_13 : lgP (Cond.fieldLink RX1 9 "HornCity$Chalks" "inYears" "[I") := ⟨inlr3 _ (List.mem_of_getElem? (i := 13) rfl), good_of_word rfl⟩

set_option maxRecDepth 100000 in
theorem lg_3_14 : lgP (Cond.fieldLink RX1 15 "HornCity$Chalks" "marks" "[I") := ⟨inlr3 _ (List.mem_of_getElem? (i := 14) rfl), good_of_word rfl⟩

set_option maxRecDepth 100000 in
theorem lg_3_15 : lgP (Cond.methodLink RX10 28 yX4_init) := ⟨inlr3 _ (List.mem_of_getElem? (i := 15) rfl), good_of_word rfl⟩

set_option maxRecDepth 100000 in
theorem lg_3_16 : lgP (Cond.instanceMethod yX4_init) := ⟨inlr3 _ (List.mem_of_getElem? (i := 16) rfl), good_of_word rfl⟩

set_option maxRecDepth 100000 in
theorem lg_3_17 : lgP (Cond.code yX4_init cX4_init 1 none) := ⟨inlr3 _ (List.mem_of_getElem? (i := 17) rfl), good_of_word rfl⟩

set_option maxRecDepth 100000 in
theorem lg_3_18 : lgP (Cond.methodLink RX4 3 objectInit) := ⟨inlr3 _ (List.mem_of_getElem? (i := 18) rfl), good_of_word rfl⟩

set_option maxRecDepth 100000 in
theorem lg_3_19 : lgP (Cond.fieldLink RX4 9 "HornCity$Pad" "signs" "[I") := ⟨inlr3 _ (List.mem_of_getElem? (i := 19) rfl), good_of_word rfl⟩

set_option maxRecDepth 100000 in
theorem lg_3_20 : lgP (Cond.methodLink RX10 35 yX9_init) := ⟨inlr3 _ (List.mem_of_getElem? (i := 20) rfl), good_of_word rfl⟩

set_option maxRecDepth 100000 in
theorem lg_3_21 : lgP (Cond.instanceMethod yX9_init) := ⟨inlr3 _ (List.mem_of_getElem? (i := 21) rfl), good_of_word rfl⟩

set_option maxRecDepth 100000 in
theorem lg_3_22 : lgP (Cond.code yX9_init cX9_init 1 none) := ⟨inlr3 _ (List.mem_of_getElem? (i := 22) rfl), good_of_word rfl⟩

set_option maxRecDepth 100000 in
theorem lg_3_23 : lgP (Cond.methodLink RX9 3 objectInit) := ⟨inlr3 _ (List.mem_of_getElem? (i := 23) rfl), good_of_word rfl⟩

set_option maxRecDepth 100000 in
theorem lg_4_0 : lgP (Cond.classLink RX9 9 RX2) := ⟨inlr4 _ (List.mem_of_getElem? (i := 0) rfl), good_of_word rfl⟩

set_option maxRecDepth 100000 in
theorem lg_4_1 : lgP (Cond.fieldLink RX9 12 "HornCity$Years" "city" "LHornCity$City;") := ⟨inlr4 _ (List.mem_of_getElem? (i := 1) rfl), good_of_word rfl⟩

set_option maxRecDepth 100000 in
theorem lg_4_2 : lgP (Cond.fieldLink RX9 18 "HornCity$Years" "chalked" "[I") := ⟨inlr4 _ (List.mem_of_getElem? (i := 2) rfl), good_of_word rfl⟩

set_option maxRecDepth 100000 in
theorem lg_4_3 : lgP (Cond.methodLink RX9 11 yX2_init) := ⟨inlr4 _ (List.mem_of_getElem? (i := 3) rfl), good_of_word rfl⟩

set_option maxRecDepth 100000 in
theorem lg_4_4 : lgP (Cond.methodLink RX10 42 yX7_init) := ⟨inlr4 _ (List.mem_of_getElem? (i := 4) rfl), good_of_word rfl⟩

set_option maxRecDepth 100000 in
theorem lg_4_5 : lgP (Cond.instanceMethod yX7_init) := ⟨inlr4 _ (List.mem_of_getElem? (i := 5) rfl), good_of_word rfl⟩

set_option maxRecDepth 100000 in
theorem lg_4_6 : lgP (Cond.code yX7_init cX7_init 1 none) := ⟨inlr4 _ (List.mem_of_getElem? (i := 6) rfl), good_of_word rfl⟩

set_option maxRecDepth 100000 in
theorem lg_4_7 : lgP (Cond.methodLink RX7 3 objectInit) := ⟨inlr4 _ (List.mem_of_getElem? (i := 7) rfl), good_of_word rfl⟩

set_option maxRecDepth 100000 in
theorem lg_4_8 : lgP (Cond.fieldLink RX7 9 "HornCity$Turns" "far" "[I") := ⟨inlr4 _ (List.mem_of_getElem? (i := 8) rfl), good_of_word rfl⟩

set_option maxRecDepth 100000 in
theorem lg_4_9 : lgP (Cond.fieldLink RX7 15 "HornCity$Turns" "waiting" "[I") := ⟨inlr4 _ (List.mem_of_getElem? (i := 9) rfl), good_of_word rfl⟩

set_option maxRecDepth 100000 in
theorem lg_4_10 : lgP (Cond.fieldLink RX7 18 "HornCity$Turns" "degrees" "[I") := ⟨inlr4 _ (List.mem_of_getElem? (i := 10) rfl), good_of_word rfl⟩

set_option maxRecDepth 100000 in
theorem lg_4_11 : lgP (Cond.methodLink RX10 49 yX0_init) := ⟨inlr4 _ (List.mem_of_getElem? (i := 11) rfl), good_of_word rfl⟩

set_option maxRecDepth 100000 in
theorem lg_4_12 : lgP (Cond.instanceMethod yX0_init) := ⟨inlr4 _ (List.mem_of_getElem? (i := 12) rfl), good_of_word rfl⟩

set_option maxRecDepth 100000 in
theorem lg_4_13 : lgP (Cond.code yX0_init cX0_init 1 none) := ⟨inlr4 _ (List.mem_of_getElem? (i := 13) rfl), good_of_word rfl⟩

set_option maxRecDepth 100000 in
theorem lg_4_14 : lgP (Cond.methodLink RX0 3 objectInit) := ⟨inlr4 _ (List.mem_of_getElem? (i := 14) rfl), good_of_word rfl⟩

set_option maxRecDepth 100000 in
theorem lg_4_15 : lgP (Cond.fieldLink RX0 9 "HornCity$Asking" "alike" "[I") := ⟨inlr4 _ (List.mem_of_getElem? (i := 15) rfl), good_of_word rfl⟩

set_option maxRecDepth 100000 in
theorem lg_4_16 : lgP (Cond.methodLink RX10 56 yX6_init) := ⟨inlr4 _ (List.mem_of_getElem? (i := 16) rfl), good_of_word rfl⟩

set_option maxRecDepth 100000 in
theorem lg_4_17 : lgP (Cond.instanceMethod yX6_init) := ⟨inlr4 _ (List.mem_of_getElem? (i := 17) rfl), good_of_word rfl⟩

set_option maxRecDepth 100000 in
theorem lg_4_18 : lgP (Cond.code yX6_init cX6_init 1 none) := ⟨inlr4 _ (List.mem_of_getElem? (i := 18) rfl), good_of_word rfl⟩

set_option maxRecDepth 100000 in
theorem lg_4_19 : lgP (Cond.methodLink RX6 3 objectInit) := ⟨inlr4 _ (List.mem_of_getElem? (i := 19) rfl), good_of_word rfl⟩

set_option maxRecDepth 100000 in
theorem lg_4_20 : lgP (Cond.fieldLink RX6 9 "HornCity$Taking" "wins" "[Z") := ⟨inlr4 _ (List.mem_of_getElem? (i := 20) rfl), good_of_word rfl⟩

set_option maxRecDepth 100000 in
theorem lg_4_21 : lgP (Cond.methodLink RX10 63 yX8_init) := ⟨inlr4 _ (List.mem_of_getElem? (i := 21) rfl), good_of_word rfl⟩

set_option maxRecDepth 100000 in
theorem lg_4_22 : lgP (Cond.instanceMethod yX8_init) := ⟨inlr4 _ (List.mem_of_getElem? (i := 22) rfl), good_of_word rfl⟩

set_option maxRecDepth 100000 in
theorem lg_4_23 : lgP (Cond.code yX8_init cX8_init 1 none) := ⟨inlr4 _ (List.mem_of_getElem? (i := 23) rfl), good_of_word rfl⟩

set_option maxRecDepth 100000 in
theorem lg_5_0 : lgP (Cond.methodLink RX8 3 objectInit) := ⟨inlr5 _ (List.mem_of_getElem? (i := 0) rfl), good_of_word rfl⟩

set_option maxRecDepth 100000 in
theorem lg_5_1 : lgP (Cond.arrayClass .long) := ⟨inlr5 _ (List.mem_of_getElem? (i := 1) rfl), good_of_word rfl⟩

set_option maxRecDepth 100000 in
theorem lg_5_2 : lgP (Cond.fieldLink RX8 9 "HornCity$Weathercock" "ways" "[J") := ⟨inlr5 _ (List.mem_of_getElem? (i := 2) rfl), good_of_word rfl⟩

set_option maxRecDepth 100000 in
theorem lg_5_3 : lgP (Cond.fieldLink RX8 15 "HornCity$Weathercock" "next" "[J") := ⟨inlr5 _ (List.mem_of_getElem? (i := 3) rfl), good_of_word rfl⟩

set_option maxRecDepth 100000 in
theorem lg_5_4 : lgP (Cond.methodLink RL 12 yX11_init) := ⟨inlr5 _ (List.mem_of_getElem? (i := 4) rfl), good_of_word rfl⟩

set_option maxRecDepth 100000 in
theorem lg_5_5 : lgP (Cond.instanceMethod yX11_init) := ⟨inlr5 _ (List.mem_of_getElem? (i := 5) rfl), good_of_word rfl⟩

set_option maxRecDepth 100000 in
theorem lg_5_6 : lgP (Cond.code yX11_init cX11_init 2 none) := ⟨inlr5 _ (List.mem_of_getElem? (i := 6) rfl), good_of_word rfl⟩

set_option maxRecDepth 100000 in
theorem lg_5_7 : lgP (Cond.methodLink RX11 1 objectInit) := ⟨inlr5 _ (List.mem_of_getElem? (i := 7) rfl), good_of_word rfl⟩

set_option maxRecDepth 100000 in
theorem lg_5_8 : lgP (Cond.fieldLink RX11 7 "HornCityModel" "book" "[I") := ⟨inlr5 _ (List.mem_of_getElem? (i := 8) rfl), good_of_word rfl⟩

set_option maxRecDepth 100000 in
theorem lg_5_9 : lgP (Cond.fieldLink RX11 13 "HornCityModel" "now" "[I") := ⟨inlr5 _ (List.mem_of_getElem? (i := 9) rfl), good_of_word rfl⟩

set_option maxRecDepth 100000 in
theorem lg_5_10 : lgP (Cond.fieldLink RX11 16 "HornCityModel" "next" "[I") := ⟨inlr5 _ (List.mem_of_getElem? (i := 10) rfl), good_of_word rfl⟩

set_option maxRecDepth 100000 in
theorem lg_5_11 : lgP (Cond.fieldLink RX11 19 "HornCityModel" "drifts" "[I") := ⟨inlr5 _ (List.mem_of_getElem? (i := 11) rfl), good_of_word rfl⟩

set_option maxRecDepth 100000 in
theorem lg_5_12 : lgP (Cond.fieldLink RX11 22 "HornCityModel" "chalk" "[I") := ⟨inlr5 _ (List.mem_of_getElem? (i := 12) rfl), good_of_word rfl⟩

set_option maxRecDepth 100000 in
theorem lg_5_13 : lgP (Cond.fieldLink RX11 25 "HornCityModel" "pad" "[I") := ⟨inlr5 _ (List.mem_of_getElem? (i := 13) rfl), good_of_word rfl⟩

set_option maxRecDepth 100000 in
theorem lg_5_14 : lgP (Cond.fieldLink RX11 28 "HornCityModel" "reached" "[I") := ⟨inlr5 _ (List.mem_of_getElem? (i := 14) rfl), good_of_word rfl⟩

set_option maxRecDepth 100000 in
theorem lg_5_15 : lgP (Cond.fieldLink RX11 31 "HornCityModel" "queue" "[I") := ⟨inlr5 _ (List.mem_of_getElem? (i := 15) rfl), good_of_word rfl⟩

set_option maxRecDepth 100000 in
theorem lg_5_16 : lgP (Cond.fieldLink RX11 34 "HornCityModel" "counts" "[I") := ⟨inlr5 _ (List.mem_of_getElem? (i := 16) rfl), good_of_word rfl⟩

set_option maxRecDepth 100000 in
theorem lg_5_17 : lgP (Cond.fieldLink RX11 37 "HornCityModel" "fitting" "[I") := ⟨inlr5 _ (List.mem_of_getElem? (i := 17) rfl), good_of_word rfl⟩

set_option maxRecDepth 100000 in
theorem lg_5_18 : lgP (Cond.fieldLink RX11 40 "HornCityModel" "wins" "[Z") := ⟨inlr5 _ (List.mem_of_getElem? (i := 18) rfl), good_of_word rfl⟩

set_option maxRecDepth 100000 in
theorem lg_5_19 : lgP (Cond.fieldLink RX11 44 "HornCityModel" "ways" "[J") := ⟨inlr5 _ (List.mem_of_getElem? (i := 19) rfl), good_of_word rfl⟩

set_option maxRecDepth 100000 in
theorem lg_5_20 : lgP (Cond.fieldLink RX11 48 "HornCityModel" "nextWays" "[J") := ⟨inlr5 _ (List.mem_of_getElem? (i := 20) rfl), good_of_word rfl⟩

set_option maxRecDepth 100000 in
theorem lg_5_21 : lgP (Cond.fieldLink RX11 51 "HornCityModel" "image" "[I") := ⟨inlr5 _ (List.mem_of_getElem? (i := 21) rfl), good_of_word rfl⟩

set_option maxRecDepth 100000 in
theorem lg_5_22 : lgP (Cond.fieldLink RX11 54 "HornCityModel" "isKept" "[Z") := ⟨inlr5 _ (List.mem_of_getElem? (i := 22) rfl), good_of_word rfl⟩

set_option maxRecDepth 100000 in
theorem lg_5_23 : lgP (Cond.methodLink RL 13 yX10_one) := ⟨inlr5 _ (List.mem_of_getElem? (i := 23) rfl), good_of_word rfl⟩

set_option maxRecDepth 100000 in
theorem lg_6_0 : lgP (Cond.instanceMethod yX10_one) := ⟨inlr6 _ (List.mem_of_getElem? (i := 0) rfl), good_of_word rfl⟩

set_option maxRecDepth 100000 in
theorem lg_6_1 : lgP (Cond.selects RX10 yX10_one yX10_one) := ⟨inlr6 _ (List.mem_of_getElem? (i := 1) rfl), good_of_word rfl⟩

set_option maxRecDepth 100000 in
theorem lg_6_2 : lgP (Cond.code yX10_one cX10_one 4 (some .int)) := ⟨inlr6 _ (List.mem_of_getElem? (i := 2) rfl), good_of_word rfl⟩

set_option maxRecDepth 100000 in
theorem lg_6_3 : lgP (Cond.methodLink RX10 68 yX10_isWithin) := ⟨inlr6 _ (List.mem_of_getElem? (i := 3) rfl), good_of_word rfl⟩

set_option maxRecDepth 100000 in
theorem lg_6_4 : lgP (Cond.static yX10_isWithin) := ⟨inlr6 _ (List.mem_of_getElem? (i := 4) rfl), good_of_word rfl⟩

set_option maxRecDepth 100000 in
theorem lg_6_5 : lgP (Cond.code yX10_isWithin cX10_isWithin 3 (some .boolean)) := ⟨inlr6 _ (List.mem_of_getElem? (i := 5) rfl), good_of_word rfl⟩

set_option maxRecDepth 100000 in
theorem lg_6_6 : lgP (Cond.methodLink RX10 72 yX2_settle) := ⟨inlr6 _ (List.mem_of_getElem? (i := 6) rfl), good_of_word rfl⟩

set_option maxRecDepth 100000 in
theorem lg_6_7 : lgP (Cond.instanceMethod yX2_settle) := ⟨inlr6 _ (List.mem_of_getElem? (i := 7) rfl), good_of_word rfl⟩

set_option maxRecDepth 100000 in
theorem lg_6_8 : lgP (Cond.selects RX2 yX2_settle yX2_settle) := ⟨inlr6 _ (List.mem_of_getElem? (i := 8) rfl), good_of_word rfl⟩

set_option maxRecDepth 100000 in
theorem lg_6_9 : lgP (Cond.code yX2_settle cX2_settle 4 none) := ⟨inlr6 _ (List.mem_of_getElem? (i := 9) rfl), good_of_word rfl⟩

set_option maxRecDepth 100000 in
theorem lg_6_10 : lgP (Cond.fieldLink RX2 35 "HornCity$City" "there" "I") := ⟨inlr6 _ (List.mem_of_getElem? (i := 10) rfl), good_of_word rfl⟩

set_option maxRecDepth 100000 in
theorem lg_6_11 : lgP (Cond.methodLink RX2 67 yX2_separate) := ⟨inlr6 _ (List.mem_of_getElem? (i := 11) rfl), good_of_word rfl⟩

set_option maxRecDepth 100000 in
theorem lg_6_12 : lgP (Cond.instanceMethod yX2_separate) := ⟨inlr6 _ (List.mem_of_getElem? (i := 12) rfl), good_of_word rfl⟩

set_option maxRecDepth 100000 in
theorem lg_6_13 : lgP (Cond.selects RX2 yX2_separate yX2_separate) := ⟨inlr6 _ (List.mem_of_getElem? (i := 13) rfl), good_of_word rfl⟩

set_option maxRecDepth 100000 in
theorem lg_6_14 : lgP (Cond.code yX2_separate cX2_separate 3 none) := ⟨inlr6 _ (List.mem_of_getElem? (i := 14) rfl), good_of_word rfl⟩

set_option maxRecDepth 100000 in
theorem lg_6_15 : lgP (Cond.methodLink RX2 64 yX2_mateOf) := ⟨inlr6 _ (List.mem_of_getElem? (i := 15) rfl), good_of_word rfl⟩

set_option maxRecDepth 100000 in
theorem lg_6_16 : lgP (Cond.instanceMethod yX2_mateOf) := ⟨inlr6 _ (List.mem_of_getElem? (i := 16) rfl), good_of_word rfl⟩

set_option maxRecDepth 100000 in
theorem lg_6_17 : lgP (Cond.selects RX2 yX2_mateOf yX2_mateOf) := ⟨inlr6 _ (List.mem_of_getElem? (i := 17) rfl), good_of_word rfl⟩

set_option maxRecDepth 100000 in
theorem lg_6_18 : lgP (Cond.code yX2_mateOf cX2_mateOf 2 (some .int)) := ⟨inlr6 _ (List.mem_of_getElem? (i := 18) rfl), good_of_word rfl⟩

set_option maxRecDepth 100000 in
theorem lg_6_19 : lgP (Cond.methodLink RX2 45 yX2_isThere) := ⟨inlr6 _ (List.mem_of_getElem? (i := 19) rfl), good_of_word rfl⟩

set_option maxRecDepth 100000 in
theorem lg_6_20 : lgP (Cond.instanceMethod yX2_isThere) := ⟨inlr6 _ (List.mem_of_getElem? (i := 20) rfl), good_of_word rfl⟩

set_option maxRecDepth 100000 in
theorem lg_6_21 : lgP (Cond.selects RX2 yX2_isThere yX2_isThere) := ⟨inlr6 _ (List.mem_of_getElem? (i := 21) rfl), good_of_word rfl⟩

set_option maxRecDepth 100000 in
theorem lg_6_22 : lgP (Cond.code yX2_isThere cX2_isThere 2 (some .boolean)) := ⟨inlr6 _ (List.mem_of_getElem? (i := 22) rfl), good_of_word rfl⟩

set_option maxRecDepth 100000 in
theorem lg_6_23 : lgP (Cond.methodLink RX10 76 yX2_heads) := ⟨inlr6 _ (List.mem_of_getElem? (i := 23) rfl), good_of_word rfl⟩

set_option maxRecDepth 100000 in
theorem lg_7_0 : lgP (Cond.instanceMethod yX2_heads) := ⟨inlr7 _ (List.mem_of_getElem? (i := 0) rfl), good_of_word rfl⟩

set_option maxRecDepth 100000 in
theorem lg_7_1 : lgP (Cond.selects RX2 yX2_heads yX2_heads) := ⟨inlr7 _ (List.mem_of_getElem? (i := 1) rfl), good_of_word rfl⟩

set_option maxRecDepth 100000 in
theorem lg_7_2 : lgP (Cond.code yX2_heads cX2_heads 1 (some .int)) := ⟨inlr7 _ (List.mem_of_getElem? (i := 2) rfl), good_of_word rfl⟩

set_option maxRecDepth 100000 in
theorem lg_7_3 : lgP (Cond.methodLink RX2 59 yJ6_bitCount_0f7a4) := ⟨inlr7 _ (List.mem_of_getElem? (i := 3) rfl), good_of_word rfl⟩

set_option maxRecDepth 100000 in
theorem lg_7_4 : lgP (Cond.static yJ6_bitCount_0f7a4) := ⟨inlr7 _ (List.mem_of_getElem? (i := 4) rfl), good_of_word rfl⟩

set_option maxRecDepth 100000 in
theorem lg_7_5 : lgP (Cond.initialized RJ6) := ⟨inlr7 _ (List.mem_of_getElem? (i := 5) rfl), good_of_word rfl⟩

set_option maxRecDepth 100000 in
theorem lg_7_6 : lgP (Cond.code yJ6_bitCount_0f7a4 cJ6_bitCount_0f7a4 1 (some .int)) := ⟨inlr7 _ (List.mem_of_getElem? (i := 6) rfl), good_of_word rfl⟩

set_option maxRecDepth 100000 in
theorem lg_7_7 : lgP (Cond.constant RJ6 265 (1431655765)) := ⟨inlr7 _ (List.mem_of_getElem? (i := 7) rfl), good_of_word rfl⟩

set_option maxRecDepth 100000 in
theorem lg_7_8 : lgP (Cond.constant RJ6 266 (858993459)) := ⟨inlr7 _ (List.mem_of_getElem? (i := 8) rfl), good_of_word rfl⟩

set_option maxRecDepth 100000 in
theorem lg_7_9 : lgP (Cond.constant RJ6 267 (252645135)) := ⟨inlr7 _ (List.mem_of_getElem? (i := 9) rfl), good_of_word rfl⟩

set_option maxRecDepth 100000 in
theorem lg_7_10 : lgP (Cond.methodLink RL 17 yX11_one) := ⟨inlr7 _ (List.mem_of_getElem? (i := 10) rfl), good_of_word rfl⟩

set_option maxRecDepth 100000 in
theorem lg_7_11 : lgP (Cond.instanceMethod yX11_one) := ⟨inlr7 _ (List.mem_of_getElem? (i := 11) rfl), good_of_word rfl⟩

set_option maxRecDepth 100000 in
theorem lg_7_12 : lgP (Cond.selects RX11 yX11_one yX11_one) := ⟨inlr7 _ (List.mem_of_getElem? (i := 12) rfl), good_of_word rfl⟩

set_option maxRecDepth 100000 in
theorem lg_7_13 : lgP (Cond.code yX11_one cX11_one 4 (some .int)) := ⟨inlr7 _ (List.mem_of_getElem? (i := 13) rfl), good_of_word rfl⟩

set_option maxRecDepth 100000 in
theorem lg_7_14 : lgP (Cond.fieldLink RX11 65 "HornCityModel" "there" "I") := ⟨inlr7 _ (List.mem_of_getElem? (i := 14) rfl), good_of_word rfl⟩

set_option maxRecDepth 100000 in
theorem lg_7_15 : lgP (Cond.methodLink RX11 61 yX11_in) := ⟨inlr7 _ (List.mem_of_getElem? (i := 15) rfl), good_of_word rfl⟩

set_option maxRecDepth 100000 in
theorem lg_7_16 : lgP (Cond.static yX11_in) := ⟨inlr7 _ (List.mem_of_getElem? (i := 16) rfl), good_of_word rfl⟩

set_option maxRecDepth 100000 in
theorem lg_7_17 : lgP (Cond.code yX11_in cX11_in 3 (some .boolean)) := ⟨inlr7 _ (List.mem_of_getElem? (i := 17) rfl), good_of_word rfl⟩

set_option maxRecDepth 100000 in
theorem lg_7_18 : lgP (Cond.methodLink RX11 73 yX11_isThere) := ⟨inlr7 _ (List.mem_of_getElem? (i := 18) rfl), good_of_word rfl⟩

set_option maxRecDepth 100000 in
theorem lg_7_19 : lgP (Cond.instanceMethod yX11_isThere) := ⟨inlr7 _ (List.mem_of_getElem? (i := 19) rfl), good_of_word rfl⟩

set_option maxRecDepth 100000 in
theorem lg_7_20 : lgP (Cond.selects RX11 yX11_isThere yX11_isThere) := ⟨inlr7 _ (List.mem_of_getElem? (i := 20) rfl), good_of_word rfl⟩

set_option maxRecDepth 100000 in
theorem lg_7_21 : lgP (Cond.code yX11_isThere cX11_isThere 2 (some .boolean)) := ⟨inlr7 _ (List.mem_of_getElem? (i := 21) rfl), good_of_word rfl⟩

set_option maxRecDepth 100000 in
theorem lg_7_22 : lgP (Cond.methodLink RX11 69 yX11_has) := ⟨inlr7 _ (List.mem_of_getElem? (i := 22) rfl), good_of_word rfl⟩

set_option maxRecDepth 100000 in
theorem lg_7_23 : lgP (Cond.static yX11_has) := ⟨inlr7 _ (List.mem_of_getElem? (i := 23) rfl), good_of_word rfl⟩

set_option maxRecDepth 100000 in
theorem lg_8_0 : lgP (Cond.code yX11_has cX11_has 2 (some .boolean)) := ⟨inlr8 _ (List.mem_of_getElem? (i := 0) rfl), good_of_word rfl⟩

set_option maxRecDepth 100000 in
theorem lg_8_1 : lgP (Cond.methodLink RX11 77 yX11_bits) := ⟨inlr8 _ (List.mem_of_getElem? (i := 1) rfl), good_of_word rfl⟩

set_option maxRecDepth 100000 in
theorem lg_8_2 : lgP (Cond.static yX11_bits) := ⟨inlr8 _ (List.mem_of_getElem? (i := 2) rfl), good_of_word rfl⟩

set_option maxRecDepth 100000 in
theorem lg_8_3 : lgP (Cond.code yX11_bits cX11_bits 3 (some .int)) := ⟨inlr8 _ (List.mem_of_getElem? (i := 3) rfl), good_of_word rfl⟩

set_option maxRecDepth 100000 in
theorem lg_8_4 : lgP (Cond.methodLink RL 18 yX10_pair) := ⟨inlr8 _ (List.mem_of_getElem? (i := 4) rfl), good_of_word rfl⟩

set_option maxRecDepth 100000 in
theorem lg_8_5 : lgP (Cond.instanceMethod yX10_pair) := ⟨inlr8 _ (List.mem_of_getElem? (i := 5) rfl), good_of_word rfl⟩

set_option maxRecDepth 100000 in
theorem lg_8_6 : lgP (Cond.selects RX10 yX10_pair yX10_pair) := ⟨inlr8 _ (List.mem_of_getElem? (i := 6) rfl), good_of_word rfl⟩

set_option maxRecDepth 100000 in
theorem lg_8_7 : lgP (Cond.code yX10_pair cX10_pair 4 (some .int)) := ⟨inlr8 _ (List.mem_of_getElem? (i := 7) rfl), good_of_word rfl⟩

set_option maxRecDepth 100000 in
theorem lg_8_8 : lgP (Cond.methodLink RX10 80 yX2_isThere) := ⟨inlr8 _ (List.mem_of_getElem? (i := 8) rfl), good_of_word rfl⟩

set_option maxRecDepth 100000 in
theorem lg_8_9 : lgP (Cond.methodLink RX10 84 yX2_mateOf) := ⟨inlr8 _ (List.mem_of_getElem? (i := 9) rfl), good_of_word rfl⟩

set_option maxRecDepth 100000 in
theorem lg_8_10 : lgP (Cond.methodLink RX10 88 yX2_seat) := ⟨inlr8 _ (List.mem_of_getElem? (i := 10) rfl), good_of_word rfl⟩

set_option maxRecDepth 100000 in
theorem lg_8_11 : lgP (Cond.instanceMethod yX2_seat) := ⟨inlr8 _ (List.mem_of_getElem? (i := 11) rfl), good_of_word rfl⟩

set_option maxRecDepth 100000 in
theorem lg_8_12 : lgP (Cond.selects RX2 yX2_seat yX2_seat) := ⟨inlr8 _ (List.mem_of_getElem? (i := 12) rfl), good_of_word rfl⟩

set_option maxRecDepth 100000 in
theorem lg_8_13 : lgP (Cond.code yX2_seat cX2_seat 3 none) := ⟨inlr8 _ (List.mem_of_getElem? (i := 13) rfl), good_of_word rfl⟩

set_option maxRecDepth 100000 in
theorem lg_8_14 : lgP (Cond.methodLink RX10 92 yX2_separate) := ⟨inlr8 _ (List.mem_of_getElem? (i := 14) rfl), good_of_word rfl⟩

set_option maxRecDepth 100000 in
theorem lg_8_15 : lgP (Cond.methodLink RX10 96 yX2_pairsSitting) := ⟨inlr8 _ (List.mem_of_getElem? (i := 15) rfl), good_of_word rfl⟩

set_option maxRecDepth 100000 in
theorem lg_8_16 : lgP (Cond.instanceMethod yX2_pairsSitting) := ⟨inlr8 _ (List.mem_of_getElem? (i := 16) rfl), good_of_word rfl⟩

set_option maxRecDepth 100000 in
theorem lg_8_17 : lgP (Cond.selects RX2 yX2_pairsSitting yX2_pairsSitting) := ⟨inlr8 _ (List.mem_of_getElem? (i := 17) rfl), good_of_word rfl⟩

set_option maxRecDepth 100000 in
theorem lg_8_18 : lgP (Cond.code yX2_pairsSitting cX2_pairsSitting 3 (some .int)) := ⟨inlr8 _ (List.mem_of_getElem? (i := 18) rfl), good_of_word rfl⟩

set_option maxRecDepth 100000 in
theorem lg_8_19 : lgP (Cond.methodLink RL 22 yX11_pair) := ⟨inlr8 _ (List.mem_of_getElem? (i := 19) rfl), good_of_word rfl⟩

set_option maxRecDepth 100000 in
theorem lg_8_20 : lgP (Cond.instanceMethod yX11_pair) := ⟨inlr8 _ (List.mem_of_getElem? (i := 20) rfl), good_of_word rfl⟩

set_option maxRecDepth 100000 in
theorem lg_8_21 : lgP (Cond.selects RX11 yX11_pair yX11_pair) := ⟨inlr8 _ (List.mem_of_getElem? (i := 21) rfl), good_of_word rfl⟩

set_option maxRecDepth 100000 in
theorem lg_8_22 : lgP (Cond.code yX11_pair cX11_pair 4 (some .int)) := ⟨inlr8 _ (List.mem_of_getElem? (i := 22) rfl), good_of_word rfl⟩

set_option maxRecDepth 100000 in
theorem lg_8_23 : lgP (Cond.methodLink RX11 80 yX11_asNow) := ⟨inlr8 _ (List.mem_of_getElem? (i := 23) rfl), good_of_word rfl⟩

set_option maxRecDepth 100000 in
theorem lg_9_0 : lgP (Cond.instanceMethod yX11_asNow) := ⟨inlr9 _ (List.mem_of_getElem? (i := 0) rfl), good_of_word rfl⟩

set_option maxRecDepth 100000 in
theorem lg_9_1 : lgP (Cond.selects RX11 yX11_asNow yX11_asNow) := ⟨inlr9 _ (List.mem_of_getElem? (i := 1) rfl), good_of_word rfl⟩

set_option maxRecDepth 100000 in
theorem lg_9_2 : lgP (Cond.code yX11_asNow cX11_asNow 2 none) := ⟨inlr9 _ (List.mem_of_getElem? (i := 2) rfl), good_of_word rfl⟩

set_option maxRecDepth 100000 in
theorem lg_9_3 : lgP (Cond.fieldLink RX11 93 "HornCityModel" "wrongAt" "I") := ⟨inlr9 _ (List.mem_of_getElem? (i := 3) rfl), good_of_word rfl⟩

set_option maxRecDepth 100000 in
theorem lg_9_4 : lgP (Cond.fieldLink RX11 96 "HornCityModel" "wrongWho" "I") := ⟨inlr9 _ (List.mem_of_getElem? (i := 4) rfl), good_of_word rfl⟩

set_option maxRecDepth 100000 in
theorem lg_9_5 : lgP (Cond.methodLink RX11 83 yX11_pairsOf) := ⟨inlr9 _ (List.mem_of_getElem? (i := 5) rfl), good_of_word rfl⟩

set_option maxRecDepth 100000 in
theorem lg_9_6 : lgP (Cond.instanceMethod yX11_pairsOf) := ⟨inlr9 _ (List.mem_of_getElem? (i := 6) rfl), good_of_word rfl⟩

set_option maxRecDepth 100000 in
theorem lg_9_7 : lgP (Cond.selects RX11 yX11_pairsOf yX11_pairsOf) := ⟨inlr9 _ (List.mem_of_getElem? (i := 7) rfl), good_of_word rfl⟩

set_option maxRecDepth 100000 in
theorem lg_9_8 : lgP (Cond.code yX11_pairsOf cX11_pairsOf 3 (some .int)) := ⟨inlr9 _ (List.mem_of_getElem? (i := 8) rfl), good_of_word rfl⟩

set_option maxRecDepth 100000 in
theorem lg_9_9 : lgP (Cond.methodLink RL 23 yX10_horn) := ⟨inlr9 _ (List.mem_of_getElem? (i := 9) rfl), good_of_word rfl⟩

set_option maxRecDepth 100000 in
theorem lg_9_10 : lgP (Cond.instanceMethod yX10_horn) := ⟨inlr9 _ (List.mem_of_getElem? (i := 10) rfl), good_of_word rfl⟩

set_option maxRecDepth 100000 in
theorem lg_9_11 : lgP (Cond.selects RX10 yX10_horn yX10_horn) := ⟨inlr9 _ (List.mem_of_getElem? (i := 11) rfl), good_of_word rfl⟩

set_option maxRecDepth 100000 in
theorem lg_9_12 : lgP (Cond.code yX10_horn cX10_horn 3 (some .int)) := ⟨inlr9 _ (List.mem_of_getElem? (i := 12) rfl), good_of_word rfl⟩

set_option maxRecDepth 100000 in
theorem lg_9_13 : lgP (Cond.fieldLink RX10 99 "HornCity$City" "tooMuch" "I") := ⟨inlr9 _ (List.mem_of_getElem? (i := 13) rfl), good_of_word rfl⟩

set_option maxRecDepth 100000 in
theorem lg_9_14 : lgP (Cond.methodLink RL 27 yX11_horn) := ⟨inlr9 _ (List.mem_of_getElem? (i := 14) rfl), good_of_word rfl⟩

set_option maxRecDepth 100000 in
theorem lg_9_15 : lgP (Cond.instanceMethod yX11_horn) := ⟨inlr9 _ (List.mem_of_getElem? (i := 15) rfl), good_of_word rfl⟩

set_option maxRecDepth 100000 in
theorem lg_9_16 : lgP (Cond.selects RX11 yX11_horn yX11_horn) := ⟨inlr9 _ (List.mem_of_getElem? (i := 16) rfl), good_of_word rfl⟩

set_option maxRecDepth 100000 in
theorem lg_9_17 : lgP (Cond.code yX11_horn cX11_horn 3 (some .int)) := ⟨inlr9 _ (List.mem_of_getElem? (i := 17) rfl), good_of_word rfl⟩

set_option maxRecDepth 100000 in
theorem lg_9_18 : lgP (Cond.methodLink RL 28 yX10_say) := ⟨inlr9 _ (List.mem_of_getElem? (i := 18) rfl), good_of_word rfl⟩

set_option maxRecDepth 100000 in
theorem lg_9_19 : lgP (Cond.instanceMethod yX10_say) := ⟨inlr9 _ (List.mem_of_getElem? (i := 19) rfl), good_of_word rfl⟩

set_option maxRecDepth 100000 in
theorem lg_9_20 : lgP (Cond.selects RX10 yX10_say yX10_say) := ⟨inlr9 _ (List.mem_of_getElem? (i := 20) rfl), good_of_word rfl⟩

set_option maxRecDepth 100000 in
theorem lg_9_21 : lgP (Cond.code yX10_say cX10_say 2 (some .int)) := ⟨inlr9 _ (List.mem_of_getElem? (i := 21) rfl), good_of_word rfl⟩

set_option maxRecDepth 100000 in
theorem lg_9_22 : lgP (Cond.fieldLink RX10 106 "HornCity$Pad" "length" "I") := ⟨inlr9 _ (List.mem_of_getElem? (i := 22) rfl), good_of_word rfl⟩

set_option maxRecDepth 100000 in
theorem lg_9_23 : lgP (Cond.methodLink RX10 103 yX4_write) := ⟨inlr9 _ (List.mem_of_getElem? (i := 23) rfl), good_of_word rfl⟩

set_option maxRecDepth 100000 in
theorem lg_10_0 : lgP (Cond.instanceMethod yX4_write) := ⟨inlr10 _ (List.mem_of_getElem? (i := 0) rfl), good_of_word rfl⟩

set_option maxRecDepth 100000 in
theorem lg_10_1 : lgP (Cond.selects RX4 yX4_write yX4_write) := ⟨inlr10 _ (List.mem_of_getElem? (i := 1) rfl), good_of_word rfl⟩

set_option maxRecDepth 100000 in
theorem lg_10_2 : lgP (Cond.code yX4_write cX4_write 2 (some .boolean)) := ⟨inlr10 _ (List.mem_of_getElem? (i := 2) rfl), good_of_word rfl⟩

set_option maxRecDepth 100000 in
theorem lg_10_3 : lgP (Cond.fieldLink RX4 15 "HornCity$Pad" "length" "I") := ⟨inlr10 _ (List.mem_of_getElem? (i := 3) rfl), good_of_word rfl⟩

set_option maxRecDepth 100000 in
theorem lg_10_4 : lgP (Cond.methodLink RL 31 yX11_say) := ⟨inlr10 _ (List.mem_of_getElem? (i := 4) rfl), good_of_word rfl⟩

set_option maxRecDepth 100000 in
theorem lg_10_5 : lgP (Cond.instanceMethod yX11_say) := ⟨inlr10 _ (List.mem_of_getElem? (i := 5) rfl), good_of_word rfl⟩

set_option maxRecDepth 100000 in
theorem lg_10_6 : lgP (Cond.selects RX11 yX11_say yX11_say) := ⟨inlr10 _ (List.mem_of_getElem? (i := 6) rfl), good_of_word rfl⟩

set_option maxRecDepth 100000 in
theorem lg_10_7 : lgP (Cond.code yX11_say cX11_say 2 (some .int)) := ⟨inlr10 _ (List.mem_of_getElem? (i := 7) rfl), good_of_word rfl⟩

set_option maxRecDepth 100000 in
theorem lg_10_8 : lgP (Cond.fieldLink RX11 87 "HornCityModel" "signs" "I") := ⟨inlr10 _ (List.mem_of_getElem? (i := 8) rfl), good_of_word rfl⟩

set_option maxRecDepth 100000 in
theorem lg_10_9 : lgP (Cond.methodLink RL 32 yX10_wipe) := ⟨inlr10 _ (List.mem_of_getElem? (i := 9) rfl), good_of_word rfl⟩

set_option maxRecDepth 100000 in
theorem lg_10_10 : lgP (Cond.instanceMethod yX10_wipe) := ⟨inlr10 _ (List.mem_of_getElem? (i := 10) rfl), good_of_word rfl⟩

set_option maxRecDepth 100000 in
theorem lg_10_11 : lgP (Cond.selects RX10 yX10_wipe yX10_wipe) := ⟨inlr10 _ (List.mem_of_getElem? (i := 11) rfl), good_of_word rfl⟩

set_option maxRecDepth 100000 in
theorem lg_10_12 : lgP (Cond.code yX10_wipe cX10_wipe 2 (some .int)) := ⟨inlr10 _ (List.mem_of_getElem? (i := 12) rfl), good_of_word rfl⟩

set_option maxRecDepth 100000 in
theorem lg_10_13 : lgP (Cond.methodLink RL 36 yX11_wipe) := ⟨inlr10 _ (List.mem_of_getElem? (i := 13) rfl), good_of_word rfl⟩

set_option maxRecDepth 100000 in
theorem lg_10_14 : lgP (Cond.instanceMethod yX11_wipe) := ⟨inlr10 _ (List.mem_of_getElem? (i := 14) rfl), good_of_word rfl⟩

set_option maxRecDepth 100000 in
theorem lg_10_15 : lgP (Cond.selects RX11 yX11_wipe yX11_wipe) := ⟨inlr10 _ (List.mem_of_getElem? (i := 15) rfl), good_of_word rfl⟩

set_option maxRecDepth 100000 in
theorem lg_10_16 : lgP (Cond.code yX11_wipe cX11_wipe 2 (some .int)) := ⟨inlr10 _ (List.mem_of_getElem? (i := 16) rfl), good_of_word rfl⟩

set_option maxRecDepth 100000 in
theorem lg_10_17 : lgP (Cond.methodLink RL 37 yX10_fault) := ⟨inlr10 _ (List.mem_of_getElem? (i := 17) rfl), good_of_word rfl⟩

set_option maxRecDepth 100000 in
theorem lg_10_18 : lgP (Cond.instanceMethod yX10_fault) := ⟨inlr10 _ (List.mem_of_getElem? (i := 18) rfl), good_of_word rfl⟩

set_option maxRecDepth 100000 in
theorem lg_10_19 : lgP (Cond.selects RX10 yX10_fault yX10_fault) := ⟨inlr10 _ (List.mem_of_getElem? (i := 19) rfl), good_of_word rfl⟩

set_option maxRecDepth 100000 in
theorem lg_10_20 : lgP (Cond.code yX10_fault cX10_fault 1 (some .int)) := ⟨inlr10 _ (List.mem_of_getElem? (i := 20) rfl), good_of_word rfl⟩

set_option maxRecDepth 100000 in
theorem lg_10_21 : lgP (Cond.methodLink RX10 109 yX4_faultPlace) := ⟨inlr10 _ (List.mem_of_getElem? (i := 21) rfl), good_of_word rfl⟩

set_option maxRecDepth 100000 in
theorem lg_10_22 : lgP (Cond.instanceMethod yX4_faultPlace) := ⟨inlr10 _ (List.mem_of_getElem? (i := 22) rfl), good_of_word rfl⟩

set_option maxRecDepth 100000 in
theorem lg_10_23 : lgP (Cond.selects RX4 yX4_faultPlace yX4_faultPlace) := ⟨inlr10 _ (List.mem_of_getElem? (i := 23) rfl), good_of_word rfl⟩

set_option maxRecDepth 100000 in
theorem lg_11_0 : lgP (Cond.code yX4_faultPlace cX4_faultPlace 4 (some .int)) := ⟨inlr11 _ (List.mem_of_getElem? (i := 0) rfl), good_of_word rfl⟩

set_option maxRecDepth 100000 in
theorem lg_11_1 : lgP (Cond.methodLink RX4 19 yX4_faultOfAct) := ⟨inlr11 _ (List.mem_of_getElem? (i := 1) rfl), good_of_word rfl⟩

set_option maxRecDepth 100000 in
theorem lg_11_2 : lgP (Cond.instanceMethod yX4_faultOfAct) := ⟨inlr11 _ (List.mem_of_getElem? (i := 2) rfl), good_of_word rfl⟩

set_option maxRecDepth 100000 in
theorem lg_11_3 : lgP (Cond.selects RX4 yX4_faultOfAct yX4_faultOfAct) := ⟨inlr11 _ (List.mem_of_getElem? (i := 3) rfl), good_of_word rfl⟩

set_option maxRecDepth 100000 in
theorem lg_11_4 : lgP (Cond.code yX4_faultOfAct cX4_faultOfAct 3 (some .int)) := ⟨inlr11 _ (List.mem_of_getElem? (i := 4) rfl), good_of_word rfl⟩

set_option maxRecDepth 100000 in
theorem lg_11_5 : lgP (Cond.methodLink RX4 26 yX4_signAt) := ⟨inlr11 _ (List.mem_of_getElem? (i := 5) rfl), good_of_word rfl⟩

set_option maxRecDepth 100000 in
theorem lg_11_6 : lgP (Cond.instanceMethod yX4_signAt) := ⟨inlr11 _ (List.mem_of_getElem? (i := 6) rfl), good_of_word rfl⟩

set_option maxRecDepth 100000 in
theorem lg_11_7 : lgP (Cond.selects RX4 yX4_signAt yX4_signAt) := ⟨inlr11 _ (List.mem_of_getElem? (i := 7) rfl), good_of_word rfl⟩

set_option maxRecDepth 100000 in
theorem lg_11_8 : lgP (Cond.code yX4_signAt cX4_signAt 2 (some .int)) := ⟨inlr11 _ (List.mem_of_getElem? (i := 8) rfl), good_of_word rfl⟩

set_option maxRecDepth 100000 in
theorem lg_11_9 : lgP (Cond.methodLink RX4 32 yX4_isLetter) := ⟨inlr11 _ (List.mem_of_getElem? (i := 9) rfl), good_of_word rfl⟩

set_option maxRecDepth 100000 in
theorem lg_11_10 : lgP (Cond.static yX4_isLetter) := ⟨inlr11 _ (List.mem_of_getElem? (i := 10) rfl), good_of_word rfl⟩

set_option maxRecDepth 100000 in
theorem lg_11_11 : lgP (Cond.code yX4_isLetter cX4_isLetter 1 (some .boolean)) := ⟨inlr11 _ (List.mem_of_getElem? (i := 11) rfl), good_of_word rfl⟩

set_option maxRecDepth 100000 in
theorem lg_11_12 : lgP (Cond.methodLink RX4 36 yX4_isKind) := ⟨inlr11 _ (List.mem_of_getElem? (i := 12) rfl), good_of_word rfl⟩

set_option maxRecDepth 100000 in
theorem lg_11_13 : lgP (Cond.static yX4_isKind) := ⟨inlr11 _ (List.mem_of_getElem? (i := 13) rfl), good_of_word rfl⟩

set_option maxRecDepth 100000 in
theorem lg_11_14 : lgP (Cond.code yX4_isKind cX4_isKind 1 (some .boolean)) := ⟨inlr11 _ (List.mem_of_getElem? (i := 14) rfl), good_of_word rfl⟩

set_option maxRecDepth 100000 in
theorem lg_11_15 : lgP (Cond.methodLink RX4 23 yX4_lengthOfAct) := ⟨inlr11 _ (List.mem_of_getElem? (i := 15) rfl), good_of_word rfl⟩

set_option maxRecDepth 100000 in
theorem lg_11_16 : lgP (Cond.instanceMethod yX4_lengthOfAct) := ⟨inlr11 _ (List.mem_of_getElem? (i := 16) rfl), good_of_word rfl⟩

set_option maxRecDepth 100000 in
theorem lg_11_17 : lgP (Cond.selects RX4 yX4_lengthOfAct yX4_lengthOfAct) := ⟨inlr11 _ (List.mem_of_getElem? (i := 17) rfl), good_of_word rfl⟩

set_option maxRecDepth 100000 in
theorem lg_11_18 : lgP (Cond.code yX4_lengthOfAct cX4_lengthOfAct 2 (some .int)) := ⟨inlr11 _ (List.mem_of_getElem? (i := 18) rfl), good_of_word rfl⟩

set_option maxRecDepth 100000 in
theorem lg_11_19 : lgP (Cond.methodLink RX4 29 yX4_kindAt) := ⟨inlr11 _ (List.mem_of_getElem? (i := 19) rfl), good_of_word rfl⟩

set_option maxRecDepth 100000 in
theorem lg_11_20 : lgP (Cond.instanceMethod yX4_kindAt) := ⟨inlr11 _ (List.mem_of_getElem? (i := 20) rfl), good_of_word rfl⟩

set_option maxRecDepth 100000 in
theorem lg_11_21 : lgP (Cond.selects RX4 yX4_kindAt yX4_kindAt) := ⟨inlr11 _ (List.mem_of_getElem? (i := 21) rfl), good_of_word rfl⟩

set_option maxRecDepth 100000 in
theorem lg_11_22 : lgP (Cond.code yX4_kindAt cX4_kindAt 2 (some .int)) := ⟨inlr11 _ (List.mem_of_getElem? (i := 22) rfl), good_of_word rfl⟩

set_option maxRecDepth 100000 in
theorem lg_11_23 : lgP (Cond.methodLink RX4 39 yX4_faultOfEnd) := ⟨inlr11 _ (List.mem_of_getElem? (i := 23) rfl), good_of_word rfl⟩

set_option maxRecDepth 100000 in
theorem lg_12_0 : lgP (Cond.instanceMethod yX4_faultOfEnd) := ⟨inlr12 _ (List.mem_of_getElem? (i := 0) rfl), good_of_word rfl⟩

set_option maxRecDepth 100000 in
theorem lg_12_1 : lgP (Cond.selects RX4 yX4_faultOfEnd yX4_faultOfEnd) := ⟨inlr12 _ (List.mem_of_getElem? (i := 1) rfl), good_of_word rfl⟩

set_option maxRecDepth 100000 in
theorem lg_12_2 : lgP (Cond.code yX4_faultOfEnd cX4_faultOfEnd 4 (some .int)) := ⟨inlr12 _ (List.mem_of_getElem? (i := 2) rfl), good_of_word rfl⟩

set_option maxRecDepth 100000 in
theorem lg_12_3 : lgP (Cond.methodLink RL 40 yX11_fault) := ⟨inlr12 _ (List.mem_of_getElem? (i := 3) rfl), good_of_word rfl⟩

set_option maxRecDepth 100000 in
theorem lg_12_4 : lgP (Cond.instanceMethod yX11_fault) := ⟨inlr12 _ (List.mem_of_getElem? (i := 4) rfl), good_of_word rfl⟩

set_option maxRecDepth 100000 in
theorem lg_12_5 : lgP (Cond.selects RX11 yX11_fault yX11_fault) := ⟨inlr12 _ (List.mem_of_getElem? (i := 5) rfl), good_of_word rfl⟩

set_option maxRecDepth 100000 in
theorem lg_12_6 : lgP (Cond.code yX11_fault cX11_fault 1 (some .int)) := ⟨inlr12 _ (List.mem_of_getElem? (i := 6) rfl), good_of_word rfl⟩

set_option maxRecDepth 100000 in
theorem lg_12_7 : lgP (Cond.methodLink RX11 90 yX11_faultOf) := ⟨inlr12 _ (List.mem_of_getElem? (i := 7) rfl), good_of_word rfl⟩

set_option maxRecDepth 100000 in
theorem lg_12_8 : lgP (Cond.instanceMethod yX11_faultOf) := ⟨inlr12 _ (List.mem_of_getElem? (i := 8) rfl), good_of_word rfl⟩

set_option maxRecDepth 100000 in
theorem lg_12_9 : lgP (Cond.selects RX11 yX11_faultOf yX11_faultOf) := ⟨inlr12 _ (List.mem_of_getElem? (i := 9) rfl), good_of_word rfl⟩

set_option maxRecDepth 100000 in
theorem lg_12_10 : lgP (Cond.code yX11_faultOf cX11_faultOf 7 (some .int)) := ⟨inlr12 _ (List.mem_of_getElem? (i := 10) rfl), good_of_word rfl⟩

set_option maxRecDepth 100000 in
theorem lg_12_11 : lgP (Cond.methodLink RL 41 yX10_judge) := ⟨inlr12 _ (List.mem_of_getElem? (i := 11) rfl), good_of_word rfl⟩

set_option maxRecDepth 100000 in
theorem lg_12_12 : lgP (Cond.instanceMethod yX10_judge) := ⟨inlr12 _ (List.mem_of_getElem? (i := 12) rfl), good_of_word rfl⟩

set_option maxRecDepth 100000 in
theorem lg_12_13 : lgP (Cond.selects RX10 yX10_judge yX10_judge) := ⟨inlr12 _ (List.mem_of_getElem? (i := 13) rfl), good_of_word rfl⟩

set_option maxRecDepth 100000 in
theorem lg_12_14 : lgP (Cond.code yX10_judge cX10_judge 2 (some .int)) := ⟨inlr12 _ (List.mem_of_getElem? (i := 14) rfl), good_of_word rfl⟩

set_option maxRecDepth 100000 in
theorem lg_12_15 : lgP (Cond.fieldLink RX10 116 "HornCity$Years" "why" "I") := ⟨inlr12 _ (List.mem_of_getElem? (i := 15) rfl), good_of_word rfl⟩

set_option maxRecDepth 100000 in
theorem lg_12_16 : lgP (Cond.fieldLink RX10 119 "HornCity$Years" "acts" "I") := ⟨inlr12 _ (List.mem_of_getElem? (i := 16) rfl), good_of_word rfl⟩

set_option maxRecDepth 100000 in
theorem lg_12_17 : lgP (Cond.methodLink RX10 112 yX9_tell) := ⟨inlr12 _ (List.mem_of_getElem? (i := 17) rfl), good_of_word rfl⟩

set_option maxRecDepth 100000 in
theorem lg_12_18 : lgP (Cond.instanceMethod yX9_tell) := ⟨inlr12 _ (List.mem_of_getElem? (i := 18) rfl), good_of_word rfl⟩

set_option maxRecDepth 100000 in
theorem lg_12_19 : lgP (Cond.selects RX9 yX9_tell yX9_tell) := ⟨inlr12 _ (List.mem_of_getElem? (i := 19) rfl), good_of_word rfl⟩

set_option maxRecDepth 100000 in
theorem lg_12_20 : lgP (Cond.code yX9_tell cX9_tell 8 none) := ⟨inlr12 _ (List.mem_of_getElem? (i := 20) rfl), good_of_word rfl⟩

set_option maxRecDepth 100000 in
theorem lg_12_21 : lgP (Cond.fieldLink RX9 26 "HornCity$Pad" "length" "I") := ⟨inlr12 _ (List.mem_of_getElem? (i := 21) rfl), good_of_word rfl⟩

set_option maxRecDepth 100000 in
theorem lg_12_22 : lgP (Cond.fieldLink RX9 46 "HornCity$Years" "why" "I") := ⟨inlr12 _ (List.mem_of_getElem? (i := 22) rfl), good_of_word rfl⟩

set_option maxRecDepth 100000 in
theorem lg_12_23 : lgP (Cond.fieldLink RX9 57 "HornCity$Years" "acts" "I") := ⟨inlr12 _ (List.mem_of_getElem? (i := 23) rfl), good_of_word rfl⟩

set_option maxRecDepth 100000 in
theorem lg_13_0 : lgP (Cond.methodLink RX9 22 yX9_begin) := ⟨inlr13 _ (List.mem_of_getElem? (i := 0) rfl), good_of_word rfl⟩

set_option maxRecDepth 100000 in
theorem lg_13_1 : lgP (Cond.instanceMethod yX9_begin) := ⟨inlr13 _ (List.mem_of_getElem? (i := 1) rfl), good_of_word rfl⟩

set_option maxRecDepth 100000 in
theorem lg_13_2 : lgP (Cond.selects RX9 yX9_begin yX9_begin) := ⟨inlr13 _ (List.mem_of_getElem? (i := 2) rfl), good_of_word rfl⟩

set_option maxRecDepth 100000 in
theorem lg_13_3 : lgP (Cond.code yX9_begin cX9_begin 3 none) := ⟨inlr13 _ (List.mem_of_getElem? (i := 3) rfl), good_of_word rfl⟩

set_option maxRecDepth 100000 in
theorem lg_13_4 : lgP (Cond.fieldLink RX9 70 "HornCity$Years" "wrongAct" "I") := ⟨inlr13 _ (List.mem_of_getElem? (i := 4) rfl), good_of_word rfl⟩

set_option maxRecDepth 100000 in
theorem lg_13_5 : lgP (Cond.fieldLink RX9 73 "HornCity$Years" "wrongOne" "I") := ⟨inlr13 _ (List.mem_of_getElem? (i := 5) rfl), good_of_word rfl⟩

set_option maxRecDepth 100000 in
theorem lg_13_6 : lgP (Cond.methodLink RX9 67 yX2_become) := ⟨inlr13 _ (List.mem_of_getElem? (i := 6) rfl), good_of_word rfl⟩

set_option maxRecDepth 100000 in
theorem lg_13_7 : lgP (Cond.instanceMethod yX2_become) := ⟨inlr13 _ (List.mem_of_getElem? (i := 7) rfl), good_of_word rfl⟩

set_option maxRecDepth 100000 in
theorem lg_13_8 : lgP (Cond.selects RX2 yX2_become yX2_become) := ⟨inlr13 _ (List.mem_of_getElem? (i := 8) rfl), good_of_word rfl⟩

set_option maxRecDepth 100000 in
theorem lg_13_9 : lgP (Cond.code yX2_become cX2_become 3 none) := ⟨inlr13 _ (List.mem_of_getElem? (i := 9) rfl), good_of_word rfl⟩

set_option maxRecDepth 100000 in
theorem lg_13_10 : lgP (Cond.fieldLink RX2 39 "HornCity$City" "tooMuch" "I") := ⟨inlr13 _ (List.mem_of_getElem? (i := 10) rfl), good_of_word rfl⟩

set_option maxRecDepth 100000 in
theorem lg_13_11 : lgP (Cond.fieldLink RX2 42 "HornCity$City" "year" "I") := ⟨inlr13 _ (List.mem_of_getElem? (i := 11) rfl), good_of_word rfl⟩

set_option maxRecDepth 100000 in
theorem lg_13_12 : lgP (Cond.methodLink RX2 31 yX1_become) := ⟨inlr13 _ (List.mem_of_getElem? (i := 12) rfl), good_of_word rfl⟩

set_option maxRecDepth 100000 in
theorem lg_13_13 : lgP (Cond.instanceMethod yX1_become) := ⟨inlr13 _ (List.mem_of_getElem? (i := 13) rfl), good_of_word rfl⟩

set_option maxRecDepth 100000 in
theorem lg_13_14 : lgP (Cond.selects RX1 yX1_become yX1_become) := ⟨inlr13 _ (List.mem_of_getElem? (i := 14) rfl), good_of_word rfl⟩

set_option maxRecDepth 100000 in
theorem lg_13_15 : lgP (Cond.code yX1_become cX1_become 3 none) := ⟨inlr13 _ (List.mem_of_getElem? (i := 15) rfl), good_of_word rfl⟩

set_option maxRecDepth 100000 in
theorem lg_13_16 : lgP (Cond.fieldLink RX1 18 "HornCity$Chalks" "count" "I") := ⟨inlr13 _ (List.mem_of_getElem? (i := 16) rfl), good_of_word rfl⟩

set_option maxRecDepth 100000 in
theorem lg_13_17 : lgP (Cond.methodLink RX9 32 yX4_kindAt) := ⟨inlr13 _ (List.mem_of_getElem? (i := 17) rfl), good_of_word rfl⟩

set_option maxRecDepth 100000 in
theorem lg_13_18 : lgP (Cond.methodLink RX9 36 yX4_oneAt) := ⟨inlr13 _ (List.mem_of_getElem? (i := 18) rfl), good_of_word rfl⟩

set_option maxRecDepth 100000 in
theorem lg_13_19 : lgP (Cond.instanceMethod yX4_oneAt) := ⟨inlr13 _ (List.mem_of_getElem? (i := 19) rfl), good_of_word rfl⟩

set_option maxRecDepth 100000 in
theorem lg_13_20 : lgP (Cond.selects RX4 yX4_oneAt yX4_oneAt) := ⟨inlr13 _ (List.mem_of_getElem? (i := 20) rfl), good_of_word rfl⟩

set_option maxRecDepth 100000 in
theorem lg_13_21 : lgP (Cond.code yX4_oneAt cX4_oneAt 2 (some .int)) := ⟨inlr13 _ (List.mem_of_getElem? (i := 21) rfl), good_of_word rfl⟩

set_option maxRecDepth 100000 in
theorem lg_13_22 : lgP (Cond.methodLink RX9 39 yX4_withAt) := ⟨inlr13 _ (List.mem_of_getElem? (i := 22) rfl), good_of_word rfl⟩

set_option maxRecDepth 100000 in
theorem lg_13_23 : lgP (Cond.instanceMethod yX4_withAt) := ⟨inlr13 _ (List.mem_of_getElem? (i := 23) rfl), good_of_word rfl⟩

set_option maxRecDepth 100000 in
theorem lg_14_0 : lgP (Cond.selects RX4 yX4_withAt yX4_withAt) := ⟨inlr14 _ (List.mem_of_getElem? (i := 0) rfl), good_of_word rfl⟩

set_option maxRecDepth 100000 in
theorem lg_14_1 : lgP (Cond.code yX4_withAt cX4_withAt 2 (some .int)) := ⟨inlr14 _ (List.mem_of_getElem? (i := 1) rfl), good_of_word rfl⟩

set_option maxRecDepth 100000 in
theorem lg_14_2 : lgP (Cond.methodLink RX9 42 yX2_whyNot) := ⟨inlr14 _ (List.mem_of_getElem? (i := 2) rfl), good_of_word rfl⟩

set_option maxRecDepth 100000 in
theorem lg_14_3 : lgP (Cond.instanceMethod yX2_whyNot) := ⟨inlr14 _ (List.mem_of_getElem? (i := 3) rfl), good_of_word rfl⟩

set_option maxRecDepth 100000 in
theorem lg_14_4 : lgP (Cond.selects RX2 yX2_whyNot yX2_whyNot) := ⟨inlr14 _ (List.mem_of_getElem? (i := 4) rfl), good_of_word rfl⟩

set_option maxRecDepth 100000 in
theorem lg_14_5 : lgP (Cond.code yX2_whyNot cX2_whyNot 4 (some .int)) := ⟨inlr14 _ (List.mem_of_getElem? (i := 5) rfl), good_of_word rfl⟩

set_option maxRecDepth 100000 in
theorem lg_14_6 : lgP (Cond.methodLink RX9 49 yX9_putChalk) := ⟨inlr14 _ (List.mem_of_getElem? (i := 6) rfl), good_of_word rfl⟩

set_option maxRecDepth 100000 in
theorem lg_14_7 : lgP (Cond.instanceMethod yX9_putChalk) := ⟨inlr14 _ (List.mem_of_getElem? (i := 7) rfl), good_of_word rfl⟩

set_option maxRecDepth 100000 in
theorem lg_14_8 : lgP (Cond.selects RX9 yX9_putChalk yX9_putChalk) := ⟨inlr14 _ (List.mem_of_getElem? (i := 8) rfl), good_of_word rfl⟩

set_option maxRecDepth 100000 in
theorem lg_14_9 : lgP (Cond.code yX9_putChalk cX9_putChalk 4 none) := ⟨inlr14 _ (List.mem_of_getElem? (i := 9) rfl), good_of_word rfl⟩

set_option maxRecDepth 100000 in
theorem lg_14_10 : lgP (Cond.methodLink RX9 76 yX2_chalkFor) := ⟨inlr14 _ (List.mem_of_getElem? (i := 10) rfl), good_of_word rfl⟩

set_option maxRecDepth 100000 in
theorem lg_14_11 : lgP (Cond.instanceMethod yX2_chalkFor) := ⟨inlr14 _ (List.mem_of_getElem? (i := 11) rfl), good_of_word rfl⟩

set_option maxRecDepth 100000 in
theorem lg_14_12 : lgP (Cond.selects RX2 yX2_chalkFor yX2_chalkFor) := ⟨inlr14 _ (List.mem_of_getElem? (i := 12) rfl), good_of_word rfl⟩

set_option maxRecDepth 100000 in
theorem lg_14_13 : lgP (Cond.code yX2_chalkFor cX2_chalkFor 2 (some .int)) := ⟨inlr14 _ (List.mem_of_getElem? (i := 13) rfl), good_of_word rfl⟩

set_option maxRecDepth 100000 in
theorem lg_14_14 : lgP (Cond.methodLink RX2 49 yX2_inclineOf) := ⟨inlr14 _ (List.mem_of_getElem? (i := 14) rfl), good_of_word rfl⟩

set_option maxRecDepth 100000 in
theorem lg_14_15 : lgP (Cond.instanceMethod yX2_inclineOf) := ⟨inlr14 _ (List.mem_of_getElem? (i := 15) rfl), good_of_word rfl⟩

set_option maxRecDepth 100000 in
theorem lg_14_16 : lgP (Cond.selects RX2 yX2_inclineOf yX2_inclineOf) := ⟨inlr14 _ (List.mem_of_getElem? (i := 16) rfl), good_of_word rfl⟩

set_option maxRecDepth 100000 in
theorem lg_14_17 : lgP (Cond.code yX2_inclineOf cX2_inclineOf 2 (some .int)) := ⟨inlr14 _ (List.mem_of_getElem? (i := 17) rfl), good_of_word rfl⟩

set_option maxRecDepth 100000 in
theorem lg_14_18 : lgP (Cond.methodLink RX2 81 yX5_leftOver) := ⟨inlr14 _ (List.mem_of_getElem? (i := 18) rfl), good_of_word rfl⟩

set_option maxRecDepth 100000 in
theorem lg_14_19 : lgP (Cond.static yX5_leftOver) := ⟨inlr14 _ (List.mem_of_getElem? (i := 19) rfl), good_of_word rfl⟩

set_option maxRecDepth 100000 in
theorem lg_14_20 : lgP (Cond.initialized RX5) := ⟨inlr14 _ (List.mem_of_getElem? (i := 20) rfl), good_of_word rfl⟩

set_option maxRecDepth 100000 in
theorem lg_14_21 : lgP (Cond.code yX5_leftOver cX5_leftOver 2 (some .int)) := ⟨inlr14 _ (List.mem_of_getElem? (i := 21) rfl), good_of_word rfl⟩

set_option maxRecDepth 100000 in
theorem lg_14_22 : lgP (Cond.methodLink RX9 79 yX5_leftOver) := ⟨inlr14 _ (List.mem_of_getElem? (i := 22) rfl), good_of_word rfl⟩

set_option maxRecDepth 100000 in
theorem lg_14_23 : lgP (Cond.methodLink RX9 84 yX2_inclineOf) := ⟨inlr14 _ (List.mem_of_getElem? (i := 23) rfl), good_of_word rfl⟩

set_option maxRecDepth 100000 in
theorem lg_15_0 : lgP (Cond.methodLink RX9 53 yX2_act) := ⟨inlr15 _ (List.mem_of_getElem? (i := 0) rfl), good_of_word rfl⟩

set_option maxRecDepth 100000 in
theorem lg_15_1 : lgP (Cond.instanceMethod yX2_act) := ⟨inlr15 _ (List.mem_of_getElem? (i := 1) rfl), good_of_word rfl⟩

set_option maxRecDepth 100000 in
theorem lg_15_2 : lgP (Cond.selects RX2 yX2_act yX2_act) := ⟨inlr15 _ (List.mem_of_getElem? (i := 2) rfl), good_of_word rfl⟩

set_option maxRecDepth 100000 in
theorem lg_15_3 : lgP (Cond.code yX2_act cX2_act 4 none) := ⟨inlr15 _ (List.mem_of_getElem? (i := 3) rfl), good_of_word rfl⟩

set_option maxRecDepth 100000 in
theorem lg_15_4 : lgP (Cond.methodLink RX2 71 yX2_turnBy) := ⟨inlr15 _ (List.mem_of_getElem? (i := 4) rfl), good_of_word rfl⟩

set_option maxRecDepth 100000 in
theorem lg_15_5 : lgP (Cond.instanceMethod yX2_turnBy) := ⟨inlr15 _ (List.mem_of_getElem? (i := 5) rfl), good_of_word rfl⟩

set_option maxRecDepth 100000 in
theorem lg_15_6 : lgP (Cond.selects RX2 yX2_turnBy yX2_turnBy) := ⟨inlr15 _ (List.mem_of_getElem? (i := 6) rfl), good_of_word rfl⟩

set_option maxRecDepth 100000 in
theorem lg_15_7 : lgP (Cond.code yX2_turnBy cX2_turnBy 3 none) := ⟨inlr15 _ (List.mem_of_getElem? (i := 7) rfl), good_of_word rfl⟩

set_option maxRecDepth 100000 in
theorem lg_15_8 : lgP (Cond.methodLink RX2 75 yX2_seat) := ⟨inlr15 _ (List.mem_of_getElem? (i := 8) rfl), good_of_word rfl⟩

set_option maxRecDepth 100000 in
theorem lg_15_9 : lgP (Cond.methodLink RX2 78 yX2_passYear) := ⟨inlr15 _ (List.mem_of_getElem? (i := 9) rfl), good_of_word rfl⟩

set_option maxRecDepth 100000 in
theorem lg_15_10 : lgP (Cond.instanceMethod yX2_passYear) := ⟨inlr15 _ (List.mem_of_getElem? (i := 10) rfl), good_of_word rfl⟩

set_option maxRecDepth 100000 in
theorem lg_15_11 : lgP (Cond.selects RX2 yX2_passYear yX2_passYear) := ⟨inlr15 _ (List.mem_of_getElem? (i := 11) rfl), good_of_word rfl⟩

set_option maxRecDepth 100000 in
theorem lg_15_12 : lgP (Cond.code yX2_passYear cX2_passYear 2 none) := ⟨inlr15 _ (List.mem_of_getElem? (i := 12) rfl), good_of_word rfl⟩

set_option maxRecDepth 100000 in
theorem lg_15_13 : lgP (Cond.methodLink RX2 84 yX2_drawOf) := ⟨inlr15 _ (List.mem_of_getElem? (i := 13) rfl), good_of_word rfl⟩

set_option maxRecDepth 100000 in
theorem lg_15_14 : lgP (Cond.instanceMethod yX2_drawOf) := ⟨inlr15 _ (List.mem_of_getElem? (i := 14) rfl), good_of_word rfl⟩

set_option maxRecDepth 100000 in
theorem lg_15_15 : lgP (Cond.selects RX2 yX2_drawOf yX2_drawOf) := ⟨inlr15 _ (List.mem_of_getElem? (i := 15) rfl), good_of_word rfl⟩

set_option maxRecDepth 100000 in
theorem lg_15_16 : lgP (Cond.code yX2_drawOf cX2_drawOf 3 (some .int)) := ⟨inlr15 _ (List.mem_of_getElem? (i := 16) rfl), good_of_word rfl⟩

set_option maxRecDepth 100000 in
theorem lg_15_17 : lgP (Cond.methodLink RX9 60 yX4_lengthOfAct) := ⟨inlr15 _ (List.mem_of_getElem? (i := 17) rfl), good_of_word rfl⟩

set_option maxRecDepth 100000 in
theorem lg_15_18 : lgP (Cond.methodLink RL 44 yX11_judge) := ⟨inlr15 _ (List.mem_of_getElem? (i := 18) rfl), good_of_word rfl⟩

set_option maxRecDepth 100000 in
theorem lg_15_19 : lgP (Cond.instanceMethod yX11_judge) := ⟨inlr15 _ (List.mem_of_getElem? (i := 19) rfl), good_of_word rfl⟩

set_option maxRecDepth 100000 in
theorem lg_15_20 : lgP (Cond.selects RX11 yX11_judge yX11_judge) := ⟨inlr15 _ (List.mem_of_getElem? (i := 20) rfl), good_of_word rfl⟩

set_option maxRecDepth 100000 in
theorem lg_15_21 : lgP (Cond.code yX11_judge cX11_judge 3 (some .int)) := ⟨inlr15 _ (List.mem_of_getElem? (i := 21) rfl), good_of_word rfl⟩

set_option maxRecDepth 100000 in
theorem lg_15_22 : lgP (Cond.fieldLink RX11 119 "HornCityModel" "reason" "I") := ⟨inlr15 _ (List.mem_of_getElem? (i := 22) rfl), good_of_word rfl⟩

set_option maxRecDepth 100000 in
theorem lg_15_23 : lgP (Cond.methodLink RX11 126 yX11_goYears) := ⟨inlr15 _ (List.mem_of_getElem? (i := 23) rfl), good_of_word rfl⟩

set_option maxRecDepth 100000 in
theorem lg_16_0 : lgP (Cond.instanceMethod yX11_goYears) := ⟨inlr16 _ (List.mem_of_getElem? (i := 0) rfl), good_of_word rfl⟩

set_option maxRecDepth 100000 in
theorem lg_16_1 : lgP (Cond.selects RX11 yX11_goYears yX11_goYears) := ⟨inlr16 _ (List.mem_of_getElem? (i := 1) rfl), good_of_word rfl⟩

set_option maxRecDepth 100000 in
theorem lg_16_2 : lgP (Cond.code yX11_goYears cX11_goYears 7 (some .int)) := ⟨inlr16 _ (List.mem_of_getElem? (i := 2) rfl), good_of_word rfl⟩

set_option maxRecDepth 100000 in
theorem lg_16_3 : lgP (Cond.fieldLink RX11 113 "HornCityModel" "acts" "I") := ⟨inlr16 _ (List.mem_of_getElem? (i := 3) rfl), good_of_word rfl⟩

set_option maxRecDepth 100000 in
theorem lg_16_4 : lgP (Cond.methodLink RX11 116 yX11_endYear) := ⟨inlr16 _ (List.mem_of_getElem? (i := 4) rfl), good_of_word rfl⟩

set_option maxRecDepth 100000 in
theorem lg_16_5 : lgP (Cond.instanceMethod yX11_endYear) := ⟨inlr16 _ (List.mem_of_getElem? (i := 5) rfl), good_of_word rfl⟩

set_option maxRecDepth 100000 in
theorem lg_16_6 : lgP (Cond.selects RX11 yX11_endYear yX11_endYear) := ⟨inlr16 _ (List.mem_of_getElem? (i := 6) rfl), good_of_word rfl⟩

set_option maxRecDepth 100000 in
theorem lg_16_7 : lgP (Cond.code yX11_endYear cX11_endYear 3 (some .int)) := ⟨inlr16 _ (List.mem_of_getElem? (i := 7) rfl), good_of_word rfl⟩

set_option maxRecDepth 100000 in
theorem lg_16_8 : lgP (Cond.methodLink RX11 57 yX11_over) := ⟨inlr16 _ (List.mem_of_getElem? (i := 8) rfl), good_of_word rfl⟩

set_option maxRecDepth 100000 in
theorem lg_16_9 : lgP (Cond.static yX11_over) := ⟨inlr16 _ (List.mem_of_getElem? (i := 9) rfl), good_of_word rfl⟩

set_option maxRecDepth 100000 in
theorem lg_16_10 : lgP (Cond.code yX11_over cX11_over 1 (some .int)) := ⟨inlr16 _ (List.mem_of_getElem? (i := 10) rfl), good_of_word rfl⟩

set_option maxRecDepth 100000 in
theorem lg_16_11 : lgP (Cond.methodLink RX11 122 yX11_oneAct) := ⟨inlr16 _ (List.mem_of_getElem? (i := 11) rfl), good_of_word rfl⟩

set_option maxRecDepth 100000 in
theorem lg_16_12 : lgP (Cond.instanceMethod yX11_oneAct) := ⟨inlr16 _ (List.mem_of_getElem? (i := 12) rfl), good_of_word rfl⟩

set_option maxRecDepth 100000 in
theorem lg_16_13 : lgP (Cond.selects RX11 yX11_oneAct yX11_oneAct) := ⟨inlr16 _ (List.mem_of_getElem? (i := 13) rfl), good_of_word rfl⟩

set_option maxRecDepth 100000 in
theorem lg_16_14 : lgP (Cond.code yX11_oneAct cX11_oneAct 4 (some .int)) := ⟨inlr16 _ (List.mem_of_getElem? (i := 14) rfl), good_of_word rfl⟩

set_option maxRecDepth 100000 in
theorem lg_16_15 : lgP (Cond.methodLink RX11 99 yX11_turn) := ⟨inlr16 _ (List.mem_of_getElem? (i := 15) rfl), good_of_word rfl⟩

set_option maxRecDepth 100000 in
theorem lg_16_16 : lgP (Cond.instanceMethod yX11_turn) := ⟨inlr16 _ (List.mem_of_getElem? (i := 16) rfl), good_of_word rfl⟩

set_option maxRecDepth 100000 in
theorem lg_16_17 : lgP (Cond.selects RX11 yX11_turn yX11_turn) := ⟨inlr16 _ (List.mem_of_getElem? (i := 17) rfl), good_of_word rfl⟩

set_option maxRecDepth 100000 in
theorem lg_16_18 : lgP (Cond.code yX11_turn cX11_turn 3 (some .int)) := ⟨inlr16 _ (List.mem_of_getElem? (i := 18) rfl), good_of_word rfl⟩

set_option maxRecDepth 100000 in
theorem lg_16_19 : lgP (Cond.methodLink RX11 103 yX11_sit) := ⟨inlr16 _ (List.mem_of_getElem? (i := 19) rfl), good_of_word rfl⟩

set_option maxRecDepth 100000 in
theorem lg_16_20 : lgP (Cond.instanceMethod yX11_sit) := ⟨inlr16 _ (List.mem_of_getElem? (i := 20) rfl), good_of_word rfl⟩

set_option maxRecDepth 100000 in
theorem lg_16_21 : lgP (Cond.selects RX11 yX11_sit yX11_sit) := ⟨inlr16 _ (List.mem_of_getElem? (i := 21) rfl), good_of_word rfl⟩

set_option maxRecDepth 100000 in
theorem lg_16_22 : lgP (Cond.code yX11_sit cX11_sit 3 (some .int)) := ⟨inlr16 _ (List.mem_of_getElem? (i := 22) rfl), good_of_word rfl⟩

set_option maxRecDepth 100000 in
theorem lg_16_23 : lgP (Cond.methodLink RX11 106 yX11_rise) := ⟨inlr16 _ (List.mem_of_getElem? (i := 23) rfl), good_of_word rfl⟩

set_option maxRecDepth 100000 in
theorem lg_17_0 : lgP (Cond.instanceMethod yX11_rise) := ⟨inlr17 _ (List.mem_of_getElem? (i := 0) rfl), good_of_word rfl⟩

set_option maxRecDepth 100000 in
theorem lg_17_1 : lgP (Cond.selects RX11 yX11_rise yX11_rise) := ⟨inlr17 _ (List.mem_of_getElem? (i := 1) rfl), good_of_word rfl⟩

set_option maxRecDepth 100000 in
theorem lg_17_2 : lgP (Cond.code yX11_rise cX11_rise 2 (some .int)) := ⟨inlr17 _ (List.mem_of_getElem? (i := 2) rfl), good_of_word rfl⟩

set_option maxRecDepth 100000 in
theorem lg_17_3 : lgP (Cond.methodLink RX11 109 yX11_mark) := ⟨inlr17 _ (List.mem_of_getElem? (i := 3) rfl), good_of_word rfl⟩

set_option maxRecDepth 100000 in
theorem lg_17_4 : lgP (Cond.instanceMethod yX11_mark) := ⟨inlr17 _ (List.mem_of_getElem? (i := 4) rfl), good_of_word rfl⟩

set_option maxRecDepth 100000 in
theorem lg_17_5 : lgP (Cond.selects RX11 yX11_mark yX11_mark) := ⟨inlr17 _ (List.mem_of_getElem? (i := 5) rfl), good_of_word rfl⟩

set_option maxRecDepth 100000 in
theorem lg_17_6 : lgP (Cond.code yX11_mark cX11_mark 4 (some .int)) := ⟨inlr17 _ (List.mem_of_getElem? (i := 6) rfl), good_of_word rfl⟩

set_option maxRecDepth 100000 in
theorem lg_17_7 : lgP (Cond.methodLink RL 45 yX10_done) := ⟨inlr17 _ (List.mem_of_getElem? (i := 7) rfl), good_of_word rfl⟩

set_option maxRecDepth 100000 in
theorem lg_17_8 : lgP (Cond.instanceMethod yX10_done) := ⟨inlr17 _ (List.mem_of_getElem? (i := 8) rfl), good_of_word rfl⟩

set_option maxRecDepth 100000 in
theorem lg_17_9 : lgP (Cond.selects RX10 yX10_done yX10_done) := ⟨inlr17 _ (List.mem_of_getElem? (i := 9) rfl), good_of_word rfl⟩

set_option maxRecDepth 100000 in
theorem lg_17_10 : lgP (Cond.code yX10_done cX10_done 1 (some .int)) := ⟨inlr17 _ (List.mem_of_getElem? (i := 10) rfl), good_of_word rfl⟩

set_option maxRecDepth 100000 in
theorem lg_17_11 : lgP (Cond.fieldLink RX10 126 "HornCity$Years" "city" "LHornCity$City;") := ⟨inlr17 _ (List.mem_of_getElem? (i := 11) rfl), good_of_word rfl⟩

set_option maxRecDepth 100000 in
theorem lg_17_12 : lgP (Cond.methodLink RX10 122 yX10_yearsCanBe) := ⟨inlr17 _ (List.mem_of_getElem? (i := 12) rfl), good_of_word rfl⟩

set_option maxRecDepth 100000 in
theorem lg_17_13 : lgP (Cond.instanceMethod yX10_yearsCanBe) := ⟨inlr17 _ (List.mem_of_getElem? (i := 13) rfl), good_of_word rfl⟩

set_option maxRecDepth 100000 in
theorem lg_17_14 : lgP (Cond.selects RX10 yX10_yearsCanBe yX10_yearsCanBe) := ⟨inlr17 _ (List.mem_of_getElem? (i := 14) rfl), good_of_word rfl⟩

set_option maxRecDepth 100000 in
theorem lg_17_15 : lgP (Cond.code yX10_yearsCanBe cX10_yearsCanBe 1 (some .boolean)) := ⟨inlr17 _ (List.mem_of_getElem? (i := 15) rfl), good_of_word rfl⟩

set_option maxRecDepth 100000 in
theorem lg_17_16 : lgP (Cond.methodLink RX10 129 yX2_become) := ⟨inlr17 _ (List.mem_of_getElem? (i := 16) rfl), good_of_word rfl⟩

set_option maxRecDepth 100000 in
theorem lg_17_17 : lgP (Cond.methodLink RL 48 yX11_done) := ⟨inlr17 _ (List.mem_of_getElem? (i := 17) rfl), good_of_word rfl⟩

set_option maxRecDepth 100000 in
theorem lg_17_18 : lgP (Cond.instanceMethod yX11_done) := ⟨inlr17 _ (List.mem_of_getElem? (i := 18) rfl), good_of_word rfl⟩

set_option maxRecDepth 100000 in
theorem lg_17_19 : lgP (Cond.selects RX11 yX11_done yX11_done) := ⟨inlr17 _ (List.mem_of_getElem? (i := 19) rfl), good_of_word rfl⟩

set_option maxRecDepth 100000 in
theorem lg_17_20 : lgP (Cond.code yX11_done cX11_done 2 (some .int)) := ⟨inlr17 _ (List.mem_of_getElem? (i := 20) rfl), good_of_word rfl⟩

set_option maxRecDepth 100000 in
theorem lg_17_21 : lgP (Cond.methodLink RX11 129 yX11_barOfYears) := ⟨inlr17 _ (List.mem_of_getElem? (i := 21) rfl), good_of_word rfl⟩

set_option maxRecDepth 100000 in
theorem lg_17_22 : lgP (Cond.instanceMethod yX11_barOfYears) := ⟨inlr17 _ (List.mem_of_getElem? (i := 22) rfl), good_of_word rfl⟩

set_option maxRecDepth 100000 in
theorem lg_17_23 : lgP (Cond.selects RX11 yX11_barOfYears yX11_barOfYears) := ⟨inlr17 _ (List.mem_of_getElem? (i := 23) rfl), good_of_word rfl⟩

set_option maxRecDepth 100000 in
theorem lg_18_0 : lgP (Cond.code yX11_barOfYears cX11_barOfYears 1 (some .int)) := ⟨inlr18 _ (List.mem_of_getElem? (i := 0) rfl), good_of_word rfl⟩

set_option maxRecDepth 100000 in
theorem lg_18_1 : lgP (Cond.methodLink RL 49 yX10_behind) := ⟨inlr18 _ (List.mem_of_getElem? (i := 1) rfl), good_of_word rfl⟩

set_option maxRecDepth 100000 in
theorem lg_18_2 : lgP (Cond.instanceMethod yX10_behind) := ⟨inlr18 _ (List.mem_of_getElem? (i := 2) rfl), good_of_word rfl⟩

set_option maxRecDepth 100000 in
theorem lg_18_3 : lgP (Cond.selects RX10 yX10_behind yX10_behind) := ⟨inlr18 _ (List.mem_of_getElem? (i := 3) rfl), good_of_word rfl⟩

set_option maxRecDepth 100000 in
theorem lg_18_4 : lgP (Cond.code yX10_behind cX10_behind 3 (some .int)) := ⟨inlr18 _ (List.mem_of_getElem? (i := 4) rfl), good_of_word rfl⟩

set_option maxRecDepth 100000 in
theorem lg_18_5 : lgP (Cond.methodLink RX10 133 yX2_inclineOf) := ⟨inlr18 _ (List.mem_of_getElem? (i := 5) rfl), good_of_word rfl⟩

set_option maxRecDepth 100000 in
theorem lg_18_6 : lgP (Cond.methodLink RX10 136 yX9_chalkOf) := ⟨inlr18 _ (List.mem_of_getElem? (i := 6) rfl), good_of_word rfl⟩

set_option maxRecDepth 100000 in
theorem lg_18_7 : lgP (Cond.instanceMethod yX9_chalkOf) := ⟨inlr18 _ (List.mem_of_getElem? (i := 7) rfl), good_of_word rfl⟩

set_option maxRecDepth 100000 in
theorem lg_18_8 : lgP (Cond.selects RX9 yX9_chalkOf yX9_chalkOf) := ⟨inlr18 _ (List.mem_of_getElem? (i := 8) rfl), good_of_word rfl⟩

set_option maxRecDepth 100000 in
theorem lg_18_9 : lgP (Cond.code yX9_chalkOf cX9_chalkOf 2 (some .int)) := ⟨inlr18 _ (List.mem_of_getElem? (i := 9) rfl), good_of_word rfl⟩

set_option maxRecDepth 100000 in
theorem lg_18_10 : lgP (Cond.methodLink RL 53 yX11_behind) := ⟨inlr18 _ (List.mem_of_getElem? (i := 10) rfl), good_of_word rfl⟩

set_option maxRecDepth 100000 in
theorem lg_18_11 : lgP (Cond.instanceMethod yX11_behind) := ⟨inlr18 _ (List.mem_of_getElem? (i := 11) rfl), good_of_word rfl⟩

set_option maxRecDepth 100000 in
theorem lg_18_12 : lgP (Cond.selects RX11 yX11_behind yX11_behind) := ⟨inlr18 _ (List.mem_of_getElem? (i := 12) rfl), good_of_word rfl⟩

set_option maxRecDepth 100000 in
theorem lg_18_13 : lgP (Cond.code yX11_behind cX11_behind 3 (some .int)) := ⟨inlr18 _ (List.mem_of_getElem? (i := 13) rfl), good_of_word rfl⟩

set_option maxRecDepth 100000 in
theorem lg_18_14 : lgP (Cond.methodLink RL 54 yX10_then) := ⟨inlr18 _ (List.mem_of_getElem? (i := 14) rfl), good_of_word rfl⟩

set_option maxRecDepth 100000 in
theorem lg_18_15 : lgP (Cond.instanceMethod yX10_then) := ⟨inlr18 _ (List.mem_of_getElem? (i := 15) rfl), good_of_word rfl⟩

set_option maxRecDepth 100000 in
theorem lg_18_16 : lgP (Cond.selects RX10 yX10_then yX10_then) := ⟨inlr18 _ (List.mem_of_getElem? (i := 16) rfl), good_of_word rfl⟩

set_option maxRecDepth 100000 in
theorem lg_18_17 : lgP (Cond.code yX10_then cX10_then 2 (some .int)) := ⟨inlr18 _ (List.mem_of_getElem? (i := 17) rfl), good_of_word rfl⟩

set_option maxRecDepth 100000 in
theorem lg_18_18 : lgP (Cond.fieldLink RX10 139 "HornCity$City" "year" "I") := ⟨inlr18 _ (List.mem_of_getElem? (i := 18) rfl), good_of_word rfl⟩

set_option maxRecDepth 100000 in
theorem lg_18_19 : lgP (Cond.fieldLink RX10 142 "HornCity$Years" "wrongAct" "I") := ⟨inlr18 _ (List.mem_of_getElem? (i := 19) rfl), good_of_word rfl⟩

set_option maxRecDepth 100000 in
theorem lg_18_20 : lgP (Cond.fieldLink RX10 145 "HornCity$Years" "wrongOne" "I") := ⟨inlr18 _ (List.mem_of_getElem? (i := 20) rfl), good_of_word rfl⟩

set_option maxRecDepth 100000 in
theorem lg_18_21 : lgP (Cond.methodLink RL 57 yX11_then) := ⟨inlr18 _ (List.mem_of_getElem? (i := 21) rfl), good_of_word rfl⟩

set_option maxRecDepth 100000 in
theorem lg_18_22 : lgP (Cond.instanceMethod yX11_then) := ⟨inlr18 _ (List.mem_of_getElem? (i := 22) rfl), good_of_word rfl⟩

set_option maxRecDepth 100000 in
theorem lg_18_23 : lgP (Cond.selects RX11 yX11_then yX11_then) := ⟨inlr18 _ (List.mem_of_getElem? (i := 23) rfl), good_of_word rfl⟩

set_option maxRecDepth 100000 in
theorem lg_19_0 : lgP (Cond.code yX11_then cX11_then 2 (some .int)) := ⟨inlr19 _ (List.mem_of_getElem? (i := 0) rfl), good_of_word rfl⟩

set_option maxRecDepth 100000 in
theorem lg_19_1 : lgP (Cond.methodLink RL 58 yX10_apart) := ⟨inlr19 _ (List.mem_of_getElem? (i := 1) rfl), good_of_word rfl⟩

set_option maxRecDepth 100000 in
theorem lg_19_2 : lgP (Cond.instanceMethod yX10_apart) := ⟨inlr19 _ (List.mem_of_getElem? (i := 2) rfl), good_of_word rfl⟩

set_option maxRecDepth 100000 in
theorem lg_19_3 : lgP (Cond.selects RX10 yX10_apart yX10_apart) := ⟨inlr19 _ (List.mem_of_getElem? (i := 3) rfl), good_of_word rfl⟩

set_option maxRecDepth 100000 in
theorem lg_19_4 : lgP (Cond.code yX10_apart cX10_apart 3 (some .int)) := ⟨inlr19 _ (List.mem_of_getElem? (i := 4) rfl), good_of_word rfl⟩

set_option maxRecDepth 100000 in
theorem lg_19_5 : lgP (Cond.methodLink RX10 148 yX2_between) := ⟨inlr19 _ (List.mem_of_getElem? (i := 5) rfl), good_of_word rfl⟩

set_option maxRecDepth 100000 in
theorem lg_19_6 : lgP (Cond.instanceMethod yX2_between) := ⟨inlr19 _ (List.mem_of_getElem? (i := 6) rfl), good_of_word rfl⟩

set_option maxRecDepth 100000 in
theorem lg_19_7 : lgP (Cond.selects RX2 yX2_between yX2_between) := ⟨inlr19 _ (List.mem_of_getElem? (i := 7) rfl), good_of_word rfl⟩

set_option maxRecDepth 100000 in
theorem lg_19_8 : lgP (Cond.code yX2_between cX2_between 3 (some .int)) := ⟨inlr19 _ (List.mem_of_getElem? (i := 8) rfl), good_of_word rfl⟩

set_option maxRecDepth 100000 in
theorem lg_19_9 : lgP (Cond.methodLink RX2 53 yX5_between) := ⟨inlr19 _ (List.mem_of_getElem? (i := 9) rfl), good_of_word rfl⟩

set_option maxRecDepth 100000 in
theorem lg_19_10 : lgP (Cond.static yX5_between) := ⟨inlr19 _ (List.mem_of_getElem? (i := 10) rfl), good_of_word rfl⟩

set_option maxRecDepth 100000 in
theorem lg_19_11 : lgP (Cond.code yX5_between cX5_between 3 (some .int)) := ⟨inlr19 _ (List.mem_of_getElem? (i := 11) rfl), good_of_word rfl⟩

set_option maxRecDepth 100000 in
theorem lg_19_12 : lgP (Cond.methodLink RX5 15 Lib.Math.min.name) := ⟨inlr19 _ (List.mem_of_getElem? (i := 12) rfl), good_of_word rfl⟩

set_option maxRecDepth 100000 in
theorem lg_19_13 : lgP (Cond.static Lib.Math.min.name) := ⟨inlr19 _ (List.mem_of_getElem? (i := 13) rfl), good_of_word rfl⟩

set_option maxRecDepth 100000 in
theorem lg_19_14 : lgP (Cond.initialized "java/lang/Math") := ⟨inlr19 _ (List.mem_of_getElem? (i := 14) rfl), good_of_word rfl⟩

set_option maxRecDepth 100000 in
theorem lg_19_15 : lgP (Cond.code Lib.Math.min.name Lib.Math.min.code 2 (some .int)) := ⟨inlr19 _ (List.mem_of_getElem? (i := 15) rfl), good_of_word rfl⟩

set_option maxRecDepth 100000 in
theorem lg_19_16 : lgP (Cond.methodLink RX5 9 yX5_leftOver) := ⟨inlr19 _ (List.mem_of_getElem? (i := 16) rfl), good_of_word rfl⟩

set_option maxRecDepth 100000 in
theorem lg_19_17 : lgP (Cond.methodLink RL 61 yX11_apart) := ⟨inlr19 _ (List.mem_of_getElem? (i := 17) rfl), good_of_word rfl⟩

set_option maxRecDepth 100000 in
theorem lg_19_18 : lgP (Cond.instanceMethod yX11_apart) := ⟨inlr19 _ (List.mem_of_getElem? (i := 18) rfl), good_of_word rfl⟩

set_option maxRecDepth 100000 in
theorem lg_19_19 : lgP (Cond.selects RX11 yX11_apart yX11_apart) := ⟨inlr19 _ (List.mem_of_getElem? (i := 19) rfl), good_of_word rfl⟩

set_option maxRecDepth 100000 in
theorem lg_19_20 : lgP (Cond.code yX11_apart cX11_apart 3 (some .int)) := ⟨inlr19 _ (List.mem_of_getElem? (i := 20) rfl), good_of_word rfl⟩

set_option maxRecDepth 100000 in
theorem lg_19_21 : lgP (Cond.methodLink RX11 132 yX11_apartOf) := ⟨inlr19 _ (List.mem_of_getElem? (i := 21) rfl), good_of_word rfl⟩

set_option maxRecDepth 100000 in
theorem lg_19_22 : lgP (Cond.static yX11_apartOf) := ⟨inlr19 _ (List.mem_of_getElem? (i := 22) rfl), good_of_word rfl⟩

set_option maxRecDepth 100000 in
theorem lg_19_23 : lgP (Cond.code yX11_apartOf cX11_apartOf 3 (some .int)) := ⟨inlr19 _ (List.mem_of_getElem? (i := 23) rfl), good_of_word rfl⟩

set_option maxRecDepth 100000 in
theorem lg_20_0 : lgP (Cond.methodLink RL 62 yX10_triangles) := ⟨inlr20 _ (List.mem_of_getElem? (i := 0) rfl), good_of_word rfl⟩

set_option maxRecDepth 100000 in
theorem lg_20_1 : lgP (Cond.instanceMethod yX10_triangles) := ⟨inlr20 _ (List.mem_of_getElem? (i := 1) rfl), good_of_word rfl⟩

set_option maxRecDepth 100000 in
theorem lg_20_2 : lgP (Cond.selects RX10 yX10_triangles yX10_triangles) := ⟨inlr20 _ (List.mem_of_getElem? (i := 2) rfl), good_of_word rfl⟩

set_option maxRecDepth 100000 in
theorem lg_20_3 : lgP (Cond.code yX10_triangles cX10_triangles 2 (some .int)) := ⟨inlr20 _ (List.mem_of_getElem? (i := 3) rfl), good_of_word rfl⟩

set_option maxRecDepth 100000 in
theorem lg_20_4 : lgP (Cond.methodLink RX10 152 yX3_triangleCount) := ⟨inlr20 _ (List.mem_of_getElem? (i := 4) rfl), good_of_word rfl⟩

set_option maxRecDepth 100000 in
theorem lg_20_5 : lgP (Cond.static yX3_triangleCount) := ⟨inlr20 _ (List.mem_of_getElem? (i := 5) rfl), good_of_word rfl⟩

set_option maxRecDepth 100000 in
theorem lg_20_6 : lgP (Cond.initialized RX3) := ⟨inlr20 _ (List.mem_of_getElem? (i := 6) rfl), good_of_word rfl⟩

set_option maxRecDepth 100000 in
theorem lg_20_7 : lgP (Cond.code yX3_triangleCount cX3_triangleCount 3 (some .int)) := ⟨inlr20 _ (List.mem_of_getElem? (i := 7) rfl), good_of_word rfl⟩

set_option maxRecDepth 100000 in
theorem lg_20_8 : lgP (Cond.methodLink RX3 9 yX3_isTriangle) := ⟨inlr20 _ (List.mem_of_getElem? (i := 8) rfl), good_of_word rfl⟩

set_option maxRecDepth 100000 in
theorem lg_20_9 : lgP (Cond.static yX3_isTriangle) := ⟨inlr20 _ (List.mem_of_getElem? (i := 9) rfl), good_of_word rfl⟩

set_option maxRecDepth 100000 in
theorem lg_20_10 : lgP (Cond.code yX3_isTriangle cX3_isTriangle 4 (some .boolean)) := ⟨inlr20 _ (List.mem_of_getElem? (i := 10) rfl), good_of_word rfl⟩

set_option maxRecDepth 100000 in
theorem lg_20_11 : lgP (Cond.fieldLink RX3 35 "HornCity$City" "there" "I") := ⟨inlr20 _ (List.mem_of_getElem? (i := 11) rfl), good_of_word rfl⟩

set_option maxRecDepth 100000 in
theorem lg_20_12 : lgP (Cond.methodLink RX3 55 yJ6_bitCount_0f7a4) := ⟨inlr20 _ (List.mem_of_getElem? (i := 12) rfl), good_of_word rfl⟩

set_option maxRecDepth 100000 in
theorem lg_20_13 : lgP (Cond.methodLink RX3 60 yX3_areBoth) := ⟨inlr20 _ (List.mem_of_getElem? (i := 13) rfl), good_of_word rfl⟩

set_option maxRecDepth 100000 in
theorem lg_20_14 : lgP (Cond.static yX3_areBoth) := ⟨inlr20 _ (List.mem_of_getElem? (i := 14) rfl), good_of_word rfl⟩

set_option maxRecDepth 100000 in
theorem lg_20_15 : lgP (Cond.code yX3_areBoth cX3_areBoth 3 (some .boolean)) := ⟨inlr20 _ (List.mem_of_getElem? (i := 15) rfl), good_of_word rfl⟩

set_option maxRecDepth 100000 in
theorem lg_20_16 : lgP (Cond.methodLink RX3 64 yX2_between) := ⟨inlr20 _ (List.mem_of_getElem? (i := 16) rfl), good_of_word rfl⟩

set_option maxRecDepth 100000 in
theorem lg_20_17 : lgP (Cond.methodLink RX10 158 yX3_firstTriangle) := ⟨inlr20 _ (List.mem_of_getElem? (i := 17) rfl), good_of_word rfl⟩

set_option maxRecDepth 100000 in
theorem lg_20_18 : lgP (Cond.static yX3_firstTriangle) := ⟨inlr20 _ (List.mem_of_getElem? (i := 18) rfl), good_of_word rfl⟩

set_option maxRecDepth 100000 in
theorem lg_20_19 : lgP (Cond.code yX3_firstTriangle cX3_firstTriangle 2 (some .int)) := ⟨inlr20 _ (List.mem_of_getElem? (i := 19) rfl), good_of_word rfl⟩

set_option maxRecDepth 100000 in
theorem lg_20_20 : lgP (Cond.methodLink RL 65 yX11_triangles) := ⟨inlr20 _ (List.mem_of_getElem? (i := 20) rfl), good_of_word rfl⟩

set_option maxRecDepth 100000 in
theorem lg_20_21 : lgP (Cond.instanceMethod yX11_triangles) := ⟨inlr20 _ (List.mem_of_getElem? (i := 21) rfl), good_of_word rfl⟩

set_option maxRecDepth 100000 in
theorem lg_20_22 : lgP (Cond.selects RX11 yX11_triangles yX11_triangles) := ⟨inlr20 _ (List.mem_of_getElem? (i := 22) rfl), good_of_word rfl⟩

set_option maxRecDepth 100000 in
theorem lg_20_23 : lgP (Cond.code yX11_triangles cX11_triangles 3 (some .int)) := ⟨inlr20 _ (List.mem_of_getElem? (i := 23) rfl), good_of_word rfl⟩

set_option maxRecDepth 100000 in
theorem lg_21_0 : lgP (Cond.fieldLink RX11 135 "HornCityModel" "firstSet" "I") := ⟨inlr21 _ (List.mem_of_getElem? (i := 0) rfl), good_of_word rfl⟩

set_option maxRecDepth 100000 in
theorem lg_21_1 : lgP (Cond.methodLink RX11 138 yX11_layTriangles) := ⟨inlr21 _ (List.mem_of_getElem? (i := 1) rfl), good_of_word rfl⟩

set_option maxRecDepth 100000 in
theorem lg_21_2 : lgP (Cond.instanceMethod yX11_layTriangles) := ⟨inlr21 _ (List.mem_of_getElem? (i := 2) rfl), good_of_word rfl⟩

set_option maxRecDepth 100000 in
theorem lg_21_3 : lgP (Cond.selects RX11 yX11_layTriangles yX11_layTriangles) := ⟨inlr21 _ (List.mem_of_getElem? (i := 3) rfl), good_of_word rfl⟩

set_option maxRecDepth 100000 in
theorem lg_21_4 : lgP (Cond.code yX11_layTriangles cX11_layTriangles 6 (some .int)) := ⟨inlr21 _ (List.mem_of_getElem? (i := 4) rfl), good_of_word rfl⟩

set_option maxRecDepth 100000 in
theorem lg_21_5 : lgP (Cond.methodLink RL 66 yX10_bring) := ⟨inlr21 _ (List.mem_of_getElem? (i := 5) rfl), good_of_word rfl⟩

set_option maxRecDepth 100000 in
theorem lg_21_6 : lgP (Cond.instanceMethod yX10_bring) := ⟨inlr21 _ (List.mem_of_getElem? (i := 6) rfl), good_of_word rfl⟩

set_option maxRecDepth 100000 in
theorem lg_21_7 : lgP (Cond.selects RX10 yX10_bring yX10_bring) := ⟨inlr21 _ (List.mem_of_getElem? (i := 7) rfl), good_of_word rfl⟩

set_option maxRecDepth 100000 in
theorem lg_21_8 : lgP (Cond.code yX10_bring cX10_bring 8 (some .int)) := ⟨inlr21 _ (List.mem_of_getElem? (i := 8) rfl), good_of_word rfl⟩

set_option maxRecDepth 100000 in
theorem lg_21_9 : lgP (Cond.methodLink RX10 161 yX7_measureTo) := ⟨inlr21 _ (List.mem_of_getElem? (i := 9) rfl), good_of_word rfl⟩

set_option maxRecDepth 100000 in
theorem lg_21_10 : lgP (Cond.instanceMethod yX7_measureTo) := ⟨inlr21 _ (List.mem_of_getElem? (i := 10) rfl), good_of_word rfl⟩

set_option maxRecDepth 100000 in
theorem lg_21_11 : lgP (Cond.selects RX7 yX7_measureTo yX7_measureTo) := ⟨inlr21 _ (List.mem_of_getElem? (i := 11) rfl), good_of_word rfl⟩

set_option maxRecDepth 100000 in
theorem lg_21_12 : lgP (Cond.code yX7_measureTo cX7_measureTo 10 none) := ⟨inlr21 _ (List.mem_of_getElem? (i := 12) rfl), good_of_word rfl⟩

set_option maxRecDepth 100000 in
theorem lg_21_13 : lgP (Cond.methodLink RX7 21 yX7_tellTurns) := ⟨inlr21 _ (List.mem_of_getElem? (i := 13) rfl), good_of_word rfl⟩

set_option maxRecDepth 100000 in
theorem lg_21_14 : lgP (Cond.instanceMethod yX7_tellTurns) := ⟨inlr21 _ (List.mem_of_getElem? (i := 14) rfl), good_of_word rfl⟩

set_option maxRecDepth 100000 in
theorem lg_21_15 : lgP (Cond.selects RX7 yX7_tellTurns yX7_tellTurns) := ⟨inlr21 _ (List.mem_of_getElem? (i := 15) rfl), good_of_word rfl⟩

set_option maxRecDepth 100000 in
theorem lg_21_16 : lgP (Cond.code yX7_tellTurns cX7_tellTurns 4 none) := ⟨inlr21 _ (List.mem_of_getElem? (i := 16) rfl), good_of_word rfl⟩

set_option maxRecDepth 100000 in
theorem lg_21_17 : lgP (Cond.methodLink RX7 25 yX5_leftOver) := ⟨inlr21 _ (List.mem_of_getElem? (i := 17) rfl), good_of_word rfl⟩

set_option maxRecDepth 100000 in
theorem lg_21_18 : lgP (Cond.methodLink RX7 31 yX7_fewestFrom) := ⟨inlr21 _ (List.mem_of_getElem? (i := 18) rfl), good_of_word rfl⟩

set_option maxRecDepth 100000 in
theorem lg_21_19 : lgP (Cond.instanceMethod yX7_fewestFrom) := ⟨inlr21 _ (List.mem_of_getElem? (i := 19) rfl), good_of_word rfl⟩

set_option maxRecDepth 100000 in
theorem lg_21_20 : lgP (Cond.selects RX7 yX7_fewestFrom yX7_fewestFrom) := ⟨inlr21 _ (List.mem_of_getElem? (i := 20) rfl), good_of_word rfl⟩

set_option maxRecDepth 100000 in
theorem lg_21_21 : lgP (Cond.code yX7_fewestFrom cX7_fewestFrom 2 (some .int)) := ⟨inlr21 _ (List.mem_of_getElem? (i := 21) rfl), good_of_word rfl⟩

set_option maxRecDepth 100000 in
theorem lg_21_22 : lgP (Cond.methodLink RX10 165 yX7_fewestFrom) := ⟨inlr21 _ (List.mem_of_getElem? (i := 22) rfl), good_of_word rfl⟩

set_option maxRecDepth 100000 in
theorem lg_21_23 : lgP (Cond.methodLink RX10 168 yX7_firstFrom) := ⟨inlr21 _ (List.mem_of_getElem? (i := 23) rfl), good_of_word rfl⟩

set_option maxRecDepth 100000 in
theorem lg_22_0 : lgP (Cond.instanceMethod yX7_firstFrom) := ⟨inlr22 _ (List.mem_of_getElem? (i := 0) rfl), good_of_word rfl⟩

set_option maxRecDepth 100000 in
theorem lg_22_1 : lgP (Cond.selects RX7 yX7_firstFrom yX7_firstFrom) := ⟨inlr22 _ (List.mem_of_getElem? (i := 1) rfl), good_of_word rfl⟩

set_option maxRecDepth 100000 in
theorem lg_22_2 : lgP (Cond.code yX7_firstFrom cX7_firstFrom 4 (some .int)) := ⟨inlr22 _ (List.mem_of_getElem? (i := 2) rfl), good_of_word rfl⟩

set_option maxRecDepth 100000 in
theorem lg_22_3 : lgP (Cond.methodLink RL 70 yX11_bring) := ⟨inlr22 _ (List.mem_of_getElem? (i := 3) rfl), good_of_word rfl⟩

set_option maxRecDepth 100000 in
theorem lg_22_4 : lgP (Cond.instanceMethod yX11_bring) := ⟨inlr22 _ (List.mem_of_getElem? (i := 4) rfl), good_of_word rfl⟩

set_option maxRecDepth 100000 in
theorem lg_22_5 : lgP (Cond.selects RX11 yX11_bring yX11_bring) := ⟨inlr22 _ (List.mem_of_getElem? (i := 5) rfl), good_of_word rfl⟩

set_option maxRecDepth 100000 in
theorem lg_22_6 : lgP (Cond.code yX11_bring cX11_bring 14 (some .int)) := ⟨inlr22 _ (List.mem_of_getElem? (i := 6) rfl), good_of_word rfl⟩

set_option maxRecDepth 100000 in
theorem lg_22_7 : lgP (Cond.methodLink RL 71 yX10_lean) := ⟨inlr22 _ (List.mem_of_getElem? (i := 7) rfl), good_of_word rfl⟩

set_option maxRecDepth 100000 in
theorem lg_22_8 : lgP (Cond.instanceMethod yX10_lean) := ⟨inlr22 _ (List.mem_of_getElem? (i := 8) rfl), good_of_word rfl⟩

set_option maxRecDepth 100000 in
theorem lg_22_9 : lgP (Cond.selects RX10 yX10_lean yX10_lean) := ⟨inlr22 _ (List.mem_of_getElem? (i := 9) rfl), good_of_word rfl⟩

set_option maxRecDepth 100000 in
theorem lg_22_10 : lgP (Cond.code yX10_lean cX10_lean 3 (some .int)) := ⟨inlr22 _ (List.mem_of_getElem? (i := 10) rfl), good_of_word rfl⟩

set_option maxRecDepth 100000 in
theorem lg_22_11 : lgP (Cond.methodLink RX10 171 yX3_bestProposal) := ⟨inlr22 _ (List.mem_of_getElem? (i := 11) rfl), good_of_word rfl⟩

set_option maxRecDepth 100000 in
theorem lg_22_12 : lgP (Cond.static yX3_bestProposal) := ⟨inlr22 _ (List.mem_of_getElem? (i := 12) rfl), good_of_word rfl⟩

set_option maxRecDepth 100000 in
theorem lg_22_13 : lgP (Cond.code yX3_bestProposal cX3_bestProposal 5 (some .int)) := ⟨inlr22 _ (List.mem_of_getElem? (i := 13) rfl), good_of_word rfl⟩

set_option maxRecDepth 100000 in
theorem lg_22_14 : lgP (Cond.methodLink RX3 15 yX3_apartFrom) := ⟨inlr22 _ (List.mem_of_getElem? (i := 14) rfl), good_of_word rfl⟩

set_option maxRecDepth 100000 in
theorem lg_22_15 : lgP (Cond.static yX3_apartFrom) := ⟨inlr22 _ (List.mem_of_getElem? (i := 15) rfl), good_of_word rfl⟩

set_option maxRecDepth 100000 in
theorem lg_22_16 : lgP (Cond.code yX3_apartFrom cX3_apartFrom 4 (some .int)) := ⟨inlr22 _ (List.mem_of_getElem? (i := 16) rfl), good_of_word rfl⟩

set_option maxRecDepth 100000 in
theorem lg_22_17 : lgP (Cond.methodLink RX3 19 yX2_isThere) := ⟨inlr22 _ (List.mem_of_getElem? (i := 17) rfl), good_of_word rfl⟩

set_option maxRecDepth 100000 in
theorem lg_22_18 : lgP (Cond.methodLink RX3 25 yX2_inclineOf) := ⟨inlr22 _ (List.mem_of_getElem? (i := 18) rfl), good_of_word rfl⟩

set_option maxRecDepth 100000 in
theorem lg_22_19 : lgP (Cond.methodLink RX3 29 yX5_between) := ⟨inlr22 _ (List.mem_of_getElem? (i := 19) rfl), good_of_word rfl⟩

set_option maxRecDepth 100000 in
theorem lg_22_20 : lgP (Cond.methodLink RX10 174 yX3_apartFrom) := ⟨inlr22 _ (List.mem_of_getElem? (i := 20) rfl), good_of_word rfl⟩

set_option maxRecDepth 100000 in
theorem lg_22_21 : lgP (Cond.methodLink RL 74 yX11_lean) := ⟨inlr22 _ (List.mem_of_getElem? (i := 21) rfl), good_of_word rfl⟩

set_option maxRecDepth 100000 in
theorem lg_22_22 : lgP (Cond.instanceMethod yX11_lean) := ⟨inlr22 _ (List.mem_of_getElem? (i := 22) rfl), good_of_word rfl⟩

set_option maxRecDepth 100000 in
theorem lg_22_23 : lgP (Cond.selects RX11 yX11_lean yX11_lean) := ⟨inlr22 _ (List.mem_of_getElem? (i := 23) rfl), good_of_word rfl⟩

set_option maxRecDepth 100000 in
theorem lg_23_0 : lgP (Cond.code yX11_lean cX11_lean 7 (some .int)) := ⟨inlr23 _ (List.mem_of_getElem? (i := 0) rfl), good_of_word rfl⟩

set_option maxRecDepth 100000 in
theorem lg_23_1 : lgP (Cond.constant RX11 141 (1000000)) := ⟨inlr23 _ (List.mem_of_getElem? (i := 1) rfl), good_of_word rfl⟩

set_option maxRecDepth 100000 in
theorem lg_23_2 : lgP (Cond.methodLink RL 75 yX10_bisect) := ⟨inlr23 _ (List.mem_of_getElem? (i := 2) rfl), good_of_word rfl⟩

set_option maxRecDepth 100000 in
theorem lg_23_3 : lgP (Cond.instanceMethod yX10_bisect) := ⟨inlr23 _ (List.mem_of_getElem? (i := 3) rfl), good_of_word rfl⟩

set_option maxRecDepth 100000 in
theorem lg_23_4 : lgP (Cond.selects RX10 yX10_bisect yX10_bisect) := ⟨inlr23 _ (List.mem_of_getElem? (i := 4) rfl), good_of_word rfl⟩

set_option maxRecDepth 100000 in
theorem lg_23_5 : lgP (Cond.code yX10_bisect cX10_bisect 3 (some .int)) := ⟨inlr23 _ (List.mem_of_getElem? (i := 5) rfl), good_of_word rfl⟩

set_option maxRecDepth 100000 in
theorem lg_23_6 : lgP (Cond.methodLink RX10 178 yX3_bestHalf) := ⟨inlr23 _ (List.mem_of_getElem? (i := 6) rfl), good_of_word rfl⟩

set_option maxRecDepth 100000 in
theorem lg_23_7 : lgP (Cond.static yX3_bestHalf) := ⟨inlr23 _ (List.mem_of_getElem? (i := 7) rfl), good_of_word rfl⟩

set_option maxRecDepth 100000 in
theorem lg_23_8 : lgP (Cond.code yX3_bestHalf cX3_bestHalf 7 (some .int)) := ⟨inlr23 _ (List.mem_of_getElem? (i := 8) rfl), good_of_word rfl⟩

set_option maxRecDepth 100000 in
theorem lg_23_9 : lgP (Cond.methodLink RX3 39 yX3_isHalf) := ⟨inlr23 _ (List.mem_of_getElem? (i := 9) rfl), good_of_word rfl⟩

set_option maxRecDepth 100000 in
theorem lg_23_10 : lgP (Cond.static yX3_isHalf) := ⟨inlr23 _ (List.mem_of_getElem? (i := 10) rfl), good_of_word rfl⟩

set_option maxRecDepth 100000 in
theorem lg_23_11 : lgP (Cond.code yX3_isHalf cX3_isHalf 3 (some .boolean)) := ⟨inlr23 _ (List.mem_of_getElem? (i := 11) rfl), good_of_word rfl⟩

set_option maxRecDepth 100000 in
theorem lg_23_12 : lgP (Cond.methodLink RX3 43 yX3_apartInHalves) := ⟨inlr23 _ (List.mem_of_getElem? (i := 12) rfl), good_of_word rfl⟩

set_option maxRecDepth 100000 in
theorem lg_23_13 : lgP (Cond.static yX3_apartInHalves) := ⟨inlr23 _ (List.mem_of_getElem? (i := 13) rfl), good_of_word rfl⟩

set_option maxRecDepth 100000 in
theorem lg_23_14 : lgP (Cond.code yX3_apartInHalves cX3_apartInHalves 2 (some .int)) := ⟨inlr23 _ (List.mem_of_getElem? (i := 14) rfl), good_of_word rfl⟩

set_option maxRecDepth 100000 in
theorem lg_23_15 : lgP (Cond.methodLink RX3 46 yX3_apartWithin) := ⟨inlr23 _ (List.mem_of_getElem? (i := 15) rfl), good_of_word rfl⟩

set_option maxRecDepth 100000 in
theorem lg_23_16 : lgP (Cond.static yX3_apartWithin) := ⟨inlr23 _ (List.mem_of_getElem? (i := 16) rfl), good_of_word rfl⟩

set_option maxRecDepth 100000 in
theorem lg_23_17 : lgP (Cond.code yX3_apartWithin cX3_apartWithin 5 (some .int)) := ⟨inlr23 _ (List.mem_of_getElem? (i := 17) rfl), good_of_word rfl⟩

set_option maxRecDepth 100000 in
theorem lg_23_18 : lgP (Cond.methodLink RX10 181 yX3_apartInHalves) := ⟨inlr23 _ (List.mem_of_getElem? (i := 18) rfl), good_of_word rfl⟩

set_option maxRecDepth 100000 in
theorem lg_23_19 : lgP (Cond.methodLink RL 78 yX11_bisect) := ⟨inlr23 _ (List.mem_of_getElem? (i := 19) rfl), good_of_word rfl⟩

set_option maxRecDepth 100000 in
theorem lg_23_20 : lgP (Cond.instanceMethod yX11_bisect) := ⟨inlr23 _ (List.mem_of_getElem? (i := 20) rfl), good_of_word rfl⟩

set_option maxRecDepth 100000 in
theorem lg_23_21 : lgP (Cond.selects RX11 yX11_bisect yX11_bisect) := ⟨inlr23 _ (List.mem_of_getElem? (i := 21) rfl), good_of_word rfl⟩

set_option maxRecDepth 100000 in
theorem lg_23_22 : lgP (Cond.code yX11_bisect cX11_bisect 10 (some .int)) := ⟨inlr23 _ (List.mem_of_getElem? (i := 22) rfl), good_of_word rfl⟩

set_option maxRecDepth 100000 in
theorem lg_23_23 : lgP (Cond.methodLink RL 79 yX10_meet) := ⟨inlr23 _ (List.mem_of_getElem? (i := 23) rfl), good_of_word rfl⟩

set_option maxRecDepth 100000 in
theorem lg_24_0 : lgP (Cond.instanceMethod yX10_meet) := ⟨inlr24 _ (List.mem_of_getElem? (i := 0) rfl), good_of_word rfl⟩

set_option maxRecDepth 100000 in
theorem lg_24_1 : lgP (Cond.selects RX10 yX10_meet yX10_meet) := ⟨inlr24 _ (List.mem_of_getElem? (i := 1) rfl), good_of_word rfl⟩

set_option maxRecDepth 100000 in
theorem lg_24_2 : lgP (Cond.code yX10_meet cX10_meet 3 (some .int)) := ⟨inlr24 _ (List.mem_of_getElem? (i := 2) rfl), good_of_word rfl⟩

set_option maxRecDepth 100000 in
theorem lg_24_3 : lgP (Cond.methodLink RX10 184 yX3_yearsToMeet) := ⟨inlr24 _ (List.mem_of_getElem? (i := 3) rfl), good_of_word rfl⟩

set_option maxRecDepth 100000 in
theorem lg_24_4 : lgP (Cond.static yX3_yearsToMeet) := ⟨inlr24 _ (List.mem_of_getElem? (i := 4) rfl), good_of_word rfl⟩

set_option maxRecDepth 100000 in
theorem lg_24_5 : lgP (Cond.code yX3_yearsToMeet cX3_yearsToMeet 6 (some .int)) := ⟨inlr24 _ (List.mem_of_getElem? (i := 5) rfl), good_of_word rfl⟩

set_option maxRecDepth 100000 in
theorem lg_24_6 : lgP (Cond.methodLink RX3 49 yX2_driftOf) := ⟨inlr24 _ (List.mem_of_getElem? (i := 6) rfl), good_of_word rfl⟩

set_option maxRecDepth 100000 in
theorem lg_24_7 : lgP (Cond.instanceMethod yX2_driftOf) := ⟨inlr24 _ (List.mem_of_getElem? (i := 7) rfl), good_of_word rfl⟩

set_option maxRecDepth 100000 in
theorem lg_24_8 : lgP (Cond.selects RX2 yX2_driftOf yX2_driftOf) := ⟨inlr24 _ (List.mem_of_getElem? (i := 8) rfl), good_of_word rfl⟩

set_option maxRecDepth 100000 in
theorem lg_24_9 : lgP (Cond.code yX2_driftOf cX2_driftOf 2 (some .int)) := ⟨inlr24 _ (List.mem_of_getElem? (i := 9) rfl), good_of_word rfl⟩

set_option maxRecDepth 100000 in
theorem lg_24_10 : lgP (Cond.methodLink RX3 52 yX5_leftOver) := ⟨inlr24 _ (List.mem_of_getElem? (i := 10) rfl), good_of_word rfl⟩

set_option maxRecDepth 100000 in
theorem lg_24_11 : lgP (Cond.methodLink RL 82 yX11_meet) := ⟨inlr24 _ (List.mem_of_getElem? (i := 11) rfl), good_of_word rfl⟩

set_option maxRecDepth 100000 in
theorem lg_24_12 : lgP (Cond.instanceMethod yX11_meet) := ⟨inlr24 _ (List.mem_of_getElem? (i := 12) rfl), good_of_word rfl⟩

set_option maxRecDepth 100000 in
theorem lg_24_13 : lgP (Cond.selects RX11 yX11_meet yX11_meet) := ⟨inlr24 _ (List.mem_of_getElem? (i := 13) rfl), good_of_word rfl⟩

set_option maxRecDepth 100000 in
theorem lg_24_14 : lgP (Cond.code yX11_meet cX11_meet 4 (some .int)) := ⟨inlr24 _ (List.mem_of_getElem? (i := 14) rfl), good_of_word rfl⟩

set_option maxRecDepth 100000 in
theorem lg_24_15 : lgP (Cond.methodLink RL 83 yX10_chalk) := ⟨inlr24 _ (List.mem_of_getElem? (i := 15) rfl), good_of_word rfl⟩

set_option maxRecDepth 100000 in
theorem lg_24_16 : lgP (Cond.instanceMethod yX10_chalk) := ⟨inlr24 _ (List.mem_of_getElem? (i := 16) rfl), good_of_word rfl⟩

set_option maxRecDepth 100000 in
theorem lg_24_17 : lgP (Cond.selects RX10 yX10_chalk yX10_chalk) := ⟨inlr24 _ (List.mem_of_getElem? (i := 17) rfl), good_of_word rfl⟩

set_option maxRecDepth 100000 in
theorem lg_24_18 : lgP (Cond.code yX10_chalk cX10_chalk 3 (some .int)) := ⟨inlr24 _ (List.mem_of_getElem? (i := 18) rfl), good_of_word rfl⟩

set_option maxRecDepth 100000 in
theorem lg_24_19 : lgP (Cond.fieldLink RX10 188 "HornCity$City" "chalks" "LHornCity$Chalks;") := ⟨inlr24 _ (List.mem_of_getElem? (i := 19) rfl), good_of_word rfl⟩

set_option maxRecDepth 100000 in
theorem lg_24_20 : lgP (Cond.fieldLink RX10 198 "HornCity$Chalks" "count" "I") := ⟨inlr24 _ (List.mem_of_getElem? (i := 20) rfl), good_of_word rfl⟩

set_option maxRecDepth 100000 in
theorem lg_24_21 : lgP (Cond.methodLink RX10 192 yX1_put) := ⟨inlr24 _ (List.mem_of_getElem? (i := 21) rfl), good_of_word rfl⟩

set_option maxRecDepth 100000 in
theorem lg_24_22 : lgP (Cond.instanceMethod yX1_put) := ⟨inlr24 _ (List.mem_of_getElem? (i := 22) rfl), good_of_word rfl⟩

set_option maxRecDepth 100000 in
theorem lg_24_23 : lgP (Cond.selects RX1 yX1_put yX1_put) := ⟨inlr24 _ (List.mem_of_getElem? (i := 23) rfl), good_of_word rfl⟩

set_option maxRecDepth 100000 in
theorem lg_25_0 : lgP (Cond.code yX1_put cX1_put 3 (some .boolean)) := ⟨inlr25 _ (List.mem_of_getElem? (i := 0) rfl), good_of_word rfl⟩

set_option maxRecDepth 100000 in
theorem lg_25_1 : lgP (Cond.methodLink RL 86 yX11_chalk) := ⟨inlr25 _ (List.mem_of_getElem? (i := 1) rfl), good_of_word rfl⟩

set_option maxRecDepth 100000 in
theorem lg_25_2 : lgP (Cond.instanceMethod yX11_chalk) := ⟨inlr25 _ (List.mem_of_getElem? (i := 2) rfl), good_of_word rfl⟩

set_option maxRecDepth 100000 in
theorem lg_25_3 : lgP (Cond.selects RX11 yX11_chalk yX11_chalk) := ⟨inlr25 _ (List.mem_of_getElem? (i := 3) rfl), good_of_word rfl⟩

set_option maxRecDepth 100000 in
theorem lg_25_4 : lgP (Cond.code yX11_chalk cX11_chalk 3 (some .int)) := ⟨inlr25 _ (List.mem_of_getElem? (i := 4) rfl), good_of_word rfl⟩

set_option maxRecDepth 100000 in
theorem lg_25_5 : lgP (Cond.fieldLink RX11 142 "HornCityModel" "chalks" "I") := ⟨inlr25 _ (List.mem_of_getElem? (i := 5) rfl), good_of_word rfl⟩

set_option maxRecDepth 100000 in
theorem lg_25_6 : lgP (Cond.methodLink RL 87 yX10_forget) := ⟨inlr25 _ (List.mem_of_getElem? (i := 6) rfl), good_of_word rfl⟩

set_option maxRecDepth 100000 in
theorem lg_25_7 : lgP (Cond.instanceMethod yX10_forget) := ⟨inlr25 _ (List.mem_of_getElem? (i := 7) rfl), good_of_word rfl⟩

set_option maxRecDepth 100000 in
theorem lg_25_8 : lgP (Cond.selects RX10 yX10_forget yX10_forget) := ⟨inlr25 _ (List.mem_of_getElem? (i := 8) rfl), good_of_word rfl⟩

set_option maxRecDepth 100000 in
theorem lg_25_9 : lgP (Cond.code yX10_forget cX10_forget 2 (some .int)) := ⟨inlr25 _ (List.mem_of_getElem? (i := 9) rfl), good_of_word rfl⟩

set_option maxRecDepth 100000 in
theorem lg_25_10 : lgP (Cond.methodLink RL 90 yX11_forget) := ⟨inlr25 _ (List.mem_of_getElem? (i := 10) rfl), good_of_word rfl⟩

set_option maxRecDepth 100000 in
theorem lg_25_11 : lgP (Cond.instanceMethod yX11_forget) := ⟨inlr25 _ (List.mem_of_getElem? (i := 11) rfl), good_of_word rfl⟩

set_option maxRecDepth 100000 in
theorem lg_25_12 : lgP (Cond.selects RX11 yX11_forget yX11_forget) := ⟨inlr25 _ (List.mem_of_getElem? (i := 12) rfl), good_of_word rfl⟩

set_option maxRecDepth 100000 in
theorem lg_25_13 : lgP (Cond.code yX11_forget cX11_forget 2 (some .int)) := ⟨inlr25 _ (List.mem_of_getElem? (i := 13) rfl), good_of_word rfl⟩

set_option maxRecDepth 100000 in
theorem lg_25_14 : lgP (Cond.methodLink RL 91 yX10_was) := ⟨inlr25 _ (List.mem_of_getElem? (i := 14) rfl), good_of_word rfl⟩

set_option maxRecDepth 100000 in
theorem lg_25_15 : lgP (Cond.instanceMethod yX10_was) := ⟨inlr25 _ (List.mem_of_getElem? (i := 15) rfl), good_of_word rfl⟩

set_option maxRecDepth 100000 in
theorem lg_25_16 : lgP (Cond.selects RX10 yX10_was yX10_was) := ⟨inlr25 _ (List.mem_of_getElem? (i := 16) rfl), good_of_word rfl⟩

set_option maxRecDepth 100000 in
theorem lg_25_17 : lgP (Cond.code yX10_was cX10_was 3 (some .int)) := ⟨inlr25 _ (List.mem_of_getElem? (i := 17) rfl), good_of_word rfl⟩

set_option maxRecDepth 100000 in
theorem lg_25_18 : lgP (Cond.methodLink RX10 201 yX1_countFits) := ⟨inlr25 _ (List.mem_of_getElem? (i := 18) rfl), good_of_word rfl⟩

set_option maxRecDepth 100000 in
theorem lg_25_19 : lgP (Cond.instanceMethod yX1_countFits) := ⟨inlr25 _ (List.mem_of_getElem? (i := 19) rfl), good_of_word rfl⟩

set_option maxRecDepth 100000 in
theorem lg_25_20 : lgP (Cond.selects RX1 yX1_countFits yX1_countFits) := ⟨inlr25 _ (List.mem_of_getElem? (i := 20) rfl), good_of_word rfl⟩

set_option maxRecDepth 100000 in
theorem lg_25_21 : lgP (Cond.code yX1_countFits cX1_countFits 5 (some .int)) := ⟨inlr25 _ (List.mem_of_getElem? (i := 21) rfl), good_of_word rfl⟩

set_option maxRecDepth 100000 in
theorem lg_25_22 : lgP (Cond.methodLink RX1 28 yX1_fit) := ⟨inlr25 _ (List.mem_of_getElem? (i := 22) rfl), good_of_word rfl⟩

set_option maxRecDepth 100000 in
theorem lg_25_23 : lgP (Cond.instanceMethod yX1_fit) := ⟨inlr25 _ (List.mem_of_getElem? (i := 23) rfl), good_of_word rfl⟩

set_option maxRecDepth 100000 in
theorem lg_26_0 : lgP (Cond.selects RX1 yX1_fit yX1_fit) := ⟨inlr26 _ (List.mem_of_getElem? (i := 0) rfl), good_of_word rfl⟩

set_option maxRecDepth 100000 in
theorem lg_26_1 : lgP (Cond.code yX1_fit cX1_fit 7 (some .boolean)) := ⟨inlr26 _ (List.mem_of_getElem? (i := 1) rfl), good_of_word rfl⟩

set_option maxRecDepth 100000 in
theorem lg_26_2 : lgP (Cond.methodLink RX1 22 yX5_leftOver) := ⟨inlr26 _ (List.mem_of_getElem? (i := 2) rfl), good_of_word rfl⟩

set_option maxRecDepth 100000 in
theorem lg_26_3 : lgP (Cond.methodLink RX10 204 yX1_fitAt) := ⟨inlr26 _ (List.mem_of_getElem? (i := 3) rfl), good_of_word rfl⟩

set_option maxRecDepth 100000 in
theorem lg_26_4 : lgP (Cond.instanceMethod yX1_fitAt) := ⟨inlr26 _ (List.mem_of_getElem? (i := 4) rfl), good_of_word rfl⟩

set_option maxRecDepth 100000 in
theorem lg_26_5 : lgP (Cond.selects RX1 yX1_fitAt yX1_fitAt) := ⟨inlr26 _ (List.mem_of_getElem? (i := 5) rfl), good_of_word rfl⟩

set_option maxRecDepth 100000 in
theorem lg_26_6 : lgP (Cond.code yX1_fitAt cX1_fitAt 6 (some .int)) := ⟨inlr26 _ (List.mem_of_getElem? (i := 6) rfl), good_of_word rfl⟩

set_option maxRecDepth 100000 in
theorem lg_26_7 : lgP (Cond.methodLink RL 94 yX11_was) := ⟨inlr26 _ (List.mem_of_getElem? (i := 7) rfl), good_of_word rfl⟩

set_option maxRecDepth 100000 in
theorem lg_26_8 : lgP (Cond.instanceMethod yX11_was) := ⟨inlr26 _ (List.mem_of_getElem? (i := 8) rfl), good_of_word rfl⟩

set_option maxRecDepth 100000 in
theorem lg_26_9 : lgP (Cond.selects RX11 yX11_was yX11_was) := ⟨inlr26 _ (List.mem_of_getElem? (i := 9) rfl), good_of_word rfl⟩

set_option maxRecDepth 100000 in
theorem lg_26_10 : lgP (Cond.code yX11_was cX11_was 5 (some .int)) := ⟨inlr26 _ (List.mem_of_getElem? (i := 10) rfl), good_of_word rfl⟩

set_option maxRecDepth 100000 in
theorem lg_26_11 : lgP (Cond.methodLink RX11 148 yX11_isFit) := ⟨inlr26 _ (List.mem_of_getElem? (i := 11) rfl), good_of_word rfl⟩

set_option maxRecDepth 100000 in
theorem lg_26_12 : lgP (Cond.instanceMethod yX11_isFit) := ⟨inlr26 _ (List.mem_of_getElem? (i := 12) rfl), good_of_word rfl⟩

set_option maxRecDepth 100000 in
theorem lg_26_13 : lgP (Cond.selects RX11 yX11_isFit yX11_isFit) := ⟨inlr26 _ (List.mem_of_getElem? (i := 13) rfl), good_of_word rfl⟩

set_option maxRecDepth 100000 in
theorem lg_26_14 : lgP (Cond.code yX11_isFit cX11_isFit 8 (some .boolean)) := ⟨inlr26 _ (List.mem_of_getElem? (i := 14) rfl), good_of_word rfl⟩

set_option maxRecDepth 100000 in
theorem lg_26_15 : lgP (Cond.methodLink RX11 145 yX11_wasAt) := ⟨inlr26 _ (List.mem_of_getElem? (i := 15) rfl), good_of_word rfl⟩

set_option maxRecDepth 100000 in
theorem lg_26_16 : lgP (Cond.static yX11_wasAt) := ⟨inlr26 _ (List.mem_of_getElem? (i := 16) rfl), good_of_word rfl⟩

set_option maxRecDepth 100000 in
theorem lg_26_17 : lgP (Cond.code yX11_wasAt cX11_wasAt 2 (some .int)) := ⟨inlr26 _ (List.mem_of_getElem? (i := 17) rfl), good_of_word rfl⟩

set_option maxRecDepth 100000 in
theorem lg_26_18 : lgP (Cond.methodLink RL 95 yX10_ask) := ⟨inlr26 _ (List.mem_of_getElem? (i := 18) rfl), good_of_word rfl⟩

set_option maxRecDepth 100000 in
theorem lg_26_19 : lgP (Cond.instanceMethod yX10_ask) := ⟨inlr26 _ (List.mem_of_getElem? (i := 19) rfl), good_of_word rfl⟩

set_option maxRecDepth 100000 in
theorem lg_26_20 : lgP (Cond.selects RX10 yX10_ask yX10_ask) := ⟨inlr26 _ (List.mem_of_getElem? (i := 20) rfl), good_of_word rfl⟩

set_option maxRecDepth 100000 in
theorem lg_26_21 : lgP (Cond.code yX10_ask cX10_ask 2 (some .int)) := ⟨inlr26 _ (List.mem_of_getElem? (i := 21) rfl), good_of_word rfl⟩

set_option maxRecDepth 100000 in
theorem lg_26_22 : lgP (Cond.fieldLink RX10 211 "HornCity$Asking" "bestYear" "I") := ⟨inlr26 _ (List.mem_of_getElem? (i := 22) rfl), good_of_word rfl⟩

set_option maxRecDepth 100000 in
theorem lg_26_23 : lgP (Cond.fieldLink RX10 214 "HornCity$Asking" "bestMost" "I") := ⟨inlr26 _ (List.mem_of_getElem? (i := 23) rfl), good_of_word rfl⟩

set_option maxRecDepth 100000 in
theorem lg_27_0 : lgP (Cond.methodLink RX10 207 yX0_weigh) := ⟨inlr27 _ (List.mem_of_getElem? (i := 0) rfl), good_of_word rfl⟩

set_option maxRecDepth 100000 in
theorem lg_27_1 : lgP (Cond.instanceMethod yX0_weigh) := ⟨inlr27 _ (List.mem_of_getElem? (i := 1) rfl), good_of_word rfl⟩

set_option maxRecDepth 100000 in
theorem lg_27_2 : lgP (Cond.selects RX0 yX0_weigh yX0_weigh) := ⟨inlr27 _ (List.mem_of_getElem? (i := 2) rfl), good_of_word rfl⟩

set_option maxRecDepth 100000 in
theorem lg_27_3 : lgP (Cond.code yX0_weigh cX0_weigh 6 none) := ⟨inlr27 _ (List.mem_of_getElem? (i := 3) rfl), good_of_word rfl⟩

set_option maxRecDepth 100000 in
theorem lg_27_4 : lgP (Cond.fieldLink RX0 15 "HornCity$Asking" "bestYear" "I") := ⟨inlr27 _ (List.mem_of_getElem? (i := 4) rfl), good_of_word rfl⟩

set_option maxRecDepth 100000 in
theorem lg_27_5 : lgP (Cond.fieldLink RX0 19 "HornCity$Asking" "bestMost" "I") := ⟨inlr27 _ (List.mem_of_getElem? (i := 5) rfl), good_of_word rfl⟩

set_option maxRecDepth 100000 in
theorem lg_27_6 : lgP (Cond.methodLink RX0 22 yX1_countFits) := ⟨inlr27 _ (List.mem_of_getElem? (i := 6) rfl), good_of_word rfl⟩

set_option maxRecDepth 100000 in
theorem lg_27_7 : lgP (Cond.methodLink RX0 28 yX0_mostAlike) := ⟨inlr27 _ (List.mem_of_getElem? (i := 7) rfl), good_of_word rfl⟩

set_option maxRecDepth 100000 in
theorem lg_27_8 : lgP (Cond.instanceMethod yX0_mostAlike) := ⟨inlr27 _ (List.mem_of_getElem? (i := 8) rfl), good_of_word rfl⟩

set_option maxRecDepth 100000 in
theorem lg_27_9 : lgP (Cond.selects RX0 yX0_mostAlike yX0_mostAlike) := ⟨inlr27 _ (List.mem_of_getElem? (i := 9) rfl), good_of_word rfl⟩

set_option maxRecDepth 100000 in
theorem lg_27_10 : lgP (Cond.code yX0_mostAlike cX0_mostAlike 7 (some .int)) := ⟨inlr27 _ (List.mem_of_getElem? (i := 10) rfl), good_of_word rfl⟩

set_option maxRecDepth 100000 in
theorem lg_27_11 : lgP (Cond.methodLink RX0 41 Lib.Math.max.name) := ⟨inlr27 _ (List.mem_of_getElem? (i := 11) rfl), good_of_word rfl⟩

set_option maxRecDepth 100000 in
theorem lg_27_12 : lgP (Cond.static Lib.Math.max.name) := ⟨inlr27 _ (List.mem_of_getElem? (i := 12) rfl), good_of_word rfl⟩

set_option maxRecDepth 100000 in
theorem lg_27_13 : lgP (Cond.code Lib.Math.max.name Lib.Math.max.code 2 (some .int)) := ⟨inlr27 _ (List.mem_of_getElem? (i := 13) rfl), good_of_word rfl⟩

set_option maxRecDepth 100000 in
theorem lg_27_14 : lgP (Cond.methodLink RX0 32 yX1_fit) := ⟨inlr27 _ (List.mem_of_getElem? (i := 14) rfl), good_of_word rfl⟩

set_option maxRecDepth 100000 in
theorem lg_27_15 : lgP (Cond.methodLink RX0 36 yX5_leftOver) := ⟨inlr27 _ (List.mem_of_getElem? (i := 15) rfl), good_of_word rfl⟩

set_option maxRecDepth 100000 in
theorem lg_27_16 : lgP (Cond.methodLink RL 98 yX11_ask) := ⟨inlr27 _ (List.mem_of_getElem? (i := 16) rfl), good_of_word rfl⟩

set_option maxRecDepth 100000 in
theorem lg_27_17 : lgP (Cond.instanceMethod yX11_ask) := ⟨inlr27 _ (List.mem_of_getElem? (i := 17) rfl), good_of_word rfl⟩

set_option maxRecDepth 100000 in
theorem lg_27_18 : lgP (Cond.selects RX11 yX11_ask yX11_ask) := ⟨inlr27 _ (List.mem_of_getElem? (i := 18) rfl), good_of_word rfl⟩

set_option maxRecDepth 100000 in
theorem lg_27_19 : lgP (Cond.code yX11_ask cX11_ask 9 (some .int)) := ⟨inlr27 _ (List.mem_of_getElem? (i := 19) rfl), good_of_word rfl⟩

set_option maxRecDepth 100000 in
theorem lg_27_20 : lgP (Cond.methodLink RL 99 yX10_take) := ⟨inlr27 _ (List.mem_of_getElem? (i := 20) rfl), good_of_word rfl⟩

set_option maxRecDepth 100000 in
theorem lg_27_21 : lgP (Cond.instanceMethod yX10_take) := ⟨inlr27 _ (List.mem_of_getElem? (i := 21) rfl), good_of_word rfl⟩

set_option maxRecDepth 100000 in
theorem lg_27_22 : lgP (Cond.selects RX10 yX10_take yX10_take) := ⟨inlr27 _ (List.mem_of_getElem? (i := 22) rfl), good_of_word rfl⟩

set_option maxRecDepth 100000 in
theorem lg_27_23 : lgP (Cond.code yX10_take cX10_take 4 (some .int)) := ⟨inlr27 _ (List.mem_of_getElem? (i := 23) rfl), good_of_word rfl⟩

set_option maxRecDepth 100000 in
theorem lg_28_0 : lgP (Cond.methodLink RX10 217 yX6_firstOf) := ⟨inlr28 _ (List.mem_of_getElem? (i := 0) rfl), good_of_word rfl⟩

set_option maxRecDepth 100000 in
theorem lg_28_1 : lgP (Cond.instanceMethod yX6_firstOf) := ⟨inlr28 _ (List.mem_of_getElem? (i := 1) rfl), good_of_word rfl⟩

set_option maxRecDepth 100000 in
theorem lg_28_2 : lgP (Cond.selects RX6 yX6_firstOf yX6_firstOf) := ⟨inlr28 _ (List.mem_of_getElem? (i := 2) rfl), good_of_word rfl⟩

set_option maxRecDepth 100000 in
theorem lg_28_3 : lgP (Cond.code yX6_firstOf cX6_firstOf 3 (some .int)) := ⟨inlr28 _ (List.mem_of_getElem? (i := 3) rfl), good_of_word rfl⟩

set_option maxRecDepth 100000 in
theorem lg_28_4 : lgP (Cond.methodLink RX6 15 yX6_winningTake) := ⟨inlr28 _ (List.mem_of_getElem? (i := 4) rfl), good_of_word rfl⟩

set_option maxRecDepth 100000 in
theorem lg_28_5 : lgP (Cond.instanceMethod yX6_winningTake) := ⟨inlr28 _ (List.mem_of_getElem? (i := 5) rfl), good_of_word rfl⟩

set_option maxRecDepth 100000 in
theorem lg_28_6 : lgP (Cond.selects RX6 yX6_winningTake yX6_winningTake) := ⟨inlr28 _ (List.mem_of_getElem? (i := 6) rfl), good_of_word rfl⟩

set_option maxRecDepth 100000 in
theorem lg_28_7 : lgP (Cond.code yX6_winningTake cX6_winningTake 4 (some .int)) := ⟨inlr28 _ (List.mem_of_getElem? (i := 7) rfl), good_of_word rfl⟩

set_option maxRecDepth 100000 in
theorem lg_28_8 : lgP (Cond.methodLink RX6 23 Lib.Math.max.name) := ⟨inlr28 _ (List.mem_of_getElem? (i := 8) rfl), good_of_word rfl⟩

set_option maxRecDepth 100000 in
theorem lg_28_9 : lgP (Cond.methodLink RX6 19 yX6_isLost) := ⟨inlr28 _ (List.mem_of_getElem? (i := 9) rfl), good_of_word rfl⟩

set_option maxRecDepth 100000 in
theorem lg_28_10 : lgP (Cond.instanceMethod yX6_isLost) := ⟨inlr28 _ (List.mem_of_getElem? (i := 10) rfl), good_of_word rfl⟩

set_option maxRecDepth 100000 in
theorem lg_28_11 : lgP (Cond.selects RX6 yX6_isLost yX6_isLost) := ⟨inlr28 _ (List.mem_of_getElem? (i := 11) rfl), good_of_word rfl⟩

set_option maxRecDepth 100000 in
theorem lg_28_12 : lgP (Cond.code yX6_isLost cX6_isLost 2 (some .boolean)) := ⟨inlr28 _ (List.mem_of_getElem? (i := 12) rfl), good_of_word rfl⟩

set_option maxRecDepth 100000 in
theorem lg_28_13 : lgP (Cond.methodLink RL 102 yX11_take) := ⟨inlr28 _ (List.mem_of_getElem? (i := 13) rfl), good_of_word rfl⟩

set_option maxRecDepth 100000 in
theorem lg_28_14 : lgP (Cond.instanceMethod yX11_take) := ⟨inlr28 _ (List.mem_of_getElem? (i := 14) rfl), good_of_word rfl⟩

set_option maxRecDepth 100000 in
theorem lg_28_15 : lgP (Cond.selects RX11 yX11_take yX11_take) := ⟨inlr28 _ (List.mem_of_getElem? (i := 15) rfl), good_of_word rfl⟩

set_option maxRecDepth 100000 in
theorem lg_28_16 : lgP (Cond.code yX11_take cX11_take 7 (some .int)) := ⟨inlr28 _ (List.mem_of_getElem? (i := 16) rfl), good_of_word rfl⟩

set_option maxRecDepth 100000 in
theorem lg_28_17 : lgP (Cond.methodLink RL 103 yX10_cock) := ⟨inlr28 _ (List.mem_of_getElem? (i := 17) rfl), good_of_word rfl⟩

set_option maxRecDepth 100000 in
theorem lg_28_18 : lgP (Cond.instanceMethod yX10_cock) := ⟨inlr28 _ (List.mem_of_getElem? (i := 18) rfl), good_of_word rfl⟩

set_option maxRecDepth 100000 in
theorem lg_28_19 : lgP (Cond.selects RX10 yX10_cock yX10_cock) := ⟨inlr28 _ (List.mem_of_getElem? (i := 19) rfl), good_of_word rfl⟩

set_option maxRecDepth 100000 in
theorem lg_28_20 : lgP (Cond.code yX10_cock cX10_cock 9 (some .long)) := ⟨inlr28 _ (List.mem_of_getElem? (i := 20) rfl), good_of_word rfl⟩

set_option maxRecDepth 100000 in
theorem lg_28_21 : lgP (Cond.constantLong RX10 220 (-1000000000000000002)) := ⟨inlr28 _ (List.mem_of_getElem? (i := 21) rfl), good_of_word rfl⟩

set_option maxRecDepth 100000 in
theorem lg_28_22 : lgP (Cond.methodLink RX10 222 yX8_start) := ⟨inlr28 _ (List.mem_of_getElem? (i := 22) rfl), good_of_word rfl⟩

set_option maxRecDepth 100000 in
theorem lg_28_23 : lgP (Cond.instanceMethod yX8_start) := ⟨inlr28 _ (List.mem_of_getElem? (i := 23) rfl), good_of_word rfl⟩

set_option maxRecDepth 100000 in
theorem lg_29_0 : lgP (Cond.selects RX8 yX8_start yX8_start) := ⟨inlr29 _ (List.mem_of_getElem? (i := 0) rfl), good_of_word rfl⟩

set_option maxRecDepth 100000 in
theorem lg_29_1 : lgP (Cond.code yX8_start cX8_start 4 none) := ⟨inlr29 _ (List.mem_of_getElem? (i := 1) rfl), good_of_word rfl⟩

set_option maxRecDepth 100000 in
theorem lg_29_2 : lgP (Cond.methodLink RX8 18 Lib.Math.max.name) := ⟨inlr29 _ (List.mem_of_getElem? (i := 2) rfl), good_of_word rfl⟩

set_option maxRecDepth 100000 in
theorem lg_29_3 : lgP (Cond.methodLink RX8 24 Lib.Math.min.name) := ⟨inlr29 _ (List.mem_of_getElem? (i := 3) rfl), good_of_word rfl⟩

set_option maxRecDepth 100000 in
theorem lg_29_4 : lgP (Cond.fieldLink RX8 27 "HornCity$Weathercock" "points" "I") := ⟨inlr29 _ (List.mem_of_getElem? (i := 4) rfl), good_of_word rfl⟩

set_option maxRecDepth 100000 in
theorem lg_29_5 : lgP (Cond.fieldLink RX8 31 "HornCity$Weathercock" "all" "J") := ⟨inlr29 _ (List.mem_of_getElem? (i := 5) rfl), good_of_word rfl⟩

set_option maxRecDepth 100000 in
theorem lg_29_6 : lgP (Cond.methodLink RX10 225 yX8_turn) := ⟨inlr29 _ (List.mem_of_getElem? (i := 6) rfl), good_of_word rfl⟩

set_option maxRecDepth 100000 in
theorem lg_29_7 : lgP (Cond.instanceMethod yX8_turn) := ⟨inlr29 _ (List.mem_of_getElem? (i := 7) rfl), good_of_word rfl⟩

set_option maxRecDepth 100000 in
theorem lg_29_8 : lgP (Cond.selects RX8 yX8_turn yX8_turn) := ⟨inlr29 _ (List.mem_of_getElem? (i := 8) rfl), good_of_word rfl⟩

set_option maxRecDepth 100000 in
theorem lg_29_9 : lgP (Cond.code yX8_turn cX8_turn 4 none) := ⟨inlr29 _ (List.mem_of_getElem? (i := 9) rfl), good_of_word rfl⟩

set_option maxRecDepth 100000 in
theorem lg_29_10 : lgP (Cond.constantLong RX8 39 (10)) := ⟨inlr29 _ (List.mem_of_getElem? (i := 10) rfl), good_of_word rfl⟩

set_option maxRecDepth 100000 in
theorem lg_29_11 : lgP (Cond.methodLink RX8 35 yX8_waysTo) := ⟨inlr29 _ (List.mem_of_getElem? (i := 11) rfl), good_of_word rfl⟩

set_option maxRecDepth 100000 in
theorem lg_29_12 : lgP (Cond.instanceMethod yX8_waysTo) := ⟨inlr29 _ (List.mem_of_getElem? (i := 12) rfl), good_of_word rfl⟩

set_option maxRecDepth 100000 in
theorem lg_29_13 : lgP (Cond.selects RX8 yX8_waysTo yX8_waysTo) := ⟨inlr29 _ (List.mem_of_getElem? (i := 13) rfl), good_of_word rfl⟩

set_option maxRecDepth 100000 in
theorem lg_29_14 : lgP (Cond.code yX8_waysTo cX8_waysTo 3 (some .long)) := ⟨inlr29 _ (List.mem_of_getElem? (i := 14) rfl), good_of_word rfl⟩

set_option maxRecDepth 100000 in
theorem lg_29_15 : lgP (Cond.methodLink RX10 228 yX8_upperAt) := ⟨inlr29 _ (List.mem_of_getElem? (i := 15) rfl), good_of_word rfl⟩

set_option maxRecDepth 100000 in
theorem lg_29_16 : lgP (Cond.instanceMethod yX8_upperAt) := ⟨inlr29 _ (List.mem_of_getElem? (i := 16) rfl), good_of_word rfl⟩

set_option maxRecDepth 100000 in
theorem lg_29_17 : lgP (Cond.selects RX8 yX8_upperAt yX8_upperAt) := ⟨inlr29 _ (List.mem_of_getElem? (i := 17) rfl), good_of_word rfl⟩

set_option maxRecDepth 100000 in
theorem lg_29_18 : lgP (Cond.code yX8_upperAt cX8_upperAt 2 (some .long)) := ⟨inlr29 _ (List.mem_of_getElem? (i := 18) rfl), good_of_word rfl⟩

set_option maxRecDepth 100000 in
theorem lg_29_19 : lgP (Cond.methodLink RX8 41 yX8_shortened) := ⟨inlr29 _ (List.mem_of_getElem? (i := 19) rfl), good_of_word rfl⟩

set_option maxRecDepth 100000 in
theorem lg_29_20 : lgP (Cond.instanceMethod yX8_shortened) := ⟨inlr29 _ (List.mem_of_getElem? (i := 20) rfl), good_of_word rfl⟩

set_option maxRecDepth 100000 in
theorem lg_29_21 : lgP (Cond.selects RX8 yX8_shortened yX8_shortened) := ⟨inlr29 _ (List.mem_of_getElem? (i := 21) rfl), good_of_word rfl⟩

set_option maxRecDepth 100000 in
theorem lg_29_22 : lgP (Cond.code yX8_shortened cX8_shortened 6 (some .long)) := ⟨inlr29 _ (List.mem_of_getElem? (i := 22) rfl), good_of_word rfl⟩

set_option maxRecDepth 100000 in
theorem lg_29_23 : lgP (Cond.methodLink RX8 45 yX8_commonDivisor) := ⟨inlr29 _ (List.mem_of_getElem? (i := 23) rfl), good_of_word rfl⟩

set_option maxRecDepth 100000 in
theorem lg_30_0 : lgP (Cond.static yX8_commonDivisor) := ⟨inlr30 _ (List.mem_of_getElem? (i := 0) rfl), good_of_word rfl⟩

set_option maxRecDepth 100000 in
theorem lg_30_1 : lgP (Cond.code yX8_commonDivisor cX8_commonDivisor 11 (some .long)) := ⟨inlr30 _ (List.mem_of_getElem? (i := 1) rfl), good_of_word rfl⟩

set_option maxRecDepth 100000 in
theorem lg_30_2 : lgP (Cond.methodLink RX10 232 yX8_lowerAt) := ⟨inlr30 _ (List.mem_of_getElem? (i := 2) rfl), good_of_word rfl⟩

set_option maxRecDepth 100000 in
theorem lg_30_3 : lgP (Cond.instanceMethod yX8_lowerAt) := ⟨inlr30 _ (List.mem_of_getElem? (i := 3) rfl), good_of_word rfl⟩

set_option maxRecDepth 100000 in
theorem lg_30_4 : lgP (Cond.selects RX8 yX8_lowerAt yX8_lowerAt) := ⟨inlr30 _ (List.mem_of_getElem? (i := 4) rfl), good_of_word rfl⟩

set_option maxRecDepth 100000 in
theorem lg_30_5 : lgP (Cond.code yX8_lowerAt cX8_lowerAt 2 (some .long)) := ⟨inlr30 _ (List.mem_of_getElem? (i := 5) rfl), good_of_word rfl⟩

set_option maxRecDepth 100000 in
theorem lg_30_6 : lgP (Cond.methodLink RL 107 yX11_cock) := ⟨inlr30 _ (List.mem_of_getElem? (i := 6) rfl), good_of_word rfl⟩

set_option maxRecDepth 100000 in
theorem lg_30_7 : lgP (Cond.instanceMethod yX11_cock) := ⟨inlr30 _ (List.mem_of_getElem? (i := 7) rfl), good_of_word rfl⟩

set_option maxRecDepth 100000 in
theorem lg_30_8 : lgP (Cond.selects RX11 yX11_cock yX11_cock) := ⟨inlr30 _ (List.mem_of_getElem? (i := 8) rfl), good_of_word rfl⟩

set_option maxRecDepth 100000 in
theorem lg_30_9 : lgP (Cond.code yX11_cock cX11_cock 16 (some .long)) := ⟨inlr30 _ (List.mem_of_getElem? (i := 9) rfl), good_of_word rfl⟩

set_option maxRecDepth 100000 in
theorem lg_30_10 : lgP (Cond.constantLong RX11 151 (-1000000000000000002)) := ⟨inlr30 _ (List.mem_of_getElem? (i := 10) rfl), good_of_word rfl⟩

set_option maxRecDepth 100000 in
theorem lg_30_11 : lgP (Cond.constantLong RX11 153 (10)) := ⟨inlr30 _ (List.mem_of_getElem? (i := 11) rfl), good_of_word rfl⟩

set_option maxRecDepth 100000 in
theorem lg_30_12 : lgP (Cond.methodLink RL 108 yX10_book) := ⟨inlr30 _ (List.mem_of_getElem? (i := 12) rfl), good_of_word rfl⟩

set_option maxRecDepth 100000 in
theorem lg_30_13 : lgP (Cond.instanceMethod yX10_book) := ⟨inlr30 _ (List.mem_of_getElem? (i := 13) rfl), good_of_word rfl⟩

set_option maxRecDepth 100000 in
theorem lg_30_14 : lgP (Cond.selects RX10 yX10_book yX10_book) := ⟨inlr30 _ (List.mem_of_getElem? (i := 14) rfl), good_of_word rfl⟩

set_option maxRecDepth 100000 in
theorem lg_30_15 : lgP (Cond.code yX10_book cX10_book 4 (some .int)) := ⟨inlr30 _ (List.mem_of_getElem? (i := 15) rfl), good_of_word rfl⟩

set_option maxRecDepth 100000 in
theorem lg_30_16 : lgP (Cond.methodLink RX10 235 yX9_draw) := ⟨inlr30 _ (List.mem_of_getElem? (i := 16) rfl), good_of_word rfl⟩

set_option maxRecDepth 100000 in
theorem lg_30_17 : lgP (Cond.instanceMethod yX9_draw) := ⟨inlr30 _ (List.mem_of_getElem? (i := 17) rfl), good_of_word rfl⟩

set_option maxRecDepth 100000 in
theorem lg_30_18 : lgP (Cond.selects RX9 yX9_draw yX9_draw) := ⟨inlr30 _ (List.mem_of_getElem? (i := 18) rfl), good_of_word rfl⟩

set_option maxRecDepth 100000 in
theorem lg_30_19 : lgP (Cond.code yX9_draw cX9_draw 10 none) := ⟨inlr30 _ (List.mem_of_getElem? (i := 19) rfl), good_of_word rfl⟩

set_option maxRecDepth 100000 in
theorem lg_30_20 : lgP (Cond.constant RX9 63 (65537)) := ⟨inlr30 _ (List.mem_of_getElem? (i := 20) rfl), good_of_word rfl⟩

set_option maxRecDepth 100000 in
theorem lg_30_21 : lgP (Cond.methodLink RX9 64 yX9_kindOfLot) := ⟨inlr30 _ (List.mem_of_getElem? (i := 21) rfl), good_of_word rfl⟩

set_option maxRecDepth 100000 in
theorem lg_30_22 : lgP (Cond.static yX9_kindOfLot) := ⟨inlr30 _ (List.mem_of_getElem? (i := 22) rfl), good_of_word rfl⟩

set_option maxRecDepth 100000 in
theorem lg_30_23 : lgP (Cond.code yX9_kindOfLot cX9_kindOfLot 1 (some .int)) := ⟨inlr30 _ (List.mem_of_getElem? (i := 23) rfl), good_of_word rfl⟩

set_option maxRecDepth 100000 in
theorem lg_31_0 : lgP (Cond.methodLink RX10 239 yX2_inclinesAdded) := ⟨inlr31 _ (List.mem_of_getElem? (i := 0) rfl), good_of_word rfl⟩

set_option maxRecDepth 100000 in
theorem lg_31_1 : lgP (Cond.instanceMethod yX2_inclinesAdded) := ⟨inlr31 _ (List.mem_of_getElem? (i := 1) rfl), good_of_word rfl⟩

set_option maxRecDepth 100000 in
theorem lg_31_2 : lgP (Cond.selects RX2 yX2_inclinesAdded yX2_inclinesAdded) := ⟨inlr31 _ (List.mem_of_getElem? (i := 2) rfl), good_of_word rfl⟩

set_option maxRecDepth 100000 in
theorem lg_31_3 : lgP (Cond.code yX2_inclinesAdded cX2_inclinesAdded 3 (some .int)) := ⟨inlr31 _ (List.mem_of_getElem? (i := 3) rfl), good_of_word rfl⟩

set_option maxRecDepth 100000 in
theorem lg_31_4 : lgP (Cond.methodLink RL 111 yX11_book) := ⟨inlr31 _ (List.mem_of_getElem? (i := 4) rfl), good_of_word rfl⟩

set_option maxRecDepth 100000 in
theorem lg_31_5 : lgP (Cond.instanceMethod yX11_book) := ⟨inlr31 _ (List.mem_of_getElem? (i := 5) rfl), good_of_word rfl⟩

set_option maxRecDepth 100000 in
theorem lg_31_6 : lgP (Cond.selects RX11 yX11_book yX11_book) := ⟨inlr31 _ (List.mem_of_getElem? (i := 6) rfl), good_of_word rfl⟩

set_option maxRecDepth 100000 in
theorem lg_31_7 : lgP (Cond.code yX11_book cX11_book 9 (some .int)) := ⟨inlr31 _ (List.mem_of_getElem? (i := 7) rfl), good_of_word rfl⟩

set_option maxRecDepth 100000 in
theorem lg_31_8 : lgP (Cond.constant RX11 155 (65537)) := ⟨inlr31 _ (List.mem_of_getElem? (i := 8) rfl), good_of_word rfl⟩

set_option maxRecDepth 100000 in
theorem lg_31_9 : lgP (Cond.methodLink RL 112 yX10_image) := ⟨inlr31 _ (List.mem_of_getElem? (i := 9) rfl), good_of_word rfl⟩

set_option maxRecDepth 100000 in
theorem lg_31_10 : lgP (Cond.instanceMethod yX10_image) := ⟨inlr31 _ (List.mem_of_getElem? (i := 10) rfl), good_of_word rfl⟩

set_option maxRecDepth 100000 in
theorem lg_31_11 : lgP (Cond.selects RX10 yX10_image yX10_image) := ⟨inlr31 _ (List.mem_of_getElem? (i := 11) rfl), good_of_word rfl⟩

set_option maxRecDepth 100000 in
theorem lg_31_12 : lgP (Cond.code yX10_image cX10_image 2 (some .int)) := ⟨inlr31 _ (List.mem_of_getElem? (i := 12) rfl), good_of_word rfl⟩

set_option maxRecDepth 100000 in
theorem lg_31_13 : lgP (Cond.methodLink RX10 242 yX10_imageOf) := ⟨inlr31 _ (List.mem_of_getElem? (i := 13) rfl), good_of_word rfl⟩

set_option maxRecDepth 100000 in
theorem lg_31_14 : lgP (Cond.instanceMethod yX10_imageOf) := ⟨inlr31 _ (List.mem_of_getElem? (i := 14) rfl), good_of_word rfl⟩

set_option maxRecDepth 100000 in
theorem lg_31_15 : lgP (Cond.selects RX10 yX10_imageOf yX10_imageOf) := ⟨inlr31 _ (List.mem_of_getElem? (i := 15) rfl), good_of_word rfl⟩

set_option maxRecDepth 100000 in
theorem lg_31_16 : lgP (Cond.code yX10_imageOf cX10_imageOf 2 (some (.object "HornCity$City"))) := ⟨inlr31 _ (List.mem_of_getElem? (i := 16) rfl), good_of_word rfl⟩

set_option maxRecDepth 100000 in
theorem lg_31_17 : lgP (Cond.methodLink RL 115 yX11_image) := ⟨inlr31 _ (List.mem_of_getElem? (i := 17) rfl), good_of_word rfl⟩

set_option maxRecDepth 100000 in
theorem lg_31_18 : lgP (Cond.instanceMethod yX11_image) := ⟨inlr31 _ (List.mem_of_getElem? (i := 18) rfl), good_of_word rfl⟩

set_option maxRecDepth 100000 in
theorem lg_31_19 : lgP (Cond.selects RX11 yX11_image yX11_image) := ⟨inlr31 _ (List.mem_of_getElem? (i := 19) rfl), good_of_word rfl⟩

set_option maxRecDepth 100000 in
theorem lg_31_20 : lgP (Cond.code yX11_image cX11_image 4 (some .int)) := ⟨inlr31 _ (List.mem_of_getElem? (i := 20) rfl), good_of_word rfl⟩

set_option maxRecDepth 100000 in
theorem lg_31_21 : lgP (Cond.methodLink RL 116 yX10_restore) := ⟨inlr31 _ (List.mem_of_getElem? (i := 21) rfl), good_of_word rfl⟩

set_option maxRecDepth 100000 in
theorem lg_31_22 : lgP (Cond.instanceMethod yX10_restore) := ⟨inlr31 _ (List.mem_of_getElem? (i := 22) rfl), good_of_word rfl⟩

set_option maxRecDepth 100000 in
theorem lg_31_23 : lgP (Cond.selects RX10 yX10_restore yX10_restore) := ⟨inlr31 _ (List.mem_of_getElem? (i := 23) rfl), good_of_word rfl⟩

set_option maxRecDepth 100000 in
theorem lg_32_0 : lgP (Cond.code yX10_restore cX10_restore 2 (some .int)) := ⟨inlr32 _ (List.mem_of_getElem? (i := 0) rfl), good_of_word rfl⟩

set_option maxRecDepth 100000 in
theorem lg_32_1 : lgP (Cond.methodLink RL 119 yX11_restore) := ⟨inlr32 _ (List.mem_of_getElem? (i := 1) rfl), good_of_word rfl⟩

set_option maxRecDepth 100000 in
theorem lg_32_2 : lgP (Cond.instanceMethod yX11_restore) := ⟨inlr32 _ (List.mem_of_getElem? (i := 2) rfl), good_of_word rfl⟩

set_option maxRecDepth 100000 in
theorem lg_32_3 : lgP (Cond.selects RX11 yX11_restore yX11_restore) := ⟨inlr32 _ (List.mem_of_getElem? (i := 3) rfl), good_of_word rfl⟩

set_option maxRecDepth 100000 in
theorem lg_32_4 : lgP (Cond.code yX11_restore cX11_restore 4 (some .int)) := ⟨inlr32 _ (List.mem_of_getElem? (i := 4) rfl), good_of_word rfl⟩

set_option maxRecDepth 100000 in
theorem lg_32_5 : lgP (Cond.methodLink RL 120 yX10_told) := ⟨inlr32 _ (List.mem_of_getElem? (i := 5) rfl), good_of_word rfl⟩

set_option maxRecDepth 100000 in
theorem lg_32_6 : lgP (Cond.instanceMethod yX10_told) := ⟨inlr32 _ (List.mem_of_getElem? (i := 6) rfl), good_of_word rfl⟩

set_option maxRecDepth 100000 in
theorem lg_32_7 : lgP (Cond.selects RX10 yX10_told yX10_told) := ⟨inlr32 _ (List.mem_of_getElem? (i := 7) rfl), good_of_word rfl⟩

set_option maxRecDepth 100000 in
theorem lg_32_8 : lgP (Cond.code yX10_told cX10_told 2 (some .int)) := ⟨inlr32 _ (List.mem_of_getElem? (i := 8) rfl), good_of_word rfl⟩

set_option maxRecDepth 100000 in
theorem lg_32_9 : lgP (Cond.fieldLink RX10 246 "HornCity$City" "there" "I") := ⟨inlr32 _ (List.mem_of_getElem? (i := 9) rfl), good_of_word rfl⟩

set_option maxRecDepth 100000 in
theorem lg_32_10 : lgP (Cond.methodLink RX10 249 yX10_toldOfOne) := ⟨inlr32 _ (List.mem_of_getElem? (i := 10) rfl), good_of_word rfl⟩

set_option maxRecDepth 100000 in
theorem lg_32_11 : lgP (Cond.instanceMethod yX10_toldOfOne) := ⟨inlr32 _ (List.mem_of_getElem? (i := 11) rfl), good_of_word rfl⟩

set_option maxRecDepth 100000 in
theorem lg_32_12 : lgP (Cond.selects RX10 yX10_toldOfOne yX10_toldOfOne) := ⟨inlr32 _ (List.mem_of_getElem? (i := 12) rfl), good_of_word rfl⟩

set_option maxRecDepth 100000 in
theorem lg_32_13 : lgP (Cond.code yX10_toldOfOne cX10_toldOfOne 3 (some .int)) := ⟨inlr32 _ (List.mem_of_getElem? (i := 13) rfl), good_of_word rfl⟩

set_option maxRecDepth 100000 in
theorem lg_32_14 : lgP (Cond.methodLink RX10 252 yX2_driftOf) := ⟨inlr32 _ (List.mem_of_getElem? (i := 14) rfl), good_of_word rfl⟩

set_option maxRecDepth 100000 in
theorem lg_32_15 : lgP (Cond.methodLink RL 123 yX11_told) := ⟨inlr32 _ (List.mem_of_getElem? (i := 15) rfl), good_of_word rfl⟩

set_option maxRecDepth 100000 in
theorem lg_32_16 : lgP (Cond.instanceMethod yX11_told) := ⟨inlr32 _ (List.mem_of_getElem? (i := 16) rfl), good_of_word rfl⟩

set_option maxRecDepth 100000 in
theorem lg_32_17 : lgP (Cond.selects RX11 yX11_told yX11_told) := ⟨inlr32 _ (List.mem_of_getElem? (i := 17) rfl), good_of_word rfl⟩

set_option maxRecDepth 100000 in
theorem lg_32_18 : lgP (Cond.code yX11_told cX11_told 4 (some .int)) := ⟨inlr32 _ (List.mem_of_getElem? (i := 18) rfl), good_of_word rfl⟩

set_option maxRecDepth 100000 in
theorem lg_wsX10_init_r1 : ∀ w ∈ wsX10_init_r1, lgP w := (List.forall_mem_cons.mpr ⟨lg_1_9, (List.forall_mem_cons.mpr ⟨lg_1_10, (List.forall_mem_cons.mpr ⟨lg_1_11, (List.forall_mem_cons.mpr ⟨lg_1_12, (List.forall_mem_cons.mpr ⟨lg_1_13, (List.forall_mem_cons.mpr ⟨lg_1_14, (List.forall_mem_cons.mpr ⟨lg_1_15, (List.forall_mem_cons.mpr ⟨lg_1_16, (List.forall_mem_cons.mpr ⟨lg_1_17, (List.forall_mem_cons.mpr ⟨lg_1_18, (List.forall_mem_cons.mpr ⟨lg_1_19, (List.forall_mem_cons.mpr ⟨lg_1_20, (List.forall_mem_cons.mpr ⟨lg_1_21, (List.forall_mem_cons.mpr ⟨lg_1_22, (List.forall_mem_cons.mpr ⟨lg_1_23, (List.forall_mem_cons.mpr ⟨lg_2_0, (List.forall_mem_cons.mpr ⟨lg_2_1, (List.forall_mem_cons.mpr ⟨lg_2_2, (List.forall_mem_cons.mpr ⟨lg_2_3, (List.forall_mem_cons.mpr ⟨lg_2_4, (List.forall_mem_cons.mpr ⟨lg_2_5, (List.forall_mem_cons.mpr ⟨lg_2_6, (List.forall_mem_cons.mpr ⟨lg_2_7, (List.forall_mem_cons.mpr ⟨lg_2_8, (fun _ h => absurd h List.not_mem_nil)⟩)⟩)⟩)⟩)⟩)⟩)⟩)⟩)⟩)⟩)⟩)⟩)⟩)⟩)⟩)⟩)⟩)⟩)⟩)⟩)⟩)⟩)⟩)⟩)
set_option maxRecDepth 100000 in
theorem lg_wsX10_init_r2 : ∀ w ∈ wsX10_init_r2, lgP w := (List.forall_mem_cons.mpr ⟨lg_2_9, (List.forall_mem_cons.mpr ⟨lg_2_10, (List.forall_mem_cons.mpr ⟨lg_2_11, (List.forall_mem_cons.mpr ⟨lg_2_12, (List.forall_mem_cons.mpr ⟨lg_2_13, (List.forall_mem_cons.mpr ⟨lg_2_14, (List.forall_mem_cons.mpr ⟨lg_2_15, (List.forall_mem_cons.mpr ⟨lg_2_16, (List.forall_mem_cons.mpr ⟨lg_2_17, (List.forall_mem_cons.mpr ⟨lg_2_18, (List.forall_mem_cons.mpr ⟨lg_2_19, (List.forall_mem_cons.mpr ⟨lg_2_20, (List.forall_mem_cons.mpr ⟨lg_2_21, (List.forall_mem_cons.mpr ⟨lg_2_22, (List.forall_mem_cons.mpr ⟨lg_2_23, (List.forall_mem_cons.mpr ⟨lg_3_0, (List.forall_mem_cons.mpr ⟨lg_3_1, (List.forall_mem_cons.mpr ⟨lg_3_2, (List.forall_mem_cons.mpr ⟨lg_3_3, (List.forall_mem_cons.mpr ⟨lg_3_4, (List.forall_mem_cons.mpr ⟨lg_3_5, (List.forall_mem_cons.mpr ⟨lg_3_6, (List.forall_mem_cons.mpr ⟨lg_3_7, (List.forall_mem_cons.mpr ⟨lg_3_8, (fun _ h => absurd h List.not_mem_nil)⟩)⟩)⟩)⟩)⟩)⟩)⟩)⟩)⟩)⟩)⟩)⟩)⟩)⟩)⟩)⟩)⟩)⟩)⟩)⟩)⟩)⟩)⟩)⟩)
set_option maxRecDepth 100000 in
theorem lg_wsX10_init_r3 : ∀ w ∈ wsX10_init_r3, lgP w := (List.forall_mem_cons.mpr ⟨lg_3_9, (List.forall_mem_cons.mpr ⟨lg_3_10, (List.forall_mem_cons.mpr ⟨lg_3_11, (List.forall_mem_cons.mpr ⟨lg_3_12, (List.forall_mem_cons.mpr ⟨lg_3_13, (List.forall_mem_cons.mpr ⟨lg_3_14, (List.forall_mem_cons.mpr ⟨lg_3_15, (List.forall_mem_cons.mpr ⟨lg_3_16, (List.forall_mem_cons.mpr ⟨lg_3_17, (List.forall_mem_cons.mpr ⟨lg_3_18, (List.forall_mem_cons.mpr ⟨lg_3_19, (List.forall_mem_cons.mpr ⟨lg_3_20, (List.forall_mem_cons.mpr ⟨lg_3_21, (List.forall_mem_cons.mpr ⟨lg_3_22, (List.forall_mem_cons.mpr ⟨lg_3_23, (List.forall_mem_cons.mpr ⟨lg_4_0, (List.forall_mem_cons.mpr ⟨lg_4_1, (List.forall_mem_cons.mpr ⟨lg_4_2, (List.forall_mem_cons.mpr ⟨lg_4_3, (List.forall_mem_cons.mpr ⟨lg_4_4, (List.forall_mem_cons.mpr ⟨lg_4_5, (List.forall_mem_cons.mpr ⟨lg_4_6, (List.forall_mem_cons.mpr ⟨lg_4_7, (List.forall_mem_cons.mpr ⟨lg_4_8, (fun _ h => absurd h List.not_mem_nil)⟩)⟩)⟩)⟩)⟩)⟩)⟩)⟩)⟩)⟩)⟩)⟩)⟩)⟩)⟩)⟩)⟩)⟩)⟩)⟩)⟩)⟩)⟩)⟩)
set_option maxRecDepth 100000 in
theorem lg_wsX10_init_r4 : ∀ w ∈ wsX10_init_r4, lgP w := (List.forall_mem_cons.mpr ⟨lg_4_9, (List.forall_mem_cons.mpr ⟨lg_4_10, (List.forall_mem_cons.mpr ⟨lg_4_11, (List.forall_mem_cons.mpr ⟨lg_4_12, (List.forall_mem_cons.mpr ⟨lg_4_13, (List.forall_mem_cons.mpr ⟨lg_4_14, (List.forall_mem_cons.mpr ⟨lg_4_15, (List.forall_mem_cons.mpr ⟨lg_4_16, (List.forall_mem_cons.mpr ⟨lg_4_17, (List.forall_mem_cons.mpr ⟨lg_4_18, (List.forall_mem_cons.mpr ⟨lg_4_19, (List.forall_mem_cons.mpr ⟨lg_4_20, (List.forall_mem_cons.mpr ⟨lg_4_21, (List.forall_mem_cons.mpr ⟨lg_4_22, (List.forall_mem_cons.mpr ⟨lg_4_23, (List.forall_mem_cons.mpr ⟨lg_5_0, (List.forall_mem_cons.mpr ⟨lg_5_1, (List.forall_mem_cons.mpr ⟨lg_5_2, (List.forall_mem_cons.mpr ⟨lg_5_3, (fun _ h => absurd h List.not_mem_nil)⟩)⟩)⟩)⟩)⟩)⟩)⟩)⟩)⟩)⟩)⟩)⟩)⟩)⟩)⟩)⟩)⟩)⟩)⟩)
set_option maxRecDepth 100000 in
theorem ggL_law_X10_init : GoodIn wsL_law wsX10_init := show ∀ w ∈ wsX10_init, lgP w from (List.forall_mem_cons.mpr ⟨lg_1_8, (List.forall_mem_append.mpr ⟨(List.forall_mem_append.mpr ⟨(List.forall_mem_append.mpr ⟨(List.forall_mem_append.mpr ⟨(List.forall_mem_append.mpr ⟨(List.forall_mem_append.mpr ⟨(List.forall_mem_append.mpr ⟨(List.forall_mem_append.mpr ⟨(List.forall_mem_append.mpr ⟨(List.forall_mem_append.mpr ⟨lg_wsX10_init_r1, (List.forall_mem_append.mpr ⟨lg_wsX10_init_r2, (List.forall_mem_append.mpr ⟨lg_wsX10_init_r3, lg_wsX10_init_r4⟩)⟩)⟩), lgwsX20⟩), lgwsX100⟩), lgwsX40⟩), lgwsX90⟩), lgwsX70⟩), lgwsX00⟩), lgwsX60⟩), lgwsX80⟩), lgwsX10⟩)⟩)

set_option maxRecDepth 100000 in
theorem gL_law_X10_init : GoodIn wsL_law (wsX10_init) := ggL_law_X10_init

set_option maxRecDepth 100000 in
theorem ggL_law_X11_init : GoodIn wsL_law wsX11_init := show ∀ w ∈ wsX11_init, lgP w from (List.forall_mem_cons.mpr ⟨lg_5_6, (List.forall_mem_append.mpr ⟨(List.forall_mem_cons.mpr ⟨lg_5_7, (List.forall_mem_cons.mpr ⟨lg_1_10, (List.forall_mem_cons.mpr ⟨lg_1_11, (List.forall_mem_cons.mpr ⟨lg_3_0, (List.forall_mem_cons.mpr ⟨lg_5_8, (List.forall_mem_cons.mpr ⟨lg_5_9, (List.forall_mem_cons.mpr ⟨lg_5_10, (List.forall_mem_cons.mpr ⟨lg_5_11, (List.forall_mem_cons.mpr ⟨lg_5_12, (List.forall_mem_cons.mpr ⟨lg_5_13, (List.forall_mem_cons.mpr ⟨lg_5_14, (List.forall_mem_cons.mpr ⟨lg_5_15, (List.forall_mem_cons.mpr ⟨lg_5_16, (List.forall_mem_cons.mpr ⟨lg_5_17, (List.forall_mem_cons.mpr ⟨lg_1_18, (List.forall_mem_cons.mpr ⟨lg_5_18, (List.forall_mem_cons.mpr ⟨lg_5_1, (List.forall_mem_cons.mpr ⟨lg_5_19, (List.forall_mem_cons.mpr ⟨lg_5_20, (List.forall_mem_cons.mpr ⟨lg_5_21, (List.forall_mem_cons.mpr ⟨lg_5_22, (fun _ h => absurd h List.not_mem_nil)⟩)⟩)⟩)⟩)⟩)⟩)⟩)⟩)⟩)⟩)⟩)⟩)⟩)⟩)⟩)⟩)⟩)⟩)⟩)⟩)⟩), lgwsX110⟩)⟩)

set_option maxRecDepth 100000 in
theorem gL_law_X11_init : GoodIn wsL_law (wsX11_init) := ggL_law_X11_init

set_option maxRecDepth 100000 in
theorem lg_wsX10_one_r1 : ∀ w ∈ wsX10_one_r1, lgP w := (List.forall_mem_cons.mpr ⟨lg_1_15, (List.forall_mem_cons.mpr ⟨lg_6_3, (List.forall_mem_cons.mpr ⟨lg_6_4, (List.forall_mem_cons.mpr ⟨lg_1_2, (List.forall_mem_cons.mpr ⟨lg_6_5, (List.forall_mem_cons.mpr ⟨lg_6_6, (List.forall_mem_cons.mpr ⟨lg_6_7, (List.forall_mem_cons.mpr ⟨lg_6_8, (List.forall_mem_cons.mpr ⟨lg_1_14, (List.forall_mem_cons.mpr ⟨lg_6_9, (List.forall_mem_cons.mpr ⟨lg_6_10, (List.forall_mem_cons.mpr ⟨lg_3_1, (List.forall_mem_cons.mpr ⟨lg_3_2, (List.forall_mem_cons.mpr ⟨lg_6_11, (List.forall_mem_cons.mpr ⟨lg_6_12, (List.forall_mem_cons.mpr ⟨lg_6_13, (List.forall_mem_cons.mpr ⟨lg_6_14, (List.forall_mem_cons.mpr ⟨lg_3_3, (List.forall_mem_cons.mpr ⟨lg_6_15, (List.forall_mem_cons.mpr ⟨lg_6_16, (List.forall_mem_cons.mpr ⟨lg_6_17, (List.forall_mem_cons.mpr ⟨lg_6_18, (List.forall_mem_cons.mpr ⟨lg_6_19, (List.forall_mem_cons.mpr ⟨lg_6_20, (fun _ h => absurd h List.not_mem_nil)⟩)⟩)⟩)⟩)⟩)⟩)⟩)⟩)⟩)⟩)⟩)⟩)⟩)⟩)⟩)⟩)⟩)⟩)⟩)⟩)⟩)⟩)⟩)⟩)
set_option maxRecDepth 100000 in
theorem lg_wsX10_one_r2 : ∀ w ∈ wsX10_one_r2, lgP w := (List.forall_mem_cons.mpr ⟨lg_6_21, (List.forall_mem_cons.mpr ⟨lg_6_22, (List.forall_mem_cons.mpr ⟨lg_6_23, (List.forall_mem_cons.mpr ⟨lg_7_0, (List.forall_mem_cons.mpr ⟨lg_7_1, (List.forall_mem_cons.mpr ⟨lg_7_2, (List.forall_mem_cons.mpr ⟨lg_7_3, (List.forall_mem_cons.mpr ⟨lg_7_4, (List.forall_mem_cons.mpr ⟨lg_7_5, (List.forall_mem_cons.mpr ⟨lg_7_6, (List.forall_mem_cons.mpr ⟨lg_7_7, (List.forall_mem_cons.mpr ⟨lg_7_8, (List.forall_mem_cons.mpr ⟨lg_7_9, (fun _ h => absurd h List.not_mem_nil)⟩)⟩)⟩)⟩)⟩)⟩)⟩)⟩)⟩)⟩)⟩)⟩)⟩)
set_option maxRecDepth 100000 in
theorem ggL_law_X10_one : GoodIn wsL_law wsX10_one := show ∀ w ∈ wsX10_one, lgP w from (List.forall_mem_cons.mpr ⟨lg_6_2, (List.forall_mem_append.mpr ⟨(List.forall_mem_append.mpr ⟨(List.forall_mem_append.mpr ⟨lg_wsX10_one_r1, lg_wsX10_one_r2⟩), lgwsX100⟩), lgwsX20⟩)⟩)

set_option maxRecDepth 100000 in
theorem gL_law_X10_one : GoodIn wsL_law (wsV RL 13 RX10 yX10_one wsX10_one) := goodIn_app (a := [.methodLink RL 13 yX10_one, .instanceMethod yX10_one, .selects RX10 yX10_one yX10_one, .initialized RX10]) (show ∀ w ∈ ([.methodLink RL 13 yX10_one, .instanceMethod yX10_one, .selects RX10 yX10_one yX10_one, .initialized RX10] : List Cond), lgP w from (List.forall_mem_cons.mpr ⟨lg_5_23, (List.forall_mem_cons.mpr ⟨lg_6_0, (List.forall_mem_cons.mpr ⟨lg_6_1, (List.forall_mem_cons.mpr ⟨lg_1_2, (fun _ h => absurd h List.not_mem_nil)⟩)⟩)⟩)⟩)) ggL_law_X10_one

set_option maxRecDepth 100000 in
theorem ggL_law_X11_one : GoodIn wsL_law wsX11_one := show ∀ w ∈ wsX11_one, lgP w from (List.forall_mem_cons.mpr ⟨lg_7_13, (List.forall_mem_append.mpr ⟨(List.forall_mem_cons.mpr ⟨lg_5_8, (List.forall_mem_cons.mpr ⟨lg_5_11, (List.forall_mem_cons.mpr ⟨lg_7_14, (List.forall_mem_cons.mpr ⟨lg_7_15, (List.forall_mem_cons.mpr ⟨lg_7_16, (List.forall_mem_cons.mpr ⟨lg_1_5, (List.forall_mem_cons.mpr ⟨lg_7_17, (List.forall_mem_cons.mpr ⟨lg_7_18, (List.forall_mem_cons.mpr ⟨lg_7_19, (List.forall_mem_cons.mpr ⟨lg_7_20, (List.forall_mem_cons.mpr ⟨lg_7_21, (List.forall_mem_cons.mpr ⟨lg_7_22, (List.forall_mem_cons.mpr ⟨lg_7_23, (List.forall_mem_cons.mpr ⟨lg_8_0, (List.forall_mem_cons.mpr ⟨lg_8_1, (List.forall_mem_cons.mpr ⟨lg_8_2, (List.forall_mem_cons.mpr ⟨lg_8_3, (fun _ h => absurd h List.not_mem_nil)⟩)⟩)⟩)⟩)⟩)⟩)⟩)⟩)⟩)⟩)⟩)⟩)⟩)⟩)⟩)⟩)⟩), lgwsX110⟩)⟩)

set_option maxRecDepth 100000 in
theorem gL_law_X11_one : GoodIn wsL_law (wsV RL 17 RX11 yX11_one wsX11_one) := goodIn_app (a := [.methodLink RL 17 yX11_one, .instanceMethod yX11_one, .selects RX11 yX11_one yX11_one, .initialized RX11]) (show ∀ w ∈ ([.methodLink RL 17 yX11_one, .instanceMethod yX11_one, .selects RX11 yX11_one yX11_one, .initialized RX11] : List Cond), lgP w from (List.forall_mem_cons.mpr ⟨lg_7_10, (List.forall_mem_cons.mpr ⟨lg_7_11, (List.forall_mem_cons.mpr ⟨lg_7_12, (List.forall_mem_cons.mpr ⟨lg_1_5, (fun _ h => absurd h List.not_mem_nil)⟩)⟩)⟩)⟩)) ggL_law_X11_one

set_option maxRecDepth 100000 in
theorem lg_wsX10_pair_r1 : ∀ w ∈ wsX10_pair_r1, lgP w := (List.forall_mem_cons.mpr ⟨lg_1_15, (List.forall_mem_cons.mpr ⟨lg_8_8, (List.forall_mem_cons.mpr ⟨lg_6_20, (List.forall_mem_cons.mpr ⟨lg_6_21, (List.forall_mem_cons.mpr ⟨lg_1_14, (List.forall_mem_cons.mpr ⟨lg_6_22, (List.forall_mem_cons.mpr ⟨lg_6_10, (List.forall_mem_cons.mpr ⟨lg_8_9, (List.forall_mem_cons.mpr ⟨lg_6_16, (List.forall_mem_cons.mpr ⟨lg_6_17, (List.forall_mem_cons.mpr ⟨lg_6_18, (List.forall_mem_cons.mpr ⟨lg_3_3, (List.forall_mem_cons.mpr ⟨lg_6_19, (List.forall_mem_cons.mpr ⟨lg_8_10, (List.forall_mem_cons.mpr ⟨lg_8_11, (List.forall_mem_cons.mpr ⟨lg_8_12, (List.forall_mem_cons.mpr ⟨lg_8_13, (List.forall_mem_cons.mpr ⟨lg_8_14, (List.forall_mem_cons.mpr ⟨lg_6_12, (List.forall_mem_cons.mpr ⟨lg_6_13, (List.forall_mem_cons.mpr ⟨lg_6_14, (List.forall_mem_cons.mpr ⟨lg_6_15, (List.forall_mem_cons.mpr ⟨lg_8_15, (List.forall_mem_cons.mpr ⟨lg_8_16, (fun _ h => absurd h List.not_mem_nil)⟩)⟩)⟩)⟩)⟩)⟩)⟩)⟩)⟩)⟩)⟩)⟩)⟩)⟩)⟩)⟩)⟩)⟩)⟩)⟩)⟩)⟩)⟩)⟩)
set_option maxRecDepth 100000 in
theorem lg_wsX10_pair_r2 : ∀ w ∈ wsX10_pair_r2, lgP w := (List.forall_mem_cons.mpr ⟨lg_8_17, (List.forall_mem_cons.mpr ⟨lg_8_18, (fun _ h => absurd h List.not_mem_nil)⟩)⟩)
set_option maxRecDepth 100000 in
theorem ggL_law_X10_pair : GoodIn wsL_law wsX10_pair := show ∀ w ∈ wsX10_pair, lgP w from (List.forall_mem_cons.mpr ⟨lg_8_7, (List.forall_mem_append.mpr ⟨(List.forall_mem_append.mpr ⟨(List.forall_mem_append.mpr ⟨lg_wsX10_pair_r1, lg_wsX10_pair_r2⟩), lgwsX100⟩), lgwsX20⟩)⟩)

set_option maxRecDepth 100000 in
theorem gL_law_X10_pair : GoodIn wsL_law (wsV RL 18 RX10 yX10_pair wsX10_pair) := goodIn_app (a := [.methodLink RL 18 yX10_pair, .instanceMethod yX10_pair, .selects RX10 yX10_pair yX10_pair, .initialized RX10]) (show ∀ w ∈ ([.methodLink RL 18 yX10_pair, .instanceMethod yX10_pair, .selects RX10 yX10_pair yX10_pair, .initialized RX10] : List Cond), lgP w from (List.forall_mem_cons.mpr ⟨lg_8_4, (List.forall_mem_cons.mpr ⟨lg_8_5, (List.forall_mem_cons.mpr ⟨lg_8_6, (List.forall_mem_cons.mpr ⟨lg_1_2, (fun _ h => absurd h List.not_mem_nil)⟩)⟩)⟩)⟩)) ggL_law_X10_pair

set_option maxRecDepth 100000 in
theorem ggL_law_X11_pair : GoodIn wsL_law wsX11_pair := show ∀ w ∈ wsX11_pair, lgP w from (List.forall_mem_cons.mpr ⟨lg_8_22, (List.forall_mem_append.mpr ⟨(List.forall_mem_cons.mpr ⟨lg_5_8, (List.forall_mem_cons.mpr ⟨lg_7_18, (List.forall_mem_cons.mpr ⟨lg_7_19, (List.forall_mem_cons.mpr ⟨lg_7_20, (List.forall_mem_cons.mpr ⟨lg_1_5, (List.forall_mem_cons.mpr ⟨lg_7_21, (List.forall_mem_cons.mpr ⟨lg_7_14, (List.forall_mem_cons.mpr ⟨lg_7_15, (List.forall_mem_cons.mpr ⟨lg_7_16, (List.forall_mem_cons.mpr ⟨lg_7_17, (List.forall_mem_cons.mpr ⟨lg_7_22, (List.forall_mem_cons.mpr ⟨lg_7_23, (List.forall_mem_cons.mpr ⟨lg_8_0, (List.forall_mem_cons.mpr ⟨lg_8_23, (List.forall_mem_cons.mpr ⟨lg_9_0, (List.forall_mem_cons.mpr ⟨lg_9_1, (List.forall_mem_cons.mpr ⟨lg_9_2, (List.forall_mem_cons.mpr ⟨lg_5_9, (List.forall_mem_cons.mpr ⟨lg_9_3, (List.forall_mem_cons.mpr ⟨lg_9_4, (List.forall_mem_cons.mpr ⟨lg_9_5, (List.forall_mem_cons.mpr ⟨lg_9_6, (List.forall_mem_cons.mpr ⟨lg_9_7, (List.forall_mem_cons.mpr ⟨lg_9_8, (fun _ h => absurd h List.not_mem_nil)⟩)⟩)⟩)⟩)⟩)⟩)⟩)⟩)⟩)⟩)⟩)⟩)⟩)⟩)⟩)⟩)⟩)⟩)⟩)⟩)⟩)⟩)⟩)⟩), lgwsX110⟩)⟩)

set_option maxRecDepth 100000 in
theorem gL_law_X11_pair : GoodIn wsL_law (wsV RL 22 RX11 yX11_pair wsX11_pair) := goodIn_app (a := [.methodLink RL 22 yX11_pair, .instanceMethod yX11_pair, .selects RX11 yX11_pair yX11_pair, .initialized RX11]) (show ∀ w ∈ ([.methodLink RL 22 yX11_pair, .instanceMethod yX11_pair, .selects RX11 yX11_pair yX11_pair, .initialized RX11] : List Cond), lgP w from (List.forall_mem_cons.mpr ⟨lg_8_19, (List.forall_mem_cons.mpr ⟨lg_8_20, (List.forall_mem_cons.mpr ⟨lg_8_21, (List.forall_mem_cons.mpr ⟨lg_1_5, (fun _ h => absurd h List.not_mem_nil)⟩)⟩)⟩)⟩)) ggL_law_X11_pair

set_option maxRecDepth 100000 in
theorem ggL_law_X10_horn : GoodIn wsL_law wsX10_horn := show ∀ w ∈ wsX10_horn, lgP w from (List.forall_mem_cons.mpr ⟨lg_9_12, (List.forall_mem_append.mpr ⟨(List.forall_mem_append.mpr ⟨(List.forall_mem_cons.mpr ⟨lg_1_15, (List.forall_mem_cons.mpr ⟨lg_9_13, (List.forall_mem_cons.mpr ⟨lg_6_3, (List.forall_mem_cons.mpr ⟨lg_6_4, (List.forall_mem_cons.mpr ⟨lg_1_2, (List.forall_mem_cons.mpr ⟨lg_6_5, (fun _ h => absurd h List.not_mem_nil)⟩)⟩)⟩)⟩)⟩)⟩), lgwsX100⟩), lgwsX20⟩)⟩)

set_option maxRecDepth 100000 in
theorem gL_law_X10_horn : GoodIn wsL_law (wsV RL 23 RX10 yX10_horn wsX10_horn) := goodIn_app (a := [.methodLink RL 23 yX10_horn, .instanceMethod yX10_horn, .selects RX10 yX10_horn yX10_horn, .initialized RX10]) (show ∀ w ∈ ([.methodLink RL 23 yX10_horn, .instanceMethod yX10_horn, .selects RX10 yX10_horn yX10_horn, .initialized RX10] : List Cond), lgP w from (List.forall_mem_cons.mpr ⟨lg_9_9, (List.forall_mem_cons.mpr ⟨lg_9_10, (List.forall_mem_cons.mpr ⟨lg_9_11, (List.forall_mem_cons.mpr ⟨lg_1_2, (fun _ h => absurd h List.not_mem_nil)⟩)⟩)⟩)⟩)) ggL_law_X10_horn

set_option maxRecDepth 100000 in
theorem ggL_law_X11_horn : GoodIn wsL_law wsX11_horn := show ∀ w ∈ wsX11_horn, lgP w from (List.forall_mem_cons.mpr ⟨lg_9_17, (List.forall_mem_append.mpr ⟨(List.forall_mem_cons.mpr ⟨lg_5_8, (List.forall_mem_cons.mpr ⟨lg_7_15, (List.forall_mem_cons.mpr ⟨lg_7_16, (List.forall_mem_cons.mpr ⟨lg_1_5, (List.forall_mem_cons.mpr ⟨lg_7_17, (fun _ h => absurd h List.not_mem_nil)⟩)⟩)⟩)⟩)⟩), lgwsX110⟩)⟩)

set_option maxRecDepth 100000 in
theorem gL_law_X11_horn : GoodIn wsL_law (wsV RL 27 RX11 yX11_horn wsX11_horn) := goodIn_app (a := [.methodLink RL 27 yX11_horn, .instanceMethod yX11_horn, .selects RX11 yX11_horn yX11_horn, .initialized RX11]) (show ∀ w ∈ ([.methodLink RL 27 yX11_horn, .instanceMethod yX11_horn, .selects RX11 yX11_horn yX11_horn, .initialized RX11] : List Cond), lgP w from (List.forall_mem_cons.mpr ⟨lg_9_14, (List.forall_mem_cons.mpr ⟨lg_9_15, (List.forall_mem_cons.mpr ⟨lg_9_16, (List.forall_mem_cons.mpr ⟨lg_1_5, (fun _ h => absurd h List.not_mem_nil)⟩)⟩)⟩)⟩)) ggL_law_X11_horn

set_option maxRecDepth 100000 in
theorem ggL_law_X10_say : GoodIn wsL_law wsX10_say := show ∀ w ∈ wsX10_say, lgP w from (List.forall_mem_cons.mpr ⟨lg_9_21, (List.forall_mem_append.mpr ⟨(List.forall_mem_append.mpr ⟨(List.forall_mem_cons.mpr ⟨lg_1_23, (List.forall_mem_cons.mpr ⟨lg_9_22, (List.forall_mem_cons.mpr ⟨lg_6_3, (List.forall_mem_cons.mpr ⟨lg_6_4, (List.forall_mem_cons.mpr ⟨lg_1_2, (List.forall_mem_cons.mpr ⟨lg_6_5, (List.forall_mem_cons.mpr ⟨lg_9_23, (List.forall_mem_cons.mpr ⟨lg_10_0, (List.forall_mem_cons.mpr ⟨lg_10_1, (List.forall_mem_cons.mpr ⟨lg_1_22, (List.forall_mem_cons.mpr ⟨lg_10_2, (List.forall_mem_cons.mpr ⟨lg_10_3, (List.forall_mem_cons.mpr ⟨lg_3_19, (fun _ h => absurd h List.not_mem_nil)⟩)⟩)⟩)⟩)⟩)⟩)⟩)⟩)⟩)⟩)⟩)⟩)⟩), lgwsX100⟩), lgwsX40⟩)⟩)

set_option maxRecDepth 100000 in
theorem gL_law_X10_say : GoodIn wsL_law (wsV RL 28 RX10 yX10_say wsX10_say) := goodIn_app (a := [.methodLink RL 28 yX10_say, .instanceMethod yX10_say, .selects RX10 yX10_say yX10_say, .initialized RX10]) (show ∀ w ∈ ([.methodLink RL 28 yX10_say, .instanceMethod yX10_say, .selects RX10 yX10_say yX10_say, .initialized RX10] : List Cond), lgP w from (List.forall_mem_cons.mpr ⟨lg_9_18, (List.forall_mem_cons.mpr ⟨lg_9_19, (List.forall_mem_cons.mpr ⟨lg_9_20, (List.forall_mem_cons.mpr ⟨lg_1_2, (fun _ h => absurd h List.not_mem_nil)⟩)⟩)⟩)⟩)) ggL_law_X10_say

set_option maxRecDepth 100000 in
theorem ggL_law_X11_say : GoodIn wsL_law wsX11_say := show ∀ w ∈ wsX11_say, lgP w from (List.forall_mem_cons.mpr ⟨lg_10_7, (List.forall_mem_append.mpr ⟨(List.forall_mem_cons.mpr ⟨lg_10_8, (List.forall_mem_cons.mpr ⟨lg_5_13, (List.forall_mem_cons.mpr ⟨lg_7_15, (List.forall_mem_cons.mpr ⟨lg_7_16, (List.forall_mem_cons.mpr ⟨lg_1_5, (List.forall_mem_cons.mpr ⟨lg_7_17, (fun _ h => absurd h List.not_mem_nil)⟩)⟩)⟩)⟩)⟩)⟩), lgwsX110⟩)⟩)

set_option maxRecDepth 100000 in
theorem gL_law_X11_say : GoodIn wsL_law (wsV RL 31 RX11 yX11_say wsX11_say) := goodIn_app (a := [.methodLink RL 31 yX11_say, .instanceMethod yX11_say, .selects RX11 yX11_say yX11_say, .initialized RX11]) (show ∀ w ∈ ([.methodLink RL 31 yX11_say, .instanceMethod yX11_say, .selects RX11 yX11_say yX11_say, .initialized RX11] : List Cond), lgP w from (List.forall_mem_cons.mpr ⟨lg_10_4, (List.forall_mem_cons.mpr ⟨lg_10_5, (List.forall_mem_cons.mpr ⟨lg_10_6, (List.forall_mem_cons.mpr ⟨lg_1_5, (fun _ h => absurd h List.not_mem_nil)⟩)⟩)⟩)⟩)) ggL_law_X11_say

set_option maxRecDepth 100000 in
theorem ggL_law_X10_wipe : GoodIn wsL_law wsX10_wipe := show ∀ w ∈ wsX10_wipe, lgP w from (List.forall_mem_cons.mpr ⟨lg_10_12, (List.forall_mem_append.mpr ⟨(List.forall_mem_append.mpr ⟨(List.forall_mem_cons.mpr ⟨lg_1_23, (List.forall_mem_cons.mpr ⟨lg_9_22, (fun _ h => absurd h List.not_mem_nil)⟩)⟩), lgwsX100⟩), lgwsX40⟩)⟩)

set_option maxRecDepth 100000 in
theorem gL_law_X10_wipe : GoodIn wsL_law (wsV RL 32 RX10 yX10_wipe wsX10_wipe) := goodIn_app (a := [.methodLink RL 32 yX10_wipe, .instanceMethod yX10_wipe, .selects RX10 yX10_wipe yX10_wipe, .initialized RX10]) (show ∀ w ∈ ([.methodLink RL 32 yX10_wipe, .instanceMethod yX10_wipe, .selects RX10 yX10_wipe yX10_wipe, .initialized RX10] : List Cond), lgP w from (List.forall_mem_cons.mpr ⟨lg_10_9, (List.forall_mem_cons.mpr ⟨lg_10_10, (List.forall_mem_cons.mpr ⟨lg_10_11, (List.forall_mem_cons.mpr ⟨lg_1_2, (fun _ h => absurd h List.not_mem_nil)⟩)⟩)⟩)⟩)) ggL_law_X10_wipe

set_option maxRecDepth 100000 in
theorem ggL_law_X11_wipe : GoodIn wsL_law wsX11_wipe := show ∀ w ∈ wsX11_wipe, lgP w from (List.forall_mem_cons.mpr ⟨lg_10_16, (List.forall_mem_append.mpr ⟨(List.forall_mem_cons.mpr ⟨lg_10_8, (fun _ h => absurd h List.not_mem_nil)⟩), lgwsX110⟩)⟩)

set_option maxRecDepth 100000 in
theorem gL_law_X11_wipe : GoodIn wsL_law (wsV RL 36 RX11 yX11_wipe wsX11_wipe) := goodIn_app (a := [.methodLink RL 36 yX11_wipe, .instanceMethod yX11_wipe, .selects RX11 yX11_wipe yX11_wipe, .initialized RX11]) (show ∀ w ∈ ([.methodLink RL 36 yX11_wipe, .instanceMethod yX11_wipe, .selects RX11 yX11_wipe yX11_wipe, .initialized RX11] : List Cond), lgP w from (List.forall_mem_cons.mpr ⟨lg_10_13, (List.forall_mem_cons.mpr ⟨lg_10_14, (List.forall_mem_cons.mpr ⟨lg_10_15, (List.forall_mem_cons.mpr ⟨lg_1_5, (fun _ h => absurd h List.not_mem_nil)⟩)⟩)⟩)⟩)) ggL_law_X11_wipe

set_option maxRecDepth 100000 in
theorem lg_wsX10_fault_r1 : ∀ w ∈ wsX10_fault_r1, lgP w := (List.forall_mem_cons.mpr ⟨lg_1_23, (List.forall_mem_cons.mpr ⟨lg_10_21, (List.forall_mem_cons.mpr ⟨lg_10_22, (List.forall_mem_cons.mpr ⟨lg_10_23, (List.forall_mem_cons.mpr ⟨lg_1_22, (List.forall_mem_cons.mpr ⟨lg_11_0, (List.forall_mem_cons.mpr ⟨lg_10_3, (List.forall_mem_cons.mpr ⟨lg_11_1, (List.forall_mem_cons.mpr ⟨lg_11_2, (List.forall_mem_cons.mpr ⟨lg_11_3, (List.forall_mem_cons.mpr ⟨lg_11_4, (List.forall_mem_cons.mpr ⟨lg_11_5, (List.forall_mem_cons.mpr ⟨lg_11_6, (List.forall_mem_cons.mpr ⟨lg_11_7, (List.forall_mem_cons.mpr ⟨lg_11_8, (List.forall_mem_cons.mpr ⟨lg_3_19, (List.forall_mem_cons.mpr ⟨lg_11_9, (List.forall_mem_cons.mpr ⟨lg_11_10, (List.forall_mem_cons.mpr ⟨lg_11_11, (List.forall_mem_cons.mpr ⟨lg_11_12, (List.forall_mem_cons.mpr ⟨lg_11_13, (List.forall_mem_cons.mpr ⟨lg_11_14, (List.forall_mem_cons.mpr ⟨lg_11_15, (List.forall_mem_cons.mpr ⟨lg_11_16, (fun _ h => absurd h List.not_mem_nil)⟩)⟩)⟩)⟩)⟩)⟩)⟩)⟩)⟩)⟩)⟩)⟩)⟩)⟩)⟩)⟩)⟩)⟩)⟩)⟩)⟩)⟩)⟩)⟩)
set_option maxRecDepth 100000 in
theorem lg_wsX10_fault_r2 : ∀ w ∈ wsX10_fault_r2, lgP w := (List.forall_mem_cons.mpr ⟨lg_11_17, (List.forall_mem_cons.mpr ⟨lg_11_18, (List.forall_mem_cons.mpr ⟨lg_11_19, (List.forall_mem_cons.mpr ⟨lg_11_20, (List.forall_mem_cons.mpr ⟨lg_11_21, (List.forall_mem_cons.mpr ⟨lg_11_22, (List.forall_mem_cons.mpr ⟨lg_11_23, (List.forall_mem_cons.mpr ⟨lg_12_0, (List.forall_mem_cons.mpr ⟨lg_12_1, (List.forall_mem_cons.mpr ⟨lg_12_2, (fun _ h => absurd h List.not_mem_nil)⟩)⟩)⟩)⟩)⟩)⟩)⟩)⟩)⟩)⟩)
set_option maxRecDepth 100000 in
theorem ggL_law_X10_fault : GoodIn wsL_law wsX10_fault := show ∀ w ∈ wsX10_fault, lgP w from (List.forall_mem_cons.mpr ⟨lg_10_20, (List.forall_mem_append.mpr ⟨(List.forall_mem_append.mpr ⟨(List.forall_mem_append.mpr ⟨lg_wsX10_fault_r1, lg_wsX10_fault_r2⟩), lgwsX100⟩), lgwsX40⟩)⟩)

set_option maxRecDepth 100000 in
theorem gL_law_X10_fault : GoodIn wsL_law (wsV RL 37 RX10 yX10_fault wsX10_fault) := goodIn_app (a := [.methodLink RL 37 yX10_fault, .instanceMethod yX10_fault, .selects RX10 yX10_fault yX10_fault, .initialized RX10]) (show ∀ w ∈ ([.methodLink RL 37 yX10_fault, .instanceMethod yX10_fault, .selects RX10 yX10_fault yX10_fault, .initialized RX10] : List Cond), lgP w from (List.forall_mem_cons.mpr ⟨lg_10_17, (List.forall_mem_cons.mpr ⟨lg_10_18, (List.forall_mem_cons.mpr ⟨lg_10_19, (List.forall_mem_cons.mpr ⟨lg_1_2, (fun _ h => absurd h List.not_mem_nil)⟩)⟩)⟩)⟩)) ggL_law_X10_fault

set_option maxRecDepth 100000 in
theorem ggL_law_X11_fault : GoodIn wsL_law wsX11_fault := show ∀ w ∈ wsX11_fault, lgP w from (List.forall_mem_cons.mpr ⟨lg_12_6, (List.forall_mem_append.mpr ⟨(List.forall_mem_cons.mpr ⟨lg_12_7, (List.forall_mem_cons.mpr ⟨lg_12_8, (List.forall_mem_cons.mpr ⟨lg_12_9, (List.forall_mem_cons.mpr ⟨lg_1_5, (List.forall_mem_cons.mpr ⟨lg_12_10, (List.forall_mem_cons.mpr ⟨lg_10_8, (List.forall_mem_cons.mpr ⟨lg_5_13, (List.forall_mem_cons.mpr ⟨lg_7_15, (List.forall_mem_cons.mpr ⟨lg_7_16, (List.forall_mem_cons.mpr ⟨lg_7_17, (fun _ h => absurd h List.not_mem_nil)⟩)⟩)⟩)⟩)⟩)⟩)⟩)⟩)⟩)⟩), lgwsX110⟩)⟩)

set_option maxRecDepth 100000 in
theorem gL_law_X11_fault : GoodIn wsL_law (wsV RL 40 RX11 yX11_fault wsX11_fault) := goodIn_app (a := [.methodLink RL 40 yX11_fault, .instanceMethod yX11_fault, .selects RX11 yX11_fault yX11_fault, .initialized RX11]) (show ∀ w ∈ ([.methodLink RL 40 yX11_fault, .instanceMethod yX11_fault, .selects RX11 yX11_fault yX11_fault, .initialized RX11] : List Cond), lgP w from (List.forall_mem_cons.mpr ⟨lg_12_3, (List.forall_mem_cons.mpr ⟨lg_12_4, (List.forall_mem_cons.mpr ⟨lg_12_5, (List.forall_mem_cons.mpr ⟨lg_1_5, (fun _ h => absurd h List.not_mem_nil)⟩)⟩)⟩)⟩)) ggL_law_X11_fault

set_option maxRecDepth 100000 in
theorem lg_wsX10_judge_r1 : ∀ w ∈ wsX10_judge_r1, lgP w := (List.forall_mem_cons.mpr ⟨lg_1_23, (List.forall_mem_cons.mpr ⟨lg_2_3, (List.forall_mem_cons.mpr ⟨lg_1_15, (List.forall_mem_cons.mpr ⟨lg_12_15, (List.forall_mem_cons.mpr ⟨lg_12_16, (List.forall_mem_cons.mpr ⟨lg_6_3, (List.forall_mem_cons.mpr ⟨lg_6_4, (List.forall_mem_cons.mpr ⟨lg_1_2, (List.forall_mem_cons.mpr ⟨lg_6_5, (List.forall_mem_cons.mpr ⟨lg_10_21, (List.forall_mem_cons.mpr ⟨lg_10_22, (List.forall_mem_cons.mpr ⟨lg_10_23, (List.forall_mem_cons.mpr ⟨lg_1_22, (List.forall_mem_cons.mpr ⟨lg_11_0, (List.forall_mem_cons.mpr ⟨lg_10_3, (List.forall_mem_cons.mpr ⟨lg_11_1, (List.forall_mem_cons.mpr ⟨lg_11_2, (List.forall_mem_cons.mpr ⟨lg_11_3, (List.forall_mem_cons.mpr ⟨lg_11_4, (List.forall_mem_cons.mpr ⟨lg_11_5, (List.forall_mem_cons.mpr ⟨lg_11_6, (List.forall_mem_cons.mpr ⟨lg_11_7, (List.forall_mem_cons.mpr ⟨lg_11_8, (List.forall_mem_cons.mpr ⟨lg_3_19, (fun _ h => absurd h List.not_mem_nil)⟩)⟩)⟩)⟩)⟩)⟩)⟩)⟩)⟩)⟩)⟩)⟩)⟩)⟩)⟩)⟩)⟩)⟩)⟩)⟩)⟩)⟩)⟩)⟩)
set_option maxRecDepth 100000 in
theorem lg_wsX10_judge_r2 : ∀ w ∈ wsX10_judge_r2, lgP w := (List.forall_mem_cons.mpr ⟨lg_11_9, (List.forall_mem_cons.mpr ⟨lg_11_10, (List.forall_mem_cons.mpr ⟨lg_11_11, (List.forall_mem_cons.mpr ⟨lg_11_12, (List.forall_mem_cons.mpr ⟨lg_11_13, (List.forall_mem_cons.mpr ⟨lg_11_14, (List.forall_mem_cons.mpr ⟨lg_11_15, (List.forall_mem_cons.mpr ⟨lg_11_16, (List.forall_mem_cons.mpr ⟨lg_11_17, (List.forall_mem_cons.mpr ⟨lg_11_18, (List.forall_mem_cons.mpr ⟨lg_11_19, (List.forall_mem_cons.mpr ⟨lg_11_20, (List.forall_mem_cons.mpr ⟨lg_11_21, (List.forall_mem_cons.mpr ⟨lg_11_22, (List.forall_mem_cons.mpr ⟨lg_11_23, (List.forall_mem_cons.mpr ⟨lg_12_0, (List.forall_mem_cons.mpr ⟨lg_12_1, (List.forall_mem_cons.mpr ⟨lg_12_2, (List.forall_mem_cons.mpr ⟨lg_12_17, (List.forall_mem_cons.mpr ⟨lg_12_18, (List.forall_mem_cons.mpr ⟨lg_12_19, (List.forall_mem_cons.mpr ⟨lg_2_2, (List.forall_mem_cons.mpr ⟨lg_12_20, (List.forall_mem_cons.mpr ⟨lg_12_21, (fun _ h => absurd h List.not_mem_nil)⟩)⟩)⟩)⟩)⟩)⟩)⟩)⟩)⟩)⟩)⟩)⟩)⟩)⟩)⟩)⟩)⟩)⟩)⟩)⟩)⟩)⟩)⟩)⟩)
set_option maxRecDepth 100000 in
theorem lg_wsX10_judge_r3 : ∀ w ∈ wsX10_judge_r3, lgP w := (List.forall_mem_cons.mpr ⟨lg_4_1, (List.forall_mem_cons.mpr ⟨lg_12_22, (List.forall_mem_cons.mpr ⟨lg_12_23, (List.forall_mem_cons.mpr ⟨lg_13_0, (List.forall_mem_cons.mpr ⟨lg_13_1, (List.forall_mem_cons.mpr ⟨lg_13_2, (List.forall_mem_cons.mpr ⟨lg_13_3, (List.forall_mem_cons.mpr ⟨lg_13_4, (List.forall_mem_cons.mpr ⟨lg_13_5, (List.forall_mem_cons.mpr ⟨lg_4_2, (List.forall_mem_cons.mpr ⟨lg_13_6, (List.forall_mem_cons.mpr ⟨lg_13_7, (List.forall_mem_cons.mpr ⟨lg_13_8, (List.forall_mem_cons.mpr ⟨lg_1_14, (List.forall_mem_cons.mpr ⟨lg_13_9, (List.forall_mem_cons.mpr ⟨lg_3_1, (List.forall_mem_cons.mpr ⟨lg_3_2, (List.forall_mem_cons.mpr ⟨lg_3_3, (List.forall_mem_cons.mpr ⟨lg_3_8, (List.forall_mem_cons.mpr ⟨lg_6_10, (List.forall_mem_cons.mpr ⟨lg_13_10, (List.forall_mem_cons.mpr ⟨lg_13_11, (List.forall_mem_cons.mpr ⟨lg_13_12, (List.forall_mem_cons.mpr ⟨lg_13_13, (fun _ h => absurd h List.not_mem_nil)⟩)⟩)⟩)⟩)⟩)⟩)⟩)⟩)⟩)⟩)⟩)⟩)⟩)⟩)⟩)⟩)⟩)⟩)⟩)⟩)⟩)⟩)⟩)⟩)
set_option maxRecDepth 100000 in
theorem lg_wsX10_judge_r4 : ∀ w ∈ wsX10_judge_r4, lgP w := (List.forall_mem_cons.mpr ⟨lg_13_14, (List.forall_mem_cons.mpr ⟨lg_3_7, (List.forall_mem_cons.mpr ⟨lg_13_15, (List.forall_mem_cons.mpr ⟨lg_3_13, (List.forall_mem_cons.mpr ⟨lg_3_14, (List.forall_mem_cons.mpr ⟨lg_13_16, (List.forall_mem_cons.mpr ⟨lg_13_17, (List.forall_mem_cons.mpr ⟨lg_13_18, (List.forall_mem_cons.mpr ⟨lg_13_19, (List.forall_mem_cons.mpr ⟨lg_13_20, (List.forall_mem_cons.mpr ⟨lg_13_21, (List.forall_mem_cons.mpr ⟨lg_13_22, (List.forall_mem_cons.mpr ⟨lg_13_23, (List.forall_mem_cons.mpr ⟨lg_14_0, (List.forall_mem_cons.mpr ⟨lg_14_1, (List.forall_mem_cons.mpr ⟨lg_14_2, (List.forall_mem_cons.mpr ⟨lg_14_3, (List.forall_mem_cons.mpr ⟨lg_14_4, (List.forall_mem_cons.mpr ⟨lg_14_5, (List.forall_mem_cons.mpr ⟨lg_6_19, (List.forall_mem_cons.mpr ⟨lg_6_20, (List.forall_mem_cons.mpr ⟨lg_6_21, (List.forall_mem_cons.mpr ⟨lg_6_22, (List.forall_mem_cons.mpr ⟨lg_6_15, (fun _ h => absurd h List.not_mem_nil)⟩)⟩)⟩)⟩)⟩)⟩)⟩)⟩)⟩)⟩)⟩)⟩)⟩)⟩)⟩)⟩)⟩)⟩)⟩)⟩)⟩)⟩)⟩)⟩)
set_option maxRecDepth 100000 in
theorem lg_wsX10_judge_r5 : ∀ w ∈ wsX10_judge_r5, lgP w := (List.forall_mem_cons.mpr ⟨lg_6_16, (List.forall_mem_cons.mpr ⟨lg_6_17, (List.forall_mem_cons.mpr ⟨lg_6_18, (List.forall_mem_cons.mpr ⟨lg_14_6, (List.forall_mem_cons.mpr ⟨lg_14_7, (List.forall_mem_cons.mpr ⟨lg_14_8, (List.forall_mem_cons.mpr ⟨lg_14_9, (List.forall_mem_cons.mpr ⟨lg_14_10, (List.forall_mem_cons.mpr ⟨lg_14_11, (List.forall_mem_cons.mpr ⟨lg_14_12, (List.forall_mem_cons.mpr ⟨lg_14_13, (List.forall_mem_cons.mpr ⟨lg_14_14, (List.forall_mem_cons.mpr ⟨lg_14_15, (List.forall_mem_cons.mpr ⟨lg_14_16, (List.forall_mem_cons.mpr ⟨lg_14_17, (List.forall_mem_cons.mpr ⟨lg_14_18, (List.forall_mem_cons.mpr ⟨lg_14_19, (List.forall_mem_cons.mpr ⟨lg_14_20, (List.forall_mem_cons.mpr ⟨lg_14_21, (List.forall_mem_cons.mpr ⟨lg_14_22, (List.forall_mem_cons.mpr ⟨lg_14_23, (List.forall_mem_cons.mpr ⟨lg_15_0, (List.forall_mem_cons.mpr ⟨lg_15_1, (List.forall_mem_cons.mpr ⟨lg_15_2, (fun _ h => absurd h List.not_mem_nil)⟩)⟩)⟩)⟩)⟩)⟩)⟩)⟩)⟩)⟩)⟩)⟩)⟩)⟩)⟩)⟩)⟩)⟩)⟩)⟩)⟩)⟩)⟩)⟩)
set_option maxRecDepth 100000 in
theorem lg_wsX10_judge_r6 : ∀ w ∈ wsX10_judge_r6, lgP w := (List.forall_mem_cons.mpr ⟨lg_15_3, (List.forall_mem_cons.mpr ⟨lg_15_4, (List.forall_mem_cons.mpr ⟨lg_15_5, (List.forall_mem_cons.mpr ⟨lg_15_6, (List.forall_mem_cons.mpr ⟨lg_15_7, (List.forall_mem_cons.mpr ⟨lg_15_8, (List.forall_mem_cons.mpr ⟨lg_8_11, (List.forall_mem_cons.mpr ⟨lg_8_12, (List.forall_mem_cons.mpr ⟨lg_8_13, (List.forall_mem_cons.mpr ⟨lg_6_11, (List.forall_mem_cons.mpr ⟨lg_6_12, (List.forall_mem_cons.mpr ⟨lg_6_13, (List.forall_mem_cons.mpr ⟨lg_6_14, (List.forall_mem_cons.mpr ⟨lg_15_9, (List.forall_mem_cons.mpr ⟨lg_15_10, (List.forall_mem_cons.mpr ⟨lg_15_11, (List.forall_mem_cons.mpr ⟨lg_15_12, (List.forall_mem_cons.mpr ⟨lg_3_4, (List.forall_mem_cons.mpr ⟨lg_15_13, (List.forall_mem_cons.mpr ⟨lg_15_14, (List.forall_mem_cons.mpr ⟨lg_15_15, (List.forall_mem_cons.mpr ⟨lg_15_16, (List.forall_mem_cons.mpr ⟨lg_15_17, (fun _ h => absurd h List.not_mem_nil)⟩)⟩)⟩)⟩)⟩)⟩)⟩)⟩)⟩)⟩)⟩)⟩)⟩)⟩)⟩)⟩)⟩)⟩)⟩)⟩)⟩)⟩)⟩)
set_option maxRecDepth 100000 in
theorem ggL_law_X10_judge : GoodIn wsL_law wsX10_judge := show ∀ w ∈ wsX10_judge, lgP w from (List.forall_mem_cons.mpr ⟨lg_12_14, (List.forall_mem_append.mpr ⟨(List.forall_mem_append.mpr ⟨(List.forall_mem_append.mpr ⟨(List.forall_mem_append.mpr ⟨(List.forall_mem_append.mpr ⟨(List.forall_mem_append.mpr ⟨lg_wsX10_judge_r1, (List.forall_mem_append.mpr ⟨lg_wsX10_judge_r2, (List.forall_mem_append.mpr ⟨lg_wsX10_judge_r3, (List.forall_mem_append.mpr ⟨lg_wsX10_judge_r4, (List.forall_mem_append.mpr ⟨lg_wsX10_judge_r5, lg_wsX10_judge_r6⟩)⟩)⟩)⟩)⟩), lgwsX100⟩), lgwsX90⟩), lgwsX40⟩), lgwsX20⟩), lgwsX10⟩)⟩)

set_option maxRecDepth 100000 in
theorem gL_law_X10_judge : GoodIn wsL_law (wsV RL 41 RX10 yX10_judge wsX10_judge) := goodIn_app (a := [.methodLink RL 41 yX10_judge, .instanceMethod yX10_judge, .selects RX10 yX10_judge yX10_judge, .initialized RX10]) (show ∀ w ∈ ([.methodLink RL 41 yX10_judge, .instanceMethod yX10_judge, .selects RX10 yX10_judge yX10_judge, .initialized RX10] : List Cond), lgP w from (List.forall_mem_cons.mpr ⟨lg_12_11, (List.forall_mem_cons.mpr ⟨lg_12_12, (List.forall_mem_cons.mpr ⟨lg_12_13, (List.forall_mem_cons.mpr ⟨lg_1_2, (fun _ h => absurd h List.not_mem_nil)⟩)⟩)⟩)⟩)) ggL_law_X10_judge

set_option maxRecDepth 100000 in
theorem lg_wsX11_judge_r1 : ∀ w ∈ wsX11_judge_r1, lgP w := (List.forall_mem_cons.mpr ⟨lg_15_22, (List.forall_mem_cons.mpr ⟨lg_7_15, (List.forall_mem_cons.mpr ⟨lg_7_16, (List.forall_mem_cons.mpr ⟨lg_1_5, (List.forall_mem_cons.mpr ⟨lg_7_17, (List.forall_mem_cons.mpr ⟨lg_12_7, (List.forall_mem_cons.mpr ⟨lg_12_8, (List.forall_mem_cons.mpr ⟨lg_12_9, (List.forall_mem_cons.mpr ⟨lg_12_10, (List.forall_mem_cons.mpr ⟨lg_10_8, (List.forall_mem_cons.mpr ⟨lg_5_13, (List.forall_mem_cons.mpr ⟨lg_15_23, (List.forall_mem_cons.mpr ⟨lg_16_0, (List.forall_mem_cons.mpr ⟨lg_16_1, (List.forall_mem_cons.mpr ⟨lg_16_2, (List.forall_mem_cons.mpr ⟨lg_16_3, (List.forall_mem_cons.mpr ⟨lg_9_3, (List.forall_mem_cons.mpr ⟨lg_5_9, (List.forall_mem_cons.mpr ⟨lg_9_4, (List.forall_mem_cons.mpr ⟨lg_8_23, (List.forall_mem_cons.mpr ⟨lg_9_0, (List.forall_mem_cons.mpr ⟨lg_9_1, (List.forall_mem_cons.mpr ⟨lg_9_2, (List.forall_mem_cons.mpr ⟨lg_5_8, (fun _ h => absurd h List.not_mem_nil)⟩)⟩)⟩)⟩)⟩)⟩)⟩)⟩)⟩)⟩)⟩)⟩)⟩)⟩)⟩)⟩)⟩)⟩)⟩)⟩)⟩)⟩)⟩)⟩)
set_option maxRecDepth 100000 in
theorem lg_wsX11_judge_r2 : ∀ w ∈ wsX11_judge_r2, lgP w := (List.forall_mem_cons.mpr ⟨lg_16_4, (List.forall_mem_cons.mpr ⟨lg_16_5, (List.forall_mem_cons.mpr ⟨lg_16_6, (List.forall_mem_cons.mpr ⟨lg_16_7, (List.forall_mem_cons.mpr ⟨lg_5_10, (List.forall_mem_cons.mpr ⟨lg_5_11, (List.forall_mem_cons.mpr ⟨lg_16_8, (List.forall_mem_cons.mpr ⟨lg_16_9, (List.forall_mem_cons.mpr ⟨lg_16_10, (List.forall_mem_cons.mpr ⟨lg_7_18, (List.forall_mem_cons.mpr ⟨lg_7_19, (List.forall_mem_cons.mpr ⟨lg_7_20, (List.forall_mem_cons.mpr ⟨lg_7_21, (List.forall_mem_cons.mpr ⟨lg_7_14, (List.forall_mem_cons.mpr ⟨lg_7_22, (List.forall_mem_cons.mpr ⟨lg_7_23, (List.forall_mem_cons.mpr ⟨lg_8_0, (List.forall_mem_cons.mpr ⟨lg_16_11, (List.forall_mem_cons.mpr ⟨lg_16_12, (List.forall_mem_cons.mpr ⟨lg_16_13, (List.forall_mem_cons.mpr ⟨lg_16_14, (List.forall_mem_cons.mpr ⟨lg_16_15, (List.forall_mem_cons.mpr ⟨lg_16_16, (List.forall_mem_cons.mpr ⟨lg_16_17, (fun _ h => absurd h List.not_mem_nil)⟩)⟩)⟩)⟩)⟩)⟩)⟩)⟩)⟩)⟩)⟩)⟩)⟩)⟩)⟩)⟩)⟩)⟩)⟩)⟩)⟩)⟩)⟩)⟩)
set_option maxRecDepth 100000 in
theorem lg_wsX11_judge_r3 : ∀ w ∈ wsX11_judge_r3, lgP w := (List.forall_mem_cons.mpr ⟨lg_16_18, (List.forall_mem_cons.mpr ⟨lg_16_19, (List.forall_mem_cons.mpr ⟨lg_16_20, (List.forall_mem_cons.mpr ⟨lg_16_21, (List.forall_mem_cons.mpr ⟨lg_16_22, (List.forall_mem_cons.mpr ⟨lg_16_23, (List.forall_mem_cons.mpr ⟨lg_17_0, (List.forall_mem_cons.mpr ⟨lg_17_1, (List.forall_mem_cons.mpr ⟨lg_17_2, (List.forall_mem_cons.mpr ⟨lg_17_3, (List.forall_mem_cons.mpr ⟨lg_17_4, (List.forall_mem_cons.mpr ⟨lg_17_5, (List.forall_mem_cons.mpr ⟨lg_17_6, (fun _ h => absurd h List.not_mem_nil)⟩)⟩)⟩)⟩)⟩)⟩)⟩)⟩)⟩)⟩)⟩)⟩)⟩)
set_option maxRecDepth 100000 in
theorem ggL_law_X11_judge : GoodIn wsL_law wsX11_judge := show ∀ w ∈ wsX11_judge, lgP w from (List.forall_mem_cons.mpr ⟨lg_15_21, (List.forall_mem_append.mpr ⟨(List.forall_mem_append.mpr ⟨lg_wsX11_judge_r1, (List.forall_mem_append.mpr ⟨lg_wsX11_judge_r2, lg_wsX11_judge_r3⟩)⟩), lgwsX110⟩)⟩)

set_option maxRecDepth 100000 in
theorem gL_law_X11_judge : GoodIn wsL_law (wsV RL 44 RX11 yX11_judge wsX11_judge) := goodIn_app (a := [.methodLink RL 44 yX11_judge, .instanceMethod yX11_judge, .selects RX11 yX11_judge yX11_judge, .initialized RX11]) (show ∀ w ∈ ([.methodLink RL 44 yX11_judge, .instanceMethod yX11_judge, .selects RX11 yX11_judge yX11_judge, .initialized RX11] : List Cond), lgP w from (List.forall_mem_cons.mpr ⟨lg_15_18, (List.forall_mem_cons.mpr ⟨lg_15_19, (List.forall_mem_cons.mpr ⟨lg_15_20, (List.forall_mem_cons.mpr ⟨lg_1_5, (fun _ h => absurd h List.not_mem_nil)⟩)⟩)⟩)⟩)) ggL_law_X11_judge

set_option maxRecDepth 100000 in
theorem lg_wsX10_done_r1 : ∀ w ∈ wsX10_done_r1, lgP w := (List.forall_mem_cons.mpr ⟨lg_1_15, (List.forall_mem_cons.mpr ⟨lg_2_3, (List.forall_mem_cons.mpr ⟨lg_17_11, (List.forall_mem_cons.mpr ⟨lg_1_23, (List.forall_mem_cons.mpr ⟨lg_9_22, (List.forall_mem_cons.mpr ⟨lg_12_16, (List.forall_mem_cons.mpr ⟨lg_17_12, (List.forall_mem_cons.mpr ⟨lg_17_13, (List.forall_mem_cons.mpr ⟨lg_17_14, (List.forall_mem_cons.mpr ⟨lg_1_2, (List.forall_mem_cons.mpr ⟨lg_17_15, (List.forall_mem_cons.mpr ⟨lg_12_15, (List.forall_mem_cons.mpr ⟨lg_10_21, (List.forall_mem_cons.mpr ⟨lg_10_22, (List.forall_mem_cons.mpr ⟨lg_10_23, (List.forall_mem_cons.mpr ⟨lg_1_22, (List.forall_mem_cons.mpr ⟨lg_11_0, (List.forall_mem_cons.mpr ⟨lg_10_3, (List.forall_mem_cons.mpr ⟨lg_11_1, (List.forall_mem_cons.mpr ⟨lg_11_2, (List.forall_mem_cons.mpr ⟨lg_11_3, (List.forall_mem_cons.mpr ⟨lg_11_4, (List.forall_mem_cons.mpr ⟨lg_11_5, (List.forall_mem_cons.mpr ⟨lg_11_6, (fun _ h => absurd h List.not_mem_nil)⟩)⟩)⟩)⟩)⟩)⟩)⟩)⟩)⟩)⟩)⟩)⟩)⟩)⟩)⟩)⟩)⟩)⟩)⟩)⟩)⟩)⟩)⟩)⟩)
set_option maxRecDepth 100000 in
theorem lg_wsX10_done_r2 : ∀ w ∈ wsX10_done_r2, lgP w := (List.forall_mem_cons.mpr ⟨lg_11_7, (List.forall_mem_cons.mpr ⟨lg_11_8, (List.forall_mem_cons.mpr ⟨lg_3_19, (List.forall_mem_cons.mpr ⟨lg_11_9, (List.forall_mem_cons.mpr ⟨lg_11_10, (List.forall_mem_cons.mpr ⟨lg_11_11, (List.forall_mem_cons.mpr ⟨lg_11_12, (List.forall_mem_cons.mpr ⟨lg_11_13, (List.forall_mem_cons.mpr ⟨lg_11_14, (List.forall_mem_cons.mpr ⟨lg_11_15, (List.forall_mem_cons.mpr ⟨lg_11_16, (List.forall_mem_cons.mpr ⟨lg_11_17, (List.forall_mem_cons.mpr ⟨lg_11_18, (List.forall_mem_cons.mpr ⟨lg_11_19, (List.forall_mem_cons.mpr ⟨lg_11_20, (List.forall_mem_cons.mpr ⟨lg_11_21, (List.forall_mem_cons.mpr ⟨lg_11_22, (List.forall_mem_cons.mpr ⟨lg_11_23, (List.forall_mem_cons.mpr ⟨lg_12_0, (List.forall_mem_cons.mpr ⟨lg_12_1, (List.forall_mem_cons.mpr ⟨lg_12_2, (List.forall_mem_cons.mpr ⟨lg_12_17, (List.forall_mem_cons.mpr ⟨lg_12_18, (List.forall_mem_cons.mpr ⟨lg_12_19, (fun _ h => absurd h List.not_mem_nil)⟩)⟩)⟩)⟩)⟩)⟩)⟩)⟩)⟩)⟩)⟩)⟩)⟩)⟩)⟩)⟩)⟩)⟩)⟩)⟩)⟩)⟩)⟩)⟩)
set_option maxRecDepth 100000 in
theorem lg_wsX10_done_r3 : ∀ w ∈ wsX10_done_r3, lgP w := (List.forall_mem_cons.mpr ⟨lg_2_2, (List.forall_mem_cons.mpr ⟨lg_12_20, (List.forall_mem_cons.mpr ⟨lg_12_21, (List.forall_mem_cons.mpr ⟨lg_4_1, (List.forall_mem_cons.mpr ⟨lg_12_22, (List.forall_mem_cons.mpr ⟨lg_12_23, (List.forall_mem_cons.mpr ⟨lg_13_0, (List.forall_mem_cons.mpr ⟨lg_13_1, (List.forall_mem_cons.mpr ⟨lg_13_2, (List.forall_mem_cons.mpr ⟨lg_13_3, (List.forall_mem_cons.mpr ⟨lg_13_4, (List.forall_mem_cons.mpr ⟨lg_13_5, (List.forall_mem_cons.mpr ⟨lg_4_2, (List.forall_mem_cons.mpr ⟨lg_13_6, (List.forall_mem_cons.mpr ⟨lg_13_7, (List.forall_mem_cons.mpr ⟨lg_13_8, (List.forall_mem_cons.mpr ⟨lg_1_14, (List.forall_mem_cons.mpr ⟨lg_13_9, (List.forall_mem_cons.mpr ⟨lg_3_1, (List.forall_mem_cons.mpr ⟨lg_3_2, (List.forall_mem_cons.mpr ⟨lg_3_3, (List.forall_mem_cons.mpr ⟨lg_3_8, (List.forall_mem_cons.mpr ⟨lg_6_10, (List.forall_mem_cons.mpr ⟨lg_13_10, (fun _ h => absurd h List.not_mem_nil)⟩)⟩)⟩)⟩)⟩)⟩)⟩)⟩)⟩)⟩)⟩)⟩)⟩)⟩)⟩)⟩)⟩)⟩)⟩)⟩)⟩)⟩)⟩)⟩)
set_option maxRecDepth 100000 in
theorem lg_wsX10_done_r4 : ∀ w ∈ wsX10_done_r4, lgP w := (List.forall_mem_cons.mpr ⟨lg_13_11, (List.forall_mem_cons.mpr ⟨lg_13_12, (List.forall_mem_cons.mpr ⟨lg_13_13, (List.forall_mem_cons.mpr ⟨lg_13_14, (List.forall_mem_cons.mpr ⟨lg_3_7, (List.forall_mem_cons.mpr ⟨lg_13_15, (List.forall_mem_cons.mpr ⟨lg_3_13, (List.forall_mem_cons.mpr ⟨lg_3_14, (List.forall_mem_cons.mpr ⟨lg_13_16, (List.forall_mem_cons.mpr ⟨lg_13_17, (List.forall_mem_cons.mpr ⟨lg_13_18, (List.forall_mem_cons.mpr ⟨lg_13_19, (List.forall_mem_cons.mpr ⟨lg_13_20, (List.forall_mem_cons.mpr ⟨lg_13_21, (List.forall_mem_cons.mpr ⟨lg_13_22, (List.forall_mem_cons.mpr ⟨lg_13_23, (List.forall_mem_cons.mpr ⟨lg_14_0, (List.forall_mem_cons.mpr ⟨lg_14_1, (List.forall_mem_cons.mpr ⟨lg_14_2, (List.forall_mem_cons.mpr ⟨lg_14_3, (List.forall_mem_cons.mpr ⟨lg_14_4, (List.forall_mem_cons.mpr ⟨lg_14_5, (List.forall_mem_cons.mpr ⟨lg_6_19, (List.forall_mem_cons.mpr ⟨lg_6_20, (fun _ h => absurd h List.not_mem_nil)⟩)⟩)⟩)⟩)⟩)⟩)⟩)⟩)⟩)⟩)⟩)⟩)⟩)⟩)⟩)⟩)⟩)⟩)⟩)⟩)⟩)⟩)⟩)⟩)
set_option maxRecDepth 100000 in
theorem lg_wsX10_done_r5 : ∀ w ∈ wsX10_done_r5, lgP w := (List.forall_mem_cons.mpr ⟨lg_6_21, (List.forall_mem_cons.mpr ⟨lg_6_22, (List.forall_mem_cons.mpr ⟨lg_6_15, (List.forall_mem_cons.mpr ⟨lg_6_16, (List.forall_mem_cons.mpr ⟨lg_6_17, (List.forall_mem_cons.mpr ⟨lg_6_18, (List.forall_mem_cons.mpr ⟨lg_14_6, (List.forall_mem_cons.mpr ⟨lg_14_7, (List.forall_mem_cons.mpr ⟨lg_14_8, (List.forall_mem_cons.mpr ⟨lg_14_9, (List.forall_mem_cons.mpr ⟨lg_14_10, (List.forall_mem_cons.mpr ⟨lg_14_11, (List.forall_mem_cons.mpr ⟨lg_14_12, (List.forall_mem_cons.mpr ⟨lg_14_13, (List.forall_mem_cons.mpr ⟨lg_14_14, (List.forall_mem_cons.mpr ⟨lg_14_15, (List.forall_mem_cons.mpr ⟨lg_14_16, (List.forall_mem_cons.mpr ⟨lg_14_17, (List.forall_mem_cons.mpr ⟨lg_14_18, (List.forall_mem_cons.mpr ⟨lg_14_19, (List.forall_mem_cons.mpr ⟨lg_14_20, (List.forall_mem_cons.mpr ⟨lg_14_21, (List.forall_mem_cons.mpr ⟨lg_14_22, (List.forall_mem_cons.mpr ⟨lg_14_23, (fun _ h => absurd h List.not_mem_nil)⟩)⟩)⟩)⟩)⟩)⟩)⟩)⟩)⟩)⟩)⟩)⟩)⟩)⟩)⟩)⟩)⟩)⟩)⟩)⟩)⟩)⟩)⟩)⟩)
set_option maxRecDepth 100000 in
theorem lg_wsX10_done_r6 : ∀ w ∈ wsX10_done_r6, lgP w := (List.forall_mem_cons.mpr ⟨lg_15_0, (List.forall_mem_cons.mpr ⟨lg_15_1, (List.forall_mem_cons.mpr ⟨lg_15_2, (List.forall_mem_cons.mpr ⟨lg_15_3, (List.forall_mem_cons.mpr ⟨lg_15_4, (List.forall_mem_cons.mpr ⟨lg_15_5, (List.forall_mem_cons.mpr ⟨lg_15_6, (List.forall_mem_cons.mpr ⟨lg_15_7, (List.forall_mem_cons.mpr ⟨lg_15_8, (List.forall_mem_cons.mpr ⟨lg_8_11, (List.forall_mem_cons.mpr ⟨lg_8_12, (List.forall_mem_cons.mpr ⟨lg_8_13, (List.forall_mem_cons.mpr ⟨lg_6_11, (List.forall_mem_cons.mpr ⟨lg_6_12, (List.forall_mem_cons.mpr ⟨lg_6_13, (List.forall_mem_cons.mpr ⟨lg_6_14, (List.forall_mem_cons.mpr ⟨lg_15_9, (List.forall_mem_cons.mpr ⟨lg_15_10, (List.forall_mem_cons.mpr ⟨lg_15_11, (List.forall_mem_cons.mpr ⟨lg_15_12, (List.forall_mem_cons.mpr ⟨lg_3_4, (List.forall_mem_cons.mpr ⟨lg_15_13, (List.forall_mem_cons.mpr ⟨lg_15_14, (List.forall_mem_cons.mpr ⟨lg_15_15, (fun _ h => absurd h List.not_mem_nil)⟩)⟩)⟩)⟩)⟩)⟩)⟩)⟩)⟩)⟩)⟩)⟩)⟩)⟩)⟩)⟩)⟩)⟩)⟩)⟩)⟩)⟩)⟩)⟩)
set_option maxRecDepth 100000 in
theorem lg_wsX10_done_r7 : ∀ w ∈ wsX10_done_r7, lgP w := (List.forall_mem_cons.mpr ⟨lg_15_16, (List.forall_mem_cons.mpr ⟨lg_15_17, (List.forall_mem_cons.mpr ⟨lg_17_16, (fun _ h => absurd h List.not_mem_nil)⟩)⟩)⟩)
set_option maxRecDepth 100000 in
theorem ggL_law_X10_done : GoodIn wsL_law wsX10_done := show ∀ w ∈ wsX10_done, lgP w from (List.forall_mem_cons.mpr ⟨lg_17_10, (List.forall_mem_append.mpr ⟨(List.forall_mem_append.mpr ⟨(List.forall_mem_append.mpr ⟨(List.forall_mem_append.mpr ⟨(List.forall_mem_append.mpr ⟨(List.forall_mem_append.mpr ⟨lg_wsX10_done_r1, (List.forall_mem_append.mpr ⟨lg_wsX10_done_r2, (List.forall_mem_append.mpr ⟨lg_wsX10_done_r3, (List.forall_mem_append.mpr ⟨lg_wsX10_done_r4, (List.forall_mem_append.mpr ⟨lg_wsX10_done_r5, (List.forall_mem_append.mpr ⟨lg_wsX10_done_r6, lg_wsX10_done_r7⟩)⟩)⟩)⟩)⟩)⟩), lgwsX100⟩), lgwsX90⟩), lgwsX40⟩), lgwsX20⟩), lgwsX10⟩)⟩)

set_option maxRecDepth 100000 in
theorem gL_law_X10_done : GoodIn wsL_law (wsV RL 45 RX10 yX10_done wsX10_done) := goodIn_app (a := [.methodLink RL 45 yX10_done, .instanceMethod yX10_done, .selects RX10 yX10_done yX10_done, .initialized RX10]) (show ∀ w ∈ ([.methodLink RL 45 yX10_done, .instanceMethod yX10_done, .selects RX10 yX10_done yX10_done, .initialized RX10] : List Cond), lgP w from (List.forall_mem_cons.mpr ⟨lg_17_7, (List.forall_mem_cons.mpr ⟨lg_17_8, (List.forall_mem_cons.mpr ⟨lg_17_9, (List.forall_mem_cons.mpr ⟨lg_1_2, (fun _ h => absurd h List.not_mem_nil)⟩)⟩)⟩)⟩)) ggL_law_X10_done

set_option maxRecDepth 100000 in
theorem lg_wsX11_done_r1 : ∀ w ∈ wsX11_done_r1, lgP w := (List.forall_mem_cons.mpr ⟨lg_5_8, (List.forall_mem_cons.mpr ⟨lg_5_9, (List.forall_mem_cons.mpr ⟨lg_10_8, (List.forall_mem_cons.mpr ⟨lg_16_3, (List.forall_mem_cons.mpr ⟨lg_17_21, (List.forall_mem_cons.mpr ⟨lg_17_22, (List.forall_mem_cons.mpr ⟨lg_17_23, (List.forall_mem_cons.mpr ⟨lg_1_5, (List.forall_mem_cons.mpr ⟨lg_18_0, (List.forall_mem_cons.mpr ⟨lg_12_7, (List.forall_mem_cons.mpr ⟨lg_12_8, (List.forall_mem_cons.mpr ⟨lg_12_9, (List.forall_mem_cons.mpr ⟨lg_12_10, (List.forall_mem_cons.mpr ⟨lg_5_13, (List.forall_mem_cons.mpr ⟨lg_7_15, (List.forall_mem_cons.mpr ⟨lg_7_16, (List.forall_mem_cons.mpr ⟨lg_7_17, (List.forall_mem_cons.mpr ⟨lg_15_23, (List.forall_mem_cons.mpr ⟨lg_16_0, (List.forall_mem_cons.mpr ⟨lg_16_1, (List.forall_mem_cons.mpr ⟨lg_16_2, (List.forall_mem_cons.mpr ⟨lg_15_22, (List.forall_mem_cons.mpr ⟨lg_9_3, (List.forall_mem_cons.mpr ⟨lg_9_4, (fun _ h => absurd h List.not_mem_nil)⟩)⟩)⟩)⟩)⟩)⟩)⟩)⟩)⟩)⟩)⟩)⟩)⟩)⟩)⟩)⟩)⟩)⟩)⟩)⟩)⟩)⟩)⟩)⟩)
set_option maxRecDepth 100000 in
theorem lg_wsX11_done_r2 : ∀ w ∈ wsX11_done_r2, lgP w := (List.forall_mem_cons.mpr ⟨lg_8_23, (List.forall_mem_cons.mpr ⟨lg_9_0, (List.forall_mem_cons.mpr ⟨lg_9_1, (List.forall_mem_cons.mpr ⟨lg_9_2, (List.forall_mem_cons.mpr ⟨lg_16_4, (List.forall_mem_cons.mpr ⟨lg_16_5, (List.forall_mem_cons.mpr ⟨lg_16_6, (List.forall_mem_cons.mpr ⟨lg_16_7, (List.forall_mem_cons.mpr ⟨lg_5_10, (List.forall_mem_cons.mpr ⟨lg_5_11, (List.forall_mem_cons.mpr ⟨lg_16_8, (List.forall_mem_cons.mpr ⟨lg_16_9, (List.forall_mem_cons.mpr ⟨lg_16_10, (List.forall_mem_cons.mpr ⟨lg_7_18, (List.forall_mem_cons.mpr ⟨lg_7_19, (List.forall_mem_cons.mpr ⟨lg_7_20, (List.forall_mem_cons.mpr ⟨lg_7_21, (List.forall_mem_cons.mpr ⟨lg_7_14, (List.forall_mem_cons.mpr ⟨lg_7_22, (List.forall_mem_cons.mpr ⟨lg_7_23, (List.forall_mem_cons.mpr ⟨lg_8_0, (List.forall_mem_cons.mpr ⟨lg_16_11, (List.forall_mem_cons.mpr ⟨lg_16_12, (List.forall_mem_cons.mpr ⟨lg_16_13, (fun _ h => absurd h List.not_mem_nil)⟩)⟩)⟩)⟩)⟩)⟩)⟩)⟩)⟩)⟩)⟩)⟩)⟩)⟩)⟩)⟩)⟩)⟩)⟩)⟩)⟩)⟩)⟩)⟩)
set_option maxRecDepth 100000 in
theorem lg_wsX11_done_r3 : ∀ w ∈ wsX11_done_r3, lgP w := (List.forall_mem_cons.mpr ⟨lg_16_14, (List.forall_mem_cons.mpr ⟨lg_16_15, (List.forall_mem_cons.mpr ⟨lg_16_16, (List.forall_mem_cons.mpr ⟨lg_16_17, (List.forall_mem_cons.mpr ⟨lg_16_18, (List.forall_mem_cons.mpr ⟨lg_16_19, (List.forall_mem_cons.mpr ⟨lg_16_20, (List.forall_mem_cons.mpr ⟨lg_16_21, (List.forall_mem_cons.mpr ⟨lg_16_22, (List.forall_mem_cons.mpr ⟨lg_16_23, (List.forall_mem_cons.mpr ⟨lg_17_0, (List.forall_mem_cons.mpr ⟨lg_17_1, (List.forall_mem_cons.mpr ⟨lg_17_2, (List.forall_mem_cons.mpr ⟨lg_17_3, (List.forall_mem_cons.mpr ⟨lg_17_4, (List.forall_mem_cons.mpr ⟨lg_17_5, (List.forall_mem_cons.mpr ⟨lg_17_6, (fun _ h => absurd h List.not_mem_nil)⟩)⟩)⟩)⟩)⟩)⟩)⟩)⟩)⟩)⟩)⟩)⟩)⟩)⟩)⟩)⟩)⟩)
set_option maxRecDepth 100000 in
theorem ggL_law_X11_done : GoodIn wsL_law wsX11_done := show ∀ w ∈ wsX11_done, lgP w from (List.forall_mem_cons.mpr ⟨lg_17_20, (List.forall_mem_append.mpr ⟨(List.forall_mem_append.mpr ⟨lg_wsX11_done_r1, (List.forall_mem_append.mpr ⟨lg_wsX11_done_r2, lg_wsX11_done_r3⟩)⟩), lgwsX110⟩)⟩)

set_option maxRecDepth 100000 in
theorem gL_law_X11_done : GoodIn wsL_law (wsV RL 48 RX11 yX11_done wsX11_done) := goodIn_app (a := [.methodLink RL 48 yX11_done, .instanceMethod yX11_done, .selects RX11 yX11_done yX11_done, .initialized RX11]) (show ∀ w ∈ ([.methodLink RL 48 yX11_done, .instanceMethod yX11_done, .selects RX11 yX11_done yX11_done, .initialized RX11] : List Cond), lgP w from (List.forall_mem_cons.mpr ⟨lg_17_17, (List.forall_mem_cons.mpr ⟨lg_17_18, (List.forall_mem_cons.mpr ⟨lg_17_19, (List.forall_mem_cons.mpr ⟨lg_1_5, (fun _ h => absurd h List.not_mem_nil)⟩)⟩)⟩)⟩)) ggL_law_X11_done

set_option maxRecDepth 100000 in
theorem lg_wsX10_behind_r1 : ∀ w ∈ wsX10_behind_r1, lgP w := (List.forall_mem_cons.mpr ⟨lg_1_15, (List.forall_mem_cons.mpr ⟨lg_2_3, (List.forall_mem_cons.mpr ⟨lg_17_11, (List.forall_mem_cons.mpr ⟨lg_8_8, (List.forall_mem_cons.mpr ⟨lg_6_20, (List.forall_mem_cons.mpr ⟨lg_6_21, (List.forall_mem_cons.mpr ⟨lg_1_14, (List.forall_mem_cons.mpr ⟨lg_6_22, (List.forall_mem_cons.mpr ⟨lg_6_10, (List.forall_mem_cons.mpr ⟨lg_6_3, (List.forall_mem_cons.mpr ⟨lg_6_4, (List.forall_mem_cons.mpr ⟨lg_1_2, (List.forall_mem_cons.mpr ⟨lg_6_5, (List.forall_mem_cons.mpr ⟨lg_17_12, (List.forall_mem_cons.mpr ⟨lg_17_13, (List.forall_mem_cons.mpr ⟨lg_17_14, (List.forall_mem_cons.mpr ⟨lg_17_15, (List.forall_mem_cons.mpr ⟨lg_1_23, (List.forall_mem_cons.mpr ⟨lg_12_15, (List.forall_mem_cons.mpr ⟨lg_10_21, (List.forall_mem_cons.mpr ⟨lg_10_22, (List.forall_mem_cons.mpr ⟨lg_10_23, (List.forall_mem_cons.mpr ⟨lg_1_22, (List.forall_mem_cons.mpr ⟨lg_11_0, (fun _ h => absurd h List.not_mem_nil)⟩)⟩)⟩)⟩)⟩)⟩)⟩)⟩)⟩)⟩)⟩)⟩)⟩)⟩)⟩)⟩)⟩)⟩)⟩)⟩)⟩)⟩)⟩)⟩)
set_option maxRecDepth 100000 in
theorem lg_wsX10_behind_r2 : ∀ w ∈ wsX10_behind_r2, lgP w := (List.forall_mem_cons.mpr ⟨lg_10_3, (List.forall_mem_cons.mpr ⟨lg_11_1, (List.forall_mem_cons.mpr ⟨lg_11_2, (List.forall_mem_cons.mpr ⟨lg_11_3, (List.forall_mem_cons.mpr ⟨lg_11_4, (List.forall_mem_cons.mpr ⟨lg_11_5, (List.forall_mem_cons.mpr ⟨lg_11_6, (List.forall_mem_cons.mpr ⟨lg_11_7, (List.forall_mem_cons.mpr ⟨lg_11_8, (List.forall_mem_cons.mpr ⟨lg_3_19, (List.forall_mem_cons.mpr ⟨lg_11_9, (List.forall_mem_cons.mpr ⟨lg_11_10, (List.forall_mem_cons.mpr ⟨lg_11_11, (List.forall_mem_cons.mpr ⟨lg_11_12, (List.forall_mem_cons.mpr ⟨lg_11_13, (List.forall_mem_cons.mpr ⟨lg_11_14, (List.forall_mem_cons.mpr ⟨lg_11_15, (List.forall_mem_cons.mpr ⟨lg_11_16, (List.forall_mem_cons.mpr ⟨lg_11_17, (List.forall_mem_cons.mpr ⟨lg_11_18, (List.forall_mem_cons.mpr ⟨lg_11_19, (List.forall_mem_cons.mpr ⟨lg_11_20, (List.forall_mem_cons.mpr ⟨lg_11_21, (List.forall_mem_cons.mpr ⟨lg_11_22, (fun _ h => absurd h List.not_mem_nil)⟩)⟩)⟩)⟩)⟩)⟩)⟩)⟩)⟩)⟩)⟩)⟩)⟩)⟩)⟩)⟩)⟩)⟩)⟩)⟩)⟩)⟩)⟩)⟩)
set_option maxRecDepth 100000 in
theorem lg_wsX10_behind_r3 : ∀ w ∈ wsX10_behind_r3, lgP w := (List.forall_mem_cons.mpr ⟨lg_11_23, (List.forall_mem_cons.mpr ⟨lg_12_0, (List.forall_mem_cons.mpr ⟨lg_12_1, (List.forall_mem_cons.mpr ⟨lg_12_2, (List.forall_mem_cons.mpr ⟨lg_12_17, (List.forall_mem_cons.mpr ⟨lg_12_18, (List.forall_mem_cons.mpr ⟨lg_12_19, (List.forall_mem_cons.mpr ⟨lg_2_2, (List.forall_mem_cons.mpr ⟨lg_12_20, (List.forall_mem_cons.mpr ⟨lg_12_21, (List.forall_mem_cons.mpr ⟨lg_4_1, (List.forall_mem_cons.mpr ⟨lg_12_22, (List.forall_mem_cons.mpr ⟨lg_12_23, (List.forall_mem_cons.mpr ⟨lg_13_0, (List.forall_mem_cons.mpr ⟨lg_13_1, (List.forall_mem_cons.mpr ⟨lg_13_2, (List.forall_mem_cons.mpr ⟨lg_13_3, (List.forall_mem_cons.mpr ⟨lg_13_4, (List.forall_mem_cons.mpr ⟨lg_13_5, (List.forall_mem_cons.mpr ⟨lg_4_2, (List.forall_mem_cons.mpr ⟨lg_13_6, (List.forall_mem_cons.mpr ⟨lg_13_7, (List.forall_mem_cons.mpr ⟨lg_13_8, (List.forall_mem_cons.mpr ⟨lg_13_9, (fun _ h => absurd h List.not_mem_nil)⟩)⟩)⟩)⟩)⟩)⟩)⟩)⟩)⟩)⟩)⟩)⟩)⟩)⟩)⟩)⟩)⟩)⟩)⟩)⟩)⟩)⟩)⟩)⟩)
set_option maxRecDepth 100000 in
theorem lg_wsX10_behind_r4 : ∀ w ∈ wsX10_behind_r4, lgP w := (List.forall_mem_cons.mpr ⟨lg_3_1, (List.forall_mem_cons.mpr ⟨lg_3_2, (List.forall_mem_cons.mpr ⟨lg_3_3, (List.forall_mem_cons.mpr ⟨lg_3_8, (List.forall_mem_cons.mpr ⟨lg_13_10, (List.forall_mem_cons.mpr ⟨lg_13_11, (List.forall_mem_cons.mpr ⟨lg_13_12, (List.forall_mem_cons.mpr ⟨lg_13_13, (List.forall_mem_cons.mpr ⟨lg_13_14, (List.forall_mem_cons.mpr ⟨lg_3_7, (List.forall_mem_cons.mpr ⟨lg_13_15, (List.forall_mem_cons.mpr ⟨lg_3_13, (List.forall_mem_cons.mpr ⟨lg_3_14, (List.forall_mem_cons.mpr ⟨lg_13_16, (List.forall_mem_cons.mpr ⟨lg_13_17, (List.forall_mem_cons.mpr ⟨lg_13_18, (List.forall_mem_cons.mpr ⟨lg_13_19, (List.forall_mem_cons.mpr ⟨lg_13_20, (List.forall_mem_cons.mpr ⟨lg_13_21, (List.forall_mem_cons.mpr ⟨lg_13_22, (List.forall_mem_cons.mpr ⟨lg_13_23, (List.forall_mem_cons.mpr ⟨lg_14_0, (List.forall_mem_cons.mpr ⟨lg_14_1, (List.forall_mem_cons.mpr ⟨lg_14_2, (fun _ h => absurd h List.not_mem_nil)⟩)⟩)⟩)⟩)⟩)⟩)⟩)⟩)⟩)⟩)⟩)⟩)⟩)⟩)⟩)⟩)⟩)⟩)⟩)⟩)⟩)⟩)⟩)⟩)
set_option maxRecDepth 100000 in
theorem lg_wsX10_behind_r5 : ∀ w ∈ wsX10_behind_r5, lgP w := (List.forall_mem_cons.mpr ⟨lg_14_3, (List.forall_mem_cons.mpr ⟨lg_14_4, (List.forall_mem_cons.mpr ⟨lg_14_5, (List.forall_mem_cons.mpr ⟨lg_6_19, (List.forall_mem_cons.mpr ⟨lg_6_15, (List.forall_mem_cons.mpr ⟨lg_6_16, (List.forall_mem_cons.mpr ⟨lg_6_17, (List.forall_mem_cons.mpr ⟨lg_6_18, (List.forall_mem_cons.mpr ⟨lg_14_6, (List.forall_mem_cons.mpr ⟨lg_14_7, (List.forall_mem_cons.mpr ⟨lg_14_8, (List.forall_mem_cons.mpr ⟨lg_14_9, (List.forall_mem_cons.mpr ⟨lg_14_10, (List.forall_mem_cons.mpr ⟨lg_14_11, (List.forall_mem_cons.mpr ⟨lg_14_12, (List.forall_mem_cons.mpr ⟨lg_14_13, (List.forall_mem_cons.mpr ⟨lg_14_14, (List.forall_mem_cons.mpr ⟨lg_14_15, (List.forall_mem_cons.mpr ⟨lg_14_16, (List.forall_mem_cons.mpr ⟨lg_14_17, (List.forall_mem_cons.mpr ⟨lg_14_18, (List.forall_mem_cons.mpr ⟨lg_14_19, (List.forall_mem_cons.mpr ⟨lg_14_20, (List.forall_mem_cons.mpr ⟨lg_14_21, (fun _ h => absurd h List.not_mem_nil)⟩)⟩)⟩)⟩)⟩)⟩)⟩)⟩)⟩)⟩)⟩)⟩)⟩)⟩)⟩)⟩)⟩)⟩)⟩)⟩)⟩)⟩)⟩)⟩)
set_option maxRecDepth 100000 in
theorem lg_wsX10_behind_r6 : ∀ w ∈ wsX10_behind_r6, lgP w := (List.forall_mem_cons.mpr ⟨lg_14_22, (List.forall_mem_cons.mpr ⟨lg_14_23, (List.forall_mem_cons.mpr ⟨lg_15_0, (List.forall_mem_cons.mpr ⟨lg_15_1, (List.forall_mem_cons.mpr ⟨lg_15_2, (List.forall_mem_cons.mpr ⟨lg_15_3, (List.forall_mem_cons.mpr ⟨lg_15_4, (List.forall_mem_cons.mpr ⟨lg_15_5, (List.forall_mem_cons.mpr ⟨lg_15_6, (List.forall_mem_cons.mpr ⟨lg_15_7, (List.forall_mem_cons.mpr ⟨lg_15_8, (List.forall_mem_cons.mpr ⟨lg_8_11, (List.forall_mem_cons.mpr ⟨lg_8_12, (List.forall_mem_cons.mpr ⟨lg_8_13, (List.forall_mem_cons.mpr ⟨lg_6_11, (List.forall_mem_cons.mpr ⟨lg_6_12, (List.forall_mem_cons.mpr ⟨lg_6_13, (List.forall_mem_cons.mpr ⟨lg_6_14, (List.forall_mem_cons.mpr ⟨lg_15_9, (List.forall_mem_cons.mpr ⟨lg_15_10, (List.forall_mem_cons.mpr ⟨lg_15_11, (List.forall_mem_cons.mpr ⟨lg_15_12, (List.forall_mem_cons.mpr ⟨lg_3_4, (List.forall_mem_cons.mpr ⟨lg_15_13, (fun _ h => absurd h List.not_mem_nil)⟩)⟩)⟩)⟩)⟩)⟩)⟩)⟩)⟩)⟩)⟩)⟩)⟩)⟩)⟩)⟩)⟩)⟩)⟩)⟩)⟩)⟩)⟩)⟩)
set_option maxRecDepth 100000 in
theorem lg_wsX10_behind_r7 : ∀ w ∈ wsX10_behind_r7, lgP w := (List.forall_mem_cons.mpr ⟨lg_15_14, (List.forall_mem_cons.mpr ⟨lg_15_15, (List.forall_mem_cons.mpr ⟨lg_15_16, (List.forall_mem_cons.mpr ⟨lg_15_17, (List.forall_mem_cons.mpr ⟨lg_18_5, (List.forall_mem_cons.mpr ⟨lg_8_9, (List.forall_mem_cons.mpr ⟨lg_18_6, (List.forall_mem_cons.mpr ⟨lg_18_7, (List.forall_mem_cons.mpr ⟨lg_18_8, (List.forall_mem_cons.mpr ⟨lg_18_9, (fun _ h => absurd h List.not_mem_nil)⟩)⟩)⟩)⟩)⟩)⟩)⟩)⟩)⟩)⟩)
set_option maxRecDepth 100000 in
theorem ggL_law_X10_behind : GoodIn wsL_law wsX10_behind := show ∀ w ∈ wsX10_behind, lgP w from (List.forall_mem_cons.mpr ⟨lg_18_4, (List.forall_mem_append.mpr ⟨(List.forall_mem_append.mpr ⟨(List.forall_mem_append.mpr ⟨(List.forall_mem_append.mpr ⟨(List.forall_mem_append.mpr ⟨(List.forall_mem_append.mpr ⟨lg_wsX10_behind_r1, (List.forall_mem_append.mpr ⟨lg_wsX10_behind_r2, (List.forall_mem_append.mpr ⟨lg_wsX10_behind_r3, (List.forall_mem_append.mpr ⟨lg_wsX10_behind_r4, (List.forall_mem_append.mpr ⟨lg_wsX10_behind_r5, (List.forall_mem_append.mpr ⟨lg_wsX10_behind_r6, lg_wsX10_behind_r7⟩)⟩)⟩)⟩)⟩)⟩), lgwsX100⟩), lgwsX90⟩), lgwsX20⟩), lgwsX40⟩), lgwsX10⟩)⟩)

set_option maxRecDepth 100000 in
theorem gL_law_X10_behind : GoodIn wsL_law (wsV RL 49 RX10 yX10_behind wsX10_behind) := goodIn_app (a := [.methodLink RL 49 yX10_behind, .instanceMethod yX10_behind, .selects RX10 yX10_behind yX10_behind, .initialized RX10]) (show ∀ w ∈ ([.methodLink RL 49 yX10_behind, .instanceMethod yX10_behind, .selects RX10 yX10_behind yX10_behind, .initialized RX10] : List Cond), lgP w from (List.forall_mem_cons.mpr ⟨lg_18_1, (List.forall_mem_cons.mpr ⟨lg_18_2, (List.forall_mem_cons.mpr ⟨lg_18_3, (List.forall_mem_cons.mpr ⟨lg_1_2, (fun _ h => absurd h List.not_mem_nil)⟩)⟩)⟩)⟩)) ggL_law_X10_behind

set_option maxRecDepth 100000 in
theorem lg_wsX11_behind_r1 : ∀ w ∈ wsX11_behind_r1, lgP w := (List.forall_mem_cons.mpr ⟨lg_5_9, (List.forall_mem_cons.mpr ⟨lg_7_18, (List.forall_mem_cons.mpr ⟨lg_7_19, (List.forall_mem_cons.mpr ⟨lg_7_20, (List.forall_mem_cons.mpr ⟨lg_1_5, (List.forall_mem_cons.mpr ⟨lg_7_21, (List.forall_mem_cons.mpr ⟨lg_7_14, (List.forall_mem_cons.mpr ⟨lg_7_15, (List.forall_mem_cons.mpr ⟨lg_7_16, (List.forall_mem_cons.mpr ⟨lg_7_17, (List.forall_mem_cons.mpr ⟨lg_7_22, (List.forall_mem_cons.mpr ⟨lg_7_23, (List.forall_mem_cons.mpr ⟨lg_8_0, (List.forall_mem_cons.mpr ⟨lg_17_21, (List.forall_mem_cons.mpr ⟨lg_17_22, (List.forall_mem_cons.mpr ⟨lg_17_23, (List.forall_mem_cons.mpr ⟨lg_18_0, (List.forall_mem_cons.mpr ⟨lg_12_7, (List.forall_mem_cons.mpr ⟨lg_12_8, (List.forall_mem_cons.mpr ⟨lg_12_9, (List.forall_mem_cons.mpr ⟨lg_12_10, (List.forall_mem_cons.mpr ⟨lg_10_8, (List.forall_mem_cons.mpr ⟨lg_5_13, (List.forall_mem_cons.mpr ⟨lg_15_23, (fun _ h => absurd h List.not_mem_nil)⟩)⟩)⟩)⟩)⟩)⟩)⟩)⟩)⟩)⟩)⟩)⟩)⟩)⟩)⟩)⟩)⟩)⟩)⟩)⟩)⟩)⟩)⟩)⟩)
set_option maxRecDepth 100000 in
theorem lg_wsX11_behind_r2 : ∀ w ∈ wsX11_behind_r2, lgP w := (List.forall_mem_cons.mpr ⟨lg_16_0, (List.forall_mem_cons.mpr ⟨lg_16_1, (List.forall_mem_cons.mpr ⟨lg_16_2, (List.forall_mem_cons.mpr ⟨lg_16_3, (List.forall_mem_cons.mpr ⟨lg_15_22, (List.forall_mem_cons.mpr ⟨lg_9_3, (List.forall_mem_cons.mpr ⟨lg_9_4, (List.forall_mem_cons.mpr ⟨lg_8_23, (List.forall_mem_cons.mpr ⟨lg_9_0, (List.forall_mem_cons.mpr ⟨lg_9_1, (List.forall_mem_cons.mpr ⟨lg_9_2, (List.forall_mem_cons.mpr ⟨lg_5_8, (List.forall_mem_cons.mpr ⟨lg_16_4, (List.forall_mem_cons.mpr ⟨lg_16_5, (List.forall_mem_cons.mpr ⟨lg_16_6, (List.forall_mem_cons.mpr ⟨lg_16_7, (List.forall_mem_cons.mpr ⟨lg_5_10, (List.forall_mem_cons.mpr ⟨lg_5_11, (List.forall_mem_cons.mpr ⟨lg_16_8, (List.forall_mem_cons.mpr ⟨lg_16_9, (List.forall_mem_cons.mpr ⟨lg_16_10, (List.forall_mem_cons.mpr ⟨lg_16_11, (List.forall_mem_cons.mpr ⟨lg_16_12, (List.forall_mem_cons.mpr ⟨lg_16_13, (fun _ h => absurd h List.not_mem_nil)⟩)⟩)⟩)⟩)⟩)⟩)⟩)⟩)⟩)⟩)⟩)⟩)⟩)⟩)⟩)⟩)⟩)⟩)⟩)⟩)⟩)⟩)⟩)⟩)
set_option maxRecDepth 100000 in
theorem lg_wsX11_behind_r3 : ∀ w ∈ wsX11_behind_r3, lgP w := (List.forall_mem_cons.mpr ⟨lg_16_14, (List.forall_mem_cons.mpr ⟨lg_16_15, (List.forall_mem_cons.mpr ⟨lg_16_16, (List.forall_mem_cons.mpr ⟨lg_16_17, (List.forall_mem_cons.mpr ⟨lg_16_18, (List.forall_mem_cons.mpr ⟨lg_16_19, (List.forall_mem_cons.mpr ⟨lg_16_20, (List.forall_mem_cons.mpr ⟨lg_16_21, (List.forall_mem_cons.mpr ⟨lg_16_22, (List.forall_mem_cons.mpr ⟨lg_16_23, (List.forall_mem_cons.mpr ⟨lg_17_0, (List.forall_mem_cons.mpr ⟨lg_17_1, (List.forall_mem_cons.mpr ⟨lg_17_2, (List.forall_mem_cons.mpr ⟨lg_17_3, (List.forall_mem_cons.mpr ⟨lg_17_4, (List.forall_mem_cons.mpr ⟨lg_17_5, (List.forall_mem_cons.mpr ⟨lg_17_6, (fun _ h => absurd h List.not_mem_nil)⟩)⟩)⟩)⟩)⟩)⟩)⟩)⟩)⟩)⟩)⟩)⟩)⟩)⟩)⟩)⟩)⟩)
set_option maxRecDepth 100000 in
theorem ggL_law_X11_behind : GoodIn wsL_law wsX11_behind := show ∀ w ∈ wsX11_behind, lgP w from (List.forall_mem_cons.mpr ⟨lg_18_13, (List.forall_mem_append.mpr ⟨(List.forall_mem_append.mpr ⟨lg_wsX11_behind_r1, (List.forall_mem_append.mpr ⟨lg_wsX11_behind_r2, lg_wsX11_behind_r3⟩)⟩), lgwsX110⟩)⟩)

set_option maxRecDepth 100000 in
theorem gL_law_X11_behind : GoodIn wsL_law (wsV RL 53 RX11 yX11_behind wsX11_behind) := goodIn_app (a := [.methodLink RL 53 yX11_behind, .instanceMethod yX11_behind, .selects RX11 yX11_behind yX11_behind, .initialized RX11]) (show ∀ w ∈ ([.methodLink RL 53 yX11_behind, .instanceMethod yX11_behind, .selects RX11 yX11_behind yX11_behind, .initialized RX11] : List Cond), lgP w from (List.forall_mem_cons.mpr ⟨lg_18_10, (List.forall_mem_cons.mpr ⟨lg_18_11, (List.forall_mem_cons.mpr ⟨lg_18_12, (List.forall_mem_cons.mpr ⟨lg_1_5, (fun _ h => absurd h List.not_mem_nil)⟩)⟩)⟩)⟩)) ggL_law_X11_behind

set_option maxRecDepth 100000 in
theorem lg_wsX10_then_r1 : ∀ w ∈ wsX10_then_r1, lgP w := (List.forall_mem_cons.mpr ⟨lg_2_3, (List.forall_mem_cons.mpr ⟨lg_17_11, (List.forall_mem_cons.mpr ⟨lg_9_13, (List.forall_mem_cons.mpr ⟨lg_18_18, (List.forall_mem_cons.mpr ⟨lg_18_19, (List.forall_mem_cons.mpr ⟨lg_18_20, (List.forall_mem_cons.mpr ⟨lg_6_3, (List.forall_mem_cons.mpr ⟨lg_6_4, (List.forall_mem_cons.mpr ⟨lg_1_2, (List.forall_mem_cons.mpr ⟨lg_6_5, (List.forall_mem_cons.mpr ⟨lg_17_12, (List.forall_mem_cons.mpr ⟨lg_17_13, (List.forall_mem_cons.mpr ⟨lg_17_14, (List.forall_mem_cons.mpr ⟨lg_17_15, (List.forall_mem_cons.mpr ⟨lg_1_23, (List.forall_mem_cons.mpr ⟨lg_1_15, (List.forall_mem_cons.mpr ⟨lg_12_15, (List.forall_mem_cons.mpr ⟨lg_10_21, (List.forall_mem_cons.mpr ⟨lg_10_22, (List.forall_mem_cons.mpr ⟨lg_10_23, (List.forall_mem_cons.mpr ⟨lg_1_22, (List.forall_mem_cons.mpr ⟨lg_11_0, (List.forall_mem_cons.mpr ⟨lg_10_3, (List.forall_mem_cons.mpr ⟨lg_11_1, (fun _ h => absurd h List.not_mem_nil)⟩)⟩)⟩)⟩)⟩)⟩)⟩)⟩)⟩)⟩)⟩)⟩)⟩)⟩)⟩)⟩)⟩)⟩)⟩)⟩)⟩)⟩)⟩)⟩)
set_option maxRecDepth 100000 in
theorem lg_wsX10_then_r2 : ∀ w ∈ wsX10_then_r2, lgP w := (List.forall_mem_cons.mpr ⟨lg_11_2, (List.forall_mem_cons.mpr ⟨lg_11_3, (List.forall_mem_cons.mpr ⟨lg_11_4, (List.forall_mem_cons.mpr ⟨lg_11_5, (List.forall_mem_cons.mpr ⟨lg_11_6, (List.forall_mem_cons.mpr ⟨lg_11_7, (List.forall_mem_cons.mpr ⟨lg_11_8, (List.forall_mem_cons.mpr ⟨lg_3_19, (List.forall_mem_cons.mpr ⟨lg_11_9, (List.forall_mem_cons.mpr ⟨lg_11_10, (List.forall_mem_cons.mpr ⟨lg_11_11, (List.forall_mem_cons.mpr ⟨lg_11_12, (List.forall_mem_cons.mpr ⟨lg_11_13, (List.forall_mem_cons.mpr ⟨lg_11_14, (List.forall_mem_cons.mpr ⟨lg_11_15, (List.forall_mem_cons.mpr ⟨lg_11_16, (List.forall_mem_cons.mpr ⟨lg_11_17, (List.forall_mem_cons.mpr ⟨lg_11_18, (List.forall_mem_cons.mpr ⟨lg_11_19, (List.forall_mem_cons.mpr ⟨lg_11_20, (List.forall_mem_cons.mpr ⟨lg_11_21, (List.forall_mem_cons.mpr ⟨lg_11_22, (List.forall_mem_cons.mpr ⟨lg_11_23, (List.forall_mem_cons.mpr ⟨lg_12_0, (fun _ h => absurd h List.not_mem_nil)⟩)⟩)⟩)⟩)⟩)⟩)⟩)⟩)⟩)⟩)⟩)⟩)⟩)⟩)⟩)⟩)⟩)⟩)⟩)⟩)⟩)⟩)⟩)⟩)
set_option maxRecDepth 100000 in
theorem lg_wsX10_then_r3 : ∀ w ∈ wsX10_then_r3, lgP w := (List.forall_mem_cons.mpr ⟨lg_12_1, (List.forall_mem_cons.mpr ⟨lg_12_2, (List.forall_mem_cons.mpr ⟨lg_12_17, (List.forall_mem_cons.mpr ⟨lg_12_18, (List.forall_mem_cons.mpr ⟨lg_12_19, (List.forall_mem_cons.mpr ⟨lg_2_2, (List.forall_mem_cons.mpr ⟨lg_12_20, (List.forall_mem_cons.mpr ⟨lg_12_21, (List.forall_mem_cons.mpr ⟨lg_4_1, (List.forall_mem_cons.mpr ⟨lg_12_22, (List.forall_mem_cons.mpr ⟨lg_12_23, (List.forall_mem_cons.mpr ⟨lg_13_0, (List.forall_mem_cons.mpr ⟨lg_13_1, (List.forall_mem_cons.mpr ⟨lg_13_2, (List.forall_mem_cons.mpr ⟨lg_13_3, (List.forall_mem_cons.mpr ⟨lg_13_4, (List.forall_mem_cons.mpr ⟨lg_13_5, (List.forall_mem_cons.mpr ⟨lg_4_2, (List.forall_mem_cons.mpr ⟨lg_13_6, (List.forall_mem_cons.mpr ⟨lg_13_7, (List.forall_mem_cons.mpr ⟨lg_13_8, (List.forall_mem_cons.mpr ⟨lg_1_14, (List.forall_mem_cons.mpr ⟨lg_13_9, (List.forall_mem_cons.mpr ⟨lg_3_1, (fun _ h => absurd h List.not_mem_nil)⟩)⟩)⟩)⟩)⟩)⟩)⟩)⟩)⟩)⟩)⟩)⟩)⟩)⟩)⟩)⟩)⟩)⟩)⟩)⟩)⟩)⟩)⟩)⟩)
set_option maxRecDepth 100000 in
theorem lg_wsX10_then_r4 : ∀ w ∈ wsX10_then_r4, lgP w := (List.forall_mem_cons.mpr ⟨lg_3_2, (List.forall_mem_cons.mpr ⟨lg_3_3, (List.forall_mem_cons.mpr ⟨lg_3_8, (List.forall_mem_cons.mpr ⟨lg_6_10, (List.forall_mem_cons.mpr ⟨lg_13_10, (List.forall_mem_cons.mpr ⟨lg_13_11, (List.forall_mem_cons.mpr ⟨lg_13_12, (List.forall_mem_cons.mpr ⟨lg_13_13, (List.forall_mem_cons.mpr ⟨lg_13_14, (List.forall_mem_cons.mpr ⟨lg_3_7, (List.forall_mem_cons.mpr ⟨lg_13_15, (List.forall_mem_cons.mpr ⟨lg_3_13, (List.forall_mem_cons.mpr ⟨lg_3_14, (List.forall_mem_cons.mpr ⟨lg_13_16, (List.forall_mem_cons.mpr ⟨lg_13_17, (List.forall_mem_cons.mpr ⟨lg_13_18, (List.forall_mem_cons.mpr ⟨lg_13_19, (List.forall_mem_cons.mpr ⟨lg_13_20, (List.forall_mem_cons.mpr ⟨lg_13_21, (List.forall_mem_cons.mpr ⟨lg_13_22, (List.forall_mem_cons.mpr ⟨lg_13_23, (List.forall_mem_cons.mpr ⟨lg_14_0, (List.forall_mem_cons.mpr ⟨lg_14_1, (List.forall_mem_cons.mpr ⟨lg_14_2, (fun _ h => absurd h List.not_mem_nil)⟩)⟩)⟩)⟩)⟩)⟩)⟩)⟩)⟩)⟩)⟩)⟩)⟩)⟩)⟩)⟩)⟩)⟩)⟩)⟩)⟩)⟩)⟩)⟩)
set_option maxRecDepth 100000 in
theorem lg_wsX10_then_r5 : ∀ w ∈ wsX10_then_r5, lgP w := (List.forall_mem_cons.mpr ⟨lg_14_3, (List.forall_mem_cons.mpr ⟨lg_14_4, (List.forall_mem_cons.mpr ⟨lg_14_5, (List.forall_mem_cons.mpr ⟨lg_6_19, (List.forall_mem_cons.mpr ⟨lg_6_20, (List.forall_mem_cons.mpr ⟨lg_6_21, (List.forall_mem_cons.mpr ⟨lg_6_22, (List.forall_mem_cons.mpr ⟨lg_6_15, (List.forall_mem_cons.mpr ⟨lg_6_16, (List.forall_mem_cons.mpr ⟨lg_6_17, (List.forall_mem_cons.mpr ⟨lg_6_18, (List.forall_mem_cons.mpr ⟨lg_14_6, (List.forall_mem_cons.mpr ⟨lg_14_7, (List.forall_mem_cons.mpr ⟨lg_14_8, (List.forall_mem_cons.mpr ⟨lg_14_9, (List.forall_mem_cons.mpr ⟨lg_14_10, (List.forall_mem_cons.mpr ⟨lg_14_11, (List.forall_mem_cons.mpr ⟨lg_14_12, (List.forall_mem_cons.mpr ⟨lg_14_13, (List.forall_mem_cons.mpr ⟨lg_14_14, (List.forall_mem_cons.mpr ⟨lg_14_15, (List.forall_mem_cons.mpr ⟨lg_14_16, (List.forall_mem_cons.mpr ⟨lg_14_17, (List.forall_mem_cons.mpr ⟨lg_14_18, (fun _ h => absurd h List.not_mem_nil)⟩)⟩)⟩)⟩)⟩)⟩)⟩)⟩)⟩)⟩)⟩)⟩)⟩)⟩)⟩)⟩)⟩)⟩)⟩)⟩)⟩)⟩)⟩)⟩)
set_option maxRecDepth 100000 in
theorem lg_wsX10_then_r6 : ∀ w ∈ wsX10_then_r6, lgP w := (List.forall_mem_cons.mpr ⟨lg_14_19, (List.forall_mem_cons.mpr ⟨lg_14_20, (List.forall_mem_cons.mpr ⟨lg_14_21, (List.forall_mem_cons.mpr ⟨lg_14_22, (List.forall_mem_cons.mpr ⟨lg_14_23, (List.forall_mem_cons.mpr ⟨lg_15_0, (List.forall_mem_cons.mpr ⟨lg_15_1, (List.forall_mem_cons.mpr ⟨lg_15_2, (List.forall_mem_cons.mpr ⟨lg_15_3, (List.forall_mem_cons.mpr ⟨lg_15_4, (List.forall_mem_cons.mpr ⟨lg_15_5, (List.forall_mem_cons.mpr ⟨lg_15_6, (List.forall_mem_cons.mpr ⟨lg_15_7, (List.forall_mem_cons.mpr ⟨lg_15_8, (List.forall_mem_cons.mpr ⟨lg_8_11, (List.forall_mem_cons.mpr ⟨lg_8_12, (List.forall_mem_cons.mpr ⟨lg_8_13, (List.forall_mem_cons.mpr ⟨lg_6_11, (List.forall_mem_cons.mpr ⟨lg_6_12, (List.forall_mem_cons.mpr ⟨lg_6_13, (List.forall_mem_cons.mpr ⟨lg_6_14, (List.forall_mem_cons.mpr ⟨lg_15_9, (List.forall_mem_cons.mpr ⟨lg_15_10, (List.forall_mem_cons.mpr ⟨lg_15_11, (fun _ h => absurd h List.not_mem_nil)⟩)⟩)⟩)⟩)⟩)⟩)⟩)⟩)⟩)⟩)⟩)⟩)⟩)⟩)⟩)⟩)⟩)⟩)⟩)⟩)⟩)⟩)⟩)⟩)
set_option maxRecDepth 100000 in
theorem lg_wsX10_then_r7 : ∀ w ∈ wsX10_then_r7, lgP w := (List.forall_mem_cons.mpr ⟨lg_15_12, (List.forall_mem_cons.mpr ⟨lg_3_4, (List.forall_mem_cons.mpr ⟨lg_15_13, (List.forall_mem_cons.mpr ⟨lg_15_14, (List.forall_mem_cons.mpr ⟨lg_15_15, (List.forall_mem_cons.mpr ⟨lg_15_16, (List.forall_mem_cons.mpr ⟨lg_15_17, (List.forall_mem_cons.mpr ⟨lg_8_15, (List.forall_mem_cons.mpr ⟨lg_8_16, (List.forall_mem_cons.mpr ⟨lg_8_17, (List.forall_mem_cons.mpr ⟨lg_8_18, (fun _ h => absurd h List.not_mem_nil)⟩)⟩)⟩)⟩)⟩)⟩)⟩)⟩)⟩)⟩)⟩)
set_option maxRecDepth 100000 in
theorem ggL_law_X10_then : GoodIn wsL_law wsX10_then := show ∀ w ∈ wsX10_then, lgP w from (List.forall_mem_cons.mpr ⟨lg_18_17, (List.forall_mem_append.mpr ⟨(List.forall_mem_append.mpr ⟨(List.forall_mem_append.mpr ⟨(List.forall_mem_append.mpr ⟨(List.forall_mem_append.mpr ⟨(List.forall_mem_append.mpr ⟨lg_wsX10_then_r1, (List.forall_mem_append.mpr ⟨lg_wsX10_then_r2, (List.forall_mem_append.mpr ⟨lg_wsX10_then_r3, (List.forall_mem_append.mpr ⟨lg_wsX10_then_r4, (List.forall_mem_append.mpr ⟨lg_wsX10_then_r5, (List.forall_mem_append.mpr ⟨lg_wsX10_then_r6, lg_wsX10_then_r7⟩)⟩)⟩)⟩)⟩)⟩), lgwsX100⟩), lgwsX90⟩), lgwsX20⟩), lgwsX40⟩), lgwsX10⟩)⟩)

set_option maxRecDepth 100000 in
theorem gL_law_X10_then : GoodIn wsL_law (wsV RL 54 RX10 yX10_then wsX10_then) := goodIn_app (a := [.methodLink RL 54 yX10_then, .instanceMethod yX10_then, .selects RX10 yX10_then yX10_then, .initialized RX10]) (show ∀ w ∈ ([.methodLink RL 54 yX10_then, .instanceMethod yX10_then, .selects RX10 yX10_then yX10_then, .initialized RX10] : List Cond), lgP w from (List.forall_mem_cons.mpr ⟨lg_18_14, (List.forall_mem_cons.mpr ⟨lg_18_15, (List.forall_mem_cons.mpr ⟨lg_18_16, (List.forall_mem_cons.mpr ⟨lg_1_2, (fun _ h => absurd h List.not_mem_nil)⟩)⟩)⟩)⟩)) ggL_law_X10_then

set_option maxRecDepth 100000 in
theorem lg_wsX11_then_r1 : ∀ w ∈ wsX11_then_r1, lgP w := (List.forall_mem_cons.mpr ⟨lg_5_9, (List.forall_mem_cons.mpr ⟨lg_9_3, (List.forall_mem_cons.mpr ⟨lg_9_4, (List.forall_mem_cons.mpr ⟨lg_7_15, (List.forall_mem_cons.mpr ⟨lg_7_16, (List.forall_mem_cons.mpr ⟨lg_1_5, (List.forall_mem_cons.mpr ⟨lg_7_17, (List.forall_mem_cons.mpr ⟨lg_17_21, (List.forall_mem_cons.mpr ⟨lg_17_22, (List.forall_mem_cons.mpr ⟨lg_17_23, (List.forall_mem_cons.mpr ⟨lg_18_0, (List.forall_mem_cons.mpr ⟨lg_12_7, (List.forall_mem_cons.mpr ⟨lg_12_8, (List.forall_mem_cons.mpr ⟨lg_12_9, (List.forall_mem_cons.mpr ⟨lg_12_10, (List.forall_mem_cons.mpr ⟨lg_10_8, (List.forall_mem_cons.mpr ⟨lg_5_13, (List.forall_mem_cons.mpr ⟨lg_15_23, (List.forall_mem_cons.mpr ⟨lg_16_0, (List.forall_mem_cons.mpr ⟨lg_16_1, (List.forall_mem_cons.mpr ⟨lg_16_2, (List.forall_mem_cons.mpr ⟨lg_16_3, (List.forall_mem_cons.mpr ⟨lg_15_22, (List.forall_mem_cons.mpr ⟨lg_8_23, (fun _ h => absurd h List.not_mem_nil)⟩)⟩)⟩)⟩)⟩)⟩)⟩)⟩)⟩)⟩)⟩)⟩)⟩)⟩)⟩)⟩)⟩)⟩)⟩)⟩)⟩)⟩)⟩)⟩)
set_option maxRecDepth 100000 in
theorem lg_wsX11_then_r2 : ∀ w ∈ wsX11_then_r2, lgP w := (List.forall_mem_cons.mpr ⟨lg_9_0, (List.forall_mem_cons.mpr ⟨lg_9_1, (List.forall_mem_cons.mpr ⟨lg_9_2, (List.forall_mem_cons.mpr ⟨lg_5_8, (List.forall_mem_cons.mpr ⟨lg_16_4, (List.forall_mem_cons.mpr ⟨lg_16_5, (List.forall_mem_cons.mpr ⟨lg_16_6, (List.forall_mem_cons.mpr ⟨lg_16_7, (List.forall_mem_cons.mpr ⟨lg_5_10, (List.forall_mem_cons.mpr ⟨lg_5_11, (List.forall_mem_cons.mpr ⟨lg_16_8, (List.forall_mem_cons.mpr ⟨lg_16_9, (List.forall_mem_cons.mpr ⟨lg_16_10, (List.forall_mem_cons.mpr ⟨lg_7_18, (List.forall_mem_cons.mpr ⟨lg_7_19, (List.forall_mem_cons.mpr ⟨lg_7_20, (List.forall_mem_cons.mpr ⟨lg_7_21, (List.forall_mem_cons.mpr ⟨lg_7_14, (List.forall_mem_cons.mpr ⟨lg_7_22, (List.forall_mem_cons.mpr ⟨lg_7_23, (List.forall_mem_cons.mpr ⟨lg_8_0, (List.forall_mem_cons.mpr ⟨lg_16_11, (List.forall_mem_cons.mpr ⟨lg_16_12, (List.forall_mem_cons.mpr ⟨lg_16_13, (fun _ h => absurd h List.not_mem_nil)⟩)⟩)⟩)⟩)⟩)⟩)⟩)⟩)⟩)⟩)⟩)⟩)⟩)⟩)⟩)⟩)⟩)⟩)⟩)⟩)⟩)⟩)⟩)⟩)
set_option maxRecDepth 100000 in
theorem lg_wsX11_then_r3 : ∀ w ∈ wsX11_then_r3, lgP w := (List.forall_mem_cons.mpr ⟨lg_16_14, (List.forall_mem_cons.mpr ⟨lg_16_15, (List.forall_mem_cons.mpr ⟨lg_16_16, (List.forall_mem_cons.mpr ⟨lg_16_17, (List.forall_mem_cons.mpr ⟨lg_16_18, (List.forall_mem_cons.mpr ⟨lg_16_19, (List.forall_mem_cons.mpr ⟨lg_16_20, (List.forall_mem_cons.mpr ⟨lg_16_21, (List.forall_mem_cons.mpr ⟨lg_16_22, (List.forall_mem_cons.mpr ⟨lg_16_23, (List.forall_mem_cons.mpr ⟨lg_17_0, (List.forall_mem_cons.mpr ⟨lg_17_1, (List.forall_mem_cons.mpr ⟨lg_17_2, (List.forall_mem_cons.mpr ⟨lg_17_3, (List.forall_mem_cons.mpr ⟨lg_17_4, (List.forall_mem_cons.mpr ⟨lg_17_5, (List.forall_mem_cons.mpr ⟨lg_17_6, (List.forall_mem_cons.mpr ⟨lg_9_5, (List.forall_mem_cons.mpr ⟨lg_9_6, (List.forall_mem_cons.mpr ⟨lg_9_7, (List.forall_mem_cons.mpr ⟨lg_9_8, (fun _ h => absurd h List.not_mem_nil)⟩)⟩)⟩)⟩)⟩)⟩)⟩)⟩)⟩)⟩)⟩)⟩)⟩)⟩)⟩)⟩)⟩)⟩)⟩)⟩)⟩)
set_option maxRecDepth 100000 in
theorem ggL_law_X11_then : GoodIn wsL_law wsX11_then := show ∀ w ∈ wsX11_then, lgP w from (List.forall_mem_cons.mpr ⟨lg_19_0, (List.forall_mem_append.mpr ⟨(List.forall_mem_append.mpr ⟨lg_wsX11_then_r1, (List.forall_mem_append.mpr ⟨lg_wsX11_then_r2, lg_wsX11_then_r3⟩)⟩), lgwsX110⟩)⟩)

set_option maxRecDepth 100000 in
theorem gL_law_X11_then : GoodIn wsL_law (wsV RL 57 RX11 yX11_then wsX11_then) := goodIn_app (a := [.methodLink RL 57 yX11_then, .instanceMethod yX11_then, .selects RX11 yX11_then yX11_then, .initialized RX11]) (show ∀ w ∈ ([.methodLink RL 57 yX11_then, .instanceMethod yX11_then, .selects RX11 yX11_then yX11_then, .initialized RX11] : List Cond), lgP w from (List.forall_mem_cons.mpr ⟨lg_18_21, (List.forall_mem_cons.mpr ⟨lg_18_22, (List.forall_mem_cons.mpr ⟨lg_18_23, (List.forall_mem_cons.mpr ⟨lg_1_5, (fun _ h => absurd h List.not_mem_nil)⟩)⟩)⟩)⟩)) ggL_law_X11_then

set_option maxRecDepth 100000 in
theorem lg_wsX10_apart_r1 : ∀ w ∈ wsX10_apart_r1, lgP w := (List.forall_mem_cons.mpr ⟨lg_1_15, (List.forall_mem_cons.mpr ⟨lg_8_8, (List.forall_mem_cons.mpr ⟨lg_6_20, (List.forall_mem_cons.mpr ⟨lg_6_21, (List.forall_mem_cons.mpr ⟨lg_1_14, (List.forall_mem_cons.mpr ⟨lg_6_22, (List.forall_mem_cons.mpr ⟨lg_6_10, (List.forall_mem_cons.mpr ⟨lg_19_5, (List.forall_mem_cons.mpr ⟨lg_19_6, (List.forall_mem_cons.mpr ⟨lg_19_7, (List.forall_mem_cons.mpr ⟨lg_19_8, (List.forall_mem_cons.mpr ⟨lg_14_14, (List.forall_mem_cons.mpr ⟨lg_14_15, (List.forall_mem_cons.mpr ⟨lg_14_16, (List.forall_mem_cons.mpr ⟨lg_14_17, (List.forall_mem_cons.mpr ⟨lg_3_1, (List.forall_mem_cons.mpr ⟨lg_6_19, (List.forall_mem_cons.mpr ⟨lg_19_9, (List.forall_mem_cons.mpr ⟨lg_19_10, (List.forall_mem_cons.mpr ⟨lg_14_20, (List.forall_mem_cons.mpr ⟨lg_19_11, (List.forall_mem_cons.mpr ⟨lg_19_12, (List.forall_mem_cons.mpr ⟨lg_19_13, (List.forall_mem_cons.mpr ⟨lg_19_14, (fun _ h => absurd h List.not_mem_nil)⟩)⟩)⟩)⟩)⟩)⟩)⟩)⟩)⟩)⟩)⟩)⟩)⟩)⟩)⟩)⟩)⟩)⟩)⟩)⟩)⟩)⟩)⟩)⟩)
set_option maxRecDepth 100000 in
theorem lg_wsX10_apart_r2 : ∀ w ∈ wsX10_apart_r2, lgP w := (List.forall_mem_cons.mpr ⟨lg_19_15, (List.forall_mem_cons.mpr ⟨lg_19_16, (List.forall_mem_cons.mpr ⟨lg_14_19, (List.forall_mem_cons.mpr ⟨lg_14_21, (fun _ h => absurd h List.not_mem_nil)⟩)⟩)⟩)⟩)
set_option maxRecDepth 100000 in
theorem ggL_law_X10_apart : GoodIn wsL_law wsX10_apart := show ∀ w ∈ wsX10_apart, lgP w from (List.forall_mem_cons.mpr ⟨lg_19_4, (List.forall_mem_append.mpr ⟨(List.forall_mem_append.mpr ⟨(List.forall_mem_append.mpr ⟨lg_wsX10_apart_r1, lg_wsX10_apart_r2⟩), lgwsX100⟩), lgwsX20⟩)⟩)

set_option maxRecDepth 100000 in
theorem gL_law_X10_apart : GoodIn wsL_law (wsV RL 58 RX10 yX10_apart wsX10_apart) := goodIn_app (a := [.methodLink RL 58 yX10_apart, .instanceMethod yX10_apart, .selects RX10 yX10_apart yX10_apart, .initialized RX10]) (show ∀ w ∈ ([.methodLink RL 58 yX10_apart, .instanceMethod yX10_apart, .selects RX10 yX10_apart yX10_apart, .initialized RX10] : List Cond), lgP w from (List.forall_mem_cons.mpr ⟨lg_19_1, (List.forall_mem_cons.mpr ⟨lg_19_2, (List.forall_mem_cons.mpr ⟨lg_19_3, (List.forall_mem_cons.mpr ⟨lg_1_2, (fun _ h => absurd h List.not_mem_nil)⟩)⟩)⟩)⟩)) ggL_law_X10_apart

set_option maxRecDepth 100000 in
theorem ggL_law_X11_apart : GoodIn wsL_law wsX11_apart := show ∀ w ∈ wsX11_apart, lgP w from (List.forall_mem_cons.mpr ⟨lg_19_20, (List.forall_mem_append.mpr ⟨(List.forall_mem_cons.mpr ⟨lg_5_8, (List.forall_mem_cons.mpr ⟨lg_7_18, (List.forall_mem_cons.mpr ⟨lg_7_19, (List.forall_mem_cons.mpr ⟨lg_7_20, (List.forall_mem_cons.mpr ⟨lg_1_5, (List.forall_mem_cons.mpr ⟨lg_7_21, (List.forall_mem_cons.mpr ⟨lg_7_14, (List.forall_mem_cons.mpr ⟨lg_7_15, (List.forall_mem_cons.mpr ⟨lg_7_16, (List.forall_mem_cons.mpr ⟨lg_7_17, (List.forall_mem_cons.mpr ⟨lg_7_22, (List.forall_mem_cons.mpr ⟨lg_7_23, (List.forall_mem_cons.mpr ⟨lg_8_0, (List.forall_mem_cons.mpr ⟨lg_19_21, (List.forall_mem_cons.mpr ⟨lg_19_22, (List.forall_mem_cons.mpr ⟨lg_19_23, (List.forall_mem_cons.mpr ⟨lg_16_8, (List.forall_mem_cons.mpr ⟨lg_16_9, (List.forall_mem_cons.mpr ⟨lg_16_10, (fun _ h => absurd h List.not_mem_nil)⟩)⟩)⟩)⟩)⟩)⟩)⟩)⟩)⟩)⟩)⟩)⟩)⟩)⟩)⟩)⟩)⟩)⟩)⟩), lgwsX110⟩)⟩)

set_option maxRecDepth 100000 in
theorem gL_law_X11_apart : GoodIn wsL_law (wsV RL 61 RX11 yX11_apart wsX11_apart) := goodIn_app (a := [.methodLink RL 61 yX11_apart, .instanceMethod yX11_apart, .selects RX11 yX11_apart yX11_apart, .initialized RX11]) (show ∀ w ∈ ([.methodLink RL 61 yX11_apart, .instanceMethod yX11_apart, .selects RX11 yX11_apart yX11_apart, .initialized RX11] : List Cond), lgP w from (List.forall_mem_cons.mpr ⟨lg_19_17, (List.forall_mem_cons.mpr ⟨lg_19_18, (List.forall_mem_cons.mpr ⟨lg_19_19, (List.forall_mem_cons.mpr ⟨lg_1_5, (fun _ h => absurd h List.not_mem_nil)⟩)⟩)⟩)⟩)) ggL_law_X11_apart

set_option maxRecDepth 100000 in
theorem lg_wsX10_triangles_r1 : ∀ w ∈ wsX10_triangles_r1, lgP w := (List.forall_mem_cons.mpr ⟨lg_1_15, (List.forall_mem_cons.mpr ⟨lg_6_3, (List.forall_mem_cons.mpr ⟨lg_6_4, (List.forall_mem_cons.mpr ⟨lg_1_2, (List.forall_mem_cons.mpr ⟨lg_6_5, (List.forall_mem_cons.mpr ⟨lg_20_4, (List.forall_mem_cons.mpr ⟨lg_20_5, (List.forall_mem_cons.mpr ⟨lg_20_6, (List.forall_mem_cons.mpr ⟨lg_20_7, (List.forall_mem_cons.mpr ⟨lg_20_8, (List.forall_mem_cons.mpr ⟨lg_20_9, (List.forall_mem_cons.mpr ⟨lg_20_10, (List.forall_mem_cons.mpr ⟨lg_20_11, (List.forall_mem_cons.mpr ⟨lg_20_12, (List.forall_mem_cons.mpr ⟨lg_7_4, (List.forall_mem_cons.mpr ⟨lg_7_5, (List.forall_mem_cons.mpr ⟨lg_7_6, (List.forall_mem_cons.mpr ⟨lg_7_7, (List.forall_mem_cons.mpr ⟨lg_7_8, (List.forall_mem_cons.mpr ⟨lg_7_9, (List.forall_mem_cons.mpr ⟨lg_20_13, (List.forall_mem_cons.mpr ⟨lg_20_14, (List.forall_mem_cons.mpr ⟨lg_20_15, (List.forall_mem_cons.mpr ⟨lg_20_16, (fun _ h => absurd h List.not_mem_nil)⟩)⟩)⟩)⟩)⟩)⟩)⟩)⟩)⟩)⟩)⟩)⟩)⟩)⟩)⟩)⟩)⟩)⟩)⟩)⟩)⟩)⟩)⟩)⟩)
set_option maxRecDepth 100000 in
theorem lg_wsX10_triangles_r2 : ∀ w ∈ wsX10_triangles_r2, lgP w := (List.forall_mem_cons.mpr ⟨lg_19_6, (List.forall_mem_cons.mpr ⟨lg_19_7, (List.forall_mem_cons.mpr ⟨lg_1_14, (List.forall_mem_cons.mpr ⟨lg_19_8, (List.forall_mem_cons.mpr ⟨lg_14_14, (List.forall_mem_cons.mpr ⟨lg_14_15, (List.forall_mem_cons.mpr ⟨lg_14_16, (List.forall_mem_cons.mpr ⟨lg_14_17, (List.forall_mem_cons.mpr ⟨lg_3_1, (List.forall_mem_cons.mpr ⟨lg_6_19, (List.forall_mem_cons.mpr ⟨lg_6_20, (List.forall_mem_cons.mpr ⟨lg_6_21, (List.forall_mem_cons.mpr ⟨lg_6_22, (List.forall_mem_cons.mpr ⟨lg_6_10, (List.forall_mem_cons.mpr ⟨lg_19_9, (List.forall_mem_cons.mpr ⟨lg_19_10, (List.forall_mem_cons.mpr ⟨lg_14_20, (List.forall_mem_cons.mpr ⟨lg_19_11, (List.forall_mem_cons.mpr ⟨lg_19_12, (List.forall_mem_cons.mpr ⟨lg_19_13, (List.forall_mem_cons.mpr ⟨lg_19_14, (List.forall_mem_cons.mpr ⟨lg_19_15, (List.forall_mem_cons.mpr ⟨lg_19_16, (List.forall_mem_cons.mpr ⟨lg_14_19, (fun _ h => absurd h List.not_mem_nil)⟩)⟩)⟩)⟩)⟩)⟩)⟩)⟩)⟩)⟩)⟩)⟩)⟩)⟩)⟩)⟩)⟩)⟩)⟩)⟩)⟩)⟩)⟩)⟩)
set_option maxRecDepth 100000 in
theorem lg_wsX10_triangles_r3 : ∀ w ∈ wsX10_triangles_r3, lgP w := (List.forall_mem_cons.mpr ⟨lg_14_21, (List.forall_mem_cons.mpr ⟨lg_20_17, (List.forall_mem_cons.mpr ⟨lg_20_18, (List.forall_mem_cons.mpr ⟨lg_20_19, (fun _ h => absurd h List.not_mem_nil)⟩)⟩)⟩)⟩)
set_option maxRecDepth 100000 in
theorem ggL_law_X10_triangles : GoodIn wsL_law wsX10_triangles := show ∀ w ∈ wsX10_triangles, lgP w from (List.forall_mem_cons.mpr ⟨lg_20_3, (List.forall_mem_append.mpr ⟨(List.forall_mem_append.mpr ⟨(List.forall_mem_append.mpr ⟨lg_wsX10_triangles_r1, (List.forall_mem_append.mpr ⟨lg_wsX10_triangles_r2, lg_wsX10_triangles_r3⟩)⟩), lgwsX100⟩), lgwsX20⟩)⟩)

set_option maxRecDepth 100000 in
theorem gL_law_X10_triangles : GoodIn wsL_law (wsV RL 62 RX10 yX10_triangles wsX10_triangles) := goodIn_app (a := [.methodLink RL 62 yX10_triangles, .instanceMethod yX10_triangles, .selects RX10 yX10_triangles yX10_triangles, .initialized RX10]) (show ∀ w ∈ ([.methodLink RL 62 yX10_triangles, .instanceMethod yX10_triangles, .selects RX10 yX10_triangles yX10_triangles, .initialized RX10] : List Cond), lgP w from (List.forall_mem_cons.mpr ⟨lg_20_0, (List.forall_mem_cons.mpr ⟨lg_20_1, (List.forall_mem_cons.mpr ⟨lg_20_2, (List.forall_mem_cons.mpr ⟨lg_1_2, (fun _ h => absurd h List.not_mem_nil)⟩)⟩)⟩)⟩)) ggL_law_X10_triangles

set_option maxRecDepth 100000 in
theorem lg_wsX11_triangles_r1 : ∀ w ∈ wsX11_triangles_r1, lgP w := (List.forall_mem_cons.mpr ⟨lg_21_0, (List.forall_mem_cons.mpr ⟨lg_7_15, (List.forall_mem_cons.mpr ⟨lg_7_16, (List.forall_mem_cons.mpr ⟨lg_1_5, (List.forall_mem_cons.mpr ⟨lg_7_17, (List.forall_mem_cons.mpr ⟨lg_8_23, (List.forall_mem_cons.mpr ⟨lg_9_0, (List.forall_mem_cons.mpr ⟨lg_9_1, (List.forall_mem_cons.mpr ⟨lg_9_2, (List.forall_mem_cons.mpr ⟨lg_5_9, (List.forall_mem_cons.mpr ⟨lg_5_8, (List.forall_mem_cons.mpr ⟨lg_9_3, (List.forall_mem_cons.mpr ⟨lg_9_4, (List.forall_mem_cons.mpr ⟨lg_21_1, (List.forall_mem_cons.mpr ⟨lg_21_2, (List.forall_mem_cons.mpr ⟨lg_21_3, (List.forall_mem_cons.mpr ⟨lg_21_4, (List.forall_mem_cons.mpr ⟨lg_7_18, (List.forall_mem_cons.mpr ⟨lg_7_19, (List.forall_mem_cons.mpr ⟨lg_7_20, (List.forall_mem_cons.mpr ⟨lg_7_21, (List.forall_mem_cons.mpr ⟨lg_7_14, (List.forall_mem_cons.mpr ⟨lg_7_22, (List.forall_mem_cons.mpr ⟨lg_7_23, (fun _ h => absurd h List.not_mem_nil)⟩)⟩)⟩)⟩)⟩)⟩)⟩)⟩)⟩)⟩)⟩)⟩)⟩)⟩)⟩)⟩)⟩)⟩)⟩)⟩)⟩)⟩)⟩)⟩)
set_option maxRecDepth 100000 in
theorem lg_wsX11_triangles_r2 : ∀ w ∈ wsX11_triangles_r2, lgP w := (List.forall_mem_cons.mpr ⟨lg_8_0, (List.forall_mem_cons.mpr ⟨lg_19_21, (List.forall_mem_cons.mpr ⟨lg_19_22, (List.forall_mem_cons.mpr ⟨lg_19_23, (List.forall_mem_cons.mpr ⟨lg_16_8, (List.forall_mem_cons.mpr ⟨lg_16_9, (List.forall_mem_cons.mpr ⟨lg_16_10, (fun _ h => absurd h List.not_mem_nil)⟩)⟩)⟩)⟩)⟩)⟩)⟩)
set_option maxRecDepth 100000 in
theorem ggL_law_X11_triangles : GoodIn wsL_law wsX11_triangles := show ∀ w ∈ wsX11_triangles, lgP w from (List.forall_mem_cons.mpr ⟨lg_20_23, (List.forall_mem_append.mpr ⟨(List.forall_mem_append.mpr ⟨lg_wsX11_triangles_r1, lg_wsX11_triangles_r2⟩), lgwsX110⟩)⟩)

set_option maxRecDepth 100000 in
theorem gL_law_X11_triangles : GoodIn wsL_law (wsV RL 65 RX11 yX11_triangles wsX11_triangles) := goodIn_app (a := [.methodLink RL 65 yX11_triangles, .instanceMethod yX11_triangles, .selects RX11 yX11_triangles yX11_triangles, .initialized RX11]) (show ∀ w ∈ ([.methodLink RL 65 yX11_triangles, .instanceMethod yX11_triangles, .selects RX11 yX11_triangles yX11_triangles, .initialized RX11] : List Cond), lgP w from (List.forall_mem_cons.mpr ⟨lg_20_20, (List.forall_mem_cons.mpr ⟨lg_20_21, (List.forall_mem_cons.mpr ⟨lg_20_22, (List.forall_mem_cons.mpr ⟨lg_1_5, (fun _ h => absurd h List.not_mem_nil)⟩)⟩)⟩)⟩)) ggL_law_X11_triangles

set_option maxRecDepth 100000 in
theorem lg_wsX10_bring_r1 : ∀ w ∈ wsX10_bring_r1, lgP w := (List.forall_mem_cons.mpr ⟨lg_1_15, (List.forall_mem_cons.mpr ⟨lg_2_7, (List.forall_mem_cons.mpr ⟨lg_8_8, (List.forall_mem_cons.mpr ⟨lg_6_20, (List.forall_mem_cons.mpr ⟨lg_6_21, (List.forall_mem_cons.mpr ⟨lg_1_14, (List.forall_mem_cons.mpr ⟨lg_6_22, (List.forall_mem_cons.mpr ⟨lg_6_10, (List.forall_mem_cons.mpr ⟨lg_6_3, (List.forall_mem_cons.mpr ⟨lg_6_4, (List.forall_mem_cons.mpr ⟨lg_1_2, (List.forall_mem_cons.mpr ⟨lg_6_5, (List.forall_mem_cons.mpr ⟨lg_21_9, (List.forall_mem_cons.mpr ⟨lg_21_10, (List.forall_mem_cons.mpr ⟨lg_21_11, (List.forall_mem_cons.mpr ⟨lg_2_6, (List.forall_mem_cons.mpr ⟨lg_21_12, (List.forall_mem_cons.mpr ⟨lg_4_8, (List.forall_mem_cons.mpr ⟨lg_4_9, (List.forall_mem_cons.mpr ⟨lg_4_10, (List.forall_mem_cons.mpr ⟨lg_21_13, (List.forall_mem_cons.mpr ⟨lg_21_14, (List.forall_mem_cons.mpr ⟨lg_21_15, (List.forall_mem_cons.mpr ⟨lg_21_16, (fun _ h => absurd h List.not_mem_nil)⟩)⟩)⟩)⟩)⟩)⟩)⟩)⟩)⟩)⟩)⟩)⟩)⟩)⟩)⟩)⟩)⟩)⟩)⟩)⟩)⟩)⟩)⟩)⟩)
set_option maxRecDepth 100000 in
theorem lg_wsX10_bring_r2 : ∀ w ∈ wsX10_bring_r2, lgP w := (List.forall_mem_cons.mpr ⟨lg_21_17, (List.forall_mem_cons.mpr ⟨lg_14_19, (List.forall_mem_cons.mpr ⟨lg_14_20, (List.forall_mem_cons.mpr ⟨lg_14_21, (List.forall_mem_cons.mpr ⟨lg_21_18, (List.forall_mem_cons.mpr ⟨lg_21_19, (List.forall_mem_cons.mpr ⟨lg_21_20, (List.forall_mem_cons.mpr ⟨lg_21_21, (List.forall_mem_cons.mpr ⟨lg_18_5, (List.forall_mem_cons.mpr ⟨lg_14_15, (List.forall_mem_cons.mpr ⟨lg_14_16, (List.forall_mem_cons.mpr ⟨lg_14_17, (List.forall_mem_cons.mpr ⟨lg_3_1, (List.forall_mem_cons.mpr ⟨lg_6_19, (List.forall_mem_cons.mpr ⟨lg_21_22, (List.forall_mem_cons.mpr ⟨lg_21_23, (List.forall_mem_cons.mpr ⟨lg_22_0, (List.forall_mem_cons.mpr ⟨lg_22_1, (List.forall_mem_cons.mpr ⟨lg_22_2, (fun _ h => absurd h List.not_mem_nil)⟩)⟩)⟩)⟩)⟩)⟩)⟩)⟩)⟩)⟩)⟩)⟩)⟩)⟩)⟩)⟩)⟩)⟩)⟩)
set_option maxRecDepth 100000 in
theorem ggL_law_X10_bring : GoodIn wsL_law wsX10_bring := show ∀ w ∈ wsX10_bring, lgP w from (List.forall_mem_cons.mpr ⟨lg_21_8, (List.forall_mem_append.mpr ⟨(List.forall_mem_append.mpr ⟨(List.forall_mem_append.mpr ⟨(List.forall_mem_append.mpr ⟨lg_wsX10_bring_r1, lg_wsX10_bring_r2⟩), lgwsX100⟩), lgwsX20⟩), lgwsX70⟩)⟩)

set_option maxRecDepth 100000 in
theorem gL_law_X10_bring : GoodIn wsL_law (wsV RL 66 RX10 yX10_bring wsX10_bring) := goodIn_app (a := [.methodLink RL 66 yX10_bring, .instanceMethod yX10_bring, .selects RX10 yX10_bring yX10_bring, .initialized RX10]) (show ∀ w ∈ ([.methodLink RL 66 yX10_bring, .instanceMethod yX10_bring, .selects RX10 yX10_bring yX10_bring, .initialized RX10] : List Cond), lgP w from (List.forall_mem_cons.mpr ⟨lg_21_5, (List.forall_mem_cons.mpr ⟨lg_21_6, (List.forall_mem_cons.mpr ⟨lg_21_7, (List.forall_mem_cons.mpr ⟨lg_1_2, (fun _ h => absurd h List.not_mem_nil)⟩)⟩)⟩)⟩)) ggL_law_X10_bring

set_option maxRecDepth 100000 in
theorem ggL_law_X11_bring : GoodIn wsL_law wsX11_bring := show ∀ w ∈ wsX11_bring, lgP w from (List.forall_mem_cons.mpr ⟨lg_22_6, (List.forall_mem_append.mpr ⟨(List.forall_mem_cons.mpr ⟨lg_5_14, (List.forall_mem_cons.mpr ⟨lg_5_8, (List.forall_mem_cons.mpr ⟨lg_5_15, (List.forall_mem_cons.mpr ⟨lg_7_18, (List.forall_mem_cons.mpr ⟨lg_7_19, (List.forall_mem_cons.mpr ⟨lg_7_20, (List.forall_mem_cons.mpr ⟨lg_1_5, (List.forall_mem_cons.mpr ⟨lg_7_21, (List.forall_mem_cons.mpr ⟨lg_7_14, (List.forall_mem_cons.mpr ⟨lg_7_15, (List.forall_mem_cons.mpr ⟨lg_7_16, (List.forall_mem_cons.mpr ⟨lg_7_17, (List.forall_mem_cons.mpr ⟨lg_7_22, (List.forall_mem_cons.mpr ⟨lg_7_23, (List.forall_mem_cons.mpr ⟨lg_8_0, (List.forall_mem_cons.mpr ⟨lg_16_8, (List.forall_mem_cons.mpr ⟨lg_16_9, (List.forall_mem_cons.mpr ⟨lg_16_10, (fun _ h => absurd h List.not_mem_nil)⟩)⟩)⟩)⟩)⟩)⟩)⟩)⟩)⟩)⟩)⟩)⟩)⟩)⟩)⟩)⟩)⟩)⟩), lgwsX110⟩)⟩)

set_option maxRecDepth 100000 in
theorem gL_law_X11_bring : GoodIn wsL_law (wsV RL 70 RX11 yX11_bring wsX11_bring) := goodIn_app (a := [.methodLink RL 70 yX11_bring, .instanceMethod yX11_bring, .selects RX11 yX11_bring yX11_bring, .initialized RX11]) (show ∀ w ∈ ([.methodLink RL 70 yX11_bring, .instanceMethod yX11_bring, .selects RX11 yX11_bring yX11_bring, .initialized RX11] : List Cond), lgP w from (List.forall_mem_cons.mpr ⟨lg_22_3, (List.forall_mem_cons.mpr ⟨lg_22_4, (List.forall_mem_cons.mpr ⟨lg_22_5, (List.forall_mem_cons.mpr ⟨lg_1_5, (fun _ h => absurd h List.not_mem_nil)⟩)⟩)⟩)⟩)) ggL_law_X11_bring

set_option maxRecDepth 100000 in
theorem lg_wsX10_lean_r1 : ∀ w ∈ wsX10_lean_r1, lgP w := (List.forall_mem_cons.mpr ⟨lg_1_15, (List.forall_mem_cons.mpr ⟨lg_6_3, (List.forall_mem_cons.mpr ⟨lg_6_4, (List.forall_mem_cons.mpr ⟨lg_1_2, (List.forall_mem_cons.mpr ⟨lg_6_5, (List.forall_mem_cons.mpr ⟨lg_22_11, (List.forall_mem_cons.mpr ⟨lg_22_12, (List.forall_mem_cons.mpr ⟨lg_20_6, (List.forall_mem_cons.mpr ⟨lg_22_13, (List.forall_mem_cons.mpr ⟨lg_22_14, (List.forall_mem_cons.mpr ⟨lg_22_15, (List.forall_mem_cons.mpr ⟨lg_22_16, (List.forall_mem_cons.mpr ⟨lg_22_17, (List.forall_mem_cons.mpr ⟨lg_6_20, (List.forall_mem_cons.mpr ⟨lg_6_21, (List.forall_mem_cons.mpr ⟨lg_1_14, (List.forall_mem_cons.mpr ⟨lg_6_22, (List.forall_mem_cons.mpr ⟨lg_6_10, (List.forall_mem_cons.mpr ⟨lg_22_18, (List.forall_mem_cons.mpr ⟨lg_14_15, (List.forall_mem_cons.mpr ⟨lg_14_16, (List.forall_mem_cons.mpr ⟨lg_14_17, (List.forall_mem_cons.mpr ⟨lg_3_1, (List.forall_mem_cons.mpr ⟨lg_6_19, (fun _ h => absurd h List.not_mem_nil)⟩)⟩)⟩)⟩)⟩)⟩)⟩)⟩)⟩)⟩)⟩)⟩)⟩)⟩)⟩)⟩)⟩)⟩)⟩)⟩)⟩)⟩)⟩)⟩)
set_option maxRecDepth 100000 in
theorem lg_wsX10_lean_r2 : ∀ w ∈ wsX10_lean_r2, lgP w := (List.forall_mem_cons.mpr ⟨lg_22_19, (List.forall_mem_cons.mpr ⟨lg_19_10, (List.forall_mem_cons.mpr ⟨lg_14_20, (List.forall_mem_cons.mpr ⟨lg_19_11, (List.forall_mem_cons.mpr ⟨lg_19_12, (List.forall_mem_cons.mpr ⟨lg_19_13, (List.forall_mem_cons.mpr ⟨lg_19_14, (List.forall_mem_cons.mpr ⟨lg_19_15, (List.forall_mem_cons.mpr ⟨lg_19_16, (List.forall_mem_cons.mpr ⟨lg_14_19, (List.forall_mem_cons.mpr ⟨lg_14_21, (List.forall_mem_cons.mpr ⟨lg_22_20, (fun _ h => absurd h List.not_mem_nil)⟩)⟩)⟩)⟩)⟩)⟩)⟩)⟩)⟩)⟩)⟩)⟩)
set_option maxRecDepth 100000 in
theorem ggL_law_X10_lean : GoodIn wsL_law wsX10_lean := show ∀ w ∈ wsX10_lean, lgP w from (List.forall_mem_cons.mpr ⟨lg_22_10, (List.forall_mem_append.mpr ⟨(List.forall_mem_append.mpr ⟨(List.forall_mem_append.mpr ⟨lg_wsX10_lean_r1, lg_wsX10_lean_r2⟩), lgwsX100⟩), lgwsX20⟩)⟩)

set_option maxRecDepth 100000 in
theorem gL_law_X10_lean : GoodIn wsL_law (wsV RL 71 RX10 yX10_lean wsX10_lean) := goodIn_app (a := [.methodLink RL 71 yX10_lean, .instanceMethod yX10_lean, .selects RX10 yX10_lean yX10_lean, .initialized RX10]) (show ∀ w ∈ ([.methodLink RL 71 yX10_lean, .instanceMethod yX10_lean, .selects RX10 yX10_lean yX10_lean, .initialized RX10] : List Cond), lgP w from (List.forall_mem_cons.mpr ⟨lg_22_7, (List.forall_mem_cons.mpr ⟨lg_22_8, (List.forall_mem_cons.mpr ⟨lg_22_9, (List.forall_mem_cons.mpr ⟨lg_1_2, (fun _ h => absurd h List.not_mem_nil)⟩)⟩)⟩)⟩)) ggL_law_X10_lean

set_option maxRecDepth 100000 in
theorem ggL_law_X11_lean : GoodIn wsL_law wsX11_lean := show ∀ w ∈ wsX11_lean, lgP w from (List.forall_mem_cons.mpr ⟨lg_23_0, (List.forall_mem_append.mpr ⟨(List.forall_mem_cons.mpr ⟨lg_23_1, (List.forall_mem_cons.mpr ⟨lg_5_8, (List.forall_mem_cons.mpr ⟨lg_7_15, (List.forall_mem_cons.mpr ⟨lg_7_16, (List.forall_mem_cons.mpr ⟨lg_1_5, (List.forall_mem_cons.mpr ⟨lg_7_17, (List.forall_mem_cons.mpr ⟨lg_7_18, (List.forall_mem_cons.mpr ⟨lg_7_19, (List.forall_mem_cons.mpr ⟨lg_7_20, (List.forall_mem_cons.mpr ⟨lg_7_21, (List.forall_mem_cons.mpr ⟨lg_7_14, (List.forall_mem_cons.mpr ⟨lg_7_22, (List.forall_mem_cons.mpr ⟨lg_7_23, (List.forall_mem_cons.mpr ⟨lg_8_0, (List.forall_mem_cons.mpr ⟨lg_19_21, (List.forall_mem_cons.mpr ⟨lg_19_22, (List.forall_mem_cons.mpr ⟨lg_19_23, (List.forall_mem_cons.mpr ⟨lg_16_8, (List.forall_mem_cons.mpr ⟨lg_16_9, (List.forall_mem_cons.mpr ⟨lg_16_10, (fun _ h => absurd h List.not_mem_nil)⟩)⟩)⟩)⟩)⟩)⟩)⟩)⟩)⟩)⟩)⟩)⟩)⟩)⟩)⟩)⟩)⟩)⟩)⟩)⟩), lgwsX110⟩)⟩)

set_option maxRecDepth 100000 in
theorem gL_law_X11_lean : GoodIn wsL_law (wsV RL 74 RX11 yX11_lean wsX11_lean) := goodIn_app (a := [.methodLink RL 74 yX11_lean, .instanceMethod yX11_lean, .selects RX11 yX11_lean yX11_lean, .initialized RX11]) (show ∀ w ∈ ([.methodLink RL 74 yX11_lean, .instanceMethod yX11_lean, .selects RX11 yX11_lean yX11_lean, .initialized RX11] : List Cond), lgP w from (List.forall_mem_cons.mpr ⟨lg_22_21, (List.forall_mem_cons.mpr ⟨lg_22_22, (List.forall_mem_cons.mpr ⟨lg_22_23, (List.forall_mem_cons.mpr ⟨lg_1_5, (fun _ h => absurd h List.not_mem_nil)⟩)⟩)⟩)⟩)) ggL_law_X11_lean

set_option maxRecDepth 100000 in
theorem lg_wsX10_bisect_r1 : ∀ w ∈ wsX10_bisect_r1, lgP w := (List.forall_mem_cons.mpr ⟨lg_1_15, (List.forall_mem_cons.mpr ⟨lg_6_3, (List.forall_mem_cons.mpr ⟨lg_6_4, (List.forall_mem_cons.mpr ⟨lg_1_2, (List.forall_mem_cons.mpr ⟨lg_6_5, (List.forall_mem_cons.mpr ⟨lg_23_6, (List.forall_mem_cons.mpr ⟨lg_23_7, (List.forall_mem_cons.mpr ⟨lg_20_6, (List.forall_mem_cons.mpr ⟨lg_23_8, (List.forall_mem_cons.mpr ⟨lg_20_11, (List.forall_mem_cons.mpr ⟨lg_23_9, (List.forall_mem_cons.mpr ⟨lg_23_10, (List.forall_mem_cons.mpr ⟨lg_23_11, (List.forall_mem_cons.mpr ⟨lg_20_12, (List.forall_mem_cons.mpr ⟨lg_7_4, (List.forall_mem_cons.mpr ⟨lg_7_5, (List.forall_mem_cons.mpr ⟨lg_7_6, (List.forall_mem_cons.mpr ⟨lg_7_7, (List.forall_mem_cons.mpr ⟨lg_7_8, (List.forall_mem_cons.mpr ⟨lg_7_9, (List.forall_mem_cons.mpr ⟨lg_23_12, (List.forall_mem_cons.mpr ⟨lg_23_13, (List.forall_mem_cons.mpr ⟨lg_23_14, (List.forall_mem_cons.mpr ⟨lg_23_15, (fun _ h => absurd h List.not_mem_nil)⟩)⟩)⟩)⟩)⟩)⟩)⟩)⟩)⟩)⟩)⟩)⟩)⟩)⟩)⟩)⟩)⟩)⟩)⟩)⟩)⟩)⟩)⟩)⟩)
set_option maxRecDepth 100000 in
theorem lg_wsX10_bisect_r2 : ∀ w ∈ wsX10_bisect_r2, lgP w := (List.forall_mem_cons.mpr ⟨lg_23_16, (List.forall_mem_cons.mpr ⟨lg_23_17, (List.forall_mem_cons.mpr ⟨lg_20_13, (List.forall_mem_cons.mpr ⟨lg_20_14, (List.forall_mem_cons.mpr ⟨lg_20_15, (List.forall_mem_cons.mpr ⟨lg_20_16, (List.forall_mem_cons.mpr ⟨lg_19_6, (List.forall_mem_cons.mpr ⟨lg_19_7, (List.forall_mem_cons.mpr ⟨lg_1_14, (List.forall_mem_cons.mpr ⟨lg_19_8, (List.forall_mem_cons.mpr ⟨lg_14_14, (List.forall_mem_cons.mpr ⟨lg_14_15, (List.forall_mem_cons.mpr ⟨lg_14_16, (List.forall_mem_cons.mpr ⟨lg_14_17, (List.forall_mem_cons.mpr ⟨lg_3_1, (List.forall_mem_cons.mpr ⟨lg_6_19, (List.forall_mem_cons.mpr ⟨lg_6_20, (List.forall_mem_cons.mpr ⟨lg_6_21, (List.forall_mem_cons.mpr ⟨lg_6_22, (List.forall_mem_cons.mpr ⟨lg_6_10, (List.forall_mem_cons.mpr ⟨lg_19_9, (List.forall_mem_cons.mpr ⟨lg_19_10, (List.forall_mem_cons.mpr ⟨lg_14_20, (List.forall_mem_cons.mpr ⟨lg_19_11, (fun _ h => absurd h List.not_mem_nil)⟩)⟩)⟩)⟩)⟩)⟩)⟩)⟩)⟩)⟩)⟩)⟩)⟩)⟩)⟩)⟩)⟩)⟩)⟩)⟩)⟩)⟩)⟩)⟩)
set_option maxRecDepth 100000 in
theorem lg_wsX10_bisect_r3 : ∀ w ∈ wsX10_bisect_r3, lgP w := (List.forall_mem_cons.mpr ⟨lg_19_12, (List.forall_mem_cons.mpr ⟨lg_19_13, (List.forall_mem_cons.mpr ⟨lg_19_14, (List.forall_mem_cons.mpr ⟨lg_19_15, (List.forall_mem_cons.mpr ⟨lg_19_16, (List.forall_mem_cons.mpr ⟨lg_14_19, (List.forall_mem_cons.mpr ⟨lg_14_21, (List.forall_mem_cons.mpr ⟨lg_23_18, (fun _ h => absurd h List.not_mem_nil)⟩)⟩)⟩)⟩)⟩)⟩)⟩)⟩)
set_option maxRecDepth 100000 in
theorem ggL_law_X10_bisect : GoodIn wsL_law wsX10_bisect := show ∀ w ∈ wsX10_bisect, lgP w from (List.forall_mem_cons.mpr ⟨lg_23_5, (List.forall_mem_append.mpr ⟨(List.forall_mem_append.mpr ⟨(List.forall_mem_append.mpr ⟨lg_wsX10_bisect_r1, (List.forall_mem_append.mpr ⟨lg_wsX10_bisect_r2, lg_wsX10_bisect_r3⟩)⟩), lgwsX100⟩), lgwsX20⟩)⟩)

set_option maxRecDepth 100000 in
theorem gL_law_X10_bisect : GoodIn wsL_law (wsV RL 75 RX10 yX10_bisect wsX10_bisect) := goodIn_app (a := [.methodLink RL 75 yX10_bisect, .instanceMethod yX10_bisect, .selects RX10 yX10_bisect yX10_bisect, .initialized RX10]) (show ∀ w ∈ ([.methodLink RL 75 yX10_bisect, .instanceMethod yX10_bisect, .selects RX10 yX10_bisect yX10_bisect, .initialized RX10] : List Cond), lgP w from (List.forall_mem_cons.mpr ⟨lg_23_2, (List.forall_mem_cons.mpr ⟨lg_23_3, (List.forall_mem_cons.mpr ⟨lg_23_4, (List.forall_mem_cons.mpr ⟨lg_1_2, (fun _ h => absurd h List.not_mem_nil)⟩)⟩)⟩)⟩)) ggL_law_X10_bisect

set_option maxRecDepth 100000 in
theorem ggL_law_X11_bisect : GoodIn wsL_law wsX11_bisect := show ∀ w ∈ wsX11_bisect, lgP w from (List.forall_mem_cons.mpr ⟨lg_23_22, (List.forall_mem_append.mpr ⟨(List.forall_mem_cons.mpr ⟨lg_7_14, (List.forall_mem_cons.mpr ⟨lg_23_1, (List.forall_mem_cons.mpr ⟨lg_5_8, (List.forall_mem_cons.mpr ⟨lg_7_15, (List.forall_mem_cons.mpr ⟨lg_7_16, (List.forall_mem_cons.mpr ⟨lg_1_5, (List.forall_mem_cons.mpr ⟨lg_7_17, (List.forall_mem_cons.mpr ⟨lg_7_18, (List.forall_mem_cons.mpr ⟨lg_7_19, (List.forall_mem_cons.mpr ⟨lg_7_20, (List.forall_mem_cons.mpr ⟨lg_7_21, (List.forall_mem_cons.mpr ⟨lg_7_22, (List.forall_mem_cons.mpr ⟨lg_7_23, (List.forall_mem_cons.mpr ⟨lg_8_0, (List.forall_mem_cons.mpr ⟨lg_8_1, (List.forall_mem_cons.mpr ⟨lg_8_2, (List.forall_mem_cons.mpr ⟨lg_8_3, (List.forall_mem_cons.mpr ⟨lg_19_21, (List.forall_mem_cons.mpr ⟨lg_19_22, (List.forall_mem_cons.mpr ⟨lg_19_23, (List.forall_mem_cons.mpr ⟨lg_16_8, (List.forall_mem_cons.mpr ⟨lg_16_9, (List.forall_mem_cons.mpr ⟨lg_16_10, (fun _ h => absurd h List.not_mem_nil)⟩)⟩)⟩)⟩)⟩)⟩)⟩)⟩)⟩)⟩)⟩)⟩)⟩)⟩)⟩)⟩)⟩)⟩)⟩)⟩)⟩)⟩)⟩), lgwsX110⟩)⟩)

set_option maxRecDepth 100000 in
theorem gL_law_X11_bisect : GoodIn wsL_law (wsV RL 78 RX11 yX11_bisect wsX11_bisect) := goodIn_app (a := [.methodLink RL 78 yX11_bisect, .instanceMethod yX11_bisect, .selects RX11 yX11_bisect yX11_bisect, .initialized RX11]) (show ∀ w ∈ ([.methodLink RL 78 yX11_bisect, .instanceMethod yX11_bisect, .selects RX11 yX11_bisect yX11_bisect, .initialized RX11] : List Cond), lgP w from (List.forall_mem_cons.mpr ⟨lg_23_19, (List.forall_mem_cons.mpr ⟨lg_23_20, (List.forall_mem_cons.mpr ⟨lg_23_21, (List.forall_mem_cons.mpr ⟨lg_1_5, (fun _ h => absurd h List.not_mem_nil)⟩)⟩)⟩)⟩)) ggL_law_X11_bisect

set_option maxRecDepth 100000 in
theorem lg_wsX10_meet_r1 : ∀ w ∈ wsX10_meet_r1, lgP w := (List.forall_mem_cons.mpr ⟨lg_1_15, (List.forall_mem_cons.mpr ⟨lg_8_8, (List.forall_mem_cons.mpr ⟨lg_6_20, (List.forall_mem_cons.mpr ⟨lg_6_21, (List.forall_mem_cons.mpr ⟨lg_1_14, (List.forall_mem_cons.mpr ⟨lg_6_22, (List.forall_mem_cons.mpr ⟨lg_6_10, (List.forall_mem_cons.mpr ⟨lg_24_3, (List.forall_mem_cons.mpr ⟨lg_24_4, (List.forall_mem_cons.mpr ⟨lg_20_6, (List.forall_mem_cons.mpr ⟨lg_24_5, (List.forall_mem_cons.mpr ⟨lg_22_18, (List.forall_mem_cons.mpr ⟨lg_14_15, (List.forall_mem_cons.mpr ⟨lg_14_16, (List.forall_mem_cons.mpr ⟨lg_14_17, (List.forall_mem_cons.mpr ⟨lg_3_1, (List.forall_mem_cons.mpr ⟨lg_6_19, (List.forall_mem_cons.mpr ⟨lg_24_6, (List.forall_mem_cons.mpr ⟨lg_24_7, (List.forall_mem_cons.mpr ⟨lg_24_8, (List.forall_mem_cons.mpr ⟨lg_24_9, (List.forall_mem_cons.mpr ⟨lg_3_2, (List.forall_mem_cons.mpr ⟨lg_24_10, (List.forall_mem_cons.mpr ⟨lg_14_19, (fun _ h => absurd h List.not_mem_nil)⟩)⟩)⟩)⟩)⟩)⟩)⟩)⟩)⟩)⟩)⟩)⟩)⟩)⟩)⟩)⟩)⟩)⟩)⟩)⟩)⟩)⟩)⟩)⟩)
set_option maxRecDepth 100000 in
theorem lg_wsX10_meet_r2 : ∀ w ∈ wsX10_meet_r2, lgP w := (List.forall_mem_cons.mpr ⟨lg_14_20, (List.forall_mem_cons.mpr ⟨lg_14_21, (fun _ h => absurd h List.not_mem_nil)⟩)⟩)
set_option maxRecDepth 100000 in
theorem ggL_law_X10_meet : GoodIn wsL_law wsX10_meet := show ∀ w ∈ wsX10_meet, lgP w from (List.forall_mem_cons.mpr ⟨lg_24_2, (List.forall_mem_append.mpr ⟨(List.forall_mem_append.mpr ⟨(List.forall_mem_append.mpr ⟨lg_wsX10_meet_r1, lg_wsX10_meet_r2⟩), lgwsX100⟩), lgwsX20⟩)⟩)

set_option maxRecDepth 100000 in
theorem gL_law_X10_meet : GoodIn wsL_law (wsV RL 79 RX10 yX10_meet wsX10_meet) := goodIn_app (a := [.methodLink RL 79 yX10_meet, .instanceMethod yX10_meet, .selects RX10 yX10_meet yX10_meet, .initialized RX10]) (show ∀ w ∈ ([.methodLink RL 79 yX10_meet, .instanceMethod yX10_meet, .selects RX10 yX10_meet yX10_meet, .initialized RX10] : List Cond), lgP w from (List.forall_mem_cons.mpr ⟨lg_23_23, (List.forall_mem_cons.mpr ⟨lg_24_0, (List.forall_mem_cons.mpr ⟨lg_24_1, (List.forall_mem_cons.mpr ⟨lg_1_2, (fun _ h => absurd h List.not_mem_nil)⟩)⟩)⟩)⟩)) ggL_law_X10_meet

set_option maxRecDepth 100000 in
theorem ggL_law_X11_meet : GoodIn wsL_law wsX11_meet := show ∀ w ∈ wsX11_meet, lgP w from (List.forall_mem_cons.mpr ⟨lg_24_14, (List.forall_mem_append.mpr ⟨(List.forall_mem_cons.mpr ⟨lg_5_8, (List.forall_mem_cons.mpr ⟨lg_5_11, (List.forall_mem_cons.mpr ⟨lg_7_18, (List.forall_mem_cons.mpr ⟨lg_7_19, (List.forall_mem_cons.mpr ⟨lg_7_20, (List.forall_mem_cons.mpr ⟨lg_1_5, (List.forall_mem_cons.mpr ⟨lg_7_21, (List.forall_mem_cons.mpr ⟨lg_7_14, (List.forall_mem_cons.mpr ⟨lg_7_15, (List.forall_mem_cons.mpr ⟨lg_7_16, (List.forall_mem_cons.mpr ⟨lg_7_17, (List.forall_mem_cons.mpr ⟨lg_7_22, (List.forall_mem_cons.mpr ⟨lg_7_23, (List.forall_mem_cons.mpr ⟨lg_8_0, (List.forall_mem_cons.mpr ⟨lg_16_8, (List.forall_mem_cons.mpr ⟨lg_16_9, (List.forall_mem_cons.mpr ⟨lg_16_10, (fun _ h => absurd h List.not_mem_nil)⟩)⟩)⟩)⟩)⟩)⟩)⟩)⟩)⟩)⟩)⟩)⟩)⟩)⟩)⟩)⟩)⟩), lgwsX110⟩)⟩)

set_option maxRecDepth 100000 in
theorem gL_law_X11_meet : GoodIn wsL_law (wsV RL 82 RX11 yX11_meet wsX11_meet) := goodIn_app (a := [.methodLink RL 82 yX11_meet, .instanceMethod yX11_meet, .selects RX11 yX11_meet yX11_meet, .initialized RX11]) (show ∀ w ∈ ([.methodLink RL 82 yX11_meet, .instanceMethod yX11_meet, .selects RX11 yX11_meet yX11_meet, .initialized RX11] : List Cond), lgP w from (List.forall_mem_cons.mpr ⟨lg_24_11, (List.forall_mem_cons.mpr ⟨lg_24_12, (List.forall_mem_cons.mpr ⟨lg_24_13, (List.forall_mem_cons.mpr ⟨lg_1_5, (fun _ h => absurd h List.not_mem_nil)⟩)⟩)⟩)⟩)) ggL_law_X11_meet

set_option maxRecDepth 100000 in
theorem ggL_law_X10_chalk : GoodIn wsL_law wsX10_chalk := show ∀ w ∈ wsX10_chalk, lgP w from (List.forall_mem_cons.mpr ⟨lg_24_18, (List.forall_mem_append.mpr ⟨(List.forall_mem_append.mpr ⟨(List.forall_mem_append.mpr ⟨(List.forall_mem_cons.mpr ⟨lg_1_15, (List.forall_mem_cons.mpr ⟨lg_24_19, (List.forall_mem_cons.mpr ⟨lg_24_20, (List.forall_mem_cons.mpr ⟨lg_6_3, (List.forall_mem_cons.mpr ⟨lg_6_4, (List.forall_mem_cons.mpr ⟨lg_1_2, (List.forall_mem_cons.mpr ⟨lg_6_5, (List.forall_mem_cons.mpr ⟨lg_24_21, (List.forall_mem_cons.mpr ⟨lg_24_22, (List.forall_mem_cons.mpr ⟨lg_24_23, (List.forall_mem_cons.mpr ⟨lg_3_7, (List.forall_mem_cons.mpr ⟨lg_25_0, (List.forall_mem_cons.mpr ⟨lg_13_16, (List.forall_mem_cons.mpr ⟨lg_3_13, (List.forall_mem_cons.mpr ⟨lg_3_14, (fun _ h => absurd h List.not_mem_nil)⟩)⟩)⟩)⟩)⟩)⟩)⟩)⟩)⟩)⟩)⟩)⟩)⟩)⟩)⟩), lgwsX100⟩), lgwsX20⟩), lgwsX10⟩)⟩)

set_option maxRecDepth 100000 in
theorem gL_law_X10_chalk : GoodIn wsL_law (wsV RL 83 RX10 yX10_chalk wsX10_chalk) := goodIn_app (a := [.methodLink RL 83 yX10_chalk, .instanceMethod yX10_chalk, .selects RX10 yX10_chalk yX10_chalk, .initialized RX10]) (show ∀ w ∈ ([.methodLink RL 83 yX10_chalk, .instanceMethod yX10_chalk, .selects RX10 yX10_chalk yX10_chalk, .initialized RX10] : List Cond), lgP w from (List.forall_mem_cons.mpr ⟨lg_24_15, (List.forall_mem_cons.mpr ⟨lg_24_16, (List.forall_mem_cons.mpr ⟨lg_24_17, (List.forall_mem_cons.mpr ⟨lg_1_2, (fun _ h => absurd h List.not_mem_nil)⟩)⟩)⟩)⟩)) ggL_law_X10_chalk

set_option maxRecDepth 100000 in
theorem ggL_law_X11_chalk : GoodIn wsL_law wsX11_chalk := show ∀ w ∈ wsX11_chalk, lgP w from (List.forall_mem_cons.mpr ⟨lg_25_4, (List.forall_mem_append.mpr ⟨(List.forall_mem_cons.mpr ⟨lg_25_5, (List.forall_mem_cons.mpr ⟨lg_5_12, (List.forall_mem_cons.mpr ⟨lg_7_15, (List.forall_mem_cons.mpr ⟨lg_7_16, (List.forall_mem_cons.mpr ⟨lg_1_5, (List.forall_mem_cons.mpr ⟨lg_7_17, (fun _ h => absurd h List.not_mem_nil)⟩)⟩)⟩)⟩)⟩)⟩), lgwsX110⟩)⟩)

set_option maxRecDepth 100000 in
theorem gL_law_X11_chalk : GoodIn wsL_law (wsV RL 86 RX11 yX11_chalk wsX11_chalk) := goodIn_app (a := [.methodLink RL 86 yX11_chalk, .instanceMethod yX11_chalk, .selects RX11 yX11_chalk yX11_chalk, .initialized RX11]) (show ∀ w ∈ ([.methodLink RL 86 yX11_chalk, .instanceMethod yX11_chalk, .selects RX11 yX11_chalk yX11_chalk, .initialized RX11] : List Cond), lgP w from (List.forall_mem_cons.mpr ⟨lg_25_1, (List.forall_mem_cons.mpr ⟨lg_25_2, (List.forall_mem_cons.mpr ⟨lg_25_3, (List.forall_mem_cons.mpr ⟨lg_1_5, (fun _ h => absurd h List.not_mem_nil)⟩)⟩)⟩)⟩)) ggL_law_X11_chalk

set_option maxRecDepth 100000 in
theorem ggL_law_X10_forget : GoodIn wsL_law wsX10_forget := show ∀ w ∈ wsX10_forget, lgP w from (List.forall_mem_cons.mpr ⟨lg_25_9, (List.forall_mem_append.mpr ⟨(List.forall_mem_append.mpr ⟨(List.forall_mem_append.mpr ⟨(List.forall_mem_cons.mpr ⟨lg_1_15, (List.forall_mem_cons.mpr ⟨lg_24_19, (List.forall_mem_cons.mpr ⟨lg_24_20, (fun _ h => absurd h List.not_mem_nil)⟩)⟩)⟩), lgwsX100⟩), lgwsX20⟩), lgwsX10⟩)⟩)

set_option maxRecDepth 100000 in
theorem gL_law_X10_forget : GoodIn wsL_law (wsV RL 87 RX10 yX10_forget wsX10_forget) := goodIn_app (a := [.methodLink RL 87 yX10_forget, .instanceMethod yX10_forget, .selects RX10 yX10_forget yX10_forget, .initialized RX10]) (show ∀ w ∈ ([.methodLink RL 87 yX10_forget, .instanceMethod yX10_forget, .selects RX10 yX10_forget yX10_forget, .initialized RX10] : List Cond), lgP w from (List.forall_mem_cons.mpr ⟨lg_25_6, (List.forall_mem_cons.mpr ⟨lg_25_7, (List.forall_mem_cons.mpr ⟨lg_25_8, (List.forall_mem_cons.mpr ⟨lg_1_2, (fun _ h => absurd h List.not_mem_nil)⟩)⟩)⟩)⟩)) ggL_law_X10_forget

set_option maxRecDepth 100000 in
theorem ggL_law_X11_forget : GoodIn wsL_law wsX11_forget := show ∀ w ∈ wsX11_forget, lgP w from (List.forall_mem_cons.mpr ⟨lg_25_13, (List.forall_mem_append.mpr ⟨(List.forall_mem_cons.mpr ⟨lg_25_5, (fun _ h => absurd h List.not_mem_nil)⟩), lgwsX110⟩)⟩)

set_option maxRecDepth 100000 in
theorem gL_law_X11_forget : GoodIn wsL_law (wsV RL 90 RX11 yX11_forget wsX11_forget) := goodIn_app (a := [.methodLink RL 90 yX11_forget, .instanceMethod yX11_forget, .selects RX11 yX11_forget yX11_forget, .initialized RX11]) (show ∀ w ∈ ([.methodLink RL 90 yX11_forget, .instanceMethod yX11_forget, .selects RX11 yX11_forget yX11_forget, .initialized RX11] : List Cond), lgP w from (List.forall_mem_cons.mpr ⟨lg_25_10, (List.forall_mem_cons.mpr ⟨lg_25_11, (List.forall_mem_cons.mpr ⟨lg_25_12, (List.forall_mem_cons.mpr ⟨lg_1_5, (fun _ h => absurd h List.not_mem_nil)⟩)⟩)⟩)⟩)) ggL_law_X11_forget

set_option maxRecDepth 100000 in
theorem lg_wsX10_was_r1 : ∀ w ∈ wsX10_was_r1, lgP w := (List.forall_mem_cons.mpr ⟨lg_1_15, (List.forall_mem_cons.mpr ⟨lg_24_19, (List.forall_mem_cons.mpr ⟨lg_6_3, (List.forall_mem_cons.mpr ⟨lg_6_4, (List.forall_mem_cons.mpr ⟨lg_1_2, (List.forall_mem_cons.mpr ⟨lg_6_5, (List.forall_mem_cons.mpr ⟨lg_25_18, (List.forall_mem_cons.mpr ⟨lg_25_19, (List.forall_mem_cons.mpr ⟨lg_25_20, (List.forall_mem_cons.mpr ⟨lg_3_7, (List.forall_mem_cons.mpr ⟨lg_25_21, (List.forall_mem_cons.mpr ⟨lg_25_22, (List.forall_mem_cons.mpr ⟨lg_25_23, (List.forall_mem_cons.mpr ⟨lg_26_0, (List.forall_mem_cons.mpr ⟨lg_26_1, (List.forall_mem_cons.mpr ⟨lg_13_16, (List.forall_mem_cons.mpr ⟨lg_3_13, (List.forall_mem_cons.mpr ⟨lg_3_14, (List.forall_mem_cons.mpr ⟨lg_26_2, (List.forall_mem_cons.mpr ⟨lg_14_19, (List.forall_mem_cons.mpr ⟨lg_14_20, (List.forall_mem_cons.mpr ⟨lg_14_21, (List.forall_mem_cons.mpr ⟨lg_26_3, (List.forall_mem_cons.mpr ⟨lg_26_4, (fun _ h => absurd h List.not_mem_nil)⟩)⟩)⟩)⟩)⟩)⟩)⟩)⟩)⟩)⟩)⟩)⟩)⟩)⟩)⟩)⟩)⟩)⟩)⟩)⟩)⟩)⟩)⟩)⟩)
set_option maxRecDepth 100000 in
theorem lg_wsX10_was_r2 : ∀ w ∈ wsX10_was_r2, lgP w := (List.forall_mem_cons.mpr ⟨lg_26_5, (List.forall_mem_cons.mpr ⟨lg_26_6, (fun _ h => absurd h List.not_mem_nil)⟩)⟩)
set_option maxRecDepth 100000 in
theorem ggL_law_X10_was : GoodIn wsL_law wsX10_was := show ∀ w ∈ wsX10_was, lgP w from (List.forall_mem_cons.mpr ⟨lg_25_17, (List.forall_mem_append.mpr ⟨(List.forall_mem_append.mpr ⟨(List.forall_mem_append.mpr ⟨(List.forall_mem_append.mpr ⟨lg_wsX10_was_r1, lg_wsX10_was_r2⟩), lgwsX100⟩), lgwsX20⟩), lgwsX10⟩)⟩)

set_option maxRecDepth 100000 in
theorem gL_law_X10_was : GoodIn wsL_law (wsV RL 91 RX10 yX10_was wsX10_was) := goodIn_app (a := [.methodLink RL 91 yX10_was, .instanceMethod yX10_was, .selects RX10 yX10_was yX10_was, .initialized RX10]) (show ∀ w ∈ ([.methodLink RL 91 yX10_was, .instanceMethod yX10_was, .selects RX10 yX10_was yX10_was, .initialized RX10] : List Cond), lgP w from (List.forall_mem_cons.mpr ⟨lg_25_14, (List.forall_mem_cons.mpr ⟨lg_25_15, (List.forall_mem_cons.mpr ⟨lg_25_16, (List.forall_mem_cons.mpr ⟨lg_1_2, (fun _ h => absurd h List.not_mem_nil)⟩)⟩)⟩)⟩)) ggL_law_X10_was

set_option maxRecDepth 100000 in
theorem ggL_law_X11_was : GoodIn wsL_law wsX11_was := show ∀ w ∈ wsX11_was, lgP w from (List.forall_mem_cons.mpr ⟨lg_26_10, (List.forall_mem_append.mpr ⟨(List.forall_mem_cons.mpr ⟨lg_7_15, (List.forall_mem_cons.mpr ⟨lg_7_16, (List.forall_mem_cons.mpr ⟨lg_1_5, (List.forall_mem_cons.mpr ⟨lg_7_17, (List.forall_mem_cons.mpr ⟨lg_26_11, (List.forall_mem_cons.mpr ⟨lg_26_12, (List.forall_mem_cons.mpr ⟨lg_26_13, (List.forall_mem_cons.mpr ⟨lg_26_14, (List.forall_mem_cons.mpr ⟨lg_25_5, (List.forall_mem_cons.mpr ⟨lg_5_12, (List.forall_mem_cons.mpr ⟨lg_26_15, (List.forall_mem_cons.mpr ⟨lg_26_16, (List.forall_mem_cons.mpr ⟨lg_26_17, (List.forall_mem_cons.mpr ⟨lg_16_8, (List.forall_mem_cons.mpr ⟨lg_16_9, (List.forall_mem_cons.mpr ⟨lg_16_10, (fun _ h => absurd h List.not_mem_nil)⟩)⟩)⟩)⟩)⟩)⟩)⟩)⟩)⟩)⟩)⟩)⟩)⟩)⟩)⟩)⟩), lgwsX110⟩)⟩)

set_option maxRecDepth 100000 in
theorem gL_law_X11_was : GoodIn wsL_law (wsV RL 94 RX11 yX11_was wsX11_was) := goodIn_app (a := [.methodLink RL 94 yX11_was, .instanceMethod yX11_was, .selects RX11 yX11_was yX11_was, .initialized RX11]) (show ∀ w ∈ ([.methodLink RL 94 yX11_was, .instanceMethod yX11_was, .selects RX11 yX11_was yX11_was, .initialized RX11] : List Cond), lgP w from (List.forall_mem_cons.mpr ⟨lg_26_7, (List.forall_mem_cons.mpr ⟨lg_26_8, (List.forall_mem_cons.mpr ⟨lg_26_9, (List.forall_mem_cons.mpr ⟨lg_1_5, (fun _ h => absurd h List.not_mem_nil)⟩)⟩)⟩)⟩)) ggL_law_X11_was

set_option maxRecDepth 100000 in
theorem lg_wsX10_ask_r1 : ∀ w ∈ wsX10_ask_r1, lgP w := (List.forall_mem_cons.mpr ⟨lg_2_11, (List.forall_mem_cons.mpr ⟨lg_1_15, (List.forall_mem_cons.mpr ⟨lg_24_19, (List.forall_mem_cons.mpr ⟨lg_26_22, (List.forall_mem_cons.mpr ⟨lg_26_23, (List.forall_mem_cons.mpr ⟨lg_6_3, (List.forall_mem_cons.mpr ⟨lg_6_4, (List.forall_mem_cons.mpr ⟨lg_1_2, (List.forall_mem_cons.mpr ⟨lg_6_5, (List.forall_mem_cons.mpr ⟨lg_27_0, (List.forall_mem_cons.mpr ⟨lg_27_1, (List.forall_mem_cons.mpr ⟨lg_27_2, (List.forall_mem_cons.mpr ⟨lg_2_10, (List.forall_mem_cons.mpr ⟨lg_27_3, (List.forall_mem_cons.mpr ⟨lg_27_4, (List.forall_mem_cons.mpr ⟨lg_27_5, (List.forall_mem_cons.mpr ⟨lg_27_6, (List.forall_mem_cons.mpr ⟨lg_25_19, (List.forall_mem_cons.mpr ⟨lg_25_20, (List.forall_mem_cons.mpr ⟨lg_3_7, (List.forall_mem_cons.mpr ⟨lg_25_21, (List.forall_mem_cons.mpr ⟨lg_25_22, (List.forall_mem_cons.mpr ⟨lg_25_23, (List.forall_mem_cons.mpr ⟨lg_26_0, (fun _ h => absurd h List.not_mem_nil)⟩)⟩)⟩)⟩)⟩)⟩)⟩)⟩)⟩)⟩)⟩)⟩)⟩)⟩)⟩)⟩)⟩)⟩)⟩)⟩)⟩)⟩)⟩)⟩)
set_option maxRecDepth 100000 in
theorem lg_wsX10_ask_r2 : ∀ w ∈ wsX10_ask_r2, lgP w := (List.forall_mem_cons.mpr ⟨lg_26_1, (List.forall_mem_cons.mpr ⟨lg_13_16, (List.forall_mem_cons.mpr ⟨lg_3_13, (List.forall_mem_cons.mpr ⟨lg_3_14, (List.forall_mem_cons.mpr ⟨lg_26_2, (List.forall_mem_cons.mpr ⟨lg_14_19, (List.forall_mem_cons.mpr ⟨lg_14_20, (List.forall_mem_cons.mpr ⟨lg_14_21, (List.forall_mem_cons.mpr ⟨lg_27_7, (List.forall_mem_cons.mpr ⟨lg_27_8, (List.forall_mem_cons.mpr ⟨lg_27_9, (List.forall_mem_cons.mpr ⟨lg_27_10, (List.forall_mem_cons.mpr ⟨lg_4_15, (List.forall_mem_cons.mpr ⟨lg_27_11, (List.forall_mem_cons.mpr ⟨lg_27_12, (List.forall_mem_cons.mpr ⟨lg_19_14, (List.forall_mem_cons.mpr ⟨lg_27_13, (List.forall_mem_cons.mpr ⟨lg_27_14, (List.forall_mem_cons.mpr ⟨lg_27_15, (fun _ h => absurd h List.not_mem_nil)⟩)⟩)⟩)⟩)⟩)⟩)⟩)⟩)⟩)⟩)⟩)⟩)⟩)⟩)⟩)⟩)⟩)⟩)⟩)
set_option maxRecDepth 100000 in
theorem ggL_law_X10_ask : GoodIn wsL_law wsX10_ask := show ∀ w ∈ wsX10_ask, lgP w from (List.forall_mem_cons.mpr ⟨lg_26_21, (List.forall_mem_append.mpr ⟨(List.forall_mem_append.mpr ⟨(List.forall_mem_append.mpr ⟨(List.forall_mem_append.mpr ⟨(List.forall_mem_append.mpr ⟨lg_wsX10_ask_r1, lg_wsX10_ask_r2⟩), lgwsX100⟩), lgwsX20⟩), lgwsX00⟩), lgwsX10⟩)⟩)

set_option maxRecDepth 100000 in
theorem gL_law_X10_ask : GoodIn wsL_law (wsV RL 95 RX10 yX10_ask wsX10_ask) := goodIn_app (a := [.methodLink RL 95 yX10_ask, .instanceMethod yX10_ask, .selects RX10 yX10_ask yX10_ask, .initialized RX10]) (show ∀ w ∈ ([.methodLink RL 95 yX10_ask, .instanceMethod yX10_ask, .selects RX10 yX10_ask yX10_ask, .initialized RX10] : List Cond), lgP w from (List.forall_mem_cons.mpr ⟨lg_26_18, (List.forall_mem_cons.mpr ⟨lg_26_19, (List.forall_mem_cons.mpr ⟨lg_26_20, (List.forall_mem_cons.mpr ⟨lg_1_2, (fun _ h => absurd h List.not_mem_nil)⟩)⟩)⟩)⟩)) ggL_law_X10_ask

set_option maxRecDepth 100000 in
theorem ggL_law_X11_ask : GoodIn wsL_law wsX11_ask := show ∀ w ∈ wsX11_ask, lgP w from (List.forall_mem_cons.mpr ⟨lg_27_19, (List.forall_mem_append.mpr ⟨(List.forall_mem_cons.mpr ⟨lg_5_17, (List.forall_mem_cons.mpr ⟨lg_23_1, (List.forall_mem_cons.mpr ⟨lg_5_16, (List.forall_mem_cons.mpr ⟨lg_7_15, (List.forall_mem_cons.mpr ⟨lg_7_16, (List.forall_mem_cons.mpr ⟨lg_1_5, (List.forall_mem_cons.mpr ⟨lg_7_17, (List.forall_mem_cons.mpr ⟨lg_26_11, (List.forall_mem_cons.mpr ⟨lg_26_12, (List.forall_mem_cons.mpr ⟨lg_26_13, (List.forall_mem_cons.mpr ⟨lg_26_14, (List.forall_mem_cons.mpr ⟨lg_25_5, (List.forall_mem_cons.mpr ⟨lg_5_12, (List.forall_mem_cons.mpr ⟨lg_26_15, (List.forall_mem_cons.mpr ⟨lg_26_16, (List.forall_mem_cons.mpr ⟨lg_26_17, (List.forall_mem_cons.mpr ⟨lg_16_8, (List.forall_mem_cons.mpr ⟨lg_16_9, (List.forall_mem_cons.mpr ⟨lg_16_10, (fun _ h => absurd h List.not_mem_nil)⟩)⟩)⟩)⟩)⟩)⟩)⟩)⟩)⟩)⟩)⟩)⟩)⟩)⟩)⟩)⟩)⟩)⟩)⟩), lgwsX110⟩)⟩)

set_option maxRecDepth 100000 in
theorem gL_law_X11_ask : GoodIn wsL_law (wsV RL 98 RX11 yX11_ask wsX11_ask) := goodIn_app (a := [.methodLink RL 98 yX11_ask, .instanceMethod yX11_ask, .selects RX11 yX11_ask yX11_ask, .initialized RX11]) (show ∀ w ∈ ([.methodLink RL 98 yX11_ask, .instanceMethod yX11_ask, .selects RX11 yX11_ask yX11_ask, .initialized RX11] : List Cond), lgP w from (List.forall_mem_cons.mpr ⟨lg_27_16, (List.forall_mem_cons.mpr ⟨lg_27_17, (List.forall_mem_cons.mpr ⟨lg_27_18, (List.forall_mem_cons.mpr ⟨lg_1_5, (fun _ h => absurd h List.not_mem_nil)⟩)⟩)⟩)⟩)) ggL_law_X11_ask

set_option maxRecDepth 100000 in
theorem ggL_law_X10_take : GoodIn wsL_law wsX10_take := show ∀ w ∈ wsX10_take, lgP w from (List.forall_mem_cons.mpr ⟨lg_27_23, (List.forall_mem_append.mpr ⟨(List.forall_mem_append.mpr ⟨(List.forall_mem_cons.mpr ⟨lg_2_15, (List.forall_mem_cons.mpr ⟨lg_6_3, (List.forall_mem_cons.mpr ⟨lg_6_4, (List.forall_mem_cons.mpr ⟨lg_1_2, (List.forall_mem_cons.mpr ⟨lg_6_5, (List.forall_mem_cons.mpr ⟨lg_28_0, (List.forall_mem_cons.mpr ⟨lg_28_1, (List.forall_mem_cons.mpr ⟨lg_28_2, (List.forall_mem_cons.mpr ⟨lg_2_14, (List.forall_mem_cons.mpr ⟨lg_28_3, (List.forall_mem_cons.mpr ⟨lg_4_20, (List.forall_mem_cons.mpr ⟨lg_28_4, (List.forall_mem_cons.mpr ⟨lg_28_5, (List.forall_mem_cons.mpr ⟨lg_28_6, (List.forall_mem_cons.mpr ⟨lg_28_7, (List.forall_mem_cons.mpr ⟨lg_28_8, (List.forall_mem_cons.mpr ⟨lg_27_12, (List.forall_mem_cons.mpr ⟨lg_19_14, (List.forall_mem_cons.mpr ⟨lg_27_13, (List.forall_mem_cons.mpr ⟨lg_28_9, (List.forall_mem_cons.mpr ⟨lg_28_10, (List.forall_mem_cons.mpr ⟨lg_28_11, (List.forall_mem_cons.mpr ⟨lg_28_12, (fun _ h => absurd h List.not_mem_nil)⟩)⟩)⟩)⟩)⟩)⟩)⟩)⟩)⟩)⟩)⟩)⟩)⟩)⟩)⟩)⟩)⟩)⟩)⟩)⟩)⟩)⟩)⟩), lgwsX100⟩), lgwsX60⟩)⟩)

set_option maxRecDepth 100000 in
theorem gL_law_X10_take : GoodIn wsL_law (wsV RL 99 RX10 yX10_take wsX10_take) := goodIn_app (a := [.methodLink RL 99 yX10_take, .instanceMethod yX10_take, .selects RX10 yX10_take yX10_take, .initialized RX10]) (show ∀ w ∈ ([.methodLink RL 99 yX10_take, .instanceMethod yX10_take, .selects RX10 yX10_take yX10_take, .initialized RX10] : List Cond), lgP w from (List.forall_mem_cons.mpr ⟨lg_27_20, (List.forall_mem_cons.mpr ⟨lg_27_21, (List.forall_mem_cons.mpr ⟨lg_27_22, (List.forall_mem_cons.mpr ⟨lg_1_2, (fun _ h => absurd h List.not_mem_nil)⟩)⟩)⟩)⟩)) ggL_law_X10_take

set_option maxRecDepth 100000 in
theorem ggL_law_X11_take : GoodIn wsL_law wsX11_take := show ∀ w ∈ wsX11_take, lgP w from (List.forall_mem_cons.mpr ⟨lg_28_16, (List.forall_mem_append.mpr ⟨(List.forall_mem_cons.mpr ⟨lg_5_18, (List.forall_mem_cons.mpr ⟨lg_7_15, (List.forall_mem_cons.mpr ⟨lg_7_16, (List.forall_mem_cons.mpr ⟨lg_1_5, (List.forall_mem_cons.mpr ⟨lg_7_17, (fun _ h => absurd h List.not_mem_nil)⟩)⟩)⟩)⟩)⟩), lgwsX110⟩)⟩)

set_option maxRecDepth 100000 in
theorem gL_law_X11_take : GoodIn wsL_law (wsV RL 102 RX11 yX11_take wsX11_take) := goodIn_app (a := [.methodLink RL 102 yX11_take, .instanceMethod yX11_take, .selects RX11 yX11_take yX11_take, .initialized RX11]) (show ∀ w ∈ ([.methodLink RL 102 yX11_take, .instanceMethod yX11_take, .selects RX11 yX11_take yX11_take, .initialized RX11] : List Cond), lgP w from (List.forall_mem_cons.mpr ⟨lg_28_13, (List.forall_mem_cons.mpr ⟨lg_28_14, (List.forall_mem_cons.mpr ⟨lg_28_15, (List.forall_mem_cons.mpr ⟨lg_1_5, (fun _ h => absurd h List.not_mem_nil)⟩)⟩)⟩)⟩)) ggL_law_X11_take

set_option maxRecDepth 100000 in
theorem lg_wsX10_cock_r1 : ∀ w ∈ wsX10_cock_r1, lgP w := (List.forall_mem_cons.mpr ⟨lg_28_21, (List.forall_mem_cons.mpr ⟨lg_2_19, (List.forall_mem_cons.mpr ⟨lg_6_3, (List.forall_mem_cons.mpr ⟨lg_6_4, (List.forall_mem_cons.mpr ⟨lg_1_2, (List.forall_mem_cons.mpr ⟨lg_6_5, (List.forall_mem_cons.mpr ⟨lg_28_22, (List.forall_mem_cons.mpr ⟨lg_28_23, (List.forall_mem_cons.mpr ⟨lg_29_0, (List.forall_mem_cons.mpr ⟨lg_2_18, (List.forall_mem_cons.mpr ⟨lg_29_1, (List.forall_mem_cons.mpr ⟨lg_29_2, (List.forall_mem_cons.mpr ⟨lg_27_12, (List.forall_mem_cons.mpr ⟨lg_19_14, (List.forall_mem_cons.mpr ⟨lg_27_13, (List.forall_mem_cons.mpr ⟨lg_29_3, (List.forall_mem_cons.mpr ⟨lg_19_13, (List.forall_mem_cons.mpr ⟨lg_19_15, (List.forall_mem_cons.mpr ⟨lg_29_4, (List.forall_mem_cons.mpr ⟨lg_29_5, (List.forall_mem_cons.mpr ⟨lg_5_2, (List.forall_mem_cons.mpr ⟨lg_29_6, (List.forall_mem_cons.mpr ⟨lg_29_7, (List.forall_mem_cons.mpr ⟨lg_29_8, (fun _ h => absurd h List.not_mem_nil)⟩)⟩)⟩)⟩)⟩)⟩)⟩)⟩)⟩)⟩)⟩)⟩)⟩)⟩)⟩)⟩)⟩)⟩)⟩)⟩)⟩)⟩)⟩)⟩)
set_option maxRecDepth 100000 in
theorem lg_wsX10_cock_r2 : ∀ w ∈ wsX10_cock_r2, lgP w := (List.forall_mem_cons.mpr ⟨lg_29_9, (List.forall_mem_cons.mpr ⟨lg_5_3, (List.forall_mem_cons.mpr ⟨lg_29_10, (List.forall_mem_cons.mpr ⟨lg_29_11, (List.forall_mem_cons.mpr ⟨lg_29_12, (List.forall_mem_cons.mpr ⟨lg_29_13, (List.forall_mem_cons.mpr ⟨lg_29_14, (List.forall_mem_cons.mpr ⟨lg_29_15, (List.forall_mem_cons.mpr ⟨lg_29_16, (List.forall_mem_cons.mpr ⟨lg_29_17, (List.forall_mem_cons.mpr ⟨lg_29_18, (List.forall_mem_cons.mpr ⟨lg_29_19, (List.forall_mem_cons.mpr ⟨lg_29_20, (List.forall_mem_cons.mpr ⟨lg_29_21, (List.forall_mem_cons.mpr ⟨lg_29_22, (List.forall_mem_cons.mpr ⟨lg_29_23, (List.forall_mem_cons.mpr ⟨lg_30_0, (List.forall_mem_cons.mpr ⟨lg_30_1, (List.forall_mem_cons.mpr ⟨lg_30_2, (List.forall_mem_cons.mpr ⟨lg_30_3, (List.forall_mem_cons.mpr ⟨lg_30_4, (List.forall_mem_cons.mpr ⟨lg_30_5, (fun _ h => absurd h List.not_mem_nil)⟩)⟩)⟩)⟩)⟩)⟩)⟩)⟩)⟩)⟩)⟩)⟩)⟩)⟩)⟩)⟩)⟩)⟩)⟩)⟩)⟩)⟩)
set_option maxRecDepth 100000 in
theorem ggL_law_X10_cock : GoodIn wsL_law wsX10_cock := show ∀ w ∈ wsX10_cock, lgP w from (List.forall_mem_cons.mpr ⟨lg_28_20, (List.forall_mem_append.mpr ⟨(List.forall_mem_append.mpr ⟨(List.forall_mem_append.mpr ⟨lg_wsX10_cock_r1, lg_wsX10_cock_r2⟩), lgwsX100⟩), lgwsX80⟩)⟩)

set_option maxRecDepth 100000 in
theorem gL_law_X10_cock : GoodIn wsL_law (wsV RL 103 RX10 yX10_cock wsX10_cock) := goodIn_app (a := [.methodLink RL 103 yX10_cock, .instanceMethod yX10_cock, .selects RX10 yX10_cock yX10_cock, .initialized RX10]) (show ∀ w ∈ ([.methodLink RL 103 yX10_cock, .instanceMethod yX10_cock, .selects RX10 yX10_cock yX10_cock, .initialized RX10] : List Cond), lgP w from (List.forall_mem_cons.mpr ⟨lg_28_17, (List.forall_mem_cons.mpr ⟨lg_28_18, (List.forall_mem_cons.mpr ⟨lg_28_19, (List.forall_mem_cons.mpr ⟨lg_1_2, (fun _ h => absurd h List.not_mem_nil)⟩)⟩)⟩)⟩)) ggL_law_X10_cock

set_option maxRecDepth 100000 in
theorem ggL_law_X11_cock : GoodIn wsL_law wsX11_cock := show ∀ w ∈ wsX11_cock, lgP w from (List.forall_mem_cons.mpr ⟨lg_30_9, (List.forall_mem_append.mpr ⟨(List.forall_mem_cons.mpr ⟨lg_30_10, (List.forall_mem_cons.mpr ⟨lg_5_19, (List.forall_mem_cons.mpr ⟨lg_30_11, (List.forall_mem_cons.mpr ⟨lg_5_20, (List.forall_mem_cons.mpr ⟨lg_7_15, (List.forall_mem_cons.mpr ⟨lg_7_16, (List.forall_mem_cons.mpr ⟨lg_1_5, (List.forall_mem_cons.mpr ⟨lg_7_17, (fun _ h => absurd h List.not_mem_nil)⟩)⟩)⟩)⟩)⟩)⟩)⟩)⟩), lgwsX110⟩)⟩)

set_option maxRecDepth 100000 in
theorem gL_law_X11_cock : GoodIn wsL_law (wsV RL 107 RX11 yX11_cock wsX11_cock) := goodIn_app (a := [.methodLink RL 107 yX11_cock, .instanceMethod yX11_cock, .selects RX11 yX11_cock yX11_cock, .initialized RX11]) (show ∀ w ∈ ([.methodLink RL 107 yX11_cock, .instanceMethod yX11_cock, .selects RX11 yX11_cock yX11_cock, .initialized RX11] : List Cond), lgP w from (List.forall_mem_cons.mpr ⟨lg_30_6, (List.forall_mem_cons.mpr ⟨lg_30_7, (List.forall_mem_cons.mpr ⟨lg_30_8, (List.forall_mem_cons.mpr ⟨lg_1_5, (fun _ h => absurd h List.not_mem_nil)⟩)⟩)⟩)⟩)) ggL_law_X11_cock

set_option maxRecDepth 100000 in
theorem lg_wsX10_book_r1 : ∀ w ∈ wsX10_book_r1, lgP w := (List.forall_mem_cons.mpr ⟨lg_2_3, (List.forall_mem_cons.mpr ⟨lg_1_15, (List.forall_mem_cons.mpr ⟨lg_17_11, (List.forall_mem_cons.mpr ⟨lg_6_3, (List.forall_mem_cons.mpr ⟨lg_6_4, (List.forall_mem_cons.mpr ⟨lg_1_2, (List.forall_mem_cons.mpr ⟨lg_6_5, (List.forall_mem_cons.mpr ⟨lg_30_16, (List.forall_mem_cons.mpr ⟨lg_30_17, (List.forall_mem_cons.mpr ⟨lg_30_18, (List.forall_mem_cons.mpr ⟨lg_2_2, (List.forall_mem_cons.mpr ⟨lg_30_19, (List.forall_mem_cons.mpr ⟨lg_30_20, (List.forall_mem_cons.mpr ⟨lg_4_1, (List.forall_mem_cons.mpr ⟨lg_13_0, (List.forall_mem_cons.mpr ⟨lg_13_1, (List.forall_mem_cons.mpr ⟨lg_13_2, (List.forall_mem_cons.mpr ⟨lg_13_3, (List.forall_mem_cons.mpr ⟨lg_12_23, (List.forall_mem_cons.mpr ⟨lg_12_22, (List.forall_mem_cons.mpr ⟨lg_13_4, (List.forall_mem_cons.mpr ⟨lg_13_5, (List.forall_mem_cons.mpr ⟨lg_4_2, (List.forall_mem_cons.mpr ⟨lg_13_6, (fun _ h => absurd h List.not_mem_nil)⟩)⟩)⟩)⟩)⟩)⟩)⟩)⟩)⟩)⟩)⟩)⟩)⟩)⟩)⟩)⟩)⟩)⟩)⟩)⟩)⟩)⟩)⟩)⟩)
set_option maxRecDepth 100000 in
theorem lg_wsX10_book_r2 : ∀ w ∈ wsX10_book_r2, lgP w := (List.forall_mem_cons.mpr ⟨lg_13_7, (List.forall_mem_cons.mpr ⟨lg_13_8, (List.forall_mem_cons.mpr ⟨lg_1_14, (List.forall_mem_cons.mpr ⟨lg_13_9, (List.forall_mem_cons.mpr ⟨lg_3_1, (List.forall_mem_cons.mpr ⟨lg_3_2, (List.forall_mem_cons.mpr ⟨lg_3_3, (List.forall_mem_cons.mpr ⟨lg_3_8, (List.forall_mem_cons.mpr ⟨lg_6_10, (List.forall_mem_cons.mpr ⟨lg_13_10, (List.forall_mem_cons.mpr ⟨lg_13_11, (List.forall_mem_cons.mpr ⟨lg_13_12, (List.forall_mem_cons.mpr ⟨lg_13_13, (List.forall_mem_cons.mpr ⟨lg_13_14, (List.forall_mem_cons.mpr ⟨lg_3_7, (List.forall_mem_cons.mpr ⟨lg_13_15, (List.forall_mem_cons.mpr ⟨lg_3_13, (List.forall_mem_cons.mpr ⟨lg_3_14, (List.forall_mem_cons.mpr ⟨lg_13_16, (List.forall_mem_cons.mpr ⟨lg_30_21, (List.forall_mem_cons.mpr ⟨lg_30_22, (List.forall_mem_cons.mpr ⟨lg_30_23, (List.forall_mem_cons.mpr ⟨lg_14_2, (List.forall_mem_cons.mpr ⟨lg_14_3, (fun _ h => absurd h List.not_mem_nil)⟩)⟩)⟩)⟩)⟩)⟩)⟩)⟩)⟩)⟩)⟩)⟩)⟩)⟩)⟩)⟩)⟩)⟩)⟩)⟩)⟩)⟩)⟩)⟩)
set_option maxRecDepth 100000 in
theorem lg_wsX10_book_r3 : ∀ w ∈ wsX10_book_r3, lgP w := (List.forall_mem_cons.mpr ⟨lg_14_4, (List.forall_mem_cons.mpr ⟨lg_14_5, (List.forall_mem_cons.mpr ⟨lg_6_19, (List.forall_mem_cons.mpr ⟨lg_6_20, (List.forall_mem_cons.mpr ⟨lg_6_21, (List.forall_mem_cons.mpr ⟨lg_6_22, (List.forall_mem_cons.mpr ⟨lg_6_15, (List.forall_mem_cons.mpr ⟨lg_6_16, (List.forall_mem_cons.mpr ⟨lg_6_17, (List.forall_mem_cons.mpr ⟨lg_6_18, (List.forall_mem_cons.mpr ⟨lg_15_0, (List.forall_mem_cons.mpr ⟨lg_15_1, (List.forall_mem_cons.mpr ⟨lg_15_2, (List.forall_mem_cons.mpr ⟨lg_15_3, (List.forall_mem_cons.mpr ⟨lg_15_4, (List.forall_mem_cons.mpr ⟨lg_15_5, (List.forall_mem_cons.mpr ⟨lg_15_6, (List.forall_mem_cons.mpr ⟨lg_15_7, (List.forall_mem_cons.mpr ⟨lg_14_18, (List.forall_mem_cons.mpr ⟨lg_14_19, (List.forall_mem_cons.mpr ⟨lg_14_20, (List.forall_mem_cons.mpr ⟨lg_14_21, (List.forall_mem_cons.mpr ⟨lg_15_8, (List.forall_mem_cons.mpr ⟨lg_8_11, (fun _ h => absurd h List.not_mem_nil)⟩)⟩)⟩)⟩)⟩)⟩)⟩)⟩)⟩)⟩)⟩)⟩)⟩)⟩)⟩)⟩)⟩)⟩)⟩)⟩)⟩)⟩)⟩)⟩)
set_option maxRecDepth 100000 in
theorem lg_wsX10_book_r4 : ∀ w ∈ wsX10_book_r4, lgP w := (List.forall_mem_cons.mpr ⟨lg_8_12, (List.forall_mem_cons.mpr ⟨lg_8_13, (List.forall_mem_cons.mpr ⟨lg_6_11, (List.forall_mem_cons.mpr ⟨lg_6_12, (List.forall_mem_cons.mpr ⟨lg_6_13, (List.forall_mem_cons.mpr ⟨lg_6_14, (List.forall_mem_cons.mpr ⟨lg_15_9, (List.forall_mem_cons.mpr ⟨lg_15_10, (List.forall_mem_cons.mpr ⟨lg_15_11, (List.forall_mem_cons.mpr ⟨lg_15_12, (List.forall_mem_cons.mpr ⟨lg_3_4, (List.forall_mem_cons.mpr ⟨lg_15_13, (List.forall_mem_cons.mpr ⟨lg_15_14, (List.forall_mem_cons.mpr ⟨lg_15_15, (List.forall_mem_cons.mpr ⟨lg_15_16, (List.forall_mem_cons.mpr ⟨lg_31_0, (List.forall_mem_cons.mpr ⟨lg_31_1, (List.forall_mem_cons.mpr ⟨lg_31_2, (List.forall_mem_cons.mpr ⟨lg_31_3, (List.forall_mem_cons.mpr ⟨lg_14_14, (List.forall_mem_cons.mpr ⟨lg_14_15, (List.forall_mem_cons.mpr ⟨lg_14_16, (List.forall_mem_cons.mpr ⟨lg_14_17, (List.forall_mem_cons.mpr ⟨lg_8_15, (fun _ h => absurd h List.not_mem_nil)⟩)⟩)⟩)⟩)⟩)⟩)⟩)⟩)⟩)⟩)⟩)⟩)⟩)⟩)⟩)⟩)⟩)⟩)⟩)⟩)⟩)⟩)⟩)⟩)
set_option maxRecDepth 100000 in
theorem lg_wsX10_book_r5 : ∀ w ∈ wsX10_book_r5, lgP w := (List.forall_mem_cons.mpr ⟨lg_8_16, (List.forall_mem_cons.mpr ⟨lg_8_17, (List.forall_mem_cons.mpr ⟨lg_8_18, (List.forall_mem_cons.mpr ⟨lg_20_4, (List.forall_mem_cons.mpr ⟨lg_20_5, (List.forall_mem_cons.mpr ⟨lg_20_6, (List.forall_mem_cons.mpr ⟨lg_20_7, (List.forall_mem_cons.mpr ⟨lg_20_8, (List.forall_mem_cons.mpr ⟨lg_20_9, (List.forall_mem_cons.mpr ⟨lg_20_10, (List.forall_mem_cons.mpr ⟨lg_20_11, (List.forall_mem_cons.mpr ⟨lg_20_12, (List.forall_mem_cons.mpr ⟨lg_7_4, (List.forall_mem_cons.mpr ⟨lg_7_5, (List.forall_mem_cons.mpr ⟨lg_7_6, (List.forall_mem_cons.mpr ⟨lg_7_7, (List.forall_mem_cons.mpr ⟨lg_7_8, (List.forall_mem_cons.mpr ⟨lg_7_9, (List.forall_mem_cons.mpr ⟨lg_20_13, (List.forall_mem_cons.mpr ⟨lg_20_14, (List.forall_mem_cons.mpr ⟨lg_20_15, (List.forall_mem_cons.mpr ⟨lg_20_16, (List.forall_mem_cons.mpr ⟨lg_19_6, (List.forall_mem_cons.mpr ⟨lg_19_7, (fun _ h => absurd h List.not_mem_nil)⟩)⟩)⟩)⟩)⟩)⟩)⟩)⟩)⟩)⟩)⟩)⟩)⟩)⟩)⟩)⟩)⟩)⟩)⟩)⟩)⟩)⟩)⟩)⟩)
set_option maxRecDepth 100000 in
theorem lg_wsX10_book_r6 : ∀ w ∈ wsX10_book_r6, lgP w := (List.forall_mem_cons.mpr ⟨lg_19_8, (List.forall_mem_cons.mpr ⟨lg_19_9, (List.forall_mem_cons.mpr ⟨lg_19_10, (List.forall_mem_cons.mpr ⟨lg_19_11, (List.forall_mem_cons.mpr ⟨lg_19_12, (List.forall_mem_cons.mpr ⟨lg_19_13, (List.forall_mem_cons.mpr ⟨lg_19_14, (List.forall_mem_cons.mpr ⟨lg_19_15, (List.forall_mem_cons.mpr ⟨lg_19_16, (fun _ h => absurd h List.not_mem_nil)⟩)⟩)⟩)⟩)⟩)⟩)⟩)⟩)⟩)
set_option maxRecDepth 100000 in
theorem ggL_law_X10_book : GoodIn wsL_law wsX10_book := show ∀ w ∈ wsX10_book, lgP w from (List.forall_mem_cons.mpr ⟨lg_30_15, (List.forall_mem_append.mpr ⟨(List.forall_mem_append.mpr ⟨(List.forall_mem_append.mpr ⟨(List.forall_mem_append.mpr ⟨(List.forall_mem_append.mpr ⟨lg_wsX10_book_r1, (List.forall_mem_append.mpr ⟨lg_wsX10_book_r2, (List.forall_mem_append.mpr ⟨lg_wsX10_book_r3, (List.forall_mem_append.mpr ⟨lg_wsX10_book_r4, (List.forall_mem_append.mpr ⟨lg_wsX10_book_r5, lg_wsX10_book_r6⟩)⟩)⟩)⟩)⟩), lgwsX100⟩), lgwsX90⟩), lgwsX20⟩), lgwsX10⟩)⟩)

set_option maxRecDepth 100000 in
theorem gL_law_X10_book : GoodIn wsL_law (wsV RL 108 RX10 yX10_book wsX10_book) := goodIn_app (a := [.methodLink RL 108 yX10_book, .instanceMethod yX10_book, .selects RX10 yX10_book yX10_book, .initialized RX10]) (show ∀ w ∈ ([.methodLink RL 108 yX10_book, .instanceMethod yX10_book, .selects RX10 yX10_book yX10_book, .initialized RX10] : List Cond), lgP w from (List.forall_mem_cons.mpr ⟨lg_30_12, (List.forall_mem_cons.mpr ⟨lg_30_13, (List.forall_mem_cons.mpr ⟨lg_30_14, (List.forall_mem_cons.mpr ⟨lg_1_2, (fun _ h => absurd h List.not_mem_nil)⟩)⟩)⟩)⟩)) ggL_law_X10_book

set_option maxRecDepth 100000 in
theorem lg_wsX11_book_r1 : ∀ w ∈ wsX11_book_r1, lgP w := (List.forall_mem_cons.mpr ⟨lg_31_8, (List.forall_mem_cons.mpr ⟨lg_15_22, (List.forall_mem_cons.mpr ⟨lg_5_9, (List.forall_mem_cons.mpr ⟨lg_7_15, (List.forall_mem_cons.mpr ⟨lg_7_16, (List.forall_mem_cons.mpr ⟨lg_1_5, (List.forall_mem_cons.mpr ⟨lg_7_17, (List.forall_mem_cons.mpr ⟨lg_8_23, (List.forall_mem_cons.mpr ⟨lg_9_0, (List.forall_mem_cons.mpr ⟨lg_9_1, (List.forall_mem_cons.mpr ⟨lg_9_2, (List.forall_mem_cons.mpr ⟨lg_5_8, (List.forall_mem_cons.mpr ⟨lg_9_3, (List.forall_mem_cons.mpr ⟨lg_9_4, (List.forall_mem_cons.mpr ⟨lg_16_15, (List.forall_mem_cons.mpr ⟨lg_16_16, (List.forall_mem_cons.mpr ⟨lg_16_17, (List.forall_mem_cons.mpr ⟨lg_16_18, (List.forall_mem_cons.mpr ⟨lg_7_18, (List.forall_mem_cons.mpr ⟨lg_7_19, (List.forall_mem_cons.mpr ⟨lg_7_20, (List.forall_mem_cons.mpr ⟨lg_7_21, (List.forall_mem_cons.mpr ⟨lg_7_14, (List.forall_mem_cons.mpr ⟨lg_7_22, (fun _ h => absurd h List.not_mem_nil)⟩)⟩)⟩)⟩)⟩)⟩)⟩)⟩)⟩)⟩)⟩)⟩)⟩)⟩)⟩)⟩)⟩)⟩)⟩)⟩)⟩)⟩)⟩)⟩)
set_option maxRecDepth 100000 in
theorem lg_wsX11_book_r2 : ∀ w ∈ wsX11_book_r2, lgP w := (List.forall_mem_cons.mpr ⟨lg_7_23, (List.forall_mem_cons.mpr ⟨lg_8_0, (List.forall_mem_cons.mpr ⟨lg_16_8, (List.forall_mem_cons.mpr ⟨lg_16_9, (List.forall_mem_cons.mpr ⟨lg_16_10, (List.forall_mem_cons.mpr ⟨lg_16_19, (List.forall_mem_cons.mpr ⟨lg_16_20, (List.forall_mem_cons.mpr ⟨lg_16_21, (List.forall_mem_cons.mpr ⟨lg_16_22, (List.forall_mem_cons.mpr ⟨lg_16_23, (List.forall_mem_cons.mpr ⟨lg_17_0, (List.forall_mem_cons.mpr ⟨lg_17_1, (List.forall_mem_cons.mpr ⟨lg_17_2, (List.forall_mem_cons.mpr ⟨lg_16_4, (List.forall_mem_cons.mpr ⟨lg_16_5, (List.forall_mem_cons.mpr ⟨lg_16_6, (List.forall_mem_cons.mpr ⟨lg_16_7, (List.forall_mem_cons.mpr ⟨lg_5_10, (List.forall_mem_cons.mpr ⟨lg_5_11, (List.forall_mem_cons.mpr ⟨lg_9_5, (List.forall_mem_cons.mpr ⟨lg_9_6, (List.forall_mem_cons.mpr ⟨lg_9_7, (List.forall_mem_cons.mpr ⟨lg_9_8, (List.forall_mem_cons.mpr ⟨lg_21_1, (fun _ h => absurd h List.not_mem_nil)⟩)⟩)⟩)⟩)⟩)⟩)⟩)⟩)⟩)⟩)⟩)⟩)⟩)⟩)⟩)⟩)⟩)⟩)⟩)⟩)⟩)⟩)⟩)⟩)
set_option maxRecDepth 100000 in
theorem lg_wsX11_book_r3 : ∀ w ∈ wsX11_book_r3, lgP w := (List.forall_mem_cons.mpr ⟨lg_21_2, (List.forall_mem_cons.mpr ⟨lg_21_3, (List.forall_mem_cons.mpr ⟨lg_21_4, (List.forall_mem_cons.mpr ⟨lg_21_0, (List.forall_mem_cons.mpr ⟨lg_19_21, (List.forall_mem_cons.mpr ⟨lg_19_22, (List.forall_mem_cons.mpr ⟨lg_19_23, (fun _ h => absurd h List.not_mem_nil)⟩)⟩)⟩)⟩)⟩)⟩)⟩)
set_option maxRecDepth 100000 in
theorem ggL_law_X11_book : GoodIn wsL_law wsX11_book := show ∀ w ∈ wsX11_book, lgP w from (List.forall_mem_cons.mpr ⟨lg_31_7, (List.forall_mem_append.mpr ⟨(List.forall_mem_append.mpr ⟨lg_wsX11_book_r1, (List.forall_mem_append.mpr ⟨lg_wsX11_book_r2, lg_wsX11_book_r3⟩)⟩), lgwsX110⟩)⟩)

set_option maxRecDepth 100000 in
theorem gL_law_X11_book : GoodIn wsL_law (wsV RL 111 RX11 yX11_book wsX11_book) := goodIn_app (a := [.methodLink RL 111 yX11_book, .instanceMethod yX11_book, .selects RX11 yX11_book yX11_book, .initialized RX11]) (show ∀ w ∈ ([.methodLink RL 111 yX11_book, .instanceMethod yX11_book, .selects RX11 yX11_book yX11_book, .initialized RX11] : List Cond), lgP w from (List.forall_mem_cons.mpr ⟨lg_31_4, (List.forall_mem_cons.mpr ⟨lg_31_5, (List.forall_mem_cons.mpr ⟨lg_31_6, (List.forall_mem_cons.mpr ⟨lg_1_5, (fun _ h => absurd h List.not_mem_nil)⟩)⟩)⟩)⟩)) ggL_law_X11_book

set_option maxRecDepth 100000 in
theorem lg_wsX10_image_r1 : ∀ w ∈ wsX10_image_r1, lgP w := (List.forall_mem_cons.mpr ⟨lg_1_15, (List.forall_mem_cons.mpr ⟨lg_1_19, (List.forall_mem_cons.mpr ⟨lg_6_3, (List.forall_mem_cons.mpr ⟨lg_6_4, (List.forall_mem_cons.mpr ⟨lg_1_2, (List.forall_mem_cons.mpr ⟨lg_6_5, (List.forall_mem_cons.mpr ⟨lg_31_13, (List.forall_mem_cons.mpr ⟨lg_31_14, (List.forall_mem_cons.mpr ⟨lg_31_15, (List.forall_mem_cons.mpr ⟨lg_31_16, (List.forall_mem_cons.mpr ⟨lg_1_16, (List.forall_mem_cons.mpr ⟨lg_1_17, (List.forall_mem_cons.mpr ⟨lg_17_16, (List.forall_mem_cons.mpr ⟨lg_13_7, (List.forall_mem_cons.mpr ⟨lg_13_8, (List.forall_mem_cons.mpr ⟨lg_1_14, (List.forall_mem_cons.mpr ⟨lg_13_9, (List.forall_mem_cons.mpr ⟨lg_3_1, (List.forall_mem_cons.mpr ⟨lg_3_2, (List.forall_mem_cons.mpr ⟨lg_3_3, (List.forall_mem_cons.mpr ⟨lg_3_8, (List.forall_mem_cons.mpr ⟨lg_6_10, (List.forall_mem_cons.mpr ⟨lg_13_10, (List.forall_mem_cons.mpr ⟨lg_13_11, (fun _ h => absurd h List.not_mem_nil)⟩)⟩)⟩)⟩)⟩)⟩)⟩)⟩)⟩)⟩)⟩)⟩)⟩)⟩)⟩)⟩)⟩)⟩)⟩)⟩)⟩)⟩)⟩)⟩)
set_option maxRecDepth 100000 in
theorem lg_wsX10_image_r2 : ∀ w ∈ wsX10_image_r2, lgP w := (List.forall_mem_cons.mpr ⟨lg_13_12, (List.forall_mem_cons.mpr ⟨lg_13_13, (List.forall_mem_cons.mpr ⟨lg_13_14, (List.forall_mem_cons.mpr ⟨lg_3_7, (List.forall_mem_cons.mpr ⟨lg_13_15, (List.forall_mem_cons.mpr ⟨lg_3_13, (List.forall_mem_cons.mpr ⟨lg_3_14, (List.forall_mem_cons.mpr ⟨lg_13_16, (fun _ h => absurd h List.not_mem_nil)⟩)⟩)⟩)⟩)⟩)⟩)⟩)⟩)
set_option maxRecDepth 100000 in
theorem ggL_law_X10_image : GoodIn wsL_law wsX10_image := show ∀ w ∈ wsX10_image, lgP w from (List.forall_mem_cons.mpr ⟨lg_31_12, (List.forall_mem_append.mpr ⟨(List.forall_mem_append.mpr ⟨(List.forall_mem_append.mpr ⟨(List.forall_mem_append.mpr ⟨lg_wsX10_image_r1, lg_wsX10_image_r2⟩), lgwsX100⟩), lgwsX20⟩), lgwsX10⟩)⟩)

set_option maxRecDepth 100000 in
theorem gL_law_X10_image : GoodIn wsL_law (wsV RL 112 RX10 yX10_image wsX10_image) := goodIn_app (a := [.methodLink RL 112 yX10_image, .instanceMethod yX10_image, .selects RX10 yX10_image yX10_image, .initialized RX10]) (show ∀ w ∈ ([.methodLink RL 112 yX10_image, .instanceMethod yX10_image, .selects RX10 yX10_image yX10_image, .initialized RX10] : List Cond), lgP w from (List.forall_mem_cons.mpr ⟨lg_31_9, (List.forall_mem_cons.mpr ⟨lg_31_10, (List.forall_mem_cons.mpr ⟨lg_31_11, (List.forall_mem_cons.mpr ⟨lg_1_2, (fun _ h => absurd h List.not_mem_nil)⟩)⟩)⟩)⟩)) ggL_law_X10_image

set_option maxRecDepth 100000 in
theorem ggL_law_X11_image : GoodIn wsL_law wsX11_image := show ∀ w ∈ wsX11_image, lgP w from (List.forall_mem_cons.mpr ⟨lg_31_20, (List.forall_mem_append.mpr ⟨(List.forall_mem_cons.mpr ⟨lg_5_21, (List.forall_mem_cons.mpr ⟨lg_5_8, (List.forall_mem_cons.mpr ⟨lg_5_11, (List.forall_mem_cons.mpr ⟨lg_5_12, (List.forall_mem_cons.mpr ⟨lg_7_14, (List.forall_mem_cons.mpr ⟨lg_25_5, (List.forall_mem_cons.mpr ⟨lg_5_22, (List.forall_mem_cons.mpr ⟨lg_7_15, (List.forall_mem_cons.mpr ⟨lg_7_16, (List.forall_mem_cons.mpr ⟨lg_1_5, (List.forall_mem_cons.mpr ⟨lg_7_17, (fun _ h => absurd h List.not_mem_nil)⟩)⟩)⟩)⟩)⟩)⟩)⟩)⟩)⟩)⟩)⟩), lgwsX110⟩)⟩)

set_option maxRecDepth 100000 in
theorem gL_law_X11_image : GoodIn wsL_law (wsV RL 115 RX11 yX11_image wsX11_image) := goodIn_app (a := [.methodLink RL 115 yX11_image, .instanceMethod yX11_image, .selects RX11 yX11_image yX11_image, .initialized RX11]) (show ∀ w ∈ ([.methodLink RL 115 yX11_image, .instanceMethod yX11_image, .selects RX11 yX11_image yX11_image, .initialized RX11] : List Cond), lgP w from (List.forall_mem_cons.mpr ⟨lg_31_17, (List.forall_mem_cons.mpr ⟨lg_31_18, (List.forall_mem_cons.mpr ⟨lg_31_19, (List.forall_mem_cons.mpr ⟨lg_1_5, (fun _ h => absurd h List.not_mem_nil)⟩)⟩)⟩)⟩)) ggL_law_X11_image

set_option maxRecDepth 100000 in
theorem lg_wsX10_restore_r1 : ∀ w ∈ wsX10_restore_r1, lgP w := (List.forall_mem_cons.mpr ⟨lg_1_19, (List.forall_mem_cons.mpr ⟨lg_1_15, (List.forall_mem_cons.mpr ⟨lg_6_3, (List.forall_mem_cons.mpr ⟨lg_6_4, (List.forall_mem_cons.mpr ⟨lg_1_2, (List.forall_mem_cons.mpr ⟨lg_6_5, (List.forall_mem_cons.mpr ⟨lg_31_13, (List.forall_mem_cons.mpr ⟨lg_31_14, (List.forall_mem_cons.mpr ⟨lg_31_15, (List.forall_mem_cons.mpr ⟨lg_31_16, (List.forall_mem_cons.mpr ⟨lg_1_16, (List.forall_mem_cons.mpr ⟨lg_1_17, (List.forall_mem_cons.mpr ⟨lg_17_16, (List.forall_mem_cons.mpr ⟨lg_13_7, (List.forall_mem_cons.mpr ⟨lg_13_8, (List.forall_mem_cons.mpr ⟨lg_1_14, (List.forall_mem_cons.mpr ⟨lg_13_9, (List.forall_mem_cons.mpr ⟨lg_3_1, (List.forall_mem_cons.mpr ⟨lg_3_2, (List.forall_mem_cons.mpr ⟨lg_3_3, (List.forall_mem_cons.mpr ⟨lg_3_8, (List.forall_mem_cons.mpr ⟨lg_6_10, (List.forall_mem_cons.mpr ⟨lg_13_10, (List.forall_mem_cons.mpr ⟨lg_13_11, (fun _ h => absurd h List.not_mem_nil)⟩)⟩)⟩)⟩)⟩)⟩)⟩)⟩)⟩)⟩)⟩)⟩)⟩)⟩)⟩)⟩)⟩)⟩)⟩)⟩)⟩)⟩)⟩)⟩)
set_option maxRecDepth 100000 in
theorem lg_wsX10_restore_r2 : ∀ w ∈ wsX10_restore_r2, lgP w := (List.forall_mem_cons.mpr ⟨lg_13_12, (List.forall_mem_cons.mpr ⟨lg_13_13, (List.forall_mem_cons.mpr ⟨lg_13_14, (List.forall_mem_cons.mpr ⟨lg_3_7, (List.forall_mem_cons.mpr ⟨lg_13_15, (List.forall_mem_cons.mpr ⟨lg_3_13, (List.forall_mem_cons.mpr ⟨lg_3_14, (List.forall_mem_cons.mpr ⟨lg_13_16, (fun _ h => absurd h List.not_mem_nil)⟩)⟩)⟩)⟩)⟩)⟩)⟩)⟩)
set_option maxRecDepth 100000 in
theorem ggL_law_X10_restore : GoodIn wsL_law wsX10_restore := show ∀ w ∈ wsX10_restore, lgP w from (List.forall_mem_cons.mpr ⟨lg_32_0, (List.forall_mem_append.mpr ⟨(List.forall_mem_append.mpr ⟨(List.forall_mem_append.mpr ⟨(List.forall_mem_append.mpr ⟨lg_wsX10_restore_r1, lg_wsX10_restore_r2⟩), lgwsX100⟩), lgwsX20⟩), lgwsX10⟩)⟩)

set_option maxRecDepth 100000 in
theorem gL_law_X10_restore : GoodIn wsL_law (wsV RL 116 RX10 yX10_restore wsX10_restore) := goodIn_app (a := [.methodLink RL 116 yX10_restore, .instanceMethod yX10_restore, .selects RX10 yX10_restore yX10_restore, .initialized RX10]) (show ∀ w ∈ ([.methodLink RL 116 yX10_restore, .instanceMethod yX10_restore, .selects RX10 yX10_restore yX10_restore, .initialized RX10] : List Cond), lgP w from (List.forall_mem_cons.mpr ⟨lg_31_21, (List.forall_mem_cons.mpr ⟨lg_31_22, (List.forall_mem_cons.mpr ⟨lg_31_23, (List.forall_mem_cons.mpr ⟨lg_1_2, (fun _ h => absurd h List.not_mem_nil)⟩)⟩)⟩)⟩)) ggL_law_X10_restore

set_option maxRecDepth 100000 in
theorem ggL_law_X11_restore : GoodIn wsL_law wsX11_restore := show ∀ w ∈ wsX11_restore, lgP w from (List.forall_mem_cons.mpr ⟨lg_32_4, (List.forall_mem_append.mpr ⟨(List.forall_mem_cons.mpr ⟨lg_5_22, (List.forall_mem_cons.mpr ⟨lg_5_8, (List.forall_mem_cons.mpr ⟨lg_5_21, (List.forall_mem_cons.mpr ⟨lg_5_11, (List.forall_mem_cons.mpr ⟨lg_5_12, (List.forall_mem_cons.mpr ⟨lg_7_14, (List.forall_mem_cons.mpr ⟨lg_25_5, (List.forall_mem_cons.mpr ⟨lg_7_15, (List.forall_mem_cons.mpr ⟨lg_7_16, (List.forall_mem_cons.mpr ⟨lg_1_5, (List.forall_mem_cons.mpr ⟨lg_7_17, (fun _ h => absurd h List.not_mem_nil)⟩)⟩)⟩)⟩)⟩)⟩)⟩)⟩)⟩)⟩)⟩), lgwsX110⟩)⟩)

set_option maxRecDepth 100000 in
theorem gL_law_X11_restore : GoodIn wsL_law (wsV RL 119 RX11 yX11_restore wsX11_restore) := goodIn_app (a := [.methodLink RL 119 yX11_restore, .instanceMethod yX11_restore, .selects RX11 yX11_restore yX11_restore, .initialized RX11]) (show ∀ w ∈ ([.methodLink RL 119 yX11_restore, .instanceMethod yX11_restore, .selects RX11 yX11_restore yX11_restore, .initialized RX11] : List Cond), lgP w from (List.forall_mem_cons.mpr ⟨lg_32_1, (List.forall_mem_cons.mpr ⟨lg_32_2, (List.forall_mem_cons.mpr ⟨lg_32_3, (List.forall_mem_cons.mpr ⟨lg_1_5, (fun _ h => absurd h List.not_mem_nil)⟩)⟩)⟩)⟩)) ggL_law_X11_restore

set_option maxRecDepth 100000 in
theorem lg_wsX10_told_r1 : ∀ w ∈ wsX10_told_r1, lgP w := (List.forall_mem_cons.mpr ⟨lg_1_23, (List.forall_mem_cons.mpr ⟨lg_9_22, (List.forall_mem_cons.mpr ⟨lg_1_15, (List.forall_mem_cons.mpr ⟨lg_32_9, (List.forall_mem_cons.mpr ⟨lg_9_13, (List.forall_mem_cons.mpr ⟨lg_18_18, (List.forall_mem_cons.mpr ⟨lg_24_19, (List.forall_mem_cons.mpr ⟨lg_24_20, (List.forall_mem_cons.mpr ⟨lg_8_15, (List.forall_mem_cons.mpr ⟨lg_8_16, (List.forall_mem_cons.mpr ⟨lg_8_17, (List.forall_mem_cons.mpr ⟨lg_1_14, (List.forall_mem_cons.mpr ⟨lg_8_18, (List.forall_mem_cons.mpr ⟨lg_6_15, (List.forall_mem_cons.mpr ⟨lg_6_16, (List.forall_mem_cons.mpr ⟨lg_6_17, (List.forall_mem_cons.mpr ⟨lg_6_18, (List.forall_mem_cons.mpr ⟨lg_3_3, (List.forall_mem_cons.mpr ⟨lg_6_19, (List.forall_mem_cons.mpr ⟨lg_6_20, (List.forall_mem_cons.mpr ⟨lg_6_21, (List.forall_mem_cons.mpr ⟨lg_6_22, (List.forall_mem_cons.mpr ⟨lg_6_10, (List.forall_mem_cons.mpr ⟨lg_32_10, (fun _ h => absurd h List.not_mem_nil)⟩)⟩)⟩)⟩)⟩)⟩)⟩)⟩)⟩)⟩)⟩)⟩)⟩)⟩)⟩)⟩)⟩)⟩)⟩)⟩)⟩)⟩)⟩)⟩)
set_option maxRecDepth 100000 in
theorem lg_wsX10_told_r2 : ∀ w ∈ wsX10_told_r2, lgP w := (List.forall_mem_cons.mpr ⟨lg_32_11, (List.forall_mem_cons.mpr ⟨lg_32_12, (List.forall_mem_cons.mpr ⟨lg_1_2, (List.forall_mem_cons.mpr ⟨lg_32_13, (List.forall_mem_cons.mpr ⟨lg_8_8, (List.forall_mem_cons.mpr ⟨lg_18_5, (List.forall_mem_cons.mpr ⟨lg_14_15, (List.forall_mem_cons.mpr ⟨lg_14_16, (List.forall_mem_cons.mpr ⟨lg_14_17, (List.forall_mem_cons.mpr ⟨lg_3_1, (List.forall_mem_cons.mpr ⟨lg_32_14, (List.forall_mem_cons.mpr ⟨lg_24_7, (List.forall_mem_cons.mpr ⟨lg_24_8, (List.forall_mem_cons.mpr ⟨lg_24_9, (List.forall_mem_cons.mpr ⟨lg_3_2, (List.forall_mem_cons.mpr ⟨lg_8_9, (fun _ h => absurd h List.not_mem_nil)⟩)⟩)⟩)⟩)⟩)⟩)⟩)⟩)⟩)⟩)⟩)⟩)⟩)⟩)⟩)⟩)
set_option maxRecDepth 100000 in
theorem ggL_law_X10_told : GoodIn wsL_law wsX10_told := show ∀ w ∈ wsX10_told, lgP w from (List.forall_mem_cons.mpr ⟨lg_32_8, (List.forall_mem_append.mpr ⟨(List.forall_mem_append.mpr ⟨(List.forall_mem_append.mpr ⟨(List.forall_mem_append.mpr ⟨(List.forall_mem_append.mpr ⟨lg_wsX10_told_r1, lg_wsX10_told_r2⟩), lgwsX100⟩), lgwsX40⟩), lgwsX20⟩), lgwsX10⟩)⟩)

set_option maxRecDepth 100000 in
theorem gL_law_X10_told : GoodIn wsL_law (wsV RL 120 RX10 yX10_told wsX10_told) := goodIn_app (a := [.methodLink RL 120 yX10_told, .instanceMethod yX10_told, .selects RX10 yX10_told yX10_told, .initialized RX10]) (show ∀ w ∈ ([.methodLink RL 120 yX10_told, .instanceMethod yX10_told, .selects RX10 yX10_told yX10_told, .initialized RX10] : List Cond), lgP w from (List.forall_mem_cons.mpr ⟨lg_32_5, (List.forall_mem_cons.mpr ⟨lg_32_6, (List.forall_mem_cons.mpr ⟨lg_32_7, (List.forall_mem_cons.mpr ⟨lg_1_2, (fun _ h => absurd h List.not_mem_nil)⟩)⟩)⟩)⟩)) ggL_law_X10_told

set_option maxRecDepth 100000 in
theorem lg_wsX11_told_r1 : ∀ w ∈ wsX11_told_r1, lgP w := (List.forall_mem_cons.mpr ⟨lg_5_8, (List.forall_mem_cons.mpr ⟨lg_5_11, (List.forall_mem_cons.mpr ⟨lg_10_8, (List.forall_mem_cons.mpr ⟨lg_7_14, (List.forall_mem_cons.mpr ⟨lg_25_5, (List.forall_mem_cons.mpr ⟨lg_7_18, (List.forall_mem_cons.mpr ⟨lg_7_19, (List.forall_mem_cons.mpr ⟨lg_7_20, (List.forall_mem_cons.mpr ⟨lg_1_5, (List.forall_mem_cons.mpr ⟨lg_7_21, (List.forall_mem_cons.mpr ⟨lg_7_15, (List.forall_mem_cons.mpr ⟨lg_7_16, (List.forall_mem_cons.mpr ⟨lg_7_17, (List.forall_mem_cons.mpr ⟨lg_7_22, (List.forall_mem_cons.mpr ⟨lg_7_23, (List.forall_mem_cons.mpr ⟨lg_8_0, (List.forall_mem_cons.mpr ⟨lg_8_23, (List.forall_mem_cons.mpr ⟨lg_9_0, (List.forall_mem_cons.mpr ⟨lg_9_1, (List.forall_mem_cons.mpr ⟨lg_9_2, (List.forall_mem_cons.mpr ⟨lg_5_9, (List.forall_mem_cons.mpr ⟨lg_9_3, (List.forall_mem_cons.mpr ⟨lg_9_4, (List.forall_mem_cons.mpr ⟨lg_9_5, (fun _ h => absurd h List.not_mem_nil)⟩)⟩)⟩)⟩)⟩)⟩)⟩)⟩)⟩)⟩)⟩)⟩)⟩)⟩)⟩)⟩)⟩)⟩)⟩)⟩)⟩)⟩)⟩)⟩)
set_option maxRecDepth 100000 in
theorem lg_wsX11_told_r2 : ∀ w ∈ wsX11_told_r2, lgP w := (List.forall_mem_cons.mpr ⟨lg_9_6, (List.forall_mem_cons.mpr ⟨lg_9_7, (List.forall_mem_cons.mpr ⟨lg_9_8, (fun _ h => absurd h List.not_mem_nil)⟩)⟩)⟩)
set_option maxRecDepth 100000 in
theorem ggL_law_X11_told : GoodIn wsL_law wsX11_told := show ∀ w ∈ wsX11_told, lgP w from (List.forall_mem_cons.mpr ⟨lg_32_18, (List.forall_mem_append.mpr ⟨(List.forall_mem_append.mpr ⟨lg_wsX11_told_r1, lg_wsX11_told_r2⟩), lgwsX110⟩)⟩)

set_option maxRecDepth 100000 in
theorem gL_law_X11_told : GoodIn wsL_law (wsV RL 123 RX11 yX11_told wsX11_told) := goodIn_app (a := [.methodLink RL 123 yX11_told, .instanceMethod yX11_told, .selects RX11 yX11_told yX11_told, .initialized RX11]) (show ∀ w ∈ ([.methodLink RL 123 yX11_told, .instanceMethod yX11_told, .selects RX11 yX11_told yX11_told, .initialized RX11] : List Cond), lgP w from (List.forall_mem_cons.mpr ⟨lg_32_15, (List.forall_mem_cons.mpr ⟨lg_32_16, (List.forall_mem_cons.mpr ⟨lg_32_17, (List.forall_mem_cons.mpr ⟨lg_1_5, (fun _ h => absurd h List.not_mem_nil)⟩)⟩)⟩)⟩)) ggL_law_X11_told
