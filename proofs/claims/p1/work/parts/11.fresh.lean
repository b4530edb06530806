/-! ===== p1: a fresh object, one call ===== -/
/-- the class's cells, the reference's cells, as the constructors leave them -/
def cz_f1 (K N : Nat → Nat) (I : cz_I) (R : cz_R) : Prop := (∀ k v : Nat, k < 183 → kd0 k = v → K k = v) ∧ (∀ k v : Nat, k < 183 → ln0 k = v → N k = v) ∧ (∀ (k j : Nat) (x : Option Nat), (k < 183 ∧ j < (rfL.getD k []).length) → rf0 k j = x → R k j = x) ∧ (∀ k j : Nat, (k < 183 ∧ j < max (ln0 k) 36) → I k j = 0)
def cz_f2 (K N : Nat → Nat) (I : cz_I) (R : cz_R) : Prop := (∀ k v : Nat, (183 ≤ k ∧ k < 202) → kd0 k = v → K k = v) ∧ (∀ k v : Nat, (183 ≤ k ∧ k < 202) → ln0 k = v → N k = v) ∧ (∀ (k j : Nat) (x : Option Nat), (183 ≤ k ∧ k < 202 ∧ j < (rfL.getD k []).length) → rf0 k j = x → R k j = x) ∧ (∀ k j : Nat, (183 ≤ k ∧ k < 202 ∧ j < max (ln0 k) 36 ∧ ¬ (k = 183 ∧ j = 2)) → I k j = 0) ∧ I 183 2 = -1
def cz_szv (a : Int32) : Int32 := if a.toInt < 0 ∨ 12 < a.toInt then -1 else 0
theorem cz_outl {a : Int32} (h : a < 0) : a.toInt < 0 ∨ 12 < a.toInt := Or.inl (by have := Int32.lt_iff_toInt_lt.mp h; simpa using this)
theorem cz_t12 : ((12 : Int32)).toInt = 12 := by decide +kernel
theorem cz_outr {a : Int32} (h : 12 < a) : a.toInt < 0 ∨ 12 < a.toInt := by
  have h1 := Int32.lt_iff_toInt_lt.mp h
  rw [cz_t12] at h1
  exact Or.inr h1
theorem cz_outr11 {a : Int32} (h : 12 < a) : a.toInt < 0 ∨ 11 < a.toInt := by
  have h1 := Int32.lt_iff_toInt_lt.mp h
  rw [cz_t12] at h1
  omega
theorem cz_szl {a : Int32} (h : a < 0) : cz_szv a = -1 := if_pos (cz_outl h)
theorem cz_szr {a : Int32} (h : 12 < a) : cz_szv a = -1 := if_pos (cz_outr h)
theorem cz_sz13 (a : Int32) : a < 0 ∨ 12 < a ∨ a = 0 ∨ a = 1 ∨ a = 2 ∨ a = 3 ∨ a = 4 ∨ a = 5 ∨ a = 6 ∨ a = 7 ∨ a = 8 ∨ a = 9 ∨ a = 10 ∨ a = 11 ∨ a = 12 := by
  simp only [← Int32.toInt_inj, Int32.lt_iff_toInt_lt]
  have e0 : ((0 : Int32)).toInt = 0 := by decide +kernel
  have e1 : ((1 : Int32)).toInt = 1 := by decide +kernel
  have e2 : ((2 : Int32)).toInt = 2 := by decide +kernel
  have e3 : ((3 : Int32)).toInt = 3 := by decide +kernel
  have e4 : ((4 : Int32)).toInt = 4 := by decide +kernel
  have e5 : ((5 : Int32)).toInt = 5 := by decide +kernel
  have e6 : ((6 : Int32)).toInt = 6 := by decide +kernel
  have e7 : ((7 : Int32)).toInt = 7 := by decide +kernel
  have e8 : ((8 : Int32)).toInt = 8 := by decide +kernel
  have e9 : ((9 : Int32)).toInt = 9 := by decide +kernel
  have e10 : ((10 : Int32)).toInt = 10 := by decide +kernel
  have e11 : ((11 : Int32)).toInt = 11 := by decide +kernel
  have e12 := cz_t12
  omega
theorem dX10_awake_0 : decode cX10_awake 0 = .ok (.aload_n 0, 1) := by decide +kernel
theorem dX10_awake_1 : decode cX10_awake 1 = .ok (.iload_n 1, 1) := by decide +kernel
theorem dX10_awake_2 : decode cX10_awake 2 = .ok (.invokevirtual 152, 3) := by decide +kernel
theorem dX10_awake_5 : decode cX10_awake 5 = .ok (.ifCond .ne 9, 3) := by decide +kernel
theorem dX10_awake_8 : decode cX10_awake 8 = .ok (.aload_n 0, 1) := by decide +kernel
theorem dX10_awake_9 : decode cX10_awake 9 = .ok (.iconst 1, 1) := by decide +kernel
theorem dX10_awake_10 : decode cX10_awake 10 = .ok (.invokevirtual 79, 3) := by decide +kernel
theorem dX10_awake_13 : decode cX10_awake 13 = .ok (.ireturn, 1) := by decide +kernel
theorem dX10_back_0 : decode cX10_back 0 = .ok (.aload_n 0, 1) := by decide +kernel
theorem dX10_back_1 : decode cX10_back 1 = .ok (.getfield 42, 3) := by decide +kernel
theorem dX10_back_4 : decode cX10_back 4 = .ok (.aload_n 0, 1) := by decide +kernel
theorem dX10_back_5 : decode cX10_back 5 = .ok (.getfield 35, 3) := by decide +kernel
theorem dX10_back_8 : decode cX10_back 8 = .ok (.iload_n 1, 1) := by decide +kernel
theorem dX10_back_9 : decode cX10_back 9 = .ok (.invokevirtual 307, 3) := by decide +kernel
theorem dX10_back_12 : decode cX10_back 12 = .ok (.ifCond .ne 9, 3) := by decide +kernel
theorem dX10_back_15 : decode cX10_back 15 = .ok (.aload_n 0, 1) := by decide +kernel
theorem dX10_back_16 : decode cX10_back 16 = .ok (.iconst 1, 1) := by decide +kernel
theorem dX10_back_17 : decode cX10_back 17 = .ok (.invokevirtual 281, 3) := by decide +kernel
theorem dX10_back_20 : decode cX10_back 20 = .ok (.ireturn, 1) := by decide +kernel
theorem dX10_by_0 : decode cX10_by 0 = .ok (.aload_n 0, 1) := by decide +kernel
theorem dX10_by_1 : decode cX10_by 1 = .ok (.iload_n 1, 1) := by decide +kernel
theorem dX10_by_2 : decode cX10_by 2 = .ok (.invokevirtual 252, 3) := by decide +kernel
theorem dX10_by_5 : decode cX10_by 5 = .ok (.ifCond .ne 9, 3) := by decide +kernel
theorem dX10_by_8 : decode cX10_by 8 = .ok (.aload_n 0, 1) := by decide +kernel
theorem dX10_by_9 : decode cX10_by 9 = .ok (.iconst 1, 1) := by decide +kernel
theorem dX10_by_10 : decode cX10_by 10 = .ok (.invokevirtual 79, 3) := by decide +kernel
theorem dX10_by_13 : decode cX10_by 13 = .ok (.ireturn, 1) := by decide +kernel
theorem dX10_call_0 : decode cX10_call 0 = .ok (.iload_n 1, 1) := by decide +kernel
theorem dX10_call_1 : decode cX10_call 1 = .ok (.ifCond .lt 14, 3) := by decide +kernel
theorem dX10_call_4 : decode cX10_call 4 = .ok (.iload_n 1, 1) := by decide +kernel
theorem dX10_call_5 : decode cX10_call 5 = .ok (.aload_n 0, 1) := by decide +kernel
theorem dX10_call_6 : decode cX10_call 6 = .ok (.getfield 16, 3) := by decide +kernel
theorem dX10_call_9 : decode cX10_call 9 = .ok (.getfield 278, 3) := by decide +kernel
theorem dX10_call_12 : decode cX10_call 12 = .ok (.if_icmp .lt 9, 3) := by decide +kernel
theorem dX10_call_15 : decode cX10_call 15 = .ok (.aload_n 0, 1) := by decide +kernel
theorem dX10_call_16 : decode cX10_call 16 = .ok (.iconst 1, 1) := by decide +kernel
theorem dX10_call_17 : decode cX10_call 17 = .ok (.invokevirtual 281, 3) := by decide +kernel
theorem dX10_call_20 : decode cX10_call 20 = .ok (.ireturn, 1) := by decide +kernel
theorem dX10_calls_0 : decode cX10_calls 0 = .ok (.aload_n 0, 1) := by decide +kernel
theorem dX10_calls_1 : decode cX10_calls 1 = .ok (.getfield 95, 3) := by decide +kernel
theorem dX10_calls_4 : decode cX10_calls 4 = .ok (.ifCond .eq 17, 3) := by decide +kernel
theorem dX10_calls_21 : decode cX10_calls 21 = .ok (.aload_n 0, 1) := by decide +kernel
theorem dX10_calls_22 : decode cX10_calls 22 = .ok (.iconst 1, 1) := by decide +kernel
theorem dX10_calls_23 : decode cX10_calls 23 = .ok (.invokevirtual 79, 3) := by decide +kernel
theorem dX10_calls_26 : decode cX10_calls 26 = .ok (.ireturn, 1) := by decide +kernel
theorem dX10_cause_0 : decode cX10_cause 0 = .ok (.aload_n 0, 1) := by decide +kernel
theorem dX10_cause_1 : decode cX10_cause 1 = .ok (.iload_n 1, 1) := by decide +kernel
theorem dX10_cause_2 : decode cX10_cause 2 = .ok (.iload_n 2, 1) := by decide +kernel
theorem dX10_cause_3 : decode cX10_cause 3 = .ok (.invokevirtual 222, 3) := by decide +kernel
theorem dX10_cause_6 : decode cX10_cause 6 = .ok (.istore_n 3, 1) := by decide +kernel
theorem dX10_cause_7 : decode cX10_cause 7 = .ok (.iload_n 3, 1) := by decide +kernel
theorem dX10_cause_8 : decode cX10_cause 8 = .ok (.iconst (-1), 1) := by decide +kernel
theorem dX10_cause_9 : decode cX10_cause 9 = .ok (.if_icmp .ne 9, 3) := by decide +kernel
theorem dX10_cause_12 : decode cX10_cause 12 = .ok (.aload_n 0, 1) := by decide +kernel
theorem dX10_cause_13 : decode cX10_cause 13 = .ok (.iconst 1, 1) := by decide +kernel
theorem dX10_cause_14 : decode cX10_cause 14 = .ok (.invokevirtual 79, 3) := by decide +kernel
theorem dX10_cause_17 : decode cX10_cause 17 = .ok (.ireturn, 1) := by decide +kernel
theorem dX10_change_0 : decode cX10_change 0 = .ok (.aload_n 0, 1) := by decide +kernel
theorem dX10_change_1 : decode cX10_change 1 = .ok (.iload_n 1, 1) := by decide +kernel
theorem dX10_change_2 : decode cX10_change 2 = .ok (.invokevirtual 126, 3) := by decide +kernel
theorem dX10_change_5 : decode cX10_change 5 = .ok (.ifCond .ne 9, 3) := by decide +kernel
theorem dX10_change_8 : decode cX10_change 8 = .ok (.aload_n 0, 1) := by decide +kernel
theorem dX10_change_9 : decode cX10_change 9 = .ok (.iconst 1, 1) := by decide +kernel
theorem dX10_change_10 : decode cX10_change 10 = .ok (.invokevirtual 79, 3) := by decide +kernel
theorem dX10_change_13 : decode cX10_change 13 = .ok (.ireturn, 1) := by decide +kernel
theorem dX10_changes_0 : decode cX10_changes 0 = .ok (.aload_n 0, 1) := by decide +kernel
theorem dX10_changes_1 : decode cX10_changes 1 = .ok (.iload_n 1, 1) := by decide +kernel
theorem dX10_changes_2 : decode cX10_changes 2 = .ok (.invokevirtual 126, 3) := by decide +kernel
theorem dX10_changes_5 : decode cX10_changes 5 = .ok (.ifCond .ne 9, 3) := by decide +kernel
theorem dX10_changes_8 : decode cX10_changes 8 = .ok (.aload_n 0, 1) := by decide +kernel
theorem dX10_changes_9 : decode cX10_changes 9 = .ok (.iconst 1, 1) := by decide +kernel
theorem dX10_changes_10 : decode cX10_changes 10 = .ok (.invokevirtual 79, 3) := by decide +kernel
theorem dX10_changes_13 : decode cX10_changes 13 = .ok (.ireturn, 1) := by decide +kernel
theorem dX10_cheese_0 : decode cX10_cheese 0 = .ok (.aload_n 0, 1) := by decide +kernel
theorem dX10_cheese_1 : decode cX10_cheese 1 = .ok (.iload_n 1, 1) := by decide +kernel
theorem dX10_cheese_2 : decode cX10_cheese 2 = .ok (.invokevirtual 195, 3) := by decide +kernel
theorem dX10_cheese_5 : decode cX10_cheese 5 = .ok (.ifCond .ne 9, 3) := by decide +kernel
theorem dX10_cheese_8 : decode cX10_cheese 8 = .ok (.aload_n 0, 1) := by decide +kernel
theorem dX10_cheese_9 : decode cX10_cheese 9 = .ok (.iconst 1, 1) := by decide +kernel
theorem dX10_cheese_10 : decode cX10_cheese 10 = .ok (.invokevirtual 79, 3) := by decide +kernel
theorem dX10_cheese_13 : decode cX10_cheese 13 = .ok (.ireturn, 1) := by decide +kernel
theorem dX10_cloud_0 : decode cX10_cloud 0 = .ok (.aload_n 0, 1) := by decide +kernel
theorem dX10_cloud_1 : decode cX10_cloud 1 = .ok (.getfield 95, 3) := by decide +kernel
theorem dX10_cloud_4 : decode cX10_cloud 4 = .ok (.ifCond .ne 9, 3) := by decide +kernel
theorem dX10_cloud_7 : decode cX10_cloud 7 = .ok (.aload_n 0, 1) := by decide +kernel
theorem dX10_cloud_8 : decode cX10_cloud 8 = .ok (.iconst 1, 1) := by decide +kernel
theorem dX10_cloud_9 : decode cX10_cloud 9 = .ok (.invokevirtual 281, 3) := by decide +kernel
theorem dX10_cloud_12 : decode cX10_cloud 12 = .ok (.ireturn, 1) := by decide +kernel
theorem dX10_draw_0 : decode cX10_draw 0 = .ok (.aload_n 0, 1) := by decide +kernel
theorem dX10_draw_1 : decode cX10_draw 1 = .ok (.getfield 95, 3) := by decide +kernel
theorem dX10_draw_4 : decode cX10_draw 4 = .ok (.ifCond .ne 9, 3) := by decide +kernel
theorem dX10_draw_7 : decode cX10_draw 7 = .ok (.aload_n 0, 1) := by decide +kernel
theorem dX10_draw_8 : decode cX10_draw 8 = .ok (.iconst 1, 1) := by decide +kernel
theorem dX10_draw_9 : decode cX10_draw 9 = .ok (.invokevirtual 79, 3) := by decide +kernel
theorem dX10_draw_12 : decode cX10_draw 12 = .ok (.ireturn, 1) := by decide +kernel
theorem dX10_due_0 : decode cX10_due 0 = .ok (.aload_n 0, 1) := by decide +kernel
theorem dX10_due_1 : decode cX10_due 1 = .ok (.getfield 95, 3) := by decide +kernel
theorem dX10_due_4 : decode cX10_due 4 = .ok (.ifCond .ne 9, 3) := by decide +kernel
theorem dX10_due_7 : decode cX10_due 7 = .ok (.aload_n 0, 1) := by decide +kernel
theorem dX10_due_8 : decode cX10_due 8 = .ok (.iconst 1, 1) := by decide +kernel
theorem dX10_due_9 : decode cX10_due 9 = .ok (.invokevirtual 79, 3) := by decide +kernel
theorem dX10_due_12 : decode cX10_due 12 = .ok (.ireturn, 1) := by decide +kernel
theorem dX10_event_0 : decode cX10_event 0 = .ok (.aload_n 0, 1) := by decide +kernel
theorem dX10_event_1 : decode cX10_event 1 = .ok (.iload_n 1, 1) := by decide +kernel
theorem dX10_event_2 : decode cX10_event 2 = .ok (.invokevirtual 234, 3) := by decide +kernel
theorem dX10_event_5 : decode cX10_event 5 = .ok (.ifCond .ne 9, 3) := by decide +kernel
theorem dX10_event_8 : decode cX10_event 8 = .ok (.aload_n 0, 1) := by decide +kernel
theorem dX10_event_9 : decode cX10_event 9 = .ok (.iconst 1, 1) := by decide +kernel
theorem dX10_event_10 : decode cX10_event 10 = .ok (.invokevirtual 79, 3) := by decide +kernel
theorem dX10_event_13 : decode cX10_event 13 = .ok (.ireturn, 1) := by decide +kernel
theorem dX10_eventCount_0 : decode cX10_eventCount 0 = .ok (.aload_n 0, 1) := by decide +kernel
theorem dX10_eventCount_1 : decode cX10_eventCount 1 = .ok (.getfield 16, 3) := by decide +kernel
theorem dX10_eventCount_4 : decode cX10_eventCount 4 = .ok (.getfield 311, 3) := by decide +kernel
theorem dX10_eventCount_7 : decode cX10_eventCount 7 = .ok (.aload_n 0, 1) := by decide +kernel
theorem dX10_eventCount_8 : decode cX10_eventCount 8 = .ok (.getfield 35, 3) := by decide +kernel
theorem dX10_eventCount_11 : decode cX10_eventCount 11 = .ok (.getfield 272, 3) := by decide +kernel
theorem dX10_eventCount_14 : decode cX10_eventCount 14 = .ok (.iadd, 1) := by decide +kernel
theorem dX10_eventCount_15 : decode cX10_eventCount 15 = .ok (.ireturn, 1) := by decide +kernel
theorem dX10_fault_0 : decode cX10_fault 0 = .ok (.aload_n 0, 1) := by decide +kernel
theorem dX10_fault_1 : decode cX10_fault 1 = .ok (.getfield 90, 3) := by decide +kernel
theorem dX10_fault_4 : decode cX10_fault 4 = .ok (.ireturn, 1) := by decide +kernel
theorem dX10_feed_0 : decode cX10_feed 0 = .ok (.aload_n 0, 1) := by decide +kernel
theorem dX10_feed_1 : decode cX10_feed 1 = .ok (.getfield 71, 3) := by decide +kernel
theorem dX10_feed_4 : decode cX10_feed 4 = .ok (.bipush 20, 2) := by decide +kernel
theorem dX10_feed_6 : decode cX10_feed 6 = .ok (.iadd, 1) := by decide +kernel
theorem dX10_feed_7 : decode cX10_feed 7 = .ok (.sipush 900, 3) := by decide +kernel
theorem dX10_feed_10 : decode cX10_feed 10 = .ok (.if_icmp .le 5, 3) := by decide +kernel
theorem dX10_feed_15 : decode cX10_feed 15 = .ok (.aload_n 0, 1) := by decide +kernel
theorem dX10_feed_16 : decode cX10_feed 16 = .ok (.iload_n 1, 1) := by decide +kernel
theorem dX10_feed_17 : decode cX10_feed 17 = .ok (.invokevirtual 75, 3) := by decide +kernel
theorem dX10_feed_20 : decode cX10_feed 20 = .ok (.aload_n 0, 1) := by decide +kernel
theorem dX10_feed_21 : decode cX10_feed 21 = .ok (.iload_n 2, 1) := by decide +kernel
theorem dX10_feed_22 : decode cX10_feed 22 = .ok (.invokevirtual 75, 3) := by decide +kernel
theorem dX10_feed_25 : decode cX10_feed 25 = .ok (.aload_n 0, 1) := by decide +kernel
theorem dX10_feed_26 : decode cX10_feed 26 = .ok (.iload_n 3, 1) := by decide +kernel
theorem dX10_feed_27 : decode cX10_feed 27 = .ok (.invokevirtual 75, 3) := by decide +kernel
theorem dX10_feed_30 : decode cX10_feed 30 = .ok (.aload_n 0, 1) := by decide +kernel
theorem dX10_feed_31 : decode cX10_feed 31 = .ok (.iload 4, 2) := by decide +kernel
theorem dX10_feed_33 : decode cX10_feed 33 = .ok (.invokevirtual 75, 3) := by decide +kernel
theorem dX10_feed_36 : decode cX10_feed 36 = .ok (.aload_n 0, 1) := by decide +kernel
theorem dX10_feed_37 : decode cX10_feed 37 = .ok (.iload 5, 2) := by decide +kernel
theorem dX10_feed_39 : decode cX10_feed 39 = .ok (.invokevirtual 75, 3) := by decide +kernel
theorem dX10_feed_42 : decode cX10_feed 42 = .ok (.aload_n 0, 1) := by decide +kernel
theorem dX10_feed_43 : decode cX10_feed 43 = .ok (.getfield 71, 3) := by decide +kernel
theorem dX10_feed_46 : decode cX10_feed 46 = .ok (.ireturn, 1) := by decide +kernel
theorem dX10_fewest_0 : decode cX10_fewest 0 = .ok (.aload_n 0, 1) := by decide +kernel
theorem dX10_fewest_1 : decode cX10_fewest 1 = .ok (.getfield 95, 3) := by decide +kernel
theorem dX10_fewest_4 : decode cX10_fewest 4 = .ok (.ifCond .ne 9, 3) := by decide +kernel
theorem dX10_fewest_7 : decode cX10_fewest 7 = .ok (.aload_n 0, 1) := by decide +kernel
theorem dX10_fewest_8 : decode cX10_fewest 8 = .ok (.iconst 1, 1) := by decide +kernel
theorem dX10_fewest_9 : decode cX10_fewest 9 = .ok (.invokevirtual 79, 3) := by decide +kernel
theorem dX10_fewest_12 : decode cX10_fewest 12 = .ok (.ireturn, 1) := by decide +kernel
theorem dX10_fewestBy_0 : decode cX10_fewestBy 0 = .ok (.aload_n 0, 1) := by decide +kernel
theorem dX10_fewestBy_1 : decode cX10_fewestBy 1 = .ok (.getfield 95, 3) := by decide +kernel
theorem dX10_fewestBy_4 : decode cX10_fewestBy 4 = .ok (.ifCond .eq 14, 3) := by decide +kernel
theorem dX10_fewestBy_18 : decode cX10_fewestBy 18 = .ok (.aload_n 0, 1) := by decide +kernel
theorem dX10_fewestBy_19 : decode cX10_fewestBy 19 = .ok (.iconst 1, 1) := by decide +kernel
theorem dX10_fewestBy_20 : decode cX10_fewestBy 20 = .ok (.invokevirtual 79, 3) := by decide +kernel
theorem dX10_fewestBy_23 : decode cX10_fewestBy 23 = .ok (.ireturn, 1) := by decide +kernel
theorem dX10_fits_0 : decode cX10_fits 0 = .ok (.aload_n 0, 1) := by decide +kernel
theorem dX10_fits_1 : decode cX10_fits 1 = .ok (.iload_n 1, 1) := by decide +kernel
theorem dX10_fits_2 : decode cX10_fits 2 = .ok (.invokevirtual 252, 3) := by decide +kernel
theorem dX10_fits_5 : decode cX10_fits 5 = .ok (.ifCond .ne 9, 3) := by decide +kernel
theorem dX10_fits_8 : decode cX10_fits 8 = .ok (.aload_n 0, 1) := by decide +kernel
theorem dX10_fits_9 : decode cX10_fits 9 = .ok (.iconst 1, 1) := by decide +kernel
theorem dX10_fits_10 : decode cX10_fits 10 = .ok (.invokevirtual 79, 3) := by decide +kernel
theorem dX10_fits_13 : decode cX10_fits 13 = .ok (.ireturn, 1) := by decide +kernel
theorem dX10_isCheese_0 : decode cX10_isCheese 0 = .ok (.iload_n 1, 1) := by decide +kernel
theorem dX10_isCheese_1 : decode cX10_isCheese 1 = .ok (.ifCond .lt 18, 3) := by decide +kernel
theorem dX10_isCheese_4 : decode cX10_isCheese 4 = .ok (.iload_n 1, 1) := by decide +kernel
theorem dX10_isCheese_5 : decode cX10_isCheese 5 = .ok (.aload_n 0, 1) := by decide +kernel
theorem dX10_isCheese_6 : decode cX10_isCheese 6 = .ok (.getfield 16, 3) := by decide +kernel
theorem dX10_isCheese_9 : decode cX10_isCheese 9 = .ok (.getfield 106, 3) := by decide +kernel
theorem dX10_isCheese_12 : decode cX10_isCheese 12 = .ok (.if_icmp .ge 7, 3) := by decide +kernel
theorem dX10_isCheese_19 : decode cX10_isCheese 19 = .ok (.iconst 0, 1) := by decide +kernel
theorem dX10_isCheese_20 : decode cX10_isCheese 20 = .ok (.ireturn, 1) := by decide +kernel
theorem dX10_isEvent_0 : decode cX10_isEvent 0 = .ok (.iload_n 1, 1) := by decide +kernel
theorem dX10_isEvent_1 : decode cX10_isEvent 1 = .ok (.ifCond .lt 15, 3) := by decide +kernel
theorem dX10_isEvent_4 : decode cX10_isEvent 4 = .ok (.iload_n 1, 1) := by decide +kernel
theorem dX10_isEvent_5 : decode cX10_isEvent 5 = .ok (.aload_n 0, 1) := by decide +kernel
theorem dX10_isEvent_6 : decode cX10_isEvent 6 = .ok (.invokevirtual 225, 3) := by decide +kernel
theorem dX10_isEvent_9 : decode cX10_isEvent 9 = .ok (.if_icmp .ge 7, 3) := by decide +kernel
theorem dX10_isEvent_16 : decode cX10_isEvent 16 = .ok (.iconst 0, 1) := by decide +kernel
theorem dX10_isEvent_17 : decode cX10_isEvent 17 = .ok (.ireturn, 1) := by decide +kernel
theorem dX10_isHut_0 : decode cX10_isHut 0 = .ok (.iload_n 1, 1) := by decide +kernel
theorem dX10_isHut_1 : decode cX10_isHut 1 = .ok (.ifCond .lt 18, 3) := by decide +kernel
theorem dX10_isHut_4 : decode cX10_isHut 4 = .ok (.iload_n 1, 1) := by decide +kernel
theorem dX10_isHut_5 : decode cX10_isHut 5 = .ok (.aload_n 0, 1) := by decide +kernel
theorem dX10_isHut_6 : decode cX10_isHut 6 = .ok (.getfield 16, 3) := by decide +kernel
theorem dX10_isHut_9 : decode cX10_isHut 9 = .ok (.getfield 332, 3) := by decide +kernel
theorem dX10_isHut_12 : decode cX10_isHut 12 = .ok (.if_icmp .ge 7, 3) := by decide +kernel
theorem dX10_isHut_19 : decode cX10_isHut 19 = .ok (.iconst 0, 1) := by decide +kernel
theorem dX10_isHut_20 : decode cX10_isHut 20 = .ok (.ireturn, 1) := by decide +kernel
theorem dX10_isSlice_0 : decode cX10_isSlice 0 = .ok (.iload_n 1, 1) := by decide +kernel
theorem dX10_isSlice_1 : decode cX10_isSlice 1 = .ok (.ifCond .lt 18, 3) := by decide +kernel
theorem dX10_isSlice_4 : decode cX10_isSlice 4 = .ok (.iload_n 1, 1) := by decide +kernel
theorem dX10_isSlice_5 : decode cX10_isSlice 5 = .ok (.aload_n 0, 1) := by decide +kernel
theorem dX10_isSlice_6 : decode cX10_isSlice 6 = .ok (.getfield 16, 3) := by decide +kernel
theorem dX10_isSlice_9 : decode cX10_isSlice 9 = .ok (.getfield 338, 3) := by decide +kernel
theorem dX10_isSlice_12 : decode cX10_isSlice 12 = .ok (.if_icmp .ge 7, 3) := by decide +kernel
theorem dX10_isSlice_19 : decode cX10_isSlice 19 = .ok (.iconst 0, 1) := by decide +kernel
theorem dX10_isSlice_20 : decode cX10_isSlice 20 = .ok (.ireturn, 1) := by decide +kernel
theorem dX10_isTurner_0 : decode cX10_isTurner 0 = .ok (.iload_n 1, 1) := by decide +kernel
theorem dX10_isTurner_1 : decode cX10_isTurner 1 = .ok (.ifCond .lt 18, 3) := by decide +kernel
theorem dX10_isTurner_4 : decode cX10_isTurner 4 = .ok (.iload_n 1, 1) := by decide +kernel
theorem dX10_isTurner_5 : decode cX10_isTurner 5 = .ok (.aload_n 0, 1) := by decide +kernel
theorem dX10_isTurner_6 : decode cX10_isTurner 6 = .ok (.getfield 16, 3) := by decide +kernel
theorem dX10_isTurner_9 : decode cX10_isTurner 9 = .ok (.getfield 335, 3) := by decide +kernel
theorem dX10_isTurner_12 : decode cX10_isTurner 12 = .ok (.if_icmp .ge 7, 3) := by decide +kernel
theorem dX10_isTurner_19 : decode cX10_isTurner 19 = .ok (.iconst 0, 1) := by decide +kernel
theorem dX10_isTurner_20 : decode cX10_isTurner 20 = .ok (.ireturn, 1) := by decide +kernel
theorem dX10_lift_0 : decode cX10_lift 0 = .ok (.aload_n 0, 1) := by decide +kernel
theorem dX10_lift_1 : decode cX10_lift 1 = .ok (.getfield 35, 3) := by decide +kernel
theorem dX10_lift_4 : decode cX10_lift 4 = .ok (.getfield 272, 3) := by decide +kernel
theorem dX10_lift_7 : decode cX10_lift 7 = .ok (.ifCond .ne 10, 3) := by decide +kernel
theorem dX10_lift_10 : decode cX10_lift 10 = .ok (.aload_n 0, 1) := by decide +kernel
theorem dX10_lift_11 : decode cX10_lift 11 = .ok (.bipush 6, 2) := by decide +kernel
theorem dX10_lift_13 : decode cX10_lift 13 = .ok (.invokevirtual 281, 3) := by decide +kernel
theorem dX10_lift_16 : decode cX10_lift 16 = .ok (.ireturn, 1) := by decide +kernel
theorem dX10_light_0 : decode cX10_light 0 = .ok (.aload_n 0, 1) := by decide +kernel
theorem dX10_light_1 : decode cX10_light 1 = .ok (.iload_n 1, 1) := by decide +kernel
theorem dX10_light_2 : decode cX10_light 2 = .ok (.invokevirtual 126, 3) := by decide +kernel
theorem dX10_light_5 : decode cX10_light 5 = .ok (.ifCond .ne 9, 3) := by decide +kernel
theorem dX10_light_8 : decode cX10_light 8 = .ok (.aload_n 0, 1) := by decide +kernel
theorem dX10_light_9 : decode cX10_light 9 = .ok (.iconst 1, 1) := by decide +kernel
theorem dX10_light_10 : decode cX10_light 10 = .ok (.invokevirtual 79, 3) := by decide +kernel
theorem dX10_light_13 : decode cX10_light 13 = .ok (.ireturn, 1) := by decide +kernel
theorem dX10_mark_0 : decode cX10_mark 0 = .ok (.aload_n 0, 1) := by decide +kernel
theorem dX10_mark_1 : decode cX10_mark 1 = .ok (.getfield 95, 3) := by decide +kernel
theorem dX10_mark_4 : decode cX10_mark 4 = .ok (.ifCond .ne 9, 3) := by decide +kernel
theorem dX10_mark_7 : decode cX10_mark 7 = .ok (.aload_n 0, 1) := by decide +kernel
theorem dX10_mark_8 : decode cX10_mark 8 = .ok (.iconst 1, 1) := by decide +kernel
theorem dX10_mark_9 : decode cX10_mark 9 = .ok (.invokevirtual 79, 3) := by decide +kernel
theorem dX10_mark_12 : decode cX10_mark 12 = .ok (.ireturn, 1) := by decide +kernel
theorem dX10_nights_0 : decode cX10_nights 0 = .ok (.aload_n 0, 1) := by decide +kernel
theorem dX10_nights_1 : decode cX10_nights 1 = .ok (.getfield 95, 3) := by decide +kernel
theorem dX10_nights_4 : decode cX10_nights 4 = .ok (.ifCond .ne 9, 3) := by decide +kernel
theorem dX10_nights_7 : decode cX10_nights 7 = .ok (.aload_n 0, 1) := by decide +kernel
theorem dX10_nights_8 : decode cX10_nights 8 = .ok (.iconst 1, 1) := by decide +kernel
theorem dX10_nights_9 : decode cX10_nights 9 = .ok (.invokevirtual 178, 3) := by decide +kernel
theorem dX10_nights_12 : decode cX10_nights 12 = .ok (.ireturn, 1) := by decide +kernel
theorem dX10_notices_0 : decode cX10_notices 0 = .ok (.aload_n 0, 1) := by decide +kernel
theorem dX10_notices_1 : decode cX10_notices 1 = .ok (.iload_n 1, 1) := by decide +kernel
theorem dX10_notices_2 : decode cX10_notices 2 = .ok (.invokevirtual 152, 3) := by decide +kernel
theorem dX10_notices_5 : decode cX10_notices 5 = .ok (.ifCond .eq 11, 3) := by decide +kernel
theorem dX10_notices_16 : decode cX10_notices 16 = .ok (.aload_n 0, 1) := by decide +kernel
theorem dX10_notices_17 : decode cX10_notices 17 = .ok (.iconst 1, 1) := by decide +kernel
theorem dX10_notices_18 : decode cX10_notices 18 = .ok (.invokevirtual 79, 3) := by decide +kernel
theorem dX10_notices_21 : decode cX10_notices 21 = .ok (.ireturn, 1) := by decide +kernel
theorem dX10_peak_0 : decode cX10_peak 0 = .ok (.aload_n 0, 1) := by decide +kernel
theorem dX10_peak_1 : decode cX10_peak 1 = .ok (.getfield 95, 3) := by decide +kernel
theorem dX10_peak_4 : decode cX10_peak 4 = .ok (.ifCond .ne 9, 3) := by decide +kernel
theorem dX10_peak_7 : decode cX10_peak 7 = .ok (.aload_n 0, 1) := by decide +kernel
theorem dX10_peak_8 : decode cX10_peak 8 = .ok (.iconst 1, 1) := by decide +kernel
theorem dX10_peak_9 : decode cX10_peak 9 = .ok (.invokevirtual 79, 3) := by decide +kernel
theorem dX10_peak_12 : decode cX10_peak 12 = .ok (.ireturn, 1) := by decide +kernel
theorem dX10_putBytes_0 : decode cX10_putBytes 0 = .ok (.bipush 24, 2) := by decide +kernel
theorem dX10_putBytes_2 : decode cX10_putBytes 2 = .ok (.istore_n 2, 1) := by decide +kernel
theorem dX10_putBytes_3 : decode cX10_putBytes 3 = .ok (.iload_n 2, 1) := by decide +kernel
theorem dX10_putBytes_4 : decode cX10_putBytes 4 = .ok (.ifCond .lt 32, 3) := by decide +kernel
theorem dX10_putBytes_7 : decode cX10_putBytes 7 = .ok (.aload_n 0, 1) := by decide +kernel
theorem dX10_putBytes_8 : decode cX10_putBytes 8 = .ok (.getfield 9, 3) := by decide +kernel
theorem dX10_putBytes_11 : decode cX10_putBytes 11 = .ok (.aload_n 0, 1) := by decide +kernel
theorem dX10_putBytes_12 : decode cX10_putBytes 12 = .ok (.getfield 71, 3) := by decide +kernel
theorem dX10_putBytes_15 : decode cX10_putBytes 15 = .ok (.iload_n 1, 1) := by decide +kernel
theorem dX10_putBytes_16 : decode cX10_putBytes 16 = .ok (.iload_n 2, 1) := by decide +kernel
theorem dX10_putBytes_17 : decode cX10_putBytes 17 = .ok (.ishr, 1) := by decide +kernel
theorem dX10_putBytes_18 : decode cX10_putBytes 18 = .ok (.i2b, 1) := by decide +kernel
theorem dX10_putBytes_19 : decode cX10_putBytes 19 = .ok (.bastore, 1) := by decide +kernel
theorem dX10_putBytes_20 : decode cX10_putBytes 20 = .ok (.aload_n 0, 1) := by decide +kernel
theorem dX10_putBytes_21 : decode cX10_putBytes 21 = .ok (.dup, 1) := by decide +kernel
theorem dX10_putBytes_22 : decode cX10_putBytes 22 = .ok (.getfield 71, 3) := by decide +kernel
theorem dX10_putBytes_25 : decode cX10_putBytes 25 = .ok (.iconst 1, 1) := by decide +kernel
theorem dX10_putBytes_26 : decode cX10_putBytes 26 = .ok (.iadd, 1) := by decide +kernel
theorem dX10_putBytes_27 : decode cX10_putBytes 27 = .ok (.putfield 71, 3) := by decide +kernel
theorem dX10_putBytes_30 : decode cX10_putBytes 30 = .ok (.iinc 2 (-8), 3) := by decide +kernel
theorem dX10_putBytes_33 : decode cX10_putBytes 33 = .ok (.goto (-30), 3) := by decide +kernel
theorem dX10_putBytes_36 : decode cX10_putBytes 36 = .ok (.return_, 1) := by decide +kernel
theorem dX10_refused_0 : decode cX10_refused 0 = .ok (.aload_n 0, 1) := by decide +kernel
theorem dX10_refused_1 : decode cX10_refused 1 = .ok (.iload_n 1, 1) := by decide +kernel
theorem dX10_refused_2 : decode cX10_refused 2 = .ok (.putfield 112, 3) := by decide +kernel
theorem dX10_refused_5 : decode cX10_refused 5 = .ok (.iconst (-1), 1) := by decide +kernel
theorem dX10_refused_6 : decode cX10_refused 6 = .ok (.ireturn, 1) := by decide +kernel
theorem dX10_refusedAct_0 : decode cX10_refusedAct 0 = .ok (.aload_n 0, 1) := by decide +kernel
theorem dX10_refusedAct_1 : decode cX10_refusedAct 1 = .ok (.iload_n 1, 1) := by decide +kernel
theorem dX10_refusedAct_2 : decode cX10_refusedAct 2 = .ok (.putfield 112, 3) := by decide +kernel
theorem dX10_refusedAct_5 : decode cX10_refusedAct 5 = .ok (.iconst 0, 1) := by decide +kernel
theorem dX10_refusedAct_6 : decode cX10_refusedAct 6 = .ok (.ireturn, 1) := by decide +kernel
theorem dX10_refusedTotal_0 : decode cX10_refusedTotal 0 = .ok (.aload_n 0, 1) := by decide +kernel
theorem dX10_refusedTotal_1 : decode cX10_refusedTotal 1 = .ok (.iload_n 1, 1) := by decide +kernel
theorem dX10_refusedTotal_2 : decode cX10_refusedTotal 2 = .ok (.putfield 112, 3) := by decide +kernel
theorem dX10_refusedTotal_5 : decode cX10_refusedTotal 5 = .ok (.ldc_w 356, 3) := by decide +kernel
theorem dX10_refusedTotal_8 : decode cX10_refusedTotal 8 = .ok (.ireturn, 1) := by decide +kernel
theorem dX10_seed_0 : decode cX10_seed 0 = .ok (.aload_n 0, 1) := by decide +kernel
theorem dX10_seed_1 : decode cX10_seed 1 = .ok (.getfield 95, 3) := by decide +kernel
theorem dX10_seed_4 : decode cX10_seed 4 = .ok (.ifCond .ne 9, 3) := by decide +kernel
theorem dX10_seed_7 : decode cX10_seed 7 = .ok (.aload_n 0, 1) := by decide +kernel
theorem dX10_seed_8 : decode cX10_seed 8 = .ok (.iconst 1, 1) := by decide +kernel
theorem dX10_seed_9 : decode cX10_seed 9 = .ok (.invokevirtual 281, 3) := by decide +kernel
theorem dX10_seed_12 : decode cX10_seed 12 = .ok (.ireturn, 1) := by decide +kernel
theorem dX10_size_0 : decode cX10_size 0 = .ok (.iload_n 1, 1) := by decide +kernel
theorem dX10_size_1 : decode cX10_size 1 = .ok (.tableswitch 171 0 12 #[67, 75, 83, 91, 99, 107, 115, 123, 131, 142, 150, 158, 166], 67) := by decide +kernel
theorem dX10_size_68 : decode cX10_size 68 = .ok (.aload_n 0, 1) := by decide +kernel
theorem dX10_size_69 : decode cX10_size 69 = .ok (.getfield 16, 3) := by decide +kernel
theorem dX10_size_72 : decode cX10_size 72 = .ok (.getfield 146, 3) := by decide +kernel
theorem dX10_size_75 : decode cX10_size 75 = .ok (.ireturn, 1) := by decide +kernel
theorem dX10_size_76 : decode cX10_size 76 = .ok (.aload_n 0, 1) := by decide +kernel
theorem dX10_size_77 : decode cX10_size 77 = .ok (.getfield 16, 3) := by decide +kernel
theorem dX10_size_80 : decode cX10_size 80 = .ok (.getfield 332, 3) := by decide +kernel
theorem dX10_size_83 : decode cX10_size 83 = .ok (.ireturn, 1) := by decide +kernel
theorem dX10_size_84 : decode cX10_size 84 = .ok (.aload_n 0, 1) := by decide +kernel
theorem dX10_size_85 : decode cX10_size 85 = .ok (.getfield 16, 3) := by decide +kernel
theorem dX10_size_88 : decode cX10_size 88 = .ok (.getfield 311, 3) := by decide +kernel
theorem dX10_size_91 : decode cX10_size 91 = .ok (.ireturn, 1) := by decide +kernel
theorem dX10_size_92 : decode cX10_size 92 = .ok (.aload_n 0, 1) := by decide +kernel
theorem dX10_size_93 : decode cX10_size 93 = .ok (.getfield 35, 3) := by decide +kernel
theorem dX10_size_96 : decode cX10_size 96 = .ok (.getfield 272, 3) := by decide +kernel
theorem dX10_size_99 : decode cX10_size 99 = .ok (.ireturn, 1) := by decide +kernel
theorem dX10_size_100 : decode cX10_size 100 = .ok (.aload_n 0, 1) := by decide +kernel
theorem dX10_size_101 : decode cX10_size 101 = .ok (.getfield 16, 3) := by decide +kernel
theorem dX10_size_104 : decode cX10_size 104 = .ok (.getfield 106, 3) := by decide +kernel
theorem dX10_size_107 : decode cX10_size 107 = .ok (.ireturn, 1) := by decide +kernel
theorem dX10_size_108 : decode cX10_size 108 = .ok (.aload_n 0, 1) := by decide +kernel
theorem dX10_size_109 : decode cX10_size 109 = .ok (.getfield 16, 3) := by decide +kernel
theorem dX10_size_112 : decode cX10_size 112 = .ok (.getfield 335, 3) := by decide +kernel
theorem dX10_size_115 : decode cX10_size 115 = .ok (.ireturn, 1) := by decide +kernel
theorem dX10_size_116 : decode cX10_size 116 = .ok (.aload_n 0, 1) := by decide +kernel
theorem dX10_size_117 : decode cX10_size 117 = .ok (.getfield 16, 3) := by decide +kernel
theorem dX10_size_120 : decode cX10_size 120 = .ok (.getfield 278, 3) := by decide +kernel
theorem dX10_size_123 : decode cX10_size 123 = .ok (.ireturn, 1) := by decide +kernel
theorem dX10_size_124 : decode cX10_size 124 = .ok (.aload_n 0, 1) := by decide +kernel
theorem dX10_size_125 : decode cX10_size 125 = .ok (.getfield 16, 3) := by decide +kernel
theorem dX10_size_128 : decode cX10_size 128 = .ok (.getfield 338, 3) := by decide +kernel
theorem dX10_size_131 : decode cX10_size 131 = .ok (.ireturn, 1) := by decide +kernel
theorem dX10_size_132 : decode cX10_size 132 = .ok (.aload_n 0, 1) := by decide +kernel
theorem dX10_size_133 : decode cX10_size 133 = .ok (.getfield 16, 3) := by decide +kernel
theorem dX10_size_136 : decode cX10_size 136 = .ok (.getfield 341, 3) := by decide +kernel
theorem dX10_size_139 : decode cX10_size 139 = .ok (.getfield 345, 3) := by decide +kernel
theorem dX10_size_142 : decode cX10_size 142 = .ok (.ireturn, 1) := by decide +kernel
theorem dX10_size_143 : decode cX10_size 143 = .ok (.aload_n 0, 1) := by decide +kernel
theorem dX10_size_144 : decode cX10_size 144 = .ok (.getfield 35, 3) := by decide +kernel
theorem dX10_size_147 : decode cX10_size 147 = .ok (.getfield 269, 3) := by decide +kernel
theorem dX10_size_150 : decode cX10_size 150 = .ok (.ireturn, 1) := by decide +kernel
theorem dX10_size_151 : decode cX10_size 151 = .ok (.aload_n 0, 1) := by decide +kernel
theorem dX10_size_152 : decode cX10_size 152 = .ok (.getfield 42, 3) := by decide +kernel
theorem dX10_size_155 : decode cX10_size 155 = .ok (.getfield 350, 3) := by decide +kernel
theorem dX10_size_158 : decode cX10_size 158 = .ok (.ireturn, 1) := by decide +kernel
theorem dX10_size_159 : decode cX10_size 159 = .ok (.aload_n 0, 1) := by decide +kernel
theorem dX10_size_160 : decode cX10_size 160 = .ok (.getfield 42, 3) := by decide +kernel
theorem dX10_size_163 : decode cX10_size 163 = .ok (.getfield 353, 3) := by decide +kernel
theorem dX10_size_166 : decode cX10_size 166 = .ok (.ireturn, 1) := by decide +kernel
theorem dX10_size_167 : decode cX10_size 167 = .ok (.aload_n 0, 1) := by decide +kernel
theorem dX10_size_168 : decode cX10_size 168 = .ok (.getfield 71, 3) := by decide +kernel
theorem dX10_size_171 : decode cX10_size 171 = .ok (.ireturn, 1) := by decide +kernel
theorem dX10_size_172 : decode cX10_size 172 = .ok (.iconst (-1), 1) := by decide +kernel
theorem dX10_size_173 : decode cX10_size 173 = .ok (.ireturn, 1) := by decide +kernel
theorem dX10_sky_0 : decode cX10_sky 0 = .ok (.aload_n 0, 1) := by decide +kernel
theorem dX10_sky_1 : decode cX10_sky 1 = .ok (.getfield 95, 3) := by decide +kernel
theorem dX10_sky_4 : decode cX10_sky 4 = .ok (.ifCond .ne 9, 3) := by decide +kernel
theorem dX10_sky_7 : decode cX10_sky 7 = .ok (.aload_n 0, 1) := by decide +kernel
theorem dX10_sky_8 : decode cX10_sky 8 = .ok (.iconst 1, 1) := by decide +kernel
theorem dX10_sky_9 : decode cX10_sky 9 = .ok (.invokevirtual 79, 3) := by decide +kernel
theorem dX10_sky_12 : decode cX10_sky 12 = .ok (.ireturn, 1) := by decide +kernel
theorem dX10_total_0 : decode cX10_total 0 = .ok (.aload_n 0, 1) := by decide +kernel
theorem dX10_total_1 : decode cX10_total 1 = .ok (.getfield 95, 3) := by decide +kernel
theorem dX10_total_4 : decode cX10_total 4 = .ok (.ifCond .eq 17, 3) := by decide +kernel
theorem dX10_total_21 : decode cX10_total 21 = .ok (.aload_n 0, 1) := by decide +kernel
theorem dX10_total_22 : decode cX10_total 22 = .ok (.iconst 1, 1) := by decide +kernel
theorem dX10_total_23 : decode cX10_total 23 = .ok (.invokevirtual 178, 3) := by decide +kernel
theorem dX10_total_26 : decode cX10_total 26 = .ok (.ireturn, 1) := by decide +kernel
theorem dX10_trouble_0 : decode cX10_trouble 0 = .ok (.aload_n 0, 1) := by decide +kernel
theorem dX10_trouble_1 : decode cX10_trouble 1 = .ok (.getfield 112, 3) := by decide +kernel
theorem dX10_trouble_4 : decode cX10_trouble 4 = .ok (.ireturn, 1) := by decide +kernel
theorem dX10_turned_0 : decode cX10_turned 0 = .ok (.aload_n 0, 1) := by decide +kernel
theorem dX10_turned_1 : decode cX10_turned 1 = .ok (.iload_n 1, 1) := by decide +kernel
theorem dX10_turned_2 : decode cX10_turned 2 = .ok (.invokevirtual 195, 3) := by decide +kernel
theorem dX10_turned_5 : decode cX10_turned 5 = .ok (.ifCond .ne 9, 3) := by decide +kernel
theorem dX10_turned_8 : decode cX10_turned 8 = .ok (.aload_n 0, 1) := by decide +kernel
theorem dX10_turned_9 : decode cX10_turned 9 = .ok (.iconst 1, 1) := by decide +kernel
theorem dX10_turned_10 : decode cX10_turned 10 = .ok (.invokevirtual 79, 3) := by decide +kernel
theorem dX10_turned_13 : decode cX10_turned 13 = .ok (.ireturn, 1) := by decide +kernel
theorem dX10_undo_0 : decode cX10_undo 0 = .ok (.aload_n 0, 1) := by decide +kernel
theorem dX10_undo_1 : decode cX10_undo 1 = .ok (.getfield 42, 3) := by decide +kernel
theorem dX10_undo_4 : decode cX10_undo 4 = .ok (.aload_n 0, 1) := by decide +kernel
theorem dX10_undo_5 : decode cX10_undo 5 = .ok (.getfield 35, 3) := by decide +kernel
theorem dX10_undo_8 : decode cX10_undo 8 = .ok (.invokevirtual 299, 3) := by decide +kernel
theorem dX10_undo_11 : decode cX10_undo 11 = .ok (.ifCond .ne 10, 3) := by decide +kernel
theorem dX10_undo_14 : decode cX10_undo 14 = .ok (.aload_n 0, 1) := by decide +kernel
theorem dX10_undo_15 : decode cX10_undo 15 = .ok (.bipush 6, 2) := by decide +kernel
theorem dX10_undo_17 : decode cX10_undo 17 = .ok (.invokevirtual 281, 3) := by decide +kernel
theorem dX10_undo_20 : decode cX10_undo 20 = .ok (.ireturn, 1) := by decide +kernel
theorem dX10_up_0 : decode cX10_up 0 = .ok (.aload_n 0, 1) := by decide +kernel
theorem dX10_up_1 : decode cX10_up 1 = .ok (.iload_n 1, 1) := by decide +kernel
theorem dX10_up_2 : decode cX10_up 2 = .ok (.invokevirtual 195, 3) := by decide +kernel
theorem dX10_up_5 : decode cX10_up 5 = .ok (.ifCond .ne 9, 3) := by decide +kernel
theorem dX10_up_8 : decode cX10_up 8 = .ok (.aload_n 0, 1) := by decide +kernel
theorem dX10_up_9 : decode cX10_up 9 = .ok (.iconst 1, 1) := by decide +kernel
theorem dX10_up_10 : decode cX10_up 10 = .ok (.invokevirtual 79, 3) := by decide +kernel
theorem dX10_up_13 : decode cX10_up 13 = .ok (.ireturn, 1) := by decide +kernel
theorem dX10_vein_0 : decode cX10_vein 0 = .ok (.aload_n 0, 1) := by decide +kernel
theorem dX10_vein_1 : decode cX10_vein 1 = .ok (.iload_n 1, 1) := by decide +kernel
theorem dX10_vein_2 : decode cX10_vein 2 = .ok (.iload_n 2, 1) := by decide +kernel
theorem dX10_vein_3 : decode cX10_vein 3 = .ok (.invokevirtual 222, 3) := by decide +kernel
theorem dX10_vein_6 : decode cX10_vein 6 = .ok (.istore_n 3, 1) := by decide +kernel
theorem dX10_vein_7 : decode cX10_vein 7 = .ok (.iload_n 3, 1) := by decide +kernel
theorem dX10_vein_8 : decode cX10_vein 8 = .ok (.iconst (-1), 1) := by decide +kernel
theorem dX10_vein_9 : decode cX10_vein 9 = .ok (.if_icmp .ne 11, 3) := by decide +kernel
theorem dX10_vein_12 : decode cX10_vein 12 = .ok (.aload_n 0, 1) := by decide +kernel
theorem dX10_vein_13 : decode cX10_vein 13 = .ok (.iconst 1, 1) := by decide +kernel
theorem dX10_vein_14 : decode cX10_vein 14 = .ok (.invokevirtual 79, 3) := by decide +kernel
theorem dX10_vein_17 : decode cX10_vein 17 = .ok (.goto 8, 3) := by decide +kernel
theorem dX10_vein_25 : decode cX10_vein 25 = .ok (.ireturn, 1) := by decide +kernel
theorem dX10_veinMinute_0 : decode cX10_veinMinute 0 = .ok (.aload_n 0, 1) := by decide +kernel
theorem dX10_veinMinute_1 : decode cX10_veinMinute 1 = .ok (.iload_n 1, 1) := by decide +kernel
theorem dX10_veinMinute_2 : decode cX10_veinMinute 2 = .ok (.invokevirtual 195, 3) := by decide +kernel
theorem dX10_veinMinute_5 : decode cX10_veinMinute 5 = .ok (.ifCond .eq 15, 3) := by decide +kernel
theorem dX10_veinMinute_20 : decode cX10_veinMinute 20 = .ok (.iconst (-1), 1) := by decide +kernel
theorem dX10_veinMinute_21 : decode cX10_veinMinute 21 = .ok (.ireturn, 1) := by decide +kernel
theorem dX10_wake_0 : decode cX10_wake 0 = .ok (.aload_n 0, 1) := by decide +kernel
theorem dX10_wake_1 : decode cX10_wake 1 = .ok (.getfield 95, 3) := by decide +kernel
theorem dX10_wake_4 : decode cX10_wake 4 = .ok (.ifCond .eq 14, 3) := by decide +kernel
theorem dX10_wake_18 : decode cX10_wake 18 = .ok (.aload_n 0, 1) := by decide +kernel
theorem dX10_wake_19 : decode cX10_wake 19 = .ok (.iconst 1, 1) := by decide +kernel
theorem dX10_wake_20 : decode cX10_wake 20 = .ok (.invokevirtual 79, 3) := by decide +kernel
theorem dX10_wake_23 : decode cX10_wake 23 = .ok (.ireturn, 1) := by decide +kernel
theorem dX10_wakeTotal_0 : decode cX10_wakeTotal 0 = .ok (.aload_n 0, 1) := by decide +kernel
theorem dX10_wakeTotal_1 : decode cX10_wakeTotal 1 = .ok (.getfield 95, 3) := by decide +kernel
theorem dX10_wakeTotal_4 : decode cX10_wakeTotal 4 = .ok (.ifCond .ne 9, 3) := by decide +kernel
theorem dX10_wakeTotal_7 : decode cX10_wakeTotal 7 = .ok (.aload_n 0, 1) := by decide +kernel
theorem dX10_wakeTotal_8 : decode cX10_wakeTotal 8 = .ok (.iconst 1, 1) := by decide +kernel
theorem dX10_wakeTotal_9 : decode cX10_wakeTotal 9 = .ok (.invokevirtual 178, 3) := by decide +kernel
theorem dX10_wakeTotal_12 : decode cX10_wakeTotal 12 = .ok (.ireturn, 1) := by decide +kernel
theorem dX10_where_0 : decode cX10_where 0 = .ok (.aload_n 0, 1) := by decide +kernel
theorem dX10_where_1 : decode cX10_where 1 = .ok (.getfield 112, 3) := by decide +kernel
theorem dX10_where_4 : decode cX10_where 4 = .ok (.iconst 4, 1) := by decide +kernel
theorem dX10_where_5 : decode cX10_where 5 = .ok (.if_icmp .ne 10, 3) := by decide +kernel
theorem dX10_where_15 : decode cX10_where 15 = .ok (.iconst (-1), 1) := by decide +kernel
theorem dX10_where_16 : decode cX10_where 16 = .ok (.ireturn, 1) := by decide +kernel
theorem dX10_without_0 : decode cX10_without 0 = .ok (.aload_n 0, 1) := by decide +kernel
theorem dX10_without_1 : decode cX10_without 1 = .ok (.iload_n 1, 1) := by decide +kernel
theorem dX10_without_2 : decode cX10_without 2 = .ok (.invokevirtual 234, 3) := by decide +kernel
theorem dX10_without_5 : decode cX10_without 5 = .ok (.ifCond .ne 9, 3) := by decide +kernel
theorem dX10_without_8 : decode cX10_without 8 = .ok (.aload_n 0, 1) := by decide +kernel
theorem dX10_without_9 : decode cX10_without 9 = .ok (.iconst 1, 1) := by decide +kernel
theorem dX10_without_10 : decode cX10_without 10 = .ok (.invokevirtual 178, 3) := by decide +kernel
theorem dX10_without_13 : decode cX10_without 13 = .ok (.ireturn, 1) := by decide +kernel
theorem dX10_work_0 : decode cX10_work 0 = .ok (.aload_n 0, 1) := by decide +kernel
theorem dX10_work_1 : decode cX10_work 1 = .ok (.iload_n 1, 1) := by decide +kernel
theorem dX10_work_2 : decode cX10_work 2 = .ok (.invokevirtual 152, 3) := by decide +kernel
theorem dX10_work_5 : decode cX10_work 5 = .ok (.ifCond .ne 9, 3) := by decide +kernel
theorem dX10_work_8 : decode cX10_work 8 = .ok (.aload_n 0, 1) := by decide +kernel
theorem dX10_work_9 : decode cX10_work 9 = .ok (.iconst 1, 1) := by decide +kernel
theorem dX10_work_10 : decode cX10_work 10 = .ok (.invokevirtual 79, 3) := by decide +kernel
theorem dX10_work_13 : decode cX10_work 13 = .ok (.ireturn, 1) := by decide +kernel
theorem dX10_worth_0 : decode cX10_worth 0 = .ok (.aload_n 0, 1) := by decide +kernel
theorem dX10_worth_1 : decode cX10_worth 1 = .ok (.iload_n 1, 1) := by decide +kernel
theorem dX10_worth_2 : decode cX10_worth 2 = .ok (.invokevirtual 152, 3) := by decide +kernel
theorem dX10_worth_5 : decode cX10_worth 5 = .ok (.ifCond .ne 9, 3) := by decide +kernel
theorem dX10_worth_8 : decode cX10_worth 8 = .ok (.aload_n 0, 1) := by decide +kernel
theorem dX10_worth_9 : decode cX10_worth 9 = .ok (.iconst 1, 1) := by decide +kernel
theorem dX10_worth_10 : decode cX10_worth 10 = .ok (.invokevirtual 178, 3) := by decide +kernel
theorem dX10_worth_13 : decode cX10_worth 13 = .ok (.ireturn, 1) := by decide +kernel
theorem dX12_awake_0 : decode cX12_awake 0 = .ok (.aload_n 0, 1) := by decide +kernel
theorem dX12_awake_1 : decode cX12_awake 1 = .ok (.iconst 0, 1) := by decide +kernel
theorem dX12_awake_2 : decode cX12_awake 2 = .ok (.putfield 70, 3) := by decide +kernel
theorem dX12_awake_5 : decode cX12_awake 5 = .ok (.aload_n 0, 1) := by decide +kernel
theorem dX12_awake_6 : decode cX12_awake 6 = .ok (.iload_n 1, 1) := by decide +kernel
theorem dX12_awake_7 : decode cX12_awake 7 = .ok (.invokevirtual 452, 3) := by decide +kernel
theorem dX12_awake_10 : decode cX12_awake 10 = .ok (.ifCond .ne 9, 3) := by decide +kernel
theorem dX12_awake_13 : decode cX12_awake 13 = .ok (.aload_n 0, 1) := by decide +kernel
theorem dX12_awake_14 : decode cX12_awake 14 = .ok (.iconst 1, 1) := by decide +kernel
theorem dX12_awake_15 : decode cX12_awake 15 = .ok (.invokevirtual 76, 3) := by decide +kernel
theorem dX12_awake_18 : decode cX12_awake 18 = .ok (.ireturn, 1) := by decide +kernel
theorem dX12_back_0 : decode cX12_back 0 = .ok (.aload_n 0, 1) := by decide +kernel
theorem dX12_back_1 : decode cX12_back 1 = .ok (.iconst 0, 1) := by decide +kernel
theorem dX12_back_2 : decode cX12_back 2 = .ok (.putfield 70, 3) := by decide +kernel
theorem dX12_back_5 : decode cX12_back 5 = .ok (.aload_n 0, 1) := by decide +kernel
theorem dX12_back_6 : decode cX12_back 6 = .ok (.getfield 385, 3) := by decide +kernel
theorem dX12_back_9 : decode cX12_back 9 = .ok (.ifnull 15, 3) := by decide +kernel
theorem dX12_back_24 : decode cX12_back 24 = .ok (.aload_n 0, 1) := by decide +kernel
theorem dX12_back_25 : decode cX12_back 25 = .ok (.iconst 1, 1) := by decide +kernel
theorem dX12_back_26 : decode cX12_back 26 = .ok (.invokevirtual 507, 3) := by decide +kernel
theorem dX12_back_29 : decode cX12_back 29 = .ok (.ireturn, 1) := by decide +kernel
theorem dX12_by_0 : decode cX12_by 0 = .ok (.aload_n 0, 1) := by decide +kernel
theorem dX12_by_1 : decode cX12_by 1 = .ok (.iconst 0, 1) := by decide +kernel
theorem dX12_by_2 : decode cX12_by 2 = .ok (.putfield 70, 3) := by decide +kernel
theorem dX12_by_5 : decode cX12_by 5 = .ok (.aload_n 0, 1) := by decide +kernel
theorem dX12_by_6 : decode cX12_by 6 = .ok (.iload_n 1, 1) := by decide +kernel
theorem dX12_by_7 : decode cX12_by 7 = .ok (.invokevirtual 485, 3) := by decide +kernel
theorem dX12_by_10 : decode cX12_by 10 = .ok (.ifCond .ne 9, 3) := by decide +kernel
theorem dX12_by_13 : decode cX12_by 13 = .ok (.aload_n 0, 1) := by decide +kernel
theorem dX12_by_14 : decode cX12_by 14 = .ok (.iconst 1, 1) := by decide +kernel
theorem dX12_by_15 : decode cX12_by 15 = .ok (.invokevirtual 76, 3) := by decide +kernel
theorem dX12_by_18 : decode cX12_by 18 = .ok (.ireturn, 1) := by decide +kernel
theorem dX12_call_0 : decode cX12_call 0 = .ok (.aload_n 0, 1) := by decide +kernel
theorem dX12_call_1 : decode cX12_call 1 = .ok (.iconst 0, 1) := by decide +kernel
theorem dX12_call_2 : decode cX12_call 2 = .ok (.putfield 70, 3) := by decide +kernel
theorem dX12_call_5 : decode cX12_call 5 = .ok (.aload_n 0, 1) := by decide +kernel
theorem dX12_call_6 : decode cX12_call 6 = .ok (.getfield 385, 3) := by decide +kernel
theorem dX12_call_9 : decode cX12_call 9 = .ok (.ifnull 18, 3) := by decide +kernel
theorem dX12_call_27 : decode cX12_call 27 = .ok (.aload_n 0, 1) := by decide +kernel
theorem dX12_call_28 : decode cX12_call 28 = .ok (.iconst 1, 1) := by decide +kernel
theorem dX12_call_29 : decode cX12_call 29 = .ok (.invokevirtual 507, 3) := by decide +kernel
theorem dX12_call_32 : decode cX12_call 32 = .ok (.ireturn, 1) := by decide +kernel
theorem dX12_calls_0 : decode cX12_calls 0 = .ok (.aload_n 0, 1) := by decide +kernel
theorem dX12_calls_1 : decode cX12_calls 1 = .ok (.iconst 0, 1) := by decide +kernel
theorem dX12_calls_2 : decode cX12_calls 2 = .ok (.putfield 70, 3) := by decide +kernel
theorem dX12_calls_5 : decode cX12_calls 5 = .ok (.aload_n 0, 1) := by decide +kernel
theorem dX12_calls_6 : decode cX12_calls 6 = .ok (.getfield 385, 3) := by decide +kernel
theorem dX12_calls_9 : decode cX12_calls 9 = .ok (.ifnonnull 11, 3) := by decide +kernel
theorem dX12_calls_12 : decode cX12_calls 12 = .ok (.aload_n 0, 1) := by decide +kernel
theorem dX12_calls_13 : decode cX12_calls 13 = .ok (.iconst 1, 1) := by decide +kernel
theorem dX12_calls_14 : decode cX12_calls 14 = .ok (.invokevirtual 76, 3) := by decide +kernel
theorem dX12_calls_17 : decode cX12_calls 17 = .ok (.goto 13, 3) := by decide +kernel
theorem dX12_calls_30 : decode cX12_calls 30 = .ok (.ireturn, 1) := by decide +kernel
theorem dX12_cause_0 : decode cX12_cause 0 = .ok (.aload_n 0, 1) := by decide +kernel
theorem dX12_cause_1 : decode cX12_cause 1 = .ok (.iconst 0, 1) := by decide +kernel
theorem dX12_cause_2 : decode cX12_cause 2 = .ok (.putfield 70, 3) := by decide +kernel
theorem dX12_cause_5 : decode cX12_cause 5 = .ok (.aload_n 0, 1) := by decide +kernel
theorem dX12_cause_6 : decode cX12_cause 6 = .ok (.iload_n 1, 1) := by decide +kernel
theorem dX12_cause_7 : decode cX12_cause 7 = .ok (.invokevirtual 461, 3) := by decide +kernel
theorem dX12_cause_10 : decode cX12_cause 10 = .ok (.ifCond .ne 9, 3) := by decide +kernel
theorem dX12_cause_13 : decode cX12_cause 13 = .ok (.aload_n 0, 1) := by decide +kernel
theorem dX12_cause_14 : decode cX12_cause 14 = .ok (.iconst 1, 1) := by decide +kernel
theorem dX12_cause_15 : decode cX12_cause 15 = .ok (.invokevirtual 76, 3) := by decide +kernel
theorem dX12_cause_18 : decode cX12_cause 18 = .ok (.ireturn, 1) := by decide +kernel
theorem dX12_change_0 : decode cX12_change 0 = .ok (.aload_n 0, 1) := by decide +kernel
theorem dX12_change_1 : decode cX12_change 1 = .ok (.iconst 0, 1) := by decide +kernel
theorem dX12_change_2 : decode cX12_change 2 = .ok (.putfield 70, 3) := by decide +kernel
theorem dX12_change_5 : decode cX12_change 5 = .ok (.aload_n 0, 1) := by decide +kernel
theorem dX12_change_6 : decode cX12_change 6 = .ok (.iload_n 1, 1) := by decide +kernel
theorem dX12_change_7 : decode cX12_change 7 = .ok (.invokevirtual 446, 3) := by decide +kernel
theorem dX12_change_10 : decode cX12_change 10 = .ok (.ifCond .ne 9, 3) := by decide +kernel
theorem dX12_change_13 : decode cX12_change 13 = .ok (.aload_n 0, 1) := by decide +kernel
theorem dX12_change_14 : decode cX12_change 14 = .ok (.iconst 1, 1) := by decide +kernel
theorem dX12_change_15 : decode cX12_change 15 = .ok (.invokevirtual 76, 3) := by decide +kernel
theorem dX12_change_18 : decode cX12_change 18 = .ok (.ireturn, 1) := by decide +kernel
theorem dX12_changes_0 : decode cX12_changes 0 = .ok (.aload_n 0, 1) := by decide +kernel
theorem dX12_changes_1 : decode cX12_changes 1 = .ok (.iconst 0, 1) := by decide +kernel
theorem dX12_changes_2 : decode cX12_changes 2 = .ok (.putfield 70, 3) := by decide +kernel
theorem dX12_changes_5 : decode cX12_changes 5 = .ok (.aload_n 0, 1) := by decide +kernel
theorem dX12_changes_6 : decode cX12_changes 6 = .ok (.iload_n 1, 1) := by decide +kernel
theorem dX12_changes_7 : decode cX12_changes 7 = .ok (.invokevirtual 446, 3) := by decide +kernel
theorem dX12_changes_10 : decode cX12_changes 10 = .ok (.ifCond .ne 9, 3) := by decide +kernel
theorem dX12_changes_13 : decode cX12_changes 13 = .ok (.aload_n 0, 1) := by decide +kernel
theorem dX12_changes_14 : decode cX12_changes 14 = .ok (.iconst 1, 1) := by decide +kernel
theorem dX12_changes_15 : decode cX12_changes 15 = .ok (.invokevirtual 76, 3) := by decide +kernel
theorem dX12_changes_18 : decode cX12_changes 18 = .ok (.ireturn, 1) := by decide +kernel
theorem dX12_cheese_0 : decode cX12_cheese 0 = .ok (.aload_n 0, 1) := by decide +kernel
theorem dX12_cheese_1 : decode cX12_cheese 1 = .ok (.iconst 0, 1) := by decide +kernel
theorem dX12_cheese_2 : decode cX12_cheese 2 = .ok (.putfield 70, 3) := by decide +kernel
theorem dX12_cheese_5 : decode cX12_cheese 5 = .ok (.aload_n 0, 1) := by decide +kernel
theorem dX12_cheese_6 : decode cX12_cheese 6 = .ok (.iload_n 1, 1) := by decide +kernel
theorem dX12_cheese_7 : decode cX12_cheese 7 = .ok (.invokevirtual 461, 3) := by decide +kernel
theorem dX12_cheese_10 : decode cX12_cheese 10 = .ok (.ifCond .eq 13, 3) := by decide +kernel
theorem dX12_cheese_23 : decode cX12_cheese 23 = .ok (.aload_n 0, 1) := by decide +kernel
theorem dX12_cheese_24 : decode cX12_cheese 24 = .ok (.iconst 1, 1) := by decide +kernel
theorem dX12_cheese_25 : decode cX12_cheese 25 = .ok (.invokevirtual 76, 3) := by decide +kernel
theorem dX12_cheese_28 : decode cX12_cheese 28 = .ok (.ireturn, 1) := by decide +kernel
theorem dX12_cloud_0 : decode cX12_cloud 0 = .ok (.aload_n 0, 1) := by decide +kernel
theorem dX12_cloud_1 : decode cX12_cloud 1 = .ok (.iconst 0, 1) := by decide +kernel
theorem dX12_cloud_2 : decode cX12_cloud 2 = .ok (.putfield 70, 3) := by decide +kernel
theorem dX12_cloud_5 : decode cX12_cloud 5 = .ok (.aload_n 0, 1) := by decide +kernel
theorem dX12_cloud_6 : decode cX12_cloud 6 = .ok (.getfield 385, 3) := by decide +kernel
theorem dX12_cloud_9 : decode cX12_cloud 9 = .ok (.ifnonnull 9, 3) := by decide +kernel
theorem dX12_cloud_12 : decode cX12_cloud 12 = .ok (.aload_n 0, 1) := by decide +kernel
theorem dX12_cloud_13 : decode cX12_cloud 13 = .ok (.iconst 1, 1) := by decide +kernel
theorem dX12_cloud_14 : decode cX12_cloud 14 = .ok (.invokevirtual 507, 3) := by decide +kernel
theorem dX12_cloud_17 : decode cX12_cloud 17 = .ok (.ireturn, 1) := by decide +kernel
theorem dX12_denied_0 : decode cX12_denied 0 = .ok (.aload_n 0, 1) := by decide +kernel
theorem dX12_denied_1 : decode cX12_denied 1 = .ok (.iload_n 1, 1) := by decide +kernel
theorem dX12_denied_2 : decode cX12_denied 2 = .ok (.invokevirtual 76, 3) := by decide +kernel
theorem dX12_denied_5 : decode cX12_denied 5 = .ok (.pop, 1) := by decide +kernel
theorem dX12_denied_6 : decode cX12_denied 6 = .ok (.iconst 0, 1) := by decide +kernel
theorem dX12_denied_7 : decode cX12_denied 7 = .ok (.ireturn, 1) := by decide +kernel
theorem dX12_draw_0 : decode cX12_draw 0 = .ok (.aload_n 0, 1) := by decide +kernel
theorem dX12_draw_1 : decode cX12_draw 1 = .ok (.iconst 0, 1) := by decide +kernel
theorem dX12_draw_2 : decode cX12_draw 2 = .ok (.putfield 70, 3) := by decide +kernel
theorem dX12_draw_5 : decode cX12_draw 5 = .ok (.aload_n 0, 1) := by decide +kernel
theorem dX12_draw_6 : decode cX12_draw 6 = .ok (.getfield 385, 3) := by decide +kernel
theorem dX12_draw_9 : decode cX12_draw 9 = .ok (.ifnonnull 9, 3) := by decide +kernel
theorem dX12_draw_12 : decode cX12_draw 12 = .ok (.aload_n 0, 1) := by decide +kernel
theorem dX12_draw_13 : decode cX12_draw 13 = .ok (.iconst 1, 1) := by decide +kernel
theorem dX12_draw_14 : decode cX12_draw 14 = .ok (.invokevirtual 76, 3) := by decide +kernel
theorem dX12_draw_17 : decode cX12_draw 17 = .ok (.ireturn, 1) := by decide +kernel
theorem dX12_due_0 : decode cX12_due 0 = .ok (.aload_n 0, 1) := by decide +kernel
theorem dX12_due_1 : decode cX12_due 1 = .ok (.iconst 0, 1) := by decide +kernel
theorem dX12_due_2 : decode cX12_due 2 = .ok (.putfield 70, 3) := by decide +kernel
theorem dX12_due_5 : decode cX12_due 5 = .ok (.aload_n 0, 1) := by decide +kernel
theorem dX12_due_6 : decode cX12_due 6 = .ok (.getfield 385, 3) := by decide +kernel
theorem dX12_due_9 : decode cX12_due 9 = .ok (.ifnonnull 9, 3) := by decide +kernel
theorem dX12_due_12 : decode cX12_due 12 = .ok (.aload_n 0, 1) := by decide +kernel
theorem dX12_due_13 : decode cX12_due 13 = .ok (.iconst 1, 1) := by decide +kernel
theorem dX12_due_14 : decode cX12_due 14 = .ok (.invokevirtual 76, 3) := by decide +kernel
theorem dX12_due_17 : decode cX12_due 17 = .ok (.ireturn, 1) := by decide +kernel
theorem dX12_event_0 : decode cX12_event 0 = .ok (.aload_n 0, 1) := by decide +kernel
theorem dX12_event_1 : decode cX12_event 1 = .ok (.iconst 0, 1) := by decide +kernel
theorem dX12_event_2 : decode cX12_event 2 = .ok (.putfield 70, 3) := by decide +kernel
theorem dX12_event_5 : decode cX12_event 5 = .ok (.aload_n 0, 1) := by decide +kernel
theorem dX12_event_6 : decode cX12_event 6 = .ok (.iload_n 1, 1) := by decide +kernel
theorem dX12_event_7 : decode cX12_event 7 = .ok (.invokevirtual 467, 3) := by decide +kernel
theorem dX12_event_10 : decode cX12_event 10 = .ok (.ifCond .eq 12, 3) := by decide +kernel
theorem dX12_event_22 : decode cX12_event 22 = .ok (.aload_n 0, 1) := by decide +kernel
theorem dX12_event_23 : decode cX12_event 23 = .ok (.iconst 1, 1) := by decide +kernel
theorem dX12_event_24 : decode cX12_event 24 = .ok (.invokevirtual 76, 3) := by decide +kernel
theorem dX12_event_27 : decode cX12_event 27 = .ok (.ireturn, 1) := by decide +kernel
theorem dX12_fault_0 : decode cX12_fault 0 = .ok (.aload_n 0, 1) := by decide +kernel
theorem dX12_fault_1 : decode cX12_fault 1 = .ok (.iconst 0, 1) := by decide +kernel
theorem dX12_fault_2 : decode cX12_fault 2 = .ok (.putfield 70, 3) := by decide +kernel
theorem dX12_fault_5 : decode cX12_fault 5 = .ok (.aload_n 0, 1) := by decide +kernel
theorem dX12_fault_6 : decode cX12_fault 6 = .ok (.getfield 128, 3) := by decide +kernel
theorem dX12_fault_9 : decode cX12_fault 9 = .ok (.ireturn, 1) := by decide +kernel
theorem dX12_feed_0 : decode cX12_feed 0 = .ok (.aload_n 0, 1) := by decide +kernel
theorem dX12_feed_1 : decode cX12_feed 1 = .ok (.iconst 0, 1) := by decide +kernel
theorem dX12_feed_2 : decode cX12_feed 2 = .ok (.putfield 70, 3) := by decide +kernel
theorem dX12_feed_5 : decode cX12_feed 5 = .ok (.aload_n 0, 1) := by decide +kernel
theorem dX12_feed_6 : decode cX12_feed 6 = .ok (.getfield 378, 3) := by decide +kernel
theorem dX12_feed_9 : decode cX12_feed 9 = .ok (.bipush 20, 2) := by decide +kernel
theorem dX12_feed_11 : decode cX12_feed 11 = .ok (.iadd, 1) := by decide +kernel
theorem dX12_feed_12 : decode cX12_feed 12 = .ok (.sipush 900, 3) := by decide +kernel
theorem dX12_feed_15 : decode cX12_feed 15 = .ok (.if_icmp .le 5, 3) := by decide +kernel
theorem dX12_feed_20 : decode cX12_feed 20 = .ok (.iconst 0, 1) := by decide +kernel
theorem dX12_feed_21 : decode cX12_feed 21 = .ok (.istore 6, 2) := by decide +kernel
theorem dX12_feed_23 : decode cX12_feed 23 = .ok (.iload 6, 2) := by decide +kernel
theorem dX12_feed_25 : decode cX12_feed 25 = .ok (.bipush 20, 2) := by decide +kernel
theorem dX12_feed_27 : decode cX12_feed 27 = .ok (.if_icmp .ge 90, 3) := by decide +kernel
theorem dX12_feed_30 : decode cX12_feed 30 = .ok (.iload 6, 2) := by decide +kernel
theorem dX12_feed_32 : decode cX12_feed 32 = .ok (.iconst 4, 1) := by decide +kernel
theorem dX12_feed_33 : decode cX12_feed 33 = .ok (.if_icmp .ge 7, 3) := by decide +kernel
theorem dX12_feed_36 : decode cX12_feed 36 = .ok (.iload_n 1, 1) := by decide +kernel
theorem dX12_feed_37 : decode cX12_feed 37 = .ok (.goto 39, 3) := by decide +kernel
theorem dX12_feed_40 : decode cX12_feed 40 = .ok (.iload 6, 2) := by decide +kernel
theorem dX12_feed_42 : decode cX12_feed 42 = .ok (.bipush 8, 2) := by decide +kernel
theorem dX12_feed_44 : decode cX12_feed 44 = .ok (.if_icmp .ge 7, 3) := by decide +kernel
theorem dX12_feed_47 : decode cX12_feed 47 = .ok (.iload_n 2, 1) := by decide +kernel
theorem dX12_feed_48 : decode cX12_feed 48 = .ok (.goto 28, 3) := by decide +kernel
theorem dX12_feed_51 : decode cX12_feed 51 = .ok (.iload 6, 2) := by decide +kernel
theorem dX12_feed_53 : decode cX12_feed 53 = .ok (.bipush 12, 2) := by decide +kernel
theorem dX12_feed_55 : decode cX12_feed 55 = .ok (.if_icmp .ge 7, 3) := by decide +kernel
theorem dX12_feed_58 : decode cX12_feed 58 = .ok (.iload_n 3, 1) := by decide +kernel
theorem dX12_feed_59 : decode cX12_feed 59 = .ok (.goto 17, 3) := by decide +kernel
theorem dX12_feed_62 : decode cX12_feed 62 = .ok (.iload 6, 2) := by decide +kernel
theorem dX12_feed_64 : decode cX12_feed 64 = .ok (.bipush 16, 2) := by decide +kernel
theorem dX12_feed_66 : decode cX12_feed 66 = .ok (.if_icmp .ge 8, 3) := by decide +kernel
theorem dX12_feed_69 : decode cX12_feed 69 = .ok (.iload 4, 2) := by decide +kernel
theorem dX12_feed_71 : decode cX12_feed 71 = .ok (.goto 5, 3) := by decide +kernel
theorem dX12_feed_74 : decode cX12_feed 74 = .ok (.iload 5, 2) := by decide +kernel
theorem dX12_feed_76 : decode cX12_feed 76 = .ok (.istore 7, 2) := by decide +kernel
theorem dX12_feed_78 : decode cX12_feed 78 = .ok (.aload_n 0, 1) := by decide +kernel
theorem dX12_feed_79 : decode cX12_feed 79 = .ok (.getfield 13, 3) := by decide +kernel
theorem dX12_feed_82 : decode cX12_feed 82 = .ok (.aload_n 0, 1) := by decide +kernel
theorem dX12_feed_83 : decode cX12_feed 83 = .ok (.getfield 378, 3) := by decide +kernel
theorem dX12_feed_86 : decode cX12_feed 86 = .ok (.iload 7, 2) := by decide +kernel
theorem dX12_feed_88 : decode cX12_feed 88 = .ok (.bipush 24, 2) := by decide +kernel
theorem dX12_feed_90 : decode cX12_feed 90 = .ok (.bipush 8, 2) := by decide +kernel
theorem dX12_feed_92 : decode cX12_feed 92 = .ok (.iload 6, 2) := by decide +kernel
theorem dX12_feed_94 : decode cX12_feed 94 = .ok (.iconst 4, 1) := by decide +kernel
theorem dX12_feed_95 : decode cX12_feed 95 = .ok (.irem, 1) := by decide +kernel
theorem dX12_feed_96 : decode cX12_feed 96 = .ok (.imul, 1) := by decide +kernel
theorem dX12_feed_97 : decode cX12_feed 97 = .ok (.isub, 1) := by decide +kernel
theorem dX12_feed_98 : decode cX12_feed 98 = .ok (.ishr, 1) := by decide +kernel
theorem dX12_feed_99 : decode cX12_feed 99 = .ok (.i2b, 1) := by decide +kernel
theorem dX12_feed_100 : decode cX12_feed 100 = .ok (.bastore, 1) := by decide +kernel
theorem dX12_feed_101 : decode cX12_feed 101 = .ok (.aload_n 0, 1) := by decide +kernel
theorem dX12_feed_102 : decode cX12_feed 102 = .ok (.dup, 1) := by decide +kernel
theorem dX12_feed_103 : decode cX12_feed 103 = .ok (.getfield 378, 3) := by decide +kernel
theorem dX12_feed_106 : decode cX12_feed 106 = .ok (.iconst 1, 1) := by decide +kernel
theorem dX12_feed_107 : decode cX12_feed 107 = .ok (.iadd, 1) := by decide +kernel
theorem dX12_feed_108 : decode cX12_feed 108 = .ok (.putfield 378, 3) := by decide +kernel
theorem dX12_feed_111 : decode cX12_feed 111 = .ok (.iinc 6 1, 3) := by decide +kernel
theorem dX12_feed_114 : decode cX12_feed 114 = .ok (.goto (-91), 3) := by decide +kernel
theorem dX12_feed_117 : decode cX12_feed 117 = .ok (.aload_n 0, 1) := by decide +kernel
theorem dX12_feed_118 : decode cX12_feed 118 = .ok (.getfield 378, 3) := by decide +kernel
theorem dX12_feed_121 : decode cX12_feed 121 = .ok (.ireturn, 1) := by decide +kernel
theorem dX12_fewest_0 : decode cX12_fewest 0 = .ok (.aload_n 0, 1) := by decide +kernel
theorem dX12_fewest_1 : decode cX12_fewest 1 = .ok (.iconst 0, 1) := by decide +kernel
theorem dX12_fewest_2 : decode cX12_fewest 2 = .ok (.putfield 70, 3) := by decide +kernel
theorem dX12_fewest_5 : decode cX12_fewest 5 = .ok (.aload_n 0, 1) := by decide +kernel
theorem dX12_fewest_6 : decode cX12_fewest 6 = .ok (.getfield 385, 3) := by decide +kernel
theorem dX12_fewest_9 : decode cX12_fewest 9 = .ok (.ifnonnull 9, 3) := by decide +kernel
theorem dX12_fewest_12 : decode cX12_fewest 12 = .ok (.aload_n 0, 1) := by decide +kernel
theorem dX12_fewest_13 : decode cX12_fewest 13 = .ok (.iconst 1, 1) := by decide +kernel
theorem dX12_fewest_14 : decode cX12_fewest 14 = .ok (.invokevirtual 76, 3) := by decide +kernel
theorem dX12_fewest_17 : decode cX12_fewest 17 = .ok (.ireturn, 1) := by decide +kernel
theorem dX12_fewestBy_0 : decode cX12_fewestBy 0 = .ok (.aload_n 0, 1) := by decide +kernel
theorem dX12_fewestBy_1 : decode cX12_fewestBy 1 = .ok (.iconst 0, 1) := by decide +kernel
theorem dX12_fewestBy_2 : decode cX12_fewestBy 2 = .ok (.putfield 70, 3) := by decide +kernel
theorem dX12_fewestBy_5 : decode cX12_fewestBy 5 = .ok (.aload_n 0, 1) := by decide +kernel
theorem dX12_fewestBy_6 : decode cX12_fewestBy 6 = .ok (.getfield 385, 3) := by decide +kernel
theorem dX12_fewestBy_9 : decode cX12_fewestBy 9 = .ok (.ifnonnull 11, 3) := by decide +kernel
theorem dX12_fewestBy_12 : decode cX12_fewestBy 12 = .ok (.aload_n 0, 1) := by decide +kernel
theorem dX12_fewestBy_13 : decode cX12_fewestBy 13 = .ok (.iconst 1, 1) := by decide +kernel
theorem dX12_fewestBy_14 : decode cX12_fewestBy 14 = .ok (.invokevirtual 76, 3) := by decide +kernel
theorem dX12_fewestBy_17 : decode cX12_fewestBy 17 = .ok (.goto 11, 3) := by decide +kernel
theorem dX12_fewestBy_28 : decode cX12_fewestBy 28 = .ok (.ireturn, 1) := by decide +kernel
theorem dX12_fits_0 : decode cX12_fits 0 = .ok (.aload_n 0, 1) := by decide +kernel
theorem dX12_fits_1 : decode cX12_fits 1 = .ok (.iconst 0, 1) := by decide +kernel
theorem dX12_fits_2 : decode cX12_fits 2 = .ok (.putfield 70, 3) := by decide +kernel
theorem dX12_fits_5 : decode cX12_fits 5 = .ok (.aload_n 0, 1) := by decide +kernel
theorem dX12_fits_6 : decode cX12_fits 6 = .ok (.iload_n 1, 1) := by decide +kernel
theorem dX12_fits_7 : decode cX12_fits 7 = .ok (.invokevirtual 485, 3) := by decide +kernel
theorem dX12_fits_10 : decode cX12_fits 10 = .ok (.ifCond .ne 9, 3) := by decide +kernel
theorem dX12_fits_13 : decode cX12_fits 13 = .ok (.aload_n 0, 1) := by decide +kernel
theorem dX12_fits_14 : decode cX12_fits 14 = .ok (.iconst 1, 1) := by decide +kernel
theorem dX12_fits_15 : decode cX12_fits 15 = .ok (.invokevirtual 76, 3) := by decide +kernel
theorem dX12_fits_18 : decode cX12_fits 18 = .ok (.ireturn, 1) := by decide +kernel
theorem dX12_in_0 : decode cX12_in 0 = .ok (.iload_n 0, 1) := by decide +kernel
theorem dX12_in_1 : decode cX12_in 1 = .ok (.iload_n 1, 1) := by decide +kernel
theorem dX12_in_2 : decode cX12_in 2 = .ok (.if_icmp .lt 12, 3) := by decide +kernel
theorem dX12_in_5 : decode cX12_in 5 = .ok (.iload_n 0, 1) := by decide +kernel
theorem dX12_in_6 : decode cX12_in 6 = .ok (.iload_n 2, 1) := by decide +kernel
theorem dX12_in_7 : decode cX12_in 7 = .ok (.if_icmp .gt 7, 3) := by decide +kernel
theorem dX12_in_10 : decode cX12_in 10 = .ok (.iconst 1, 1) := by decide +kernel
theorem dX12_in_11 : decode cX12_in 11 = .ok (.goto 4, 3) := by decide +kernel
theorem dX12_in_14 : decode cX12_in 14 = .ok (.iconst 0, 1) := by decide +kernel
theorem dX12_in_15 : decode cX12_in 15 = .ok (.ireturn, 1) := by decide +kernel
theorem dX12_isCheese_0 : decode cX12_isCheese 0 = .ok (.aload_n 0, 1) := by decide +kernel
theorem dX12_isCheese_1 : decode cX12_isCheese 1 = .ok (.getfield 385, 3) := by decide +kernel
theorem dX12_isCheese_4 : decode cX12_isCheese 4 = .ok (.ifnull 22, 3) := by decide +kernel
theorem dX12_isCheese_26 : decode cX12_isCheese 26 = .ok (.iconst 0, 1) := by decide +kernel
theorem dX12_isCheese_27 : decode cX12_isCheese 27 = .ok (.ireturn, 1) := by decide +kernel
theorem dX12_isEvent_0 : decode cX12_isEvent 0 = .ok (.aload_n 0, 1) := by decide +kernel
theorem dX12_isEvent_1 : decode cX12_isEvent 1 = .ok (.getfield 385, 3) := by decide +kernel
theorem dX12_isEvent_4 : decode cX12_isEvent 4 = .ok (.ifnull 19, 3) := by decide +kernel
theorem dX12_isEvent_23 : decode cX12_isEvent 23 = .ok (.iconst 0, 1) := by decide +kernel
theorem dX12_isEvent_24 : decode cX12_isEvent 24 = .ok (.ireturn, 1) := by decide +kernel
theorem dX12_isHut_0 : decode cX12_isHut 0 = .ok (.aload_n 0, 1) := by decide +kernel
theorem dX12_isHut_1 : decode cX12_isHut 1 = .ok (.getfield 385, 3) := by decide +kernel
theorem dX12_isHut_4 : decode cX12_isHut 4 = .ok (.ifnull 22, 3) := by decide +kernel
theorem dX12_isHut_26 : decode cX12_isHut 26 = .ok (.iconst 0, 1) := by decide +kernel
theorem dX12_isHut_27 : decode cX12_isHut 27 = .ok (.ireturn, 1) := by decide +kernel
theorem dX12_isSlice_0 : decode cX12_isSlice 0 = .ok (.aload_n 0, 1) := by decide +kernel
theorem dX12_isSlice_1 : decode cX12_isSlice 1 = .ok (.getfield 385, 3) := by decide +kernel
theorem dX12_isSlice_4 : decode cX12_isSlice 4 = .ok (.ifnull 22, 3) := by decide +kernel
theorem dX12_isSlice_26 : decode cX12_isSlice 26 = .ok (.iconst 0, 1) := by decide +kernel
theorem dX12_isSlice_27 : decode cX12_isSlice 27 = .ok (.ireturn, 1) := by decide +kernel
theorem dX12_isTurner_0 : decode cX12_isTurner 0 = .ok (.aload_n 0, 1) := by decide +kernel
theorem dX12_isTurner_1 : decode cX12_isTurner 1 = .ok (.getfield 385, 3) := by decide +kernel
theorem dX12_isTurner_4 : decode cX12_isTurner 4 = .ok (.ifnull 22, 3) := by decide +kernel
theorem dX12_isTurner_26 : decode cX12_isTurner 26 = .ok (.iconst 0, 1) := by decide +kernel
theorem dX12_isTurner_27 : decode cX12_isTurner 27 = .ok (.ireturn, 1) := by decide +kernel
theorem dX12_lift_0 : decode cX12_lift 0 = .ok (.aload_n 0, 1) := by decide +kernel
theorem dX12_lift_1 : decode cX12_lift 1 = .ok (.iconst 0, 1) := by decide +kernel
theorem dX12_lift_2 : decode cX12_lift 2 = .ok (.putfield 70, 3) := by decide +kernel
theorem dX12_lift_5 : decode cX12_lift 5 = .ok (.aload_n 0, 1) := by decide +kernel
theorem dX12_lift_6 : decode cX12_lift 6 = .ok (.getfield 385, 3) := by decide +kernel
theorem dX12_lift_9 : decode cX12_lift 9 = .ok (.ifnull 12, 3) := by decide +kernel
theorem dX12_lift_21 : decode cX12_lift 21 = .ok (.aload_n 0, 1) := by decide +kernel
theorem dX12_lift_22 : decode cX12_lift 22 = .ok (.bipush 6, 2) := by decide +kernel
theorem dX12_lift_24 : decode cX12_lift 24 = .ok (.invokevirtual 507, 3) := by decide +kernel
theorem dX12_lift_27 : decode cX12_lift 27 = .ok (.ireturn, 1) := by decide +kernel
theorem dX12_light_0 : decode cX12_light 0 = .ok (.aload_n 0, 1) := by decide +kernel
theorem dX12_light_1 : decode cX12_light 1 = .ok (.iconst 0, 1) := by decide +kernel
theorem dX12_light_2 : decode cX12_light 2 = .ok (.putfield 70, 3) := by decide +kernel
theorem dX12_light_5 : decode cX12_light 5 = .ok (.aload_n 0, 1) := by decide +kernel
theorem dX12_light_6 : decode cX12_light 6 = .ok (.iload_n 1, 1) := by decide +kernel
theorem dX12_light_7 : decode cX12_light 7 = .ok (.invokevirtual 446, 3) := by decide +kernel
theorem dX12_light_10 : decode cX12_light 10 = .ok (.ifCond .ne 9, 3) := by decide +kernel
theorem dX12_light_13 : decode cX12_light 13 = .ok (.aload_n 0, 1) := by decide +kernel
theorem dX12_light_14 : decode cX12_light 14 = .ok (.iconst 1, 1) := by decide +kernel
theorem dX12_light_15 : decode cX12_light 15 = .ok (.invokevirtual 76, 3) := by decide +kernel
theorem dX12_light_18 : decode cX12_light 18 = .ok (.ireturn, 1) := by decide +kernel
theorem dX12_lost_0 : decode cX12_lost 0 = .ok (.aload_n 0, 1) := by decide +kernel
theorem dX12_lost_1 : decode cX12_lost 1 = .ok (.iload_n 1, 1) := by decide +kernel
theorem dX12_lost_2 : decode cX12_lost 2 = .ok (.invokevirtual 76, 3) := by decide +kernel
theorem dX12_lost_5 : decode cX12_lost 5 = .ok (.pop, 1) := by decide +kernel
theorem dX12_lost_6 : decode cX12_lost 6 = .ok (.ldc 80, 2) := by decide +kernel
theorem dX12_lost_8 : decode cX12_lost 8 = .ok (.ireturn, 1) := by decide +kernel
theorem dX12_mark_0 : decode cX12_mark 0 = .ok (.aload_n 0, 1) := by decide +kernel
theorem dX12_mark_1 : decode cX12_mark 1 = .ok (.iconst 0, 1) := by decide +kernel
theorem dX12_mark_2 : decode cX12_mark 2 = .ok (.putfield 70, 3) := by decide +kernel
theorem dX12_mark_5 : decode cX12_mark 5 = .ok (.aload_n 0, 1) := by decide +kernel
theorem dX12_mark_6 : decode cX12_mark 6 = .ok (.getfield 385, 3) := by decide +kernel
theorem dX12_mark_9 : decode cX12_mark 9 = .ok (.ifnonnull 9, 3) := by decide +kernel
theorem dX12_mark_12 : decode cX12_mark 12 = .ok (.aload_n 0, 1) := by decide +kernel
theorem dX12_mark_13 : decode cX12_mark 13 = .ok (.iconst 1, 1) := by decide +kernel
theorem dX12_mark_14 : decode cX12_mark 14 = .ok (.invokevirtual 76, 3) := by decide +kernel
theorem dX12_mark_17 : decode cX12_mark 17 = .ok (.ireturn, 1) := by decide +kernel
theorem dX12_nights_0 : decode cX12_nights 0 = .ok (.aload_n 0, 1) := by decide +kernel
theorem dX12_nights_1 : decode cX12_nights 1 = .ok (.iconst 0, 1) := by decide +kernel
theorem dX12_nights_2 : decode cX12_nights 2 = .ok (.putfield 70, 3) := by decide +kernel
theorem dX12_nights_5 : decode cX12_nights 5 = .ok (.aload_n 0, 1) := by decide +kernel
theorem dX12_nights_6 : decode cX12_nights 6 = .ok (.getfield 385, 3) := by decide +kernel
theorem dX12_nights_9 : decode cX12_nights 9 = .ok (.ifnonnull 9, 3) := by decide +kernel
theorem dX12_nights_12 : decode cX12_nights 12 = .ok (.aload_n 0, 1) := by decide +kernel
theorem dX12_nights_13 : decode cX12_nights 13 = .ok (.iconst 1, 1) := by decide +kernel
theorem dX12_nights_14 : decode cX12_nights 14 = .ok (.invokevirtual 458, 3) := by decide +kernel
theorem dX12_nights_17 : decode cX12_nights 17 = .ok (.ireturn, 1) := by decide +kernel
theorem dX12_notices_0 : decode cX12_notices 0 = .ok (.aload_n 0, 1) := by decide +kernel
theorem dX12_notices_1 : decode cX12_notices 1 = .ok (.iconst 0, 1) := by decide +kernel
theorem dX12_notices_2 : decode cX12_notices 2 = .ok (.putfield 70, 3) := by decide +kernel
theorem dX12_notices_5 : decode cX12_notices 5 = .ok (.aload_n 0, 1) := by decide +kernel
theorem dX12_notices_6 : decode cX12_notices 6 = .ok (.iload_n 1, 1) := by decide +kernel
theorem dX12_notices_7 : decode cX12_notices 7 = .ok (.invokevirtual 452, 3) := by decide +kernel
theorem dX12_notices_10 : decode cX12_notices 10 = .ok (.ifCond .eq 11, 3) := by decide +kernel
theorem dX12_notices_21 : decode cX12_notices 21 = .ok (.aload_n 0, 1) := by decide +kernel
theorem dX12_notices_22 : decode cX12_notices 22 = .ok (.iconst 1, 1) := by decide +kernel
theorem dX12_notices_23 : decode cX12_notices 23 = .ok (.invokevirtual 76, 3) := by decide +kernel
theorem dX12_notices_26 : decode cX12_notices 26 = .ok (.ireturn, 1) := by decide +kernel
theorem dX12_peak_0 : decode cX12_peak 0 = .ok (.aload_n 0, 1) := by decide +kernel
theorem dX12_peak_1 : decode cX12_peak 1 = .ok (.iconst 0, 1) := by decide +kernel
theorem dX12_peak_2 : decode cX12_peak 2 = .ok (.putfield 70, 3) := by decide +kernel
theorem dX12_peak_5 : decode cX12_peak 5 = .ok (.aload_n 0, 1) := by decide +kernel
theorem dX12_peak_6 : decode cX12_peak 6 = .ok (.getfield 385, 3) := by decide +kernel
theorem dX12_peak_9 : decode cX12_peak 9 = .ok (.ifnonnull 9, 3) := by decide +kernel
theorem dX12_peak_12 : decode cX12_peak 12 = .ok (.aload_n 0, 1) := by decide +kernel
theorem dX12_peak_13 : decode cX12_peak 13 = .ok (.iconst 1, 1) := by decide +kernel
theorem dX12_peak_14 : decode cX12_peak 14 = .ok (.invokevirtual 76, 3) := by decide +kernel
theorem dX12_peak_17 : decode cX12_peak 17 = .ok (.ireturn, 1) := by decide +kernel
theorem dX12_refused_0 : decode cX12_refused 0 = .ok (.aload_n 0, 1) := by decide +kernel
theorem dX12_refused_1 : decode cX12_refused 1 = .ok (.iload_n 1, 1) := by decide +kernel
theorem dX12_refused_2 : decode cX12_refused 2 = .ok (.putfield 73, 3) := by decide +kernel
theorem dX12_refused_5 : decode cX12_refused 5 = .ok (.aload_n 0, 1) := by decide +kernel
theorem dX12_refused_6 : decode cX12_refused 6 = .ok (.iconst (-1), 1) := by decide +kernel
theorem dX12_refused_7 : decode cX12_refused 7 = .ok (.putfield 9, 3) := by decide +kernel
theorem dX12_refused_10 : decode cX12_refused 10 = .ok (.iconst (-1), 1) := by decide +kernel
theorem dX12_refused_11 : decode cX12_refused 11 = .ok (.ireturn, 1) := by decide +kernel
theorem dX12_seed_0 : decode cX12_seed 0 = .ok (.aload_n 0, 1) := by decide +kernel
theorem dX12_seed_1 : decode cX12_seed 1 = .ok (.iconst 0, 1) := by decide +kernel
theorem dX12_seed_2 : decode cX12_seed 2 = .ok (.putfield 70, 3) := by decide +kernel
theorem dX12_seed_5 : decode cX12_seed 5 = .ok (.aload_n 0, 1) := by decide +kernel
theorem dX12_seed_6 : decode cX12_seed 6 = .ok (.getfield 385, 3) := by decide +kernel
theorem dX12_seed_9 : decode cX12_seed 9 = .ok (.ifnonnull 9, 3) := by decide +kernel
theorem dX12_seed_12 : decode cX12_seed 12 = .ok (.aload_n 0, 1) := by decide +kernel
theorem dX12_seed_13 : decode cX12_seed 13 = .ok (.iconst 1, 1) := by decide +kernel
theorem dX12_seed_14 : decode cX12_seed 14 = .ok (.invokevirtual 507, 3) := by decide +kernel
theorem dX12_seed_17 : decode cX12_seed 17 = .ok (.ireturn, 1) := by decide +kernel
theorem dX12_size_0 : decode cX12_size 0 = .ok (.aload_n 0, 1) := by decide +kernel
theorem dX12_size_1 : decode cX12_size 1 = .ok (.iconst 0, 1) := by decide +kernel
theorem dX12_size_2 : decode cX12_size 2 = .ok (.putfield 70, 3) := by decide +kernel
theorem dX12_size_5 : decode cX12_size 5 = .ok (.iload_n 1, 1) := by decide +kernel
theorem dX12_size_6 : decode cX12_size 6 = .ok (.bipush 12, 2) := by decide +kernel
theorem dX12_size_8 : decode cX12_size 8 = .ok (.if_icmp .ne 8, 3) := by decide +kernel
theorem dX12_size_11 : decode cX12_size 11 = .ok (.aload_n 0, 1) := by decide +kernel
theorem dX12_size_12 : decode cX12_size 12 = .ok (.getfield 378, 3) := by decide +kernel
theorem dX12_size_15 : decode cX12_size 15 = .ok (.ireturn, 1) := by decide +kernel
theorem dX12_size_16 : decode cX12_size 16 = .ok (.iload_n 1, 1) := by decide +kernel
theorem dX12_size_17 : decode cX12_size 17 = .ok (.iconst 0, 1) := by decide +kernel
theorem dX12_size_18 : decode cX12_size 18 = .ok (.bipush 11, 2) := by decide +kernel
theorem dX12_size_20 : decode cX12_size 20 = .ok (.invokestatic 149, 3) := by decide +kernel
theorem dX12_size_23 : decode cX12_size 23 = .ok (.ifCond .ne 5, 3) := by decide +kernel
theorem dX12_size_26 : decode cX12_size 26 = .ok (.iconst (-1), 1) := by decide +kernel
theorem dX12_size_27 : decode cX12_size 27 = .ok (.ireturn, 1) := by decide +kernel
theorem dX12_size_28 : decode cX12_size 28 = .ok (.aload_n 0, 1) := by decide +kernel
theorem dX12_size_29 : decode cX12_size 29 = .ok (.getfield 385, 3) := by decide +kernel
theorem dX12_size_32 : decode cX12_size 32 = .ok (.ifnonnull 5, 3) := by decide +kernel
theorem dX12_size_35 : decode cX12_size 35 = .ok (.iconst 0, 1) := by decide +kernel
theorem dX12_size_36 : decode cX12_size 36 = .ok (.ireturn, 1) := by decide +kernel
theorem dX12_sky_0 : decode cX12_sky 0 = .ok (.aload_n 0, 1) := by decide +kernel
theorem dX12_sky_1 : decode cX12_sky 1 = .ok (.iconst 0, 1) := by decide +kernel
theorem dX12_sky_2 : decode cX12_sky 2 = .ok (.putfield 70, 3) := by decide +kernel
theorem dX12_sky_5 : decode cX12_sky 5 = .ok (.aload_n 0, 1) := by decide +kernel
theorem dX12_sky_6 : decode cX12_sky 6 = .ok (.getfield 385, 3) := by decide +kernel
theorem dX12_sky_9 : decode cX12_sky 9 = .ok (.ifnonnull 9, 3) := by decide +kernel
theorem dX12_sky_12 : decode cX12_sky 12 = .ok (.aload_n 0, 1) := by decide +kernel
theorem dX12_sky_13 : decode cX12_sky 13 = .ok (.iconst 1, 1) := by decide +kernel
theorem dX12_sky_14 : decode cX12_sky 14 = .ok (.invokevirtual 76, 3) := by decide +kernel
theorem dX12_sky_17 : decode cX12_sky 17 = .ok (.ireturn, 1) := by decide +kernel
theorem dX12_total_0 : decode cX12_total 0 = .ok (.aload_n 0, 1) := by decide +kernel
theorem dX12_total_1 : decode cX12_total 1 = .ok (.iconst 0, 1) := by decide +kernel
theorem dX12_total_2 : decode cX12_total 2 = .ok (.putfield 70, 3) := by decide +kernel
theorem dX12_total_5 : decode cX12_total 5 = .ok (.aload_n 0, 1) := by decide +kernel
theorem dX12_total_6 : decode cX12_total 6 = .ok (.getfield 385, 3) := by decide +kernel
theorem dX12_total_9 : decode cX12_total 9 = .ok (.ifnonnull 11, 3) := by decide +kernel
theorem dX12_total_12 : decode cX12_total 12 = .ok (.aload_n 0, 1) := by decide +kernel
theorem dX12_total_13 : decode cX12_total 13 = .ok (.iconst 1, 1) := by decide +kernel
theorem dX12_total_14 : decode cX12_total 14 = .ok (.invokevirtual 458, 3) := by decide +kernel
theorem dX12_total_17 : decode cX12_total 17 = .ok (.goto 11, 3) := by decide +kernel
theorem dX12_total_28 : decode cX12_total 28 = .ok (.ireturn, 1) := by decide +kernel
theorem dX12_trouble_0 : decode cX12_trouble 0 = .ok (.aload_n 0, 1) := by decide +kernel
theorem dX12_trouble_1 : decode cX12_trouble 1 = .ok (.iconst 0, 1) := by decide +kernel
theorem dX12_trouble_2 : decode cX12_trouble 2 = .ok (.putfield 70, 3) := by decide +kernel
theorem dX12_trouble_5 : decode cX12_trouble 5 = .ok (.aload_n 0, 1) := by decide +kernel
theorem dX12_trouble_6 : decode cX12_trouble 6 = .ok (.getfield 73, 3) := by decide +kernel
theorem dX12_trouble_9 : decode cX12_trouble 9 = .ok (.ireturn, 1) := by decide +kernel
theorem dX12_turned_0 : decode cX12_turned 0 = .ok (.aload_n 0, 1) := by decide +kernel
theorem dX12_turned_1 : decode cX12_turned 1 = .ok (.iconst 0, 1) := by decide +kernel
theorem dX12_turned_2 : decode cX12_turned 2 = .ok (.putfield 70, 3) := by decide +kernel
theorem dX12_turned_5 : decode cX12_turned 5 = .ok (.aload_n 0, 1) := by decide +kernel
theorem dX12_turned_6 : decode cX12_turned 6 = .ok (.iload_n 1, 1) := by decide +kernel
theorem dX12_turned_7 : decode cX12_turned 7 = .ok (.invokevirtual 461, 3) := by decide +kernel
theorem dX12_turned_10 : decode cX12_turned 10 = .ok (.ifCond .ne 9, 3) := by decide +kernel
theorem dX12_turned_13 : decode cX12_turned 13 = .ok (.aload_n 0, 1) := by decide +kernel
theorem dX12_turned_14 : decode cX12_turned 14 = .ok (.iconst 1, 1) := by decide +kernel
theorem dX12_turned_15 : decode cX12_turned 15 = .ok (.invokevirtual 76, 3) := by decide +kernel
theorem dX12_turned_18 : decode cX12_turned 18 = .ok (.ireturn, 1) := by decide +kernel
theorem dX12_undo_0 : decode cX12_undo 0 = .ok (.aload_n 0, 1) := by decide +kernel
theorem dX12_undo_1 : decode cX12_undo 1 = .ok (.iconst 0, 1) := by decide +kernel
theorem dX12_undo_2 : decode cX12_undo 2 = .ok (.putfield 70, 3) := by decide +kernel
theorem dX12_undo_5 : decode cX12_undo 5 = .ok (.aload_n 0, 1) := by decide +kernel
theorem dX12_undo_6 : decode cX12_undo 6 = .ok (.getfield 385, 3) := by decide +kernel
theorem dX12_undo_9 : decode cX12_undo 9 = .ok (.ifnull 10, 3) := by decide +kernel
theorem dX12_undo_19 : decode cX12_undo 19 = .ok (.aload_n 0, 1) := by decide +kernel
theorem dX12_undo_20 : decode cX12_undo 20 = .ok (.bipush 6, 2) := by decide +kernel
theorem dX12_undo_22 : decode cX12_undo 22 = .ok (.invokevirtual 507, 3) := by decide +kernel
theorem dX12_undo_25 : decode cX12_undo 25 = .ok (.ireturn, 1) := by decide +kernel
theorem dX12_up_0 : decode cX12_up 0 = .ok (.aload_n 0, 1) := by decide +kernel
theorem dX12_up_1 : decode cX12_up 1 = .ok (.iconst 0, 1) := by decide +kernel
theorem dX12_up_2 : decode cX12_up 2 = .ok (.putfield 70, 3) := by decide +kernel
theorem dX12_up_5 : decode cX12_up 5 = .ok (.aload_n 0, 1) := by decide +kernel
theorem dX12_up_6 : decode cX12_up 6 = .ok (.iload_n 1, 1) := by decide +kernel
theorem dX12_up_7 : decode cX12_up 7 = .ok (.invokevirtual 461, 3) := by decide +kernel
theorem dX12_up_10 : decode cX12_up 10 = .ok (.ifCond .ne 9, 3) := by decide +kernel
theorem dX12_up_13 : decode cX12_up 13 = .ok (.aload_n 0, 1) := by decide +kernel
theorem dX12_up_14 : decode cX12_up 14 = .ok (.iconst 1, 1) := by decide +kernel
theorem dX12_up_15 : decode cX12_up 15 = .ok (.invokevirtual 76, 3) := by decide +kernel
theorem dX12_up_18 : decode cX12_up 18 = .ok (.ireturn, 1) := by decide +kernel
theorem dX12_vein_0 : decode cX12_vein 0 = .ok (.aload_n 0, 1) := by decide +kernel
theorem dX12_vein_1 : decode cX12_vein 1 = .ok (.iconst 0, 1) := by decide +kernel
theorem dX12_vein_2 : decode cX12_vein 2 = .ok (.putfield 70, 3) := by decide +kernel
theorem dX12_vein_5 : decode cX12_vein 5 = .ok (.aload_n 0, 1) := by decide +kernel
theorem dX12_vein_6 : decode cX12_vein 6 = .ok (.iload_n 1, 1) := by decide +kernel
theorem dX12_vein_7 : decode cX12_vein 7 = .ok (.invokevirtual 461, 3) := by decide +kernel
theorem dX12_vein_10 : decode cX12_vein 10 = .ok (.ifCond .ne 9, 3) := by decide +kernel
theorem dX12_vein_13 : decode cX12_vein 13 = .ok (.aload_n 0, 1) := by decide +kernel
theorem dX12_vein_14 : decode cX12_vein 14 = .ok (.iconst 1, 1) := by decide +kernel
theorem dX12_vein_15 : decode cX12_vein 15 = .ok (.invokevirtual 76, 3) := by decide +kernel
theorem dX12_vein_18 : decode cX12_vein 18 = .ok (.ireturn, 1) := by decide +kernel
theorem dX12_wake_0 : decode cX12_wake 0 = .ok (.aload_n 0, 1) := by decide +kernel
theorem dX12_wake_1 : decode cX12_wake 1 = .ok (.iconst 0, 1) := by decide +kernel
theorem dX12_wake_2 : decode cX12_wake 2 = .ok (.putfield 70, 3) := by decide +kernel
theorem dX12_wake_5 : decode cX12_wake 5 = .ok (.aload_n 0, 1) := by decide +kernel
theorem dX12_wake_6 : decode cX12_wake 6 = .ok (.getfield 385, 3) := by decide +kernel
theorem dX12_wake_9 : decode cX12_wake 9 = .ok (.ifnonnull 11, 3) := by decide +kernel
theorem dX12_wake_12 : decode cX12_wake 12 = .ok (.aload_n 0, 1) := by decide +kernel
theorem dX12_wake_13 : decode cX12_wake 13 = .ok (.iconst 1, 1) := by decide +kernel
theorem dX12_wake_14 : decode cX12_wake 14 = .ok (.invokevirtual 76, 3) := by decide +kernel
theorem dX12_wake_17 : decode cX12_wake 17 = .ok (.goto 11, 3) := by decide +kernel
theorem dX12_wake_28 : decode cX12_wake 28 = .ok (.ireturn, 1) := by decide +kernel
theorem dX12_wakeTotal_0 : decode cX12_wakeTotal 0 = .ok (.aload_n 0, 1) := by decide +kernel
theorem dX12_wakeTotal_1 : decode cX12_wakeTotal 1 = .ok (.iconst 0, 1) := by decide +kernel
theorem dX12_wakeTotal_2 : decode cX12_wakeTotal 2 = .ok (.putfield 70, 3) := by decide +kernel
theorem dX12_wakeTotal_5 : decode cX12_wakeTotal 5 = .ok (.aload_n 0, 1) := by decide +kernel
theorem dX12_wakeTotal_6 : decode cX12_wakeTotal 6 = .ok (.getfield 385, 3) := by decide +kernel
theorem dX12_wakeTotal_9 : decode cX12_wakeTotal 9 = .ok (.ifnonnull 9, 3) := by decide +kernel
theorem dX12_wakeTotal_12 : decode cX12_wakeTotal 12 = .ok (.aload_n 0, 1) := by decide +kernel
theorem dX12_wakeTotal_13 : decode cX12_wakeTotal 13 = .ok (.iconst 1, 1) := by decide +kernel
theorem dX12_wakeTotal_14 : decode cX12_wakeTotal 14 = .ok (.invokevirtual 458, 3) := by decide +kernel
theorem dX12_wakeTotal_17 : decode cX12_wakeTotal 17 = .ok (.ireturn, 1) := by decide +kernel
theorem dX12_where_0 : decode cX12_where 0 = .ok (.aload_n 0, 1) := by decide +kernel
theorem dX12_where_1 : decode cX12_where 1 = .ok (.iconst 0, 1) := by decide +kernel
theorem dX12_where_2 : decode cX12_where 2 = .ok (.putfield 70, 3) := by decide +kernel
theorem dX12_where_5 : decode cX12_where 5 = .ok (.aload_n 0, 1) := by decide +kernel
theorem dX12_where_6 : decode cX12_where 6 = .ok (.getfield 9, 3) := by decide +kernel
theorem dX12_where_9 : decode cX12_where 9 = .ok (.ireturn, 1) := by decide +kernel
theorem dX12_without_0 : decode cX12_without 0 = .ok (.aload_n 0, 1) := by decide +kernel
theorem dX12_without_1 : decode cX12_without 1 = .ok (.iconst 0, 1) := by decide +kernel
theorem dX12_without_2 : decode cX12_without 2 = .ok (.putfield 70, 3) := by decide +kernel
theorem dX12_without_5 : decode cX12_without 5 = .ok (.aload_n 0, 1) := by decide +kernel
theorem dX12_without_6 : decode cX12_without 6 = .ok (.iload_n 1, 1) := by decide +kernel
theorem dX12_without_7 : decode cX12_without 7 = .ok (.invokevirtual 467, 3) := by decide +kernel
theorem dX12_without_10 : decode cX12_without 10 = .ok (.ifCond .ne 9, 3) := by decide +kernel
theorem dX12_without_13 : decode cX12_without 13 = .ok (.aload_n 0, 1) := by decide +kernel
theorem dX12_without_14 : decode cX12_without 14 = .ok (.iconst 1, 1) := by decide +kernel
theorem dX12_without_15 : decode cX12_without 15 = .ok (.invokevirtual 458, 3) := by decide +kernel
theorem dX12_without_18 : decode cX12_without 18 = .ok (.ireturn, 1) := by decide +kernel
theorem dX12_work_0 : decode cX12_work 0 = .ok (.aload_n 0, 1) := by decide +kernel
theorem dX12_work_1 : decode cX12_work 1 = .ok (.iconst 0, 1) := by decide +kernel
theorem dX12_work_2 : decode cX12_work 2 = .ok (.putfield 70, 3) := by decide +kernel
theorem dX12_work_5 : decode cX12_work 5 = .ok (.aload_n 0, 1) := by decide +kernel
theorem dX12_work_6 : decode cX12_work 6 = .ok (.iload_n 1, 1) := by decide +kernel
theorem dX12_work_7 : decode cX12_work 7 = .ok (.invokevirtual 452, 3) := by decide +kernel
theorem dX12_work_10 : decode cX12_work 10 = .ok (.ifCond .eq 12, 3) := by decide +kernel
theorem dX12_work_22 : decode cX12_work 22 = .ok (.aload_n 0, 1) := by decide +kernel
theorem dX12_work_23 : decode cX12_work 23 = .ok (.iconst 1, 1) := by decide +kernel
theorem dX12_work_24 : decode cX12_work 24 = .ok (.invokevirtual 76, 3) := by decide +kernel
theorem dX12_work_27 : decode cX12_work 27 = .ok (.ireturn, 1) := by decide +kernel
theorem dX12_worth_0 : decode cX12_worth 0 = .ok (.aload_n 0, 1) := by decide +kernel
theorem dX12_worth_1 : decode cX12_worth 1 = .ok (.iconst 0, 1) := by decide +kernel
theorem dX12_worth_2 : decode cX12_worth 2 = .ok (.putfield 70, 3) := by decide +kernel
theorem dX12_worth_5 : decode cX12_worth 5 = .ok (.aload_n 0, 1) := by decide +kernel
theorem dX12_worth_6 : decode cX12_worth 6 = .ok (.iload_n 1, 1) := by decide +kernel
theorem dX12_worth_7 : decode cX12_worth 7 = .ok (.invokevirtual 452, 3) := by decide +kernel
theorem dX12_worth_10 : decode cX12_worth 10 = .ok (.ifCond .ne 9, 3) := by decide +kernel
theorem dX12_worth_13 : decode cX12_worth 13 = .ok (.aload_n 0, 1) := by decide +kernel
theorem dX12_worth_14 : decode cX12_worth 14 = .ok (.iconst 1, 1) := by decide +kernel
theorem dX12_worth_15 : decode cX12_worth 15 = .ok (.invokevirtual 458, 3) := by decide +kernel
theorem dX12_worth_18 : decode cX12_worth 18 = .ok (.ireturn, 1) := by decide +kernel
theorem dX6_goBack_0 : decode cX6_goBack 0 = .ok (.iload_n 2, 1) := by decide +kernel
theorem dX6_goBack_1 : decode cX6_goBack 1 = .ok (.ifCond .lt 11, 3) := by decide +kernel
theorem dX6_goBack_4 : decode cX6_goBack 4 = .ok (.iload_n 2, 1) := by decide +kernel
theorem dX6_goBack_5 : decode cX6_goBack 5 = .ok (.aload_n 0, 1) := by decide +kernel
theorem dX6_goBack_6 : decode cX6_goBack 6 = .ok (.getfield 25, 3) := by decide +kernel
theorem dX6_goBack_9 : decode cX6_goBack 9 = .ok (.if_icmp .lt 5, 3) := by decide +kernel
theorem dX6_goBack_12 : decode cX6_goBack 12 = .ok (.iconst 0, 1) := by decide +kernel
theorem dX6_goBack_13 : decode cX6_goBack 13 = .ok (.ireturn, 1) := by decide +kernel
theorem dX6_takeBack_0 : decode cX6_takeBack 0 = .ok (.aload_n 0, 1) := by decide +kernel
theorem dX6_takeBack_1 : decode cX6_takeBack 1 = .ok (.getfield 21, 3) := by decide +kernel
theorem dX6_takeBack_4 : decode cX6_takeBack 4 = .ok (.ifCond .ne 5, 3) := by decide +kernel
theorem dX6_takeBack_7 : decode cX6_takeBack 7 = .ok (.iconst 0, 1) := by decide +kernel
theorem dX6_takeBack_8 : decode cX6_takeBack 8 = .ok (.ireturn, 1) := by decide +kernel
set_option maxHeartbeats 4000000 in
set_option maxRecDepth 100000 in
theorem fX10_feed (a b c d e : Int32) {l : Launch} {K N : Nat → Nat} {I : cz_I} {R : cz_R} {L : cz_L} (hf : cz_f1 K N I R) : Con l mX10_feed [.ref 0, .int a, .int b, .int c, .int d, .int e] 203 K N I R L (fun r cn' K' N' I' R' _ => r = some (.int (20)) ∧ cn' = 203 ∧ K' = K ∧ N' = N ∧ ∀ k : Nat, 183 ≤ k → I' k = I k ∧ R' k = R k) := by
  obtain ⟨hK, hN, hR, hI⟩ := hf
  refine Con.of (by decide +kernel) rfl (Nat.le_of_ble_eq_true rfl) rfl (fun X1 hX1 zX1 => ?_)
  refine tr_aload_n dX10_feed_0 rfl ?_
  refine tr_getI dX10_feed_1 fl10_71 (hK 0 10 (by decide) kd_0) ?_
  refine tr_topi 0 (hI 0 1 (by decide +kernel)) ?_
  refine tr_bipush (v := 20) dX10_feed_4 (by decide +kernel) ?_
  refine tr_iadd dX10_feed_6 ?_
  refine tr_topi 20 (by decide +kernel) ?_
  refine tr_sipush (v := 900) dX10_feed_7 (by decide +kernel) ?_
  refine tr_icmp_le 15 dX10_feed_10 (by decide) (fun _ => ?_) (fun h => absurd (by decide +kernel) h)
  refine tr_aload_n dX10_feed_15 rfl ?_
  refine tr_iload_n dX10_feed_16 rfl ?_
  refine tr_inVv (M' := mX10_putBytes) (as := [_]) dX10_feed_17 lk10_75 inX10_putBytes seX10_putBytes myX10_putBytes (by decide) ⟨by decide, by decide⟩ rfl (hK 0 10 (by decide) kd_0) (Nat.le_of_ble_eq_true rfl) (by decide) (by decide) (Con.of (by decide +kernel) rfl (Nat.le_of_ble_eq_true rfl) rfl (fun X2 hX2 zX2 => ?_))
  refine tr_bipush (v := 24) dX10_putBytes_0 (by decide +kernel) ?_
  refine tr_istore_n dX10_putBytes_2 (by decide) (by decide) ?_
  refine tr_iload_n dX10_putBytes_3 rfl ?_
  refine tr_if_lt 36 dX10_putBytes_4 (by decide) (fun h => absurd h (by decide +kernel)) (fun _ => ?_)
  refine tr_aload_n dX10_putBytes_7 rfl ?_
  refine tr_getR (x := 1) dX10_putBytes_8 fl10_9 (hK 0 10 (by decide) kd_0) (hR 0 0 (some 1) (by decide +kernel) rf_0_0) ?_
  refine tr_aload_n dX10_putBytes_11 rfl ?_
  refine tr_getI dX10_putBytes_12 fl10_71 (hK 0 10 (by decide) kd_0) ?_
  refine tr_topi 0 (hI 0 1 (by decide +kernel)) ?_
  refine tr_iload_n dX10_putBytes_15 rfl ?_
  refine tr_iload_n dX10_putBytes_16 rfl ?_
  refine tr_ishr dX10_putBytes_17 ?_
  refine tr_i2b dX10_putBytes_18 ?_
  refine tr_bast dX10_putBytes_19 (hK 1 13 (by decide) kd_1) (cz_inl 900 (hN 1 900 (by decide) ln_1) (by decide +kernel)) ?_
  refine tr_aload_n dX10_putBytes_20 rfl ?_
  refine tr_dup dX10_putBytes_21 rfl ?_
  refine tr_getI dX10_putBytes_22 fl10_71 (hK 0 10 (by decide) kd_0) ?_
  refine tr_topi 0 (hI 0 1 (by decide +kernel)) ?_
  refine tr_iconst (v := 1) dX10_putBytes_25 (by decide +kernel) ?_
  refine tr_iadd dX10_putBytes_26 ?_
  refine tr_topi 1 (by decide +kernel) ?_
  refine tr_putI dX10_putBytes_27 fl10_71 (hK 0 10 (by decide) kd_0) (Or.inl rfl) ?_
  refine tr_iinc dX10_putBytes_30 rfl (by decide) ?_
  refine tr_goto 3 dX10_putBytes_33 (by decide) ?_
  refine tr_iload_n dX10_putBytes_3 rfl ?_
  refine tr_if_lt 36 dX10_putBytes_4 (by decide) (fun h => absurd h (by decide +kernel)) (fun _ => ?_)
  refine tr_aload_n dX10_putBytes_7 rfl ?_
  refine tr_getR (x := 1) dX10_putBytes_8 fl10_9 (hK 0 10 (by decide) kd_0) (hR 0 0 (some 1) (by decide +kernel) rf_0_0) ?_
  refine tr_aload_n dX10_putBytes_11 rfl ?_
  refine tr_getI dX10_putBytes_12 fl10_71 (hK 0 10 (by decide) kd_0) ?_
  refine tr_topi 1 rfl ?_
  refine tr_iload_n dX10_putBytes_15 rfl ?_
  refine tr_iload_n dX10_putBytes_16 rfl ?_
  refine tr_ishr dX10_putBytes_17 ?_
  refine tr_i2b dX10_putBytes_18 ?_
  refine tr_bast dX10_putBytes_19 (hK 1 13 (by decide) kd_1) (cz_inl 900 (hN 1 900 (by decide) ln_1) (by decide +kernel)) ?_
  refine tr_aload_n dX10_putBytes_20 rfl ?_
  refine tr_dup dX10_putBytes_21 rfl ?_
  refine tr_getI dX10_putBytes_22 fl10_71 (hK 0 10 (by decide) kd_0) ?_
  refine tr_topi 1 rfl ?_
  refine tr_iconst (v := 1) dX10_putBytes_25 (by decide +kernel) ?_
  refine tr_iadd dX10_putBytes_26 ?_
  refine tr_topi 2 (by decide +kernel) ?_
  refine tr_putI dX10_putBytes_27 fl10_71 (hK 0 10 (by decide) kd_0) (Or.inl rfl) ?_
  refine tr_iinc dX10_putBytes_30 rfl (by decide) ?_
  refine tr_goto 3 dX10_putBytes_33 (by decide) ?_
  refine tr_iload_n dX10_putBytes_3 rfl ?_
  refine tr_if_lt 36 dX10_putBytes_4 (by decide) (fun h => absurd h (by decide +kernel)) (fun _ => ?_)
  refine tr_aload_n dX10_putBytes_7 rfl ?_
  refine tr_getR (x := 1) dX10_putBytes_8 fl10_9 (hK 0 10 (by decide) kd_0) (hR 0 0 (some 1) (by decide +kernel) rf_0_0) ?_
  refine tr_aload_n dX10_putBytes_11 rfl ?_
  refine tr_getI dX10_putBytes_12 fl10_71 (hK 0 10 (by decide) kd_0) ?_
  refine tr_topi 2 rfl ?_
  refine tr_iload_n dX10_putBytes_15 rfl ?_
  refine tr_iload_n dX10_putBytes_16 rfl ?_
  refine tr_ishr dX10_putBytes_17 ?_
  refine tr_i2b dX10_putBytes_18 ?_
  refine tr_bast dX10_putBytes_19 (hK 1 13 (by decide) kd_1) (cz_inl 900 (hN 1 900 (by decide) ln_1) (by decide +kernel)) ?_
  refine tr_aload_n dX10_putBytes_20 rfl ?_
  refine tr_dup dX10_putBytes_21 rfl ?_
  refine tr_getI dX10_putBytes_22 fl10_71 (hK 0 10 (by decide) kd_0) ?_
  refine tr_topi 2 rfl ?_
  refine tr_iconst (v := 1) dX10_putBytes_25 (by decide +kernel) ?_
  refine tr_iadd dX10_putBytes_26 ?_
  refine tr_topi 3 (by decide +kernel) ?_
  refine tr_putI dX10_putBytes_27 fl10_71 (hK 0 10 (by decide) kd_0) (Or.inl rfl) ?_
  refine tr_iinc dX10_putBytes_30 rfl (by decide) ?_
  refine tr_goto 3 dX10_putBytes_33 (by decide) ?_
  refine tr_iload_n dX10_putBytes_3 rfl ?_
  refine tr_if_lt 36 dX10_putBytes_4 (by decide) (fun h => absurd h (by decide +kernel)) (fun _ => ?_)
  refine tr_aload_n dX10_putBytes_7 rfl ?_
  refine tr_getR (x := 1) dX10_putBytes_8 fl10_9 (hK 0 10 (by decide) kd_0) (hR 0 0 (some 1) (by decide +kernel) rf_0_0) ?_
  refine tr_aload_n dX10_putBytes_11 rfl ?_
  refine tr_getI dX10_putBytes_12 fl10_71 (hK 0 10 (by decide) kd_0) ?_
  refine tr_topi 3 rfl ?_
  refine tr_iload_n dX10_putBytes_15 rfl ?_
  refine tr_iload_n dX10_putBytes_16 rfl ?_
  refine tr_ishr dX10_putBytes_17 ?_
  refine tr_i2b dX10_putBytes_18 ?_
  refine tr_bast dX10_putBytes_19 (hK 1 13 (by decide) kd_1) (cz_inl 900 (hN 1 900 (by decide) ln_1) (by decide +kernel)) ?_
  refine tr_aload_n dX10_putBytes_20 rfl ?_
  refine tr_dup dX10_putBytes_21 rfl ?_
  refine tr_getI dX10_putBytes_22 fl10_71 (hK 0 10 (by decide) kd_0) ?_
  refine tr_topi 3 rfl ?_
  refine tr_iconst (v := 1) dX10_putBytes_25 (by decide +kernel) ?_
  refine tr_iadd dX10_putBytes_26 ?_
  refine tr_topi 4 (by decide +kernel) ?_
  refine tr_putI dX10_putBytes_27 fl10_71 (hK 0 10 (by decide) kd_0) (Or.inl rfl) ?_
  refine tr_iinc dX10_putBytes_30 rfl (by decide) ?_
  refine tr_goto 3 dX10_putBytes_33 (by decide) ?_
  refine tr_iload_n dX10_putBytes_3 rfl ?_
  refine tr_if_lt 36 dX10_putBytes_4 (by decide) (fun _ => ?_) (fun h => absurd (by decide +kernel) h)
  refine tr_vret zX2 dX10_putBytes_36 rfl (by decide) (by decide) ⟨rfl, ?_⟩
  refine tr_aload_n dX10_feed_20 rfl ?_
  refine tr_iload_n dX10_feed_21 rfl ?_
  refine tr_inVv (M' := mX10_putBytes) (as := [_]) dX10_feed_22 lk10_75 inX10_putBytes seX10_putBytes myX10_putBytes (by decide) ⟨by decide, by decide⟩ rfl (hK 0 10 (by decide) kd_0) (Nat.le_of_ble_eq_true rfl) (by decide) (by decide) (Con.of (by decide +kernel) rfl (Nat.le_of_ble_eq_true rfl) rfl (fun X3 hX3 zX3 => ?_))
  refine tr_bipush (v := 24) dX10_putBytes_0 (by decide +kernel) ?_
  refine tr_istore_n dX10_putBytes_2 (by decide) (by decide) ?_
  refine tr_iload_n dX10_putBytes_3 rfl ?_
  refine tr_if_lt 36 dX10_putBytes_4 (by decide) (fun h => absurd h (by decide +kernel)) (fun _ => ?_)
  refine tr_aload_n dX10_putBytes_7 rfl ?_
  refine tr_getR (x := 1) dX10_putBytes_8 fl10_9 (hK 0 10 (by decide) kd_0) (hR 0 0 (some 1) (by decide +kernel) rf_0_0) ?_
  refine tr_aload_n dX10_putBytes_11 rfl ?_
  refine tr_getI dX10_putBytes_12 fl10_71 (hK 0 10 (by decide) kd_0) ?_
  refine tr_topi 4 rfl ?_
  refine tr_iload_n dX10_putBytes_15 rfl ?_
  refine tr_iload_n dX10_putBytes_16 rfl ?_
  refine tr_ishr dX10_putBytes_17 ?_
  refine tr_i2b dX10_putBytes_18 ?_
  refine tr_bast dX10_putBytes_19 (hK 1 13 (by decide) kd_1) (cz_inl 900 (hN 1 900 (by decide) ln_1) (by decide +kernel)) ?_
  refine tr_aload_n dX10_putBytes_20 rfl ?_
  refine tr_dup dX10_putBytes_21 rfl ?_
  refine tr_getI dX10_putBytes_22 fl10_71 (hK 0 10 (by decide) kd_0) ?_
  refine tr_topi 4 rfl ?_
  refine tr_iconst (v := 1) dX10_putBytes_25 (by decide +kernel) ?_
  refine tr_iadd dX10_putBytes_26 ?_
  refine tr_topi 5 (by decide +kernel) ?_
  refine tr_putI dX10_putBytes_27 fl10_71 (hK 0 10 (by decide) kd_0) (Or.inl rfl) ?_
  refine tr_iinc dX10_putBytes_30 rfl (by decide) ?_
  refine tr_goto 3 dX10_putBytes_33 (by decide) ?_
  refine tr_iload_n dX10_putBytes_3 rfl ?_
  refine tr_if_lt 36 dX10_putBytes_4 (by decide) (fun h => absurd h (by decide +kernel)) (fun _ => ?_)
  refine tr_aload_n dX10_putBytes_7 rfl ?_
  refine tr_getR (x := 1) dX10_putBytes_8 fl10_9 (hK 0 10 (by decide) kd_0) (hR 0 0 (some 1) (by decide +kernel) rf_0_0) ?_
  refine tr_aload_n dX10_putBytes_11 rfl ?_
  refine tr_getI dX10_putBytes_12 fl10_71 (hK 0 10 (by decide) kd_0) ?_
  refine tr_topi 5 rfl ?_
  refine tr_iload_n dX10_putBytes_15 rfl ?_
  refine tr_iload_n dX10_putBytes_16 rfl ?_
  refine tr_ishr dX10_putBytes_17 ?_
  refine tr_i2b dX10_putBytes_18 ?_
  refine tr_bast dX10_putBytes_19 (hK 1 13 (by decide) kd_1) (cz_inl 900 (hN 1 900 (by decide) ln_1) (by decide +kernel)) ?_
  refine tr_aload_n dX10_putBytes_20 rfl ?_
  refine tr_dup dX10_putBytes_21 rfl ?_
  refine tr_getI dX10_putBytes_22 fl10_71 (hK 0 10 (by decide) kd_0) ?_
  refine tr_topi 5 rfl ?_
  refine tr_iconst (v := 1) dX10_putBytes_25 (by decide +kernel) ?_
  refine tr_iadd dX10_putBytes_26 ?_
  refine tr_topi 6 (by decide +kernel) ?_
  refine tr_putI dX10_putBytes_27 fl10_71 (hK 0 10 (by decide) kd_0) (Or.inl rfl) ?_
  refine tr_iinc dX10_putBytes_30 rfl (by decide) ?_
  refine tr_goto 3 dX10_putBytes_33 (by decide) ?_
  refine tr_iload_n dX10_putBytes_3 rfl ?_
  refine tr_if_lt 36 dX10_putBytes_4 (by decide) (fun h => absurd h (by decide +kernel)) (fun _ => ?_)
  refine tr_aload_n dX10_putBytes_7 rfl ?_
  refine tr_getR (x := 1) dX10_putBytes_8 fl10_9 (hK 0 10 (by decide) kd_0) (hR 0 0 (some 1) (by decide +kernel) rf_0_0) ?_
  refine tr_aload_n dX10_putBytes_11 rfl ?_
  refine tr_getI dX10_putBytes_12 fl10_71 (hK 0 10 (by decide) kd_0) ?_
  refine tr_topi 6 rfl ?_
  refine tr_iload_n dX10_putBytes_15 rfl ?_
  refine tr_iload_n dX10_putBytes_16 rfl ?_
  refine tr_ishr dX10_putBytes_17 ?_
  refine tr_i2b dX10_putBytes_18 ?_
  refine tr_bast dX10_putBytes_19 (hK 1 13 (by decide) kd_1) (cz_inl 900 (hN 1 900 (by decide) ln_1) (by decide +kernel)) ?_
  refine tr_aload_n dX10_putBytes_20 rfl ?_
  refine tr_dup dX10_putBytes_21 rfl ?_
  refine tr_getI dX10_putBytes_22 fl10_71 (hK 0 10 (by decide) kd_0) ?_
  refine tr_topi 6 rfl ?_
  refine tr_iconst (v := 1) dX10_putBytes_25 (by decide +kernel) ?_
  refine tr_iadd dX10_putBytes_26 ?_
  refine tr_topi 7 (by decide +kernel) ?_
  refine tr_putI dX10_putBytes_27 fl10_71 (hK 0 10 (by decide) kd_0) (Or.inl rfl) ?_
  refine tr_iinc dX10_putBytes_30 rfl (by decide) ?_
  refine tr_goto 3 dX10_putBytes_33 (by decide) ?_
  refine tr_iload_n dX10_putBytes_3 rfl ?_
  refine tr_if_lt 36 dX10_putBytes_4 (by decide) (fun h => absurd h (by decide +kernel)) (fun _ => ?_)
  refine tr_aload_n dX10_putBytes_7 rfl ?_
  refine tr_getR (x := 1) dX10_putBytes_8 fl10_9 (hK 0 10 (by decide) kd_0) (hR 0 0 (some 1) (by decide +kernel) rf_0_0) ?_
  refine tr_aload_n dX10_putBytes_11 rfl ?_
  refine tr_getI dX10_putBytes_12 fl10_71 (hK 0 10 (by decide) kd_0) ?_
  refine tr_topi 7 rfl ?_
  refine tr_iload_n dX10_putBytes_15 rfl ?_
  refine tr_iload_n dX10_putBytes_16 rfl ?_
  refine tr_ishr dX10_putBytes_17 ?_
  refine tr_i2b dX10_putBytes_18 ?_
  refine tr_bast dX10_putBytes_19 (hK 1 13 (by decide) kd_1) (cz_inl 900 (hN 1 900 (by decide) ln_1) (by decide +kernel)) ?_
  refine tr_aload_n dX10_putBytes_20 rfl ?_
  refine tr_dup dX10_putBytes_21 rfl ?_
  refine tr_getI dX10_putBytes_22 fl10_71 (hK 0 10 (by decide) kd_0) ?_
  refine tr_topi 7 rfl ?_
  refine tr_iconst (v := 1) dX10_putBytes_25 (by decide +kernel) ?_
  refine tr_iadd dX10_putBytes_26 ?_
  refine tr_topi 8 (by decide +kernel) ?_
  refine tr_putI dX10_putBytes_27 fl10_71 (hK 0 10 (by decide) kd_0) (Or.inl rfl) ?_
  refine tr_iinc dX10_putBytes_30 rfl (by decide) ?_
  refine tr_goto 3 dX10_putBytes_33 (by decide) ?_
  refine tr_iload_n dX10_putBytes_3 rfl ?_
  refine tr_if_lt 36 dX10_putBytes_4 (by decide) (fun _ => ?_) (fun h => absurd (by decide +kernel) h)
  refine tr_vret zX3 dX10_putBytes_36 rfl (by decide) (by decide) ⟨rfl, ?_⟩
  refine tr_aload_n dX10_feed_25 rfl ?_
  refine tr_iload_n dX10_feed_26 rfl ?_
  refine tr_inVv (M' := mX10_putBytes) (as := [_]) dX10_feed_27 lk10_75 inX10_putBytes seX10_putBytes myX10_putBytes (by decide) ⟨by decide, by decide⟩ rfl (hK 0 10 (by decide) kd_0) (Nat.le_of_ble_eq_true rfl) (by decide) (by decide) (Con.of (by decide +kernel) rfl (Nat.le_of_ble_eq_true rfl) rfl (fun X4 hX4 zX4 => ?_))
  refine tr_bipush (v := 24) dX10_putBytes_0 (by decide +kernel) ?_
  refine tr_istore_n dX10_putBytes_2 (by decide) (by decide) ?_
  refine tr_iload_n dX10_putBytes_3 rfl ?_
  refine tr_if_lt 36 dX10_putBytes_4 (by decide) (fun h => absurd h (by decide +kernel)) (fun _ => ?_)
  refine tr_aload_n dX10_putBytes_7 rfl ?_
  refine tr_getR (x := 1) dX10_putBytes_8 fl10_9 (hK 0 10 (by decide) kd_0) (hR 0 0 (some 1) (by decide +kernel) rf_0_0) ?_
  refine tr_aload_n dX10_putBytes_11 rfl ?_
  refine tr_getI dX10_putBytes_12 fl10_71 (hK 0 10 (by decide) kd_0) ?_
  refine tr_topi 8 rfl ?_
  refine tr_iload_n dX10_putBytes_15 rfl ?_
  refine tr_iload_n dX10_putBytes_16 rfl ?_
  refine tr_ishr dX10_putBytes_17 ?_
  refine tr_i2b dX10_putBytes_18 ?_
  refine tr_bast dX10_putBytes_19 (hK 1 13 (by decide) kd_1) (cz_inl 900 (hN 1 900 (by decide) ln_1) (by decide +kernel)) ?_
  refine tr_aload_n dX10_putBytes_20 rfl ?_
  refine tr_dup dX10_putBytes_21 rfl ?_
  refine tr_getI dX10_putBytes_22 fl10_71 (hK 0 10 (by decide) kd_0) ?_
  refine tr_topi 8 rfl ?_
  refine tr_iconst (v := 1) dX10_putBytes_25 (by decide +kernel) ?_
  refine tr_iadd dX10_putBytes_26 ?_
  refine tr_topi 9 (by decide +kernel) ?_
  refine tr_putI dX10_putBytes_27 fl10_71 (hK 0 10 (by decide) kd_0) (Or.inl rfl) ?_
  refine tr_iinc dX10_putBytes_30 rfl (by decide) ?_
  refine tr_goto 3 dX10_putBytes_33 (by decide) ?_
  refine tr_iload_n dX10_putBytes_3 rfl ?_
  refine tr_if_lt 36 dX10_putBytes_4 (by decide) (fun h => absurd h (by decide +kernel)) (fun _ => ?_)
  refine tr_aload_n dX10_putBytes_7 rfl ?_
  refine tr_getR (x := 1) dX10_putBytes_8 fl10_9 (hK 0 10 (by decide) kd_0) (hR 0 0 (some 1) (by decide +kernel) rf_0_0) ?_
  refine tr_aload_n dX10_putBytes_11 rfl ?_
  refine tr_getI dX10_putBytes_12 fl10_71 (hK 0 10 (by decide) kd_0) ?_
  refine tr_topi 9 rfl ?_
  refine tr_iload_n dX10_putBytes_15 rfl ?_
  refine tr_iload_n dX10_putBytes_16 rfl ?_
  refine tr_ishr dX10_putBytes_17 ?_
  refine tr_i2b dX10_putBytes_18 ?_
  refine tr_bast dX10_putBytes_19 (hK 1 13 (by decide) kd_1) (cz_inl 900 (hN 1 900 (by decide) ln_1) (by decide +kernel)) ?_
  refine tr_aload_n dX10_putBytes_20 rfl ?_
  refine tr_dup dX10_putBytes_21 rfl ?_
  refine tr_getI dX10_putBytes_22 fl10_71 (hK 0 10 (by decide) kd_0) ?_
  refine tr_topi 9 rfl ?_
  refine tr_iconst (v := 1) dX10_putBytes_25 (by decide +kernel) ?_
  refine tr_iadd dX10_putBytes_26 ?_
  refine tr_topi 10 (by decide +kernel) ?_
  refine tr_putI dX10_putBytes_27 fl10_71 (hK 0 10 (by decide) kd_0) (Or.inl rfl) ?_
  refine tr_iinc dX10_putBytes_30 rfl (by decide) ?_
  refine tr_goto 3 dX10_putBytes_33 (by decide) ?_
  refine tr_iload_n dX10_putBytes_3 rfl ?_
  refine tr_if_lt 36 dX10_putBytes_4 (by decide) (fun h => absurd h (by decide +kernel)) (fun _ => ?_)
  refine tr_aload_n dX10_putBytes_7 rfl ?_
  refine tr_getR (x := 1) dX10_putBytes_8 fl10_9 (hK 0 10 (by decide) kd_0) (hR 0 0 (some 1) (by decide +kernel) rf_0_0) ?_
  refine tr_aload_n dX10_putBytes_11 rfl ?_
  refine tr_getI dX10_putBytes_12 fl10_71 (hK 0 10 (by decide) kd_0) ?_
  refine tr_topi 10 rfl ?_
  refine tr_iload_n dX10_putBytes_15 rfl ?_
  refine tr_iload_n dX10_putBytes_16 rfl ?_
  refine tr_ishr dX10_putBytes_17 ?_
  refine tr_i2b dX10_putBytes_18 ?_
  refine tr_bast dX10_putBytes_19 (hK 1 13 (by decide) kd_1) (cz_inl 900 (hN 1 900 (by decide) ln_1) (by decide +kernel)) ?_
  refine tr_aload_n dX10_putBytes_20 rfl ?_
  refine tr_dup dX10_putBytes_21 rfl ?_
  refine tr_getI dX10_putBytes_22 fl10_71 (hK 0 10 (by decide) kd_0) ?_
  refine tr_topi 10 rfl ?_
  refine tr_iconst (v := 1) dX10_putBytes_25 (by decide +kernel) ?_
  refine tr_iadd dX10_putBytes_26 ?_
  refine tr_topi 11 (by decide +kernel) ?_
  refine tr_putI dX10_putBytes_27 fl10_71 (hK 0 10 (by decide) kd_0) (Or.inl rfl) ?_
  refine tr_iinc dX10_putBytes_30 rfl (by decide) ?_
  refine tr_goto 3 dX10_putBytes_33 (by decide) ?_
  refine tr_iload_n dX10_putBytes_3 rfl ?_
  refine tr_if_lt 36 dX10_putBytes_4 (by decide) (fun h => absurd h (by decide +kernel)) (fun _ => ?_)
  refine tr_aload_n dX10_putBytes_7 rfl ?_
  refine tr_getR (x := 1) dX10_putBytes_8 fl10_9 (hK 0 10 (by decide) kd_0) (hR 0 0 (some 1) (by decide +kernel) rf_0_0) ?_
  refine tr_aload_n dX10_putBytes_11 rfl ?_
  refine tr_getI dX10_putBytes_12 fl10_71 (hK 0 10 (by decide) kd_0) ?_
  refine tr_topi 11 rfl ?_
  refine tr_iload_n dX10_putBytes_15 rfl ?_
  refine tr_iload_n dX10_putBytes_16 rfl ?_
  refine tr_ishr dX10_putBytes_17 ?_
  refine tr_i2b dX10_putBytes_18 ?_
  refine tr_bast dX10_putBytes_19 (hK 1 13 (by decide) kd_1) (cz_inl 900 (hN 1 900 (by decide) ln_1) (by decide +kernel)) ?_
  refine tr_aload_n dX10_putBytes_20 rfl ?_
  refine tr_dup dX10_putBytes_21 rfl ?_
  refine tr_getI dX10_putBytes_22 fl10_71 (hK 0 10 (by decide) kd_0) ?_
  refine tr_topi 11 rfl ?_
  refine tr_iconst (v := 1) dX10_putBytes_25 (by decide +kernel) ?_
  refine tr_iadd dX10_putBytes_26 ?_
  refine tr_topi 12 (by decide +kernel) ?_
  refine tr_putI dX10_putBytes_27 fl10_71 (hK 0 10 (by decide) kd_0) (Or.inl rfl) ?_
  refine tr_iinc dX10_putBytes_30 rfl (by decide) ?_
  refine tr_goto 3 dX10_putBytes_33 (by decide) ?_
  refine tr_iload_n dX10_putBytes_3 rfl ?_
  refine tr_if_lt 36 dX10_putBytes_4 (by decide) (fun _ => ?_) (fun h => absurd (by decide +kernel) h)
  refine tr_vret zX4 dX10_putBytes_36 rfl (by decide) (by decide) ⟨rfl, ?_⟩
  refine tr_aload_n dX10_feed_30 rfl ?_
  refine tr_iload dX10_feed_31 rfl ?_
  refine tr_inVv (M' := mX10_putBytes) (as := [_]) dX10_feed_33 lk10_75 inX10_putBytes seX10_putBytes myX10_putBytes (by decide) ⟨by decide, by decide⟩ rfl (hK 0 10 (by decide) kd_0) (Nat.le_of_ble_eq_true rfl) (by decide) (by decide) (Con.of (by decide +kernel) rfl (Nat.le_of_ble_eq_true rfl) rfl (fun X5 hX5 zX5 => ?_))
  refine tr_bipush (v := 24) dX10_putBytes_0 (by decide +kernel) ?_
  refine tr_istore_n dX10_putBytes_2 (by decide) (by decide) ?_
  refine tr_iload_n dX10_putBytes_3 rfl ?_
  refine tr_if_lt 36 dX10_putBytes_4 (by decide) (fun h => absurd h (by decide +kernel)) (fun _ => ?_)
  refine tr_aload_n dX10_putBytes_7 rfl ?_
  refine tr_getR (x := 1) dX10_putBytes_8 fl10_9 (hK 0 10 (by decide) kd_0) (hR 0 0 (some 1) (by decide +kernel) rf_0_0) ?_
  refine tr_aload_n dX10_putBytes_11 rfl ?_
  refine tr_getI dX10_putBytes_12 fl10_71 (hK 0 10 (by decide) kd_0) ?_
  refine tr_topi 12 rfl ?_
  refine tr_iload_n dX10_putBytes_15 rfl ?_
  refine tr_iload_n dX10_putBytes_16 rfl ?_
  refine tr_ishr dX10_putBytes_17 ?_
  refine tr_i2b dX10_putBytes_18 ?_
  refine tr_bast dX10_putBytes_19 (hK 1 13 (by decide) kd_1) (cz_inl 900 (hN 1 900 (by decide) ln_1) (by decide +kernel)) ?_
  refine tr_aload_n dX10_putBytes_20 rfl ?_
  refine tr_dup dX10_putBytes_21 rfl ?_
  refine tr_getI dX10_putBytes_22 fl10_71 (hK 0 10 (by decide) kd_0) ?_
  refine tr_topi 12 rfl ?_
  refine tr_iconst (v := 1) dX10_putBytes_25 (by decide +kernel) ?_
  refine tr_iadd dX10_putBytes_26 ?_
  refine tr_topi 13 (by decide +kernel) ?_
  refine tr_putI dX10_putBytes_27 fl10_71 (hK 0 10 (by decide) kd_0) (Or.inl rfl) ?_
  refine tr_iinc dX10_putBytes_30 rfl (by decide) ?_
  refine tr_goto 3 dX10_putBytes_33 (by decide) ?_
  refine tr_iload_n dX10_putBytes_3 rfl ?_
  refine tr_if_lt 36 dX10_putBytes_4 (by decide) (fun h => absurd h (by decide +kernel)) (fun _ => ?_)
  refine tr_aload_n dX10_putBytes_7 rfl ?_
  refine tr_getR (x := 1) dX10_putBytes_8 fl10_9 (hK 0 10 (by decide) kd_0) (hR 0 0 (some 1) (by decide +kernel) rf_0_0) ?_
  refine tr_aload_n dX10_putBytes_11 rfl ?_
  refine tr_getI dX10_putBytes_12 fl10_71 (hK 0 10 (by decide) kd_0) ?_
  refine tr_topi 13 rfl ?_
  refine tr_iload_n dX10_putBytes_15 rfl ?_
  refine tr_iload_n dX10_putBytes_16 rfl ?_
  refine tr_ishr dX10_putBytes_17 ?_
  refine tr_i2b dX10_putBytes_18 ?_
  refine tr_bast dX10_putBytes_19 (hK 1 13 (by decide) kd_1) (cz_inl 900 (hN 1 900 (by decide) ln_1) (by decide +kernel)) ?_
  refine tr_aload_n dX10_putBytes_20 rfl ?_
  refine tr_dup dX10_putBytes_21 rfl ?_
  refine tr_getI dX10_putBytes_22 fl10_71 (hK 0 10 (by decide) kd_0) ?_
  refine tr_topi 13 rfl ?_
  refine tr_iconst (v := 1) dX10_putBytes_25 (by decide +kernel) ?_
  refine tr_iadd dX10_putBytes_26 ?_
  refine tr_topi 14 (by decide +kernel) ?_
  refine tr_putI dX10_putBytes_27 fl10_71 (hK 0 10 (by decide) kd_0) (Or.inl rfl) ?_
  refine tr_iinc dX10_putBytes_30 rfl (by decide) ?_
  refine tr_goto 3 dX10_putBytes_33 (by decide) ?_
  refine tr_iload_n dX10_putBytes_3 rfl ?_
  refine tr_if_lt 36 dX10_putBytes_4 (by decide) (fun h => absurd h (by decide +kernel)) (fun _ => ?_)
  refine tr_aload_n dX10_putBytes_7 rfl ?_
  refine tr_getR (x := 1) dX10_putBytes_8 fl10_9 (hK 0 10 (by decide) kd_0) (hR 0 0 (some 1) (by decide +kernel) rf_0_0) ?_
  refine tr_aload_n dX10_putBytes_11 rfl ?_
  refine tr_getI dX10_putBytes_12 fl10_71 (hK 0 10 (by decide) kd_0) ?_
  refine tr_topi 14 rfl ?_
  refine tr_iload_n dX10_putBytes_15 rfl ?_
  refine tr_iload_n dX10_putBytes_16 rfl ?_
  refine tr_ishr dX10_putBytes_17 ?_
  refine tr_i2b dX10_putBytes_18 ?_
  refine tr_bast dX10_putBytes_19 (hK 1 13 (by decide) kd_1) (cz_inl 900 (hN 1 900 (by decide) ln_1) (by decide +kernel)) ?_
  refine tr_aload_n dX10_putBytes_20 rfl ?_
  refine tr_dup dX10_putBytes_21 rfl ?_
  refine tr_getI dX10_putBytes_22 fl10_71 (hK 0 10 (by decide) kd_0) ?_
  refine tr_topi 14 rfl ?_
  refine tr_iconst (v := 1) dX10_putBytes_25 (by decide +kernel) ?_
  refine tr_iadd dX10_putBytes_26 ?_
  refine tr_topi 15 (by decide +kernel) ?_
  refine tr_putI dX10_putBytes_27 fl10_71 (hK 0 10 (by decide) kd_0) (Or.inl rfl) ?_
  refine tr_iinc dX10_putBytes_30 rfl (by decide) ?_
  refine tr_goto 3 dX10_putBytes_33 (by decide) ?_
  refine tr_iload_n dX10_putBytes_3 rfl ?_
  refine tr_if_lt 36 dX10_putBytes_4 (by decide) (fun h => absurd h (by decide +kernel)) (fun _ => ?_)
  refine tr_aload_n dX10_putBytes_7 rfl ?_
  refine tr_getR (x := 1) dX10_putBytes_8 fl10_9 (hK 0 10 (by decide) kd_0) (hR 0 0 (some 1) (by decide +kernel) rf_0_0) ?_
  refine tr_aload_n dX10_putBytes_11 rfl ?_
  refine tr_getI dX10_putBytes_12 fl10_71 (hK 0 10 (by decide) kd_0) ?_
  refine tr_topi 15 rfl ?_
  refine tr_iload_n dX10_putBytes_15 rfl ?_
  refine tr_iload_n dX10_putBytes_16 rfl ?_
  refine tr_ishr dX10_putBytes_17 ?_
  refine tr_i2b dX10_putBytes_18 ?_
  refine tr_bast dX10_putBytes_19 (hK 1 13 (by decide) kd_1) (cz_inl 900 (hN 1 900 (by decide) ln_1) (by decide +kernel)) ?_
  refine tr_aload_n dX10_putBytes_20 rfl ?_
  refine tr_dup dX10_putBytes_21 rfl ?_
  refine tr_getI dX10_putBytes_22 fl10_71 (hK 0 10 (by decide) kd_0) ?_
  refine tr_topi 15 rfl ?_
  refine tr_iconst (v := 1) dX10_putBytes_25 (by decide +kernel) ?_
  refine tr_iadd dX10_putBytes_26 ?_
  refine tr_topi 16 (by decide +kernel) ?_
  refine tr_putI dX10_putBytes_27 fl10_71 (hK 0 10 (by decide) kd_0) (Or.inl rfl) ?_
  refine tr_iinc dX10_putBytes_30 rfl (by decide) ?_
  refine tr_goto 3 dX10_putBytes_33 (by decide) ?_
  refine tr_iload_n dX10_putBytes_3 rfl ?_
  refine tr_if_lt 36 dX10_putBytes_4 (by decide) (fun _ => ?_) (fun h => absurd (by decide +kernel) h)
  refine tr_vret zX5 dX10_putBytes_36 rfl (by decide) (by decide) ⟨rfl, ?_⟩
  refine tr_aload_n dX10_feed_36 rfl ?_
  refine tr_iload dX10_feed_37 rfl ?_
  refine tr_inVv (M' := mX10_putBytes) (as := [_]) dX10_feed_39 lk10_75 inX10_putBytes seX10_putBytes myX10_putBytes (by decide) ⟨by decide, by decide⟩ rfl (hK 0 10 (by decide) kd_0) (Nat.le_of_ble_eq_true rfl) (by decide) (by decide) (Con.of (by decide +kernel) rfl (Nat.le_of_ble_eq_true rfl) rfl (fun X6 hX6 zX6 => ?_))
  refine tr_bipush (v := 24) dX10_putBytes_0 (by decide +kernel) ?_
  refine tr_istore_n dX10_putBytes_2 (by decide) (by decide) ?_
  refine tr_iload_n dX10_putBytes_3 rfl ?_
  refine tr_if_lt 36 dX10_putBytes_4 (by decide) (fun h => absurd h (by decide +kernel)) (fun _ => ?_)
  refine tr_aload_n dX10_putBytes_7 rfl ?_
  refine tr_getR (x := 1) dX10_putBytes_8 fl10_9 (hK 0 10 (by decide) kd_0) (hR 0 0 (some 1) (by decide +kernel) rf_0_0) ?_
  refine tr_aload_n dX10_putBytes_11 rfl ?_
  refine tr_getI dX10_putBytes_12 fl10_71 (hK 0 10 (by decide) kd_0) ?_
  refine tr_topi 16 rfl ?_
  refine tr_iload_n dX10_putBytes_15 rfl ?_
  refine tr_iload_n dX10_putBytes_16 rfl ?_
  refine tr_ishr dX10_putBytes_17 ?_
  refine tr_i2b dX10_putBytes_18 ?_
  refine tr_bast dX10_putBytes_19 (hK 1 13 (by decide) kd_1) (cz_inl 900 (hN 1 900 (by decide) ln_1) (by decide +kernel)) ?_
  refine tr_aload_n dX10_putBytes_20 rfl ?_
  refine tr_dup dX10_putBytes_21 rfl ?_
  refine tr_getI dX10_putBytes_22 fl10_71 (hK 0 10 (by decide) kd_0) ?_
  refine tr_topi 16 rfl ?_
  refine tr_iconst (v := 1) dX10_putBytes_25 (by decide +kernel) ?_
  refine tr_iadd dX10_putBytes_26 ?_
  refine tr_topi 17 (by decide +kernel) ?_
  refine tr_putI dX10_putBytes_27 fl10_71 (hK 0 10 (by decide) kd_0) (Or.inl rfl) ?_
  refine tr_iinc dX10_putBytes_30 rfl (by decide) ?_
  refine tr_goto 3 dX10_putBytes_33 (by decide) ?_
  refine tr_iload_n dX10_putBytes_3 rfl ?_
  refine tr_if_lt 36 dX10_putBytes_4 (by decide) (fun h => absurd h (by decide +kernel)) (fun _ => ?_)
  refine tr_aload_n dX10_putBytes_7 rfl ?_
  refine tr_getR (x := 1) dX10_putBytes_8 fl10_9 (hK 0 10 (by decide) kd_0) (hR 0 0 (some 1) (by decide +kernel) rf_0_0) ?_
  refine tr_aload_n dX10_putBytes_11 rfl ?_
  refine tr_getI dX10_putBytes_12 fl10_71 (hK 0 10 (by decide) kd_0) ?_
  refine tr_topi 17 rfl ?_
  refine tr_iload_n dX10_putBytes_15 rfl ?_
  refine tr_iload_n dX10_putBytes_16 rfl ?_
  refine tr_ishr dX10_putBytes_17 ?_
  refine tr_i2b dX10_putBytes_18 ?_
  refine tr_bast dX10_putBytes_19 (hK 1 13 (by decide) kd_1) (cz_inl 900 (hN 1 900 (by decide) ln_1) (by decide +kernel)) ?_
  refine tr_aload_n dX10_putBytes_20 rfl ?_
  refine tr_dup dX10_putBytes_21 rfl ?_
  refine tr_getI dX10_putBytes_22 fl10_71 (hK 0 10 (by decide) kd_0) ?_
  refine tr_topi 17 rfl ?_
  refine tr_iconst (v := 1) dX10_putBytes_25 (by decide +kernel) ?_
  refine tr_iadd dX10_putBytes_26 ?_
  refine tr_topi 18 (by decide +kernel) ?_
  refine tr_putI dX10_putBytes_27 fl10_71 (hK 0 10 (by decide) kd_0) (Or.inl rfl) ?_
  refine tr_iinc dX10_putBytes_30 rfl (by decide) ?_
  refine tr_goto 3 dX10_putBytes_33 (by decide) ?_
  refine tr_iload_n dX10_putBytes_3 rfl ?_
  refine tr_if_lt 36 dX10_putBytes_4 (by decide) (fun h => absurd h (by decide +kernel)) (fun _ => ?_)
  refine tr_aload_n dX10_putBytes_7 rfl ?_
  refine tr_getR (x := 1) dX10_putBytes_8 fl10_9 (hK 0 10 (by decide) kd_0) (hR 0 0 (some 1) (by decide +kernel) rf_0_0) ?_
  refine tr_aload_n dX10_putBytes_11 rfl ?_
  refine tr_getI dX10_putBytes_12 fl10_71 (hK 0 10 (by decide) kd_0) ?_
  refine tr_topi 18 rfl ?_
  refine tr_iload_n dX10_putBytes_15 rfl ?_
  refine tr_iload_n dX10_putBytes_16 rfl ?_
  refine tr_ishr dX10_putBytes_17 ?_
  refine tr_i2b dX10_putBytes_18 ?_
  refine tr_bast dX10_putBytes_19 (hK 1 13 (by decide) kd_1) (cz_inl 900 (hN 1 900 (by decide) ln_1) (by decide +kernel)) ?_
  refine tr_aload_n dX10_putBytes_20 rfl ?_
  refine tr_dup dX10_putBytes_21 rfl ?_
  refine tr_getI dX10_putBytes_22 fl10_71 (hK 0 10 (by decide) kd_0) ?_
  refine tr_topi 18 rfl ?_
  refine tr_iconst (v := 1) dX10_putBytes_25 (by decide +kernel) ?_
  refine tr_iadd dX10_putBytes_26 ?_
  refine tr_topi 19 (by decide +kernel) ?_
  refine tr_putI dX10_putBytes_27 fl10_71 (hK 0 10 (by decide) kd_0) (Or.inl rfl) ?_
  refine tr_iinc dX10_putBytes_30 rfl (by decide) ?_
  refine tr_goto 3 dX10_putBytes_33 (by decide) ?_
  refine tr_iload_n dX10_putBytes_3 rfl ?_
  refine tr_if_lt 36 dX10_putBytes_4 (by decide) (fun h => absurd h (by decide +kernel)) (fun _ => ?_)
  refine tr_aload_n dX10_putBytes_7 rfl ?_
  refine tr_getR (x := 1) dX10_putBytes_8 fl10_9 (hK 0 10 (by decide) kd_0) (hR 0 0 (some 1) (by decide +kernel) rf_0_0) ?_
  refine tr_aload_n dX10_putBytes_11 rfl ?_
  refine tr_getI dX10_putBytes_12 fl10_71 (hK 0 10 (by decide) kd_0) ?_
  refine tr_topi 19 rfl ?_
  refine tr_iload_n dX10_putBytes_15 rfl ?_
  refine tr_iload_n dX10_putBytes_16 rfl ?_
  refine tr_ishr dX10_putBytes_17 ?_
  refine tr_i2b dX10_putBytes_18 ?_
  refine tr_bast dX10_putBytes_19 (hK 1 13 (by decide) kd_1) (cz_inl 900 (hN 1 900 (by decide) ln_1) (by decide +kernel)) ?_
  refine tr_aload_n dX10_putBytes_20 rfl ?_
  refine tr_dup dX10_putBytes_21 rfl ?_
  refine tr_getI dX10_putBytes_22 fl10_71 (hK 0 10 (by decide) kd_0) ?_
  refine tr_topi 19 rfl ?_
  refine tr_iconst (v := 1) dX10_putBytes_25 (by decide +kernel) ?_
  refine tr_iadd dX10_putBytes_26 ?_
  refine tr_topi 20 (by decide +kernel) ?_
  refine tr_putI dX10_putBytes_27 fl10_71 (hK 0 10 (by decide) kd_0) (Or.inl rfl) ?_
  refine tr_iinc dX10_putBytes_30 rfl (by decide) ?_
  refine tr_goto 3 dX10_putBytes_33 (by decide) ?_
  refine tr_iload_n dX10_putBytes_3 rfl ?_
  refine tr_if_lt 36 dX10_putBytes_4 (by decide) (fun _ => ?_) (fun h => absurd (by decide +kernel) h)
  refine tr_vret zX6 dX10_putBytes_36 rfl (by decide) (by decide) ⟨rfl, ?_⟩
  refine tr_aload_n dX10_feed_42 rfl ?_
  refine tr_getI dX10_feed_43 fl10_71 (hK 0 10 (by decide) kd_0) ?_
  refine tr_topi 20 rfl ?_
  exact tr_iret zX1 dX10_feed_46 rfl (by decide) (by decide) ⟨rfl, rfl, rfl, rfl, fun k hk => ⟨by first | rfl | (repeat rw [cz_uIn (by omega)]), by first | rfl | (repeat rw [cz_uRn (by omega)])⟩⟩
set_option maxHeartbeats 4000000 in
set_option maxRecDepth 100000 in
theorem fX12_feed (a b c d e : Int32) {l : Launch} {K N : Nat → Nat} {I : cz_I} {R : cz_R} {L : cz_L} (hf : cz_f2 K N I R) : Con l mX12_feed [.ref 183, .int a, .int b, .int c, .int d, .int e] 203 K N I R L (fun r _ _ _ _ _ _ => r = some (.int (20))) := by
  obtain ⟨hK, hN, hR, hI, hI2⟩ := hf
  refine Con.of (by decide +kernel) rfl (Nat.le_of_ble_eq_true rfl) rfl (fun X7 hX7 zX7 => ?_)
  refine tr_aload_n dX12_feed_0 rfl ?_
  refine tr_iconst (v := 0) dX12_feed_1 (by decide +kernel) ?_
  refine tr_putI dX12_feed_2 fl12_70 (hK 183 12 (by decide) kd_183) (Or.inl rfl) ?_
  refine tr_aload_n dX12_feed_5 rfl ?_
  refine tr_getI dX12_feed_6 fl12_378 (hK 183 12 (by decide) kd_183) ?_
  refine tr_topi 0 (hI 183 6 (by decide +kernel)) ?_
  refine tr_bipush (v := 20) dX12_feed_9 (by decide +kernel) ?_
  refine tr_iadd dX12_feed_11 ?_
  refine tr_topi 20 (by decide +kernel) ?_
  refine tr_sipush (v := 900) dX12_feed_12 (by decide +kernel) ?_
  refine tr_icmp_le 20 dX12_feed_15 (by decide) (fun _ => ?_) (fun h => absurd (by decide +kernel) h)
  refine tr_iconst (v := 0) dX12_feed_20 (by decide +kernel) ?_
  refine tr_istore dX12_feed_21 (by decide) (by decide) ?_
  refine tr_iload dX12_feed_23 rfl ?_
  refine tr_bipush (v := 20) dX12_feed_25 (by decide +kernel) ?_
  refine tr_icmp_ge 117 dX12_feed_27 (by decide) (fun h => absurd h (by decide +kernel)) (fun _ => ?_)
  refine tr_iload dX12_feed_30 rfl ?_
  refine tr_iconst (v := 4) dX12_feed_32 (by decide +kernel) ?_
  refine tr_icmp_ge 40 dX12_feed_33 (by decide) (fun h => absurd h (by decide +kernel)) (fun _ => ?_)
  refine tr_iload_n dX12_feed_36 rfl ?_
  refine tr_goto 76 dX12_feed_37 (by decide) ?_
  refine tr_istore dX12_feed_76 (by decide) (by decide) ?_
  refine tr_aload_n dX12_feed_78 rfl ?_
  refine tr_getR (x := 184) dX12_feed_79 fl12_13 (hK 183 12 (by decide) kd_183) (hR 183 5 (some 184) (by decide +kernel) rf_183_5) ?_
  refine tr_aload_n dX12_feed_82 rfl ?_
  refine tr_getI dX12_feed_83 fl12_378 (hK 183 12 (by decide) kd_183) ?_
  refine tr_topi 0 (hI 183 6 (by decide +kernel)) ?_
  refine tr_iload dX12_feed_86 rfl ?_
  refine tr_bipush (v := 24) dX12_feed_88 (by decide +kernel) ?_
  refine tr_bipush (v := 8) dX12_feed_90 (by decide +kernel) ?_
  refine tr_iload dX12_feed_92 rfl ?_
  refine tr_iconst (v := 4) dX12_feed_94 (by decide +kernel) ?_
  refine tr_irem dX12_feed_95 (by decide +kernel) ?_
  refine tr_topi 0 (by decide +kernel) ?_
  refine tr_imul dX12_feed_96 ?_
  refine tr_topi 0 (by decide +kernel) ?_
  refine tr_isub dX12_feed_97 ?_
  refine tr_topi 24 (by decide +kernel) ?_
  refine tr_ishr dX12_feed_98 ?_
  refine tr_i2b dX12_feed_99 ?_
  refine tr_bast dX12_feed_100 (hK 184 13 (by decide) kd_184) (cz_inl 900 (hN 184 900 (by decide) ln_184) (by decide +kernel)) ?_
  refine tr_aload_n dX12_feed_101 rfl ?_
  refine tr_dup dX12_feed_102 rfl ?_
  refine tr_getI dX12_feed_103 fl12_378 (hK 183 12 (by decide) kd_183) ?_
  refine tr_topi 0 (hI 183 6 (by decide +kernel)) ?_
  refine tr_iconst (v := 1) dX12_feed_106 (by decide +kernel) ?_
  refine tr_iadd dX12_feed_107 ?_
  refine tr_topi 1 (by decide +kernel) ?_
  refine tr_putI dX12_feed_108 fl12_378 (hK 183 12 (by decide) kd_183) (Or.inl rfl) ?_
  refine tr_iinc dX12_feed_111 rfl (by decide) ?_
  refine tr_goto 23 dX12_feed_114 (by decide) ?_
  refine tr_iload dX12_feed_23 rfl ?_
  refine tr_bipush (v := 20) dX12_feed_25 (by decide +kernel) ?_
  refine tr_icmp_ge 117 dX12_feed_27 (by decide) (fun h => absurd h (by decide +kernel)) (fun _ => ?_)
  refine tr_iload dX12_feed_30 rfl ?_
  refine tr_iconst (v := 4) dX12_feed_32 (by decide +kernel) ?_
  refine tr_icmp_ge 40 dX12_feed_33 (by decide) (fun h => absurd h (by decide +kernel)) (fun _ => ?_)
  refine tr_iload_n dX12_feed_36 rfl ?_
  refine tr_goto 76 dX12_feed_37 (by decide) ?_
  refine tr_istore dX12_feed_76 (by decide) (by decide) ?_
  refine tr_aload_n dX12_feed_78 rfl ?_
  refine tr_getR (x := 184) dX12_feed_79 fl12_13 (hK 183 12 (by decide) kd_183) (hR 183 5 (some 184) (by decide +kernel) rf_183_5) ?_
  refine tr_aload_n dX12_feed_82 rfl ?_
  refine tr_getI dX12_feed_83 fl12_378 (hK 183 12 (by decide) kd_183) ?_
  refine tr_topi 1 rfl ?_
  refine tr_iload dX12_feed_86 rfl ?_
  refine tr_bipush (v := 24) dX12_feed_88 (by decide +kernel) ?_
  refine tr_bipush (v := 8) dX12_feed_90 (by decide +kernel) ?_
  refine tr_iload dX12_feed_92 rfl ?_
  refine tr_iconst (v := 4) dX12_feed_94 (by decide +kernel) ?_
  refine tr_irem dX12_feed_95 (by decide +kernel) ?_
  refine tr_topi 1 (by decide +kernel) ?_
  refine tr_imul dX12_feed_96 ?_
  refine tr_topi 8 (by decide +kernel) ?_
  refine tr_isub dX12_feed_97 ?_
  refine tr_topi 16 (by decide +kernel) ?_
  refine tr_ishr dX12_feed_98 ?_
  refine tr_i2b dX12_feed_99 ?_
  refine tr_bast dX12_feed_100 (hK 184 13 (by decide) kd_184) (cz_inl 900 (hN 184 900 (by decide) ln_184) (by decide +kernel)) ?_
  refine tr_aload_n dX12_feed_101 rfl ?_
  refine tr_dup dX12_feed_102 rfl ?_
  refine tr_getI dX12_feed_103 fl12_378 (hK 183 12 (by decide) kd_183) ?_
  refine tr_topi 1 rfl ?_
  refine tr_iconst (v := 1) dX12_feed_106 (by decide +kernel) ?_
  refine tr_iadd dX12_feed_107 ?_
  refine tr_topi 2 (by decide +kernel) ?_
  refine tr_putI dX12_feed_108 fl12_378 (hK 183 12 (by decide) kd_183) (Or.inl rfl) ?_
  refine tr_iinc dX12_feed_111 rfl (by decide) ?_
  refine tr_goto 23 dX12_feed_114 (by decide) ?_
  refine tr_iload dX12_feed_23 rfl ?_
  refine tr_bipush (v := 20) dX12_feed_25 (by decide +kernel) ?_
  refine tr_icmp_ge 117 dX12_feed_27 (by decide) (fun h => absurd h (by decide +kernel)) (fun _ => ?_)
  refine tr_iload dX12_feed_30 rfl ?_
  refine tr_iconst (v := 4) dX12_feed_32 (by decide +kernel) ?_
  refine tr_icmp_ge 40 dX12_feed_33 (by decide) (fun h => absurd h (by decide +kernel)) (fun _ => ?_)
  refine tr_iload_n dX12_feed_36 rfl ?_
  refine tr_goto 76 dX12_feed_37 (by decide) ?_
  refine tr_istore dX12_feed_76 (by decide) (by decide) ?_
  refine tr_aload_n dX12_feed_78 rfl ?_
  refine tr_getR (x := 184) dX12_feed_79 fl12_13 (hK 183 12 (by decide) kd_183) (hR 183 5 (some 184) (by decide +kernel) rf_183_5) ?_
  refine tr_aload_n dX12_feed_82 rfl ?_
  refine tr_getI dX12_feed_83 fl12_378 (hK 183 12 (by decide) kd_183) ?_
  refine tr_topi 2 rfl ?_
  refine tr_iload dX12_feed_86 rfl ?_
  refine tr_bipush (v := 24) dX12_feed_88 (by decide +kernel) ?_
  refine tr_bipush (v := 8) dX12_feed_90 (by decide +kernel) ?_
  refine tr_iload dX12_feed_92 rfl ?_
  refine tr_iconst (v := 4) dX12_feed_94 (by decide +kernel) ?_
  refine tr_irem dX12_feed_95 (by decide +kernel) ?_
  refine tr_topi 2 (by decide +kernel) ?_
  refine tr_imul dX12_feed_96 ?_
  refine tr_topi 16 (by decide +kernel) ?_
  refine tr_isub dX12_feed_97 ?_
  refine tr_topi 8 (by decide +kernel) ?_
  refine tr_ishr dX12_feed_98 ?_
  refine tr_i2b dX12_feed_99 ?_
  refine tr_bast dX12_feed_100 (hK 184 13 (by decide) kd_184) (cz_inl 900 (hN 184 900 (by decide) ln_184) (by decide +kernel)) ?_
  refine tr_aload_n dX12_feed_101 rfl ?_
  refine tr_dup dX12_feed_102 rfl ?_
  refine tr_getI dX12_feed_103 fl12_378 (hK 183 12 (by decide) kd_183) ?_
  refine tr_topi 2 rfl ?_
  refine tr_iconst (v := 1) dX12_feed_106 (by decide +kernel) ?_
  refine tr_iadd dX12_feed_107 ?_
  refine tr_topi 3 (by decide +kernel) ?_
  refine tr_putI dX12_feed_108 fl12_378 (hK 183 12 (by decide) kd_183) (Or.inl rfl) ?_
  refine tr_iinc dX12_feed_111 rfl (by decide) ?_
  refine tr_goto 23 dX12_feed_114 (by decide) ?_
  refine tr_iload dX12_feed_23 rfl ?_
  refine tr_bipush (v := 20) dX12_feed_25 (by decide +kernel) ?_
  refine tr_icmp_ge 117 dX12_feed_27 (by decide) (fun h => absurd h (by decide +kernel)) (fun _ => ?_)
  refine tr_iload dX12_feed_30 rfl ?_
  refine tr_iconst (v := 4) dX12_feed_32 (by decide +kernel) ?_
  refine tr_icmp_ge 40 dX12_feed_33 (by decide) (fun h => absurd h (by decide +kernel)) (fun _ => ?_)
  refine tr_iload_n dX12_feed_36 rfl ?_
  refine tr_goto 76 dX12_feed_37 (by decide) ?_
  refine tr_istore dX12_feed_76 (by decide) (by decide) ?_
  refine tr_aload_n dX12_feed_78 rfl ?_
  refine tr_getR (x := 184) dX12_feed_79 fl12_13 (hK 183 12 (by decide) kd_183) (hR 183 5 (some 184) (by decide +kernel) rf_183_5) ?_
  refine tr_aload_n dX12_feed_82 rfl ?_
  refine tr_getI dX12_feed_83 fl12_378 (hK 183 12 (by decide) kd_183) ?_
  refine tr_topi 3 rfl ?_
  refine tr_iload dX12_feed_86 rfl ?_
  refine tr_bipush (v := 24) dX12_feed_88 (by decide +kernel) ?_
  refine tr_bipush (v := 8) dX12_feed_90 (by decide +kernel) ?_
  refine tr_iload dX12_feed_92 rfl ?_
  refine tr_iconst (v := 4) dX12_feed_94 (by decide +kernel) ?_
  refine tr_irem dX12_feed_95 (by decide +kernel) ?_
  refine tr_topi 3 (by decide +kernel) ?_
  refine tr_imul dX12_feed_96 ?_
  refine tr_topi 24 (by decide +kernel) ?_
  refine tr_isub dX12_feed_97 ?_
  refine tr_topi 0 (by decide +kernel) ?_
  refine tr_ishr dX12_feed_98 ?_
  refine tr_i2b dX12_feed_99 ?_
  refine tr_bast dX12_feed_100 (hK 184 13 (by decide) kd_184) (cz_inl 900 (hN 184 900 (by decide) ln_184) (by decide +kernel)) ?_
  refine tr_aload_n dX12_feed_101 rfl ?_
  refine tr_dup dX12_feed_102 rfl ?_
  refine tr_getI dX12_feed_103 fl12_378 (hK 183 12 (by decide) kd_183) ?_
  refine tr_topi 3 rfl ?_
  refine tr_iconst (v := 1) dX12_feed_106 (by decide +kernel) ?_
  refine tr_iadd dX12_feed_107 ?_
  refine tr_topi 4 (by decide +kernel) ?_
  refine tr_putI dX12_feed_108 fl12_378 (hK 183 12 (by decide) kd_183) (Or.inl rfl) ?_
  refine tr_iinc dX12_feed_111 rfl (by decide) ?_
  refine tr_goto 23 dX12_feed_114 (by decide) ?_
  refine tr_iload dX12_feed_23 rfl ?_
  refine tr_bipush (v := 20) dX12_feed_25 (by decide +kernel) ?_
  refine tr_icmp_ge 117 dX12_feed_27 (by decide) (fun h => absurd h (by decide +kernel)) (fun _ => ?_)
  refine tr_iload dX12_feed_30 rfl ?_
  refine tr_iconst (v := 4) dX12_feed_32 (by decide +kernel) ?_
  refine tr_icmp_ge 40 dX12_feed_33 (by decide) (fun _ => ?_) (fun h => absurd (by decide +kernel) h)
  refine tr_iload dX12_feed_40 rfl ?_
  refine tr_bipush (v := 8) dX12_feed_42 (by decide +kernel) ?_
  refine tr_icmp_ge 51 dX12_feed_44 (by decide) (fun h => absurd h (by decide +kernel)) (fun _ => ?_)
  refine tr_iload_n dX12_feed_47 rfl ?_
  refine tr_goto 76 dX12_feed_48 (by decide) ?_
  refine tr_istore dX12_feed_76 (by decide) (by decide) ?_
  refine tr_aload_n dX12_feed_78 rfl ?_
  refine tr_getR (x := 184) dX12_feed_79 fl12_13 (hK 183 12 (by decide) kd_183) (hR 183 5 (some 184) (by decide +kernel) rf_183_5) ?_
  refine tr_aload_n dX12_feed_82 rfl ?_
  refine tr_getI dX12_feed_83 fl12_378 (hK 183 12 (by decide) kd_183) ?_
  refine tr_topi 4 rfl ?_
  refine tr_iload dX12_feed_86 rfl ?_
  refine tr_bipush (v := 24) dX12_feed_88 (by decide +kernel) ?_
  refine tr_bipush (v := 8) dX12_feed_90 (by decide +kernel) ?_
  refine tr_iload dX12_feed_92 rfl ?_
  refine tr_iconst (v := 4) dX12_feed_94 (by decide +kernel) ?_
  refine tr_irem dX12_feed_95 (by decide +kernel) ?_
  refine tr_topi 0 (by decide +kernel) ?_
  refine tr_imul dX12_feed_96 ?_
  refine tr_topi 0 (by decide +kernel) ?_
  refine tr_isub dX12_feed_97 ?_
  refine tr_topi 24 (by decide +kernel) ?_
  refine tr_ishr dX12_feed_98 ?_
  refine tr_i2b dX12_feed_99 ?_
  refine tr_bast dX12_feed_100 (hK 184 13 (by decide) kd_184) (cz_inl 900 (hN 184 900 (by decide) ln_184) (by decide +kernel)) ?_
  refine tr_aload_n dX12_feed_101 rfl ?_
  refine tr_dup dX12_feed_102 rfl ?_
  refine tr_getI dX12_feed_103 fl12_378 (hK 183 12 (by decide) kd_183) ?_
  refine tr_topi 4 rfl ?_
  refine tr_iconst (v := 1) dX12_feed_106 (by decide +kernel) ?_
  refine tr_iadd dX12_feed_107 ?_
  refine tr_topi 5 (by decide +kernel) ?_
  refine tr_putI dX12_feed_108 fl12_378 (hK 183 12 (by decide) kd_183) (Or.inl rfl) ?_
  refine tr_iinc dX12_feed_111 rfl (by decide) ?_
  refine tr_goto 23 dX12_feed_114 (by decide) ?_
  refine tr_iload dX12_feed_23 rfl ?_
  refine tr_bipush (v := 20) dX12_feed_25 (by decide +kernel) ?_
  refine tr_icmp_ge 117 dX12_feed_27 (by decide) (fun h => absurd h (by decide +kernel)) (fun _ => ?_)
  refine tr_iload dX12_feed_30 rfl ?_
  refine tr_iconst (v := 4) dX12_feed_32 (by decide +kernel) ?_
  refine tr_icmp_ge 40 dX12_feed_33 (by decide) (fun _ => ?_) (fun h => absurd (by decide +kernel) h)
  refine tr_iload dX12_feed_40 rfl ?_
  refine tr_bipush (v := 8) dX12_feed_42 (by decide +kernel) ?_
  refine tr_icmp_ge 51 dX12_feed_44 (by decide) (fun h => absurd h (by decide +kernel)) (fun _ => ?_)
  refine tr_iload_n dX12_feed_47 rfl ?_
  refine tr_goto 76 dX12_feed_48 (by decide) ?_
  refine tr_istore dX12_feed_76 (by decide) (by decide) ?_
  refine tr_aload_n dX12_feed_78 rfl ?_
  refine tr_getR (x := 184) dX12_feed_79 fl12_13 (hK 183 12 (by decide) kd_183) (hR 183 5 (some 184) (by decide +kernel) rf_183_5) ?_
  refine tr_aload_n dX12_feed_82 rfl ?_
  refine tr_getI dX12_feed_83 fl12_378 (hK 183 12 (by decide) kd_183) ?_
  refine tr_topi 5 rfl ?_
  refine tr_iload dX12_feed_86 rfl ?_
  refine tr_bipush (v := 24) dX12_feed_88 (by decide +kernel) ?_
  refine tr_bipush (v := 8) dX12_feed_90 (by decide +kernel) ?_
  refine tr_iload dX12_feed_92 rfl ?_
  refine tr_iconst (v := 4) dX12_feed_94 (by decide +kernel) ?_
  refine tr_irem dX12_feed_95 (by decide +kernel) ?_
  refine tr_topi 1 (by decide +kernel) ?_
  refine tr_imul dX12_feed_96 ?_
  refine tr_topi 8 (by decide +kernel) ?_
  refine tr_isub dX12_feed_97 ?_
  refine tr_topi 16 (by decide +kernel) ?_
  refine tr_ishr dX12_feed_98 ?_
  refine tr_i2b dX12_feed_99 ?_
  refine tr_bast dX12_feed_100 (hK 184 13 (by decide) kd_184) (cz_inl 900 (hN 184 900 (by decide) ln_184) (by decide +kernel)) ?_
  refine tr_aload_n dX12_feed_101 rfl ?_
  refine tr_dup dX12_feed_102 rfl ?_
  refine tr_getI dX12_feed_103 fl12_378 (hK 183 12 (by decide) kd_183) ?_
  refine tr_topi 5 rfl ?_
  refine tr_iconst (v := 1) dX12_feed_106 (by decide +kernel) ?_
  refine tr_iadd dX12_feed_107 ?_
  refine tr_topi 6 (by decide +kernel) ?_
  refine tr_putI dX12_feed_108 fl12_378 (hK 183 12 (by decide) kd_183) (Or.inl rfl) ?_
  refine tr_iinc dX12_feed_111 rfl (by decide) ?_
  refine tr_goto 23 dX12_feed_114 (by decide) ?_
  refine tr_iload dX12_feed_23 rfl ?_
  refine tr_bipush (v := 20) dX12_feed_25 (by decide +kernel) ?_
  refine tr_icmp_ge 117 dX12_feed_27 (by decide) (fun h => absurd h (by decide +kernel)) (fun _ => ?_)
  refine tr_iload dX12_feed_30 rfl ?_
  refine tr_iconst (v := 4) dX12_feed_32 (by decide +kernel) ?_
  refine tr_icmp_ge 40 dX12_feed_33 (by decide) (fun _ => ?_) (fun h => absurd (by decide +kernel) h)
  refine tr_iload dX12_feed_40 rfl ?_
  refine tr_bipush (v := 8) dX12_feed_42 (by decide +kernel) ?_
  refine tr_icmp_ge 51 dX12_feed_44 (by decide) (fun h => absurd h (by decide +kernel)) (fun _ => ?_)
  refine tr_iload_n dX12_feed_47 rfl ?_
  refine tr_goto 76 dX12_feed_48 (by decide) ?_
  refine tr_istore dX12_feed_76 (by decide) (by decide) ?_
  refine tr_aload_n dX12_feed_78 rfl ?_
  refine tr_getR (x := 184) dX12_feed_79 fl12_13 (hK 183 12 (by decide) kd_183) (hR 183 5 (some 184) (by decide +kernel) rf_183_5) ?_
  refine tr_aload_n dX12_feed_82 rfl ?_
  refine tr_getI dX12_feed_83 fl12_378 (hK 183 12 (by decide) kd_183) ?_
  refine tr_topi 6 rfl ?_
  refine tr_iload dX12_feed_86 rfl ?_
  refine tr_bipush (v := 24) dX12_feed_88 (by decide +kernel) ?_
  refine tr_bipush (v := 8) dX12_feed_90 (by decide +kernel) ?_
  refine tr_iload dX12_feed_92 rfl ?_
  refine tr_iconst (v := 4) dX12_feed_94 (by decide +kernel) ?_
  refine tr_irem dX12_feed_95 (by decide +kernel) ?_
  refine tr_topi 2 (by decide +kernel) ?_
  refine tr_imul dX12_feed_96 ?_
  refine tr_topi 16 (by decide +kernel) ?_
  refine tr_isub dX12_feed_97 ?_
  refine tr_topi 8 (by decide +kernel) ?_
  refine tr_ishr dX12_feed_98 ?_
  refine tr_i2b dX12_feed_99 ?_
  refine tr_bast dX12_feed_100 (hK 184 13 (by decide) kd_184) (cz_inl 900 (hN 184 900 (by decide) ln_184) (by decide +kernel)) ?_
  refine tr_aload_n dX12_feed_101 rfl ?_
  refine tr_dup dX12_feed_102 rfl ?_
  refine tr_getI dX12_feed_103 fl12_378 (hK 183 12 (by decide) kd_183) ?_
  refine tr_topi 6 rfl ?_
  refine tr_iconst (v := 1) dX12_feed_106 (by decide +kernel) ?_
  refine tr_iadd dX12_feed_107 ?_
  refine tr_topi 7 (by decide +kernel) ?_
  refine tr_putI dX12_feed_108 fl12_378 (hK 183 12 (by decide) kd_183) (Or.inl rfl) ?_
  refine tr_iinc dX12_feed_111 rfl (by decide) ?_
  refine tr_goto 23 dX12_feed_114 (by decide) ?_
  refine tr_iload dX12_feed_23 rfl ?_
  refine tr_bipush (v := 20) dX12_feed_25 (by decide +kernel) ?_
  refine tr_icmp_ge 117 dX12_feed_27 (by decide) (fun h => absurd h (by decide +kernel)) (fun _ => ?_)
  refine tr_iload dX12_feed_30 rfl ?_
  refine tr_iconst (v := 4) dX12_feed_32 (by decide +kernel) ?_
  refine tr_icmp_ge 40 dX12_feed_33 (by decide) (fun _ => ?_) (fun h => absurd (by decide +kernel) h)
  refine tr_iload dX12_feed_40 rfl ?_
  refine tr_bipush (v := 8) dX12_feed_42 (by decide +kernel) ?_
  refine tr_icmp_ge 51 dX12_feed_44 (by decide) (fun h => absurd h (by decide +kernel)) (fun _ => ?_)
  refine tr_iload_n dX12_feed_47 rfl ?_
  refine tr_goto 76 dX12_feed_48 (by decide) ?_
  refine tr_istore dX12_feed_76 (by decide) (by decide) ?_
  refine tr_aload_n dX12_feed_78 rfl ?_
  refine tr_getR (x := 184) dX12_feed_79 fl12_13 (hK 183 12 (by decide) kd_183) (hR 183 5 (some 184) (by decide +kernel) rf_183_5) ?_
  refine tr_aload_n dX12_feed_82 rfl ?_
  refine tr_getI dX12_feed_83 fl12_378 (hK 183 12 (by decide) kd_183) ?_
  refine tr_topi 7 rfl ?_
  refine tr_iload dX12_feed_86 rfl ?_
  refine tr_bipush (v := 24) dX12_feed_88 (by decide +kernel) ?_
  refine tr_bipush (v := 8) dX12_feed_90 (by decide +kernel) ?_
  refine tr_iload dX12_feed_92 rfl ?_
  refine tr_iconst (v := 4) dX12_feed_94 (by decide +kernel) ?_
  refine tr_irem dX12_feed_95 (by decide +kernel) ?_
  refine tr_topi 3 (by decide +kernel) ?_
  refine tr_imul dX12_feed_96 ?_
  refine tr_topi 24 (by decide +kernel) ?_
  refine tr_isub dX12_feed_97 ?_
  refine tr_topi 0 (by decide +kernel) ?_
  refine tr_ishr dX12_feed_98 ?_
  refine tr_i2b dX12_feed_99 ?_
  refine tr_bast dX12_feed_100 (hK 184 13 (by decide) kd_184) (cz_inl 900 (hN 184 900 (by decide) ln_184) (by decide +kernel)) ?_
  refine tr_aload_n dX12_feed_101 rfl ?_
  refine tr_dup dX12_feed_102 rfl ?_
  refine tr_getI dX12_feed_103 fl12_378 (hK 183 12 (by decide) kd_183) ?_
  refine tr_topi 7 rfl ?_
  refine tr_iconst (v := 1) dX12_feed_106 (by decide +kernel) ?_
  refine tr_iadd dX12_feed_107 ?_
  refine tr_topi 8 (by decide +kernel) ?_
  refine tr_putI dX12_feed_108 fl12_378 (hK 183 12 (by decide) kd_183) (Or.inl rfl) ?_
  refine tr_iinc dX12_feed_111 rfl (by decide) ?_
  refine tr_goto 23 dX12_feed_114 (by decide) ?_
  refine tr_iload dX12_feed_23 rfl ?_
  refine tr_bipush (v := 20) dX12_feed_25 (by decide +kernel) ?_
  refine tr_icmp_ge 117 dX12_feed_27 (by decide) (fun h => absurd h (by decide +kernel)) (fun _ => ?_)
  refine tr_iload dX12_feed_30 rfl ?_
  refine tr_iconst (v := 4) dX12_feed_32 (by decide +kernel) ?_
  refine tr_icmp_ge 40 dX12_feed_33 (by decide) (fun _ => ?_) (fun h => absurd (by decide +kernel) h)
  refine tr_iload dX12_feed_40 rfl ?_
  refine tr_bipush (v := 8) dX12_feed_42 (by decide +kernel) ?_
  refine tr_icmp_ge 51 dX12_feed_44 (by decide) (fun _ => ?_) (fun h => absurd (by decide +kernel) h)
  refine tr_iload dX12_feed_51 rfl ?_
  refine tr_bipush (v := 12) dX12_feed_53 (by decide +kernel) ?_
  refine tr_icmp_ge 62 dX12_feed_55 (by decide) (fun h => absurd h (by decide +kernel)) (fun _ => ?_)
  refine tr_iload_n dX12_feed_58 rfl ?_
  refine tr_goto 76 dX12_feed_59 (by decide) ?_
  refine tr_istore dX12_feed_76 (by decide) (by decide) ?_
  refine tr_aload_n dX12_feed_78 rfl ?_
  refine tr_getR (x := 184) dX12_feed_79 fl12_13 (hK 183 12 (by decide) kd_183) (hR 183 5 (some 184) (by decide +kernel) rf_183_5) ?_
  refine tr_aload_n dX12_feed_82 rfl ?_
  refine tr_getI dX12_feed_83 fl12_378 (hK 183 12 (by decide) kd_183) ?_
  refine tr_topi 8 rfl ?_
  refine tr_iload dX12_feed_86 rfl ?_
  refine tr_bipush (v := 24) dX12_feed_88 (by decide +kernel) ?_
  refine tr_bipush (v := 8) dX12_feed_90 (by decide +kernel) ?_
  refine tr_iload dX12_feed_92 rfl ?_
  refine tr_iconst (v := 4) dX12_feed_94 (by decide +kernel) ?_
  refine tr_irem dX12_feed_95 (by decide +kernel) ?_
  refine tr_topi 0 (by decide +kernel) ?_
  refine tr_imul dX12_feed_96 ?_
  refine tr_topi 0 (by decide +kernel) ?_
  refine tr_isub dX12_feed_97 ?_
  refine tr_topi 24 (by decide +kernel) ?_
  refine tr_ishr dX12_feed_98 ?_
  refine tr_i2b dX12_feed_99 ?_
  refine tr_bast dX12_feed_100 (hK 184 13 (by decide) kd_184) (cz_inl 900 (hN 184 900 (by decide) ln_184) (by decide +kernel)) ?_
  refine tr_aload_n dX12_feed_101 rfl ?_
  refine tr_dup dX12_feed_102 rfl ?_
  refine tr_getI dX12_feed_103 fl12_378 (hK 183 12 (by decide) kd_183) ?_
  refine tr_topi 8 rfl ?_
  refine tr_iconst (v := 1) dX12_feed_106 (by decide +kernel) ?_
  refine tr_iadd dX12_feed_107 ?_
  refine tr_topi 9 (by decide +kernel) ?_
  refine tr_putI dX12_feed_108 fl12_378 (hK 183 12 (by decide) kd_183) (Or.inl rfl) ?_
  refine tr_iinc dX12_feed_111 rfl (by decide) ?_
  refine tr_goto 23 dX12_feed_114 (by decide) ?_
  refine tr_iload dX12_feed_23 rfl ?_
  refine tr_bipush (v := 20) dX12_feed_25 (by decide +kernel) ?_
  refine tr_icmp_ge 117 dX12_feed_27 (by decide) (fun h => absurd h (by decide +kernel)) (fun _ => ?_)
  refine tr_iload dX12_feed_30 rfl ?_
  refine tr_iconst (v := 4) dX12_feed_32 (by decide +kernel) ?_
  refine tr_icmp_ge 40 dX12_feed_33 (by decide) (fun _ => ?_) (fun h => absurd (by decide +kernel) h)
  refine tr_iload dX12_feed_40 rfl ?_
  refine tr_bipush (v := 8) dX12_feed_42 (by decide +kernel) ?_
  refine tr_icmp_ge 51 dX12_feed_44 (by decide) (fun _ => ?_) (fun h => absurd (by decide +kernel) h)
  refine tr_iload dX12_feed_51 rfl ?_
  refine tr_bipush (v := 12) dX12_feed_53 (by decide +kernel) ?_
  refine tr_icmp_ge 62 dX12_feed_55 (by decide) (fun h => absurd h (by decide +kernel)) (fun _ => ?_)
  refine tr_iload_n dX12_feed_58 rfl ?_
  refine tr_goto 76 dX12_feed_59 (by decide) ?_
  refine tr_istore dX12_feed_76 (by decide) (by decide) ?_
  refine tr_aload_n dX12_feed_78 rfl ?_
  refine tr_getR (x := 184) dX12_feed_79 fl12_13 (hK 183 12 (by decide) kd_183) (hR 183 5 (some 184) (by decide +kernel) rf_183_5) ?_
  refine tr_aload_n dX12_feed_82 rfl ?_
  refine tr_getI dX12_feed_83 fl12_378 (hK 183 12 (by decide) kd_183) ?_
  refine tr_topi 9 rfl ?_
  refine tr_iload dX12_feed_86 rfl ?_
  refine tr_bipush (v := 24) dX12_feed_88 (by decide +kernel) ?_
  refine tr_bipush (v := 8) dX12_feed_90 (by decide +kernel) ?_
  refine tr_iload dX12_feed_92 rfl ?_
  refine tr_iconst (v := 4) dX12_feed_94 (by decide +kernel) ?_
  refine tr_irem dX12_feed_95 (by decide +kernel) ?_
  refine tr_topi 1 (by decide +kernel) ?_
  refine tr_imul dX12_feed_96 ?_
  refine tr_topi 8 (by decide +kernel) ?_
  refine tr_isub dX12_feed_97 ?_
  refine tr_topi 16 (by decide +kernel) ?_
  refine tr_ishr dX12_feed_98 ?_
  refine tr_i2b dX12_feed_99 ?_
  refine tr_bast dX12_feed_100 (hK 184 13 (by decide) kd_184) (cz_inl 900 (hN 184 900 (by decide) ln_184) (by decide +kernel)) ?_
  refine tr_aload_n dX12_feed_101 rfl ?_
  refine tr_dup dX12_feed_102 rfl ?_
  refine tr_getI dX12_feed_103 fl12_378 (hK 183 12 (by decide) kd_183) ?_
  refine tr_topi 9 rfl ?_
  refine tr_iconst (v := 1) dX12_feed_106 (by decide +kernel) ?_
  refine tr_iadd dX12_feed_107 ?_
  refine tr_topi 10 (by decide +kernel) ?_
  refine tr_putI dX12_feed_108 fl12_378 (hK 183 12 (by decide) kd_183) (Or.inl rfl) ?_
  refine tr_iinc dX12_feed_111 rfl (by decide) ?_
  refine tr_goto 23 dX12_feed_114 (by decide) ?_
  refine tr_iload dX12_feed_23 rfl ?_
  refine tr_bipush (v := 20) dX12_feed_25 (by decide +kernel) ?_
  refine tr_icmp_ge 117 dX12_feed_27 (by decide) (fun h => absurd h (by decide +kernel)) (fun _ => ?_)
  refine tr_iload dX12_feed_30 rfl ?_
  refine tr_iconst (v := 4) dX12_feed_32 (by decide +kernel) ?_
  refine tr_icmp_ge 40 dX12_feed_33 (by decide) (fun _ => ?_) (fun h => absurd (by decide +kernel) h)
  refine tr_iload dX12_feed_40 rfl ?_
  refine tr_bipush (v := 8) dX12_feed_42 (by decide +kernel) ?_
  refine tr_icmp_ge 51 dX12_feed_44 (by decide) (fun _ => ?_) (fun h => absurd (by decide +kernel) h)
  refine tr_iload dX12_feed_51 rfl ?_
  refine tr_bipush (v := 12) dX12_feed_53 (by decide +kernel) ?_
  refine tr_icmp_ge 62 dX12_feed_55 (by decide) (fun h => absurd h (by decide +kernel)) (fun _ => ?_)
  refine tr_iload_n dX12_feed_58 rfl ?_
  refine tr_goto 76 dX12_feed_59 (by decide) ?_
  refine tr_istore dX12_feed_76 (by decide) (by decide) ?_
  refine tr_aload_n dX12_feed_78 rfl ?_
  refine tr_getR (x := 184) dX12_feed_79 fl12_13 (hK 183 12 (by decide) kd_183) (hR 183 5 (some 184) (by decide +kernel) rf_183_5) ?_
  refine tr_aload_n dX12_feed_82 rfl ?_
  refine tr_getI dX12_feed_83 fl12_378 (hK 183 12 (by decide) kd_183) ?_
  refine tr_topi 10 rfl ?_
  refine tr_iload dX12_feed_86 rfl ?_
  refine tr_bipush (v := 24) dX12_feed_88 (by decide +kernel) ?_
  refine tr_bipush (v := 8) dX12_feed_90 (by decide +kernel) ?_
  refine tr_iload dX12_feed_92 rfl ?_
  refine tr_iconst (v := 4) dX12_feed_94 (by decide +kernel) ?_
  refine tr_irem dX12_feed_95 (by decide +kernel) ?_
  refine tr_topi 2 (by decide +kernel) ?_
  refine tr_imul dX12_feed_96 ?_
  refine tr_topi 16 (by decide +kernel) ?_
  refine tr_isub dX12_feed_97 ?_
  refine tr_topi 8 (by decide +kernel) ?_
  refine tr_ishr dX12_feed_98 ?_
  refine tr_i2b dX12_feed_99 ?_
  refine tr_bast dX12_feed_100 (hK 184 13 (by decide) kd_184) (cz_inl 900 (hN 184 900 (by decide) ln_184) (by decide +kernel)) ?_
  refine tr_aload_n dX12_feed_101 rfl ?_
  refine tr_dup dX12_feed_102 rfl ?_
  refine tr_getI dX12_feed_103 fl12_378 (hK 183 12 (by decide) kd_183) ?_
  refine tr_topi 10 rfl ?_
  refine tr_iconst (v := 1) dX12_feed_106 (by decide +kernel) ?_
  refine tr_iadd dX12_feed_107 ?_
  refine tr_topi 11 (by decide +kernel) ?_
  refine tr_putI dX12_feed_108 fl12_378 (hK 183 12 (by decide) kd_183) (Or.inl rfl) ?_
  refine tr_iinc dX12_feed_111 rfl (by decide) ?_
  refine tr_goto 23 dX12_feed_114 (by decide) ?_
  refine tr_iload dX12_feed_23 rfl ?_
  refine tr_bipush (v := 20) dX12_feed_25 (by decide +kernel) ?_
  refine tr_icmp_ge 117 dX12_feed_27 (by decide) (fun h => absurd h (by decide +kernel)) (fun _ => ?_)
  refine tr_iload dX12_feed_30 rfl ?_
  refine tr_iconst (v := 4) dX12_feed_32 (by decide +kernel) ?_
  refine tr_icmp_ge 40 dX12_feed_33 (by decide) (fun _ => ?_) (fun h => absurd (by decide +kernel) h)
  refine tr_iload dX12_feed_40 rfl ?_
  refine tr_bipush (v := 8) dX12_feed_42 (by decide +kernel) ?_
  refine tr_icmp_ge 51 dX12_feed_44 (by decide) (fun _ => ?_) (fun h => absurd (by decide +kernel) h)
  refine tr_iload dX12_feed_51 rfl ?_
  refine tr_bipush (v := 12) dX12_feed_53 (by decide +kernel) ?_
  refine tr_icmp_ge 62 dX12_feed_55 (by decide) (fun h => absurd h (by decide +kernel)) (fun _ => ?_)
  refine tr_iload_n dX12_feed_58 rfl ?_
  refine tr_goto 76 dX12_feed_59 (by decide) ?_
  refine tr_istore dX12_feed_76 (by decide) (by decide) ?_
  refine tr_aload_n dX12_feed_78 rfl ?_
  refine tr_getR (x := 184) dX12_feed_79 fl12_13 (hK 183 12 (by decide) kd_183) (hR 183 5 (some 184) (by decide +kernel) rf_183_5) ?_
  refine tr_aload_n dX12_feed_82 rfl ?_
  refine tr_getI dX12_feed_83 fl12_378 (hK 183 12 (by decide) kd_183) ?_
  refine tr_topi 11 rfl ?_
  refine tr_iload dX12_feed_86 rfl ?_
  refine tr_bipush (v := 24) dX12_feed_88 (by decide +kernel) ?_
  refine tr_bipush (v := 8) dX12_feed_90 (by decide +kernel) ?_
  refine tr_iload dX12_feed_92 rfl ?_
  refine tr_iconst (v := 4) dX12_feed_94 (by decide +kernel) ?_
  refine tr_irem dX12_feed_95 (by decide +kernel) ?_
  refine tr_topi 3 (by decide +kernel) ?_
  refine tr_imul dX12_feed_96 ?_
  refine tr_topi 24 (by decide +kernel) ?_
  refine tr_isub dX12_feed_97 ?_
  refine tr_topi 0 (by decide +kernel) ?_
  refine tr_ishr dX12_feed_98 ?_
  refine tr_i2b dX12_feed_99 ?_
  refine tr_bast dX12_feed_100 (hK 184 13 (by decide) kd_184) (cz_inl 900 (hN 184 900 (by decide) ln_184) (by decide +kernel)) ?_
  refine tr_aload_n dX12_feed_101 rfl ?_
  refine tr_dup dX12_feed_102 rfl ?_
  refine tr_getI dX12_feed_103 fl12_378 (hK 183 12 (by decide) kd_183) ?_
  refine tr_topi 11 rfl ?_
  refine tr_iconst (v := 1) dX12_feed_106 (by decide +kernel) ?_
  refine tr_iadd dX12_feed_107 ?_
  refine tr_topi 12 (by decide +kernel) ?_
  refine tr_putI dX12_feed_108 fl12_378 (hK 183 12 (by decide) kd_183) (Or.inl rfl) ?_
  refine tr_iinc dX12_feed_111 rfl (by decide) ?_
  refine tr_goto 23 dX12_feed_114 (by decide) ?_
  refine tr_iload dX12_feed_23 rfl ?_
  refine tr_bipush (v := 20) dX12_feed_25 (by decide +kernel) ?_
  refine tr_icmp_ge 117 dX12_feed_27 (by decide) (fun h => absurd h (by decide +kernel)) (fun _ => ?_)
  refine tr_iload dX12_feed_30 rfl ?_
  refine tr_iconst (v := 4) dX12_feed_32 (by decide +kernel) ?_
  refine tr_icmp_ge 40 dX12_feed_33 (by decide) (fun _ => ?_) (fun h => absurd (by decide +kernel) h)
  refine tr_iload dX12_feed_40 rfl ?_
  refine tr_bipush (v := 8) dX12_feed_42 (by decide +kernel) ?_
  refine tr_icmp_ge 51 dX12_feed_44 (by decide) (fun _ => ?_) (fun h => absurd (by decide +kernel) h)
  refine tr_iload dX12_feed_51 rfl ?_
  refine tr_bipush (v := 12) dX12_feed_53 (by decide +kernel) ?_
  refine tr_icmp_ge 62 dX12_feed_55 (by decide) (fun _ => ?_) (fun h => absurd (by decide +kernel) h)
  refine tr_iload dX12_feed_62 rfl ?_
  refine tr_bipush (v := 16) dX12_feed_64 (by decide +kernel) ?_
  refine tr_icmp_ge 74 dX12_feed_66 (by decide) (fun h => absurd h (by decide +kernel)) (fun _ => ?_)
  refine tr_iload dX12_feed_69 rfl ?_
  refine tr_goto 76 dX12_feed_71 (by decide) ?_
  refine tr_istore dX12_feed_76 (by decide) (by decide) ?_
  refine tr_aload_n dX12_feed_78 rfl ?_
  refine tr_getR (x := 184) dX12_feed_79 fl12_13 (hK 183 12 (by decide) kd_183) (hR 183 5 (some 184) (by decide +kernel) rf_183_5) ?_
  refine tr_aload_n dX12_feed_82 rfl ?_
  refine tr_getI dX12_feed_83 fl12_378 (hK 183 12 (by decide) kd_183) ?_
  refine tr_topi 12 rfl ?_
  refine tr_iload dX12_feed_86 rfl ?_
  refine tr_bipush (v := 24) dX12_feed_88 (by decide +kernel) ?_
  refine tr_bipush (v := 8) dX12_feed_90 (by decide +kernel) ?_
  refine tr_iload dX12_feed_92 rfl ?_
  refine tr_iconst (v := 4) dX12_feed_94 (by decide +kernel) ?_
  refine tr_irem dX12_feed_95 (by decide +kernel) ?_
  refine tr_topi 0 (by decide +kernel) ?_
  refine tr_imul dX12_feed_96 ?_
  refine tr_topi 0 (by decide +kernel) ?_
  refine tr_isub dX12_feed_97 ?_
  refine tr_topi 24 (by decide +kernel) ?_
  refine tr_ishr dX12_feed_98 ?_
  refine tr_i2b dX12_feed_99 ?_
  refine tr_bast dX12_feed_100 (hK 184 13 (by decide) kd_184) (cz_inl 900 (hN 184 900 (by decide) ln_184) (by decide +kernel)) ?_
  refine tr_aload_n dX12_feed_101 rfl ?_
  refine tr_dup dX12_feed_102 rfl ?_
  refine tr_getI dX12_feed_103 fl12_378 (hK 183 12 (by decide) kd_183) ?_
  refine tr_topi 12 rfl ?_
  refine tr_iconst (v := 1) dX12_feed_106 (by decide +kernel) ?_
  refine tr_iadd dX12_feed_107 ?_
  refine tr_topi 13 (by decide +kernel) ?_
  refine tr_putI dX12_feed_108 fl12_378 (hK 183 12 (by decide) kd_183) (Or.inl rfl) ?_
  refine tr_iinc dX12_feed_111 rfl (by decide) ?_
  refine tr_goto 23 dX12_feed_114 (by decide) ?_
  refine tr_iload dX12_feed_23 rfl ?_
  refine tr_bipush (v := 20) dX12_feed_25 (by decide +kernel) ?_
  refine tr_icmp_ge 117 dX12_feed_27 (by decide) (fun h => absurd h (by decide +kernel)) (fun _ => ?_)
  refine tr_iload dX12_feed_30 rfl ?_
  refine tr_iconst (v := 4) dX12_feed_32 (by decide +kernel) ?_
  refine tr_icmp_ge 40 dX12_feed_33 (by decide) (fun _ => ?_) (fun h => absurd (by decide +kernel) h)
  refine tr_iload dX12_feed_40 rfl ?_
  refine tr_bipush (v := 8) dX12_feed_42 (by decide +kernel) ?_
  refine tr_icmp_ge 51 dX12_feed_44 (by decide) (fun _ => ?_) (fun h => absurd (by decide +kernel) h)
  refine tr_iload dX12_feed_51 rfl ?_
  refine tr_bipush (v := 12) dX12_feed_53 (by decide +kernel) ?_
  refine tr_icmp_ge 62 dX12_feed_55 (by decide) (fun _ => ?_) (fun h => absurd (by decide +kernel) h)
  refine tr_iload dX12_feed_62 rfl ?_
  refine tr_bipush (v := 16) dX12_feed_64 (by decide +kernel) ?_
  refine tr_icmp_ge 74 dX12_feed_66 (by decide) (fun h => absurd h (by decide +kernel)) (fun _ => ?_)
  refine tr_iload dX12_feed_69 rfl ?_
  refine tr_goto 76 dX12_feed_71 (by decide) ?_
  refine tr_istore dX12_feed_76 (by decide) (by decide) ?_
  refine tr_aload_n dX12_feed_78 rfl ?_
  refine tr_getR (x := 184) dX12_feed_79 fl12_13 (hK 183 12 (by decide) kd_183) (hR 183 5 (some 184) (by decide +kernel) rf_183_5) ?_
  refine tr_aload_n dX12_feed_82 rfl ?_
  refine tr_getI dX12_feed_83 fl12_378 (hK 183 12 (by decide) kd_183) ?_
  refine tr_topi 13 rfl ?_
  refine tr_iload dX12_feed_86 rfl ?_
  refine tr_bipush (v := 24) dX12_feed_88 (by decide +kernel) ?_
  refine tr_bipush (v := 8) dX12_feed_90 (by decide +kernel) ?_
  refine tr_iload dX12_feed_92 rfl ?_
  refine tr_iconst (v := 4) dX12_feed_94 (by decide +kernel) ?_
  refine tr_irem dX12_feed_95 (by decide +kernel) ?_
  refine tr_topi 1 (by decide +kernel) ?_
  refine tr_imul dX12_feed_96 ?_
  refine tr_topi 8 (by decide +kernel) ?_
  refine tr_isub dX12_feed_97 ?_
  refine tr_topi 16 (by decide +kernel) ?_
  refine tr_ishr dX12_feed_98 ?_
  refine tr_i2b dX12_feed_99 ?_
  refine tr_bast dX12_feed_100 (hK 184 13 (by decide) kd_184) (cz_inl 900 (hN 184 900 (by decide) ln_184) (by decide +kernel)) ?_
  refine tr_aload_n dX12_feed_101 rfl ?_
  refine tr_dup dX12_feed_102 rfl ?_
  refine tr_getI dX12_feed_103 fl12_378 (hK 183 12 (by decide) kd_183) ?_
  refine tr_topi 13 rfl ?_
  refine tr_iconst (v := 1) dX12_feed_106 (by decide +kernel) ?_
  refine tr_iadd dX12_feed_107 ?_
  refine tr_topi 14 (by decide +kernel) ?_
  refine tr_putI dX12_feed_108 fl12_378 (hK 183 12 (by decide) kd_183) (Or.inl rfl) ?_
  refine tr_iinc dX12_feed_111 rfl (by decide) ?_
  refine tr_goto 23 dX12_feed_114 (by decide) ?_
  refine tr_iload dX12_feed_23 rfl ?_
  refine tr_bipush (v := 20) dX12_feed_25 (by decide +kernel) ?_
  refine tr_icmp_ge 117 dX12_feed_27 (by decide) (fun h => absurd h (by decide +kernel)) (fun _ => ?_)
  refine tr_iload dX12_feed_30 rfl ?_
  refine tr_iconst (v := 4) dX12_feed_32 (by decide +kernel) ?_
  refine tr_icmp_ge 40 dX12_feed_33 (by decide) (fun _ => ?_) (fun h => absurd (by decide +kernel) h)
  refine tr_iload dX12_feed_40 rfl ?_
  refine tr_bipush (v := 8) dX12_feed_42 (by decide +kernel) ?_
  refine tr_icmp_ge 51 dX12_feed_44 (by decide) (fun _ => ?_) (fun h => absurd (by decide +kernel) h)
  refine tr_iload dX12_feed_51 rfl ?_
  refine tr_bipush (v := 12) dX12_feed_53 (by decide +kernel) ?_
  refine tr_icmp_ge 62 dX12_feed_55 (by decide) (fun _ => ?_) (fun h => absurd (by decide +kernel) h)
  refine tr_iload dX12_feed_62 rfl ?_
  refine tr_bipush (v := 16) dX12_feed_64 (by decide +kernel) ?_
  refine tr_icmp_ge 74 dX12_feed_66 (by decide) (fun h => absurd h (by decide +kernel)) (fun _ => ?_)
  refine tr_iload dX12_feed_69 rfl ?_
  refine tr_goto 76 dX12_feed_71 (by decide) ?_
  refine tr_istore dX12_feed_76 (by decide) (by decide) ?_
  refine tr_aload_n dX12_feed_78 rfl ?_
  refine tr_getR (x := 184) dX12_feed_79 fl12_13 (hK 183 12 (by decide) kd_183) (hR 183 5 (some 184) (by decide +kernel) rf_183_5) ?_
  refine tr_aload_n dX12_feed_82 rfl ?_
  refine tr_getI dX12_feed_83 fl12_378 (hK 183 12 (by decide) kd_183) ?_
  refine tr_topi 14 rfl ?_
  refine tr_iload dX12_feed_86 rfl ?_
  refine tr_bipush (v := 24) dX12_feed_88 (by decide +kernel) ?_
  refine tr_bipush (v := 8) dX12_feed_90 (by decide +kernel) ?_
  refine tr_iload dX12_feed_92 rfl ?_
  refine tr_iconst (v := 4) dX12_feed_94 (by decide +kernel) ?_
  refine tr_irem dX12_feed_95 (by decide +kernel) ?_
  refine tr_topi 2 (by decide +kernel) ?_
  refine tr_imul dX12_feed_96 ?_
  refine tr_topi 16 (by decide +kernel) ?_
  refine tr_isub dX12_feed_97 ?_
  refine tr_topi 8 (by decide +kernel) ?_
  refine tr_ishr dX12_feed_98 ?_
  refine tr_i2b dX12_feed_99 ?_
  refine tr_bast dX12_feed_100 (hK 184 13 (by decide) kd_184) (cz_inl 900 (hN 184 900 (by decide) ln_184) (by decide +kernel)) ?_
  refine tr_aload_n dX12_feed_101 rfl ?_
  refine tr_dup dX12_feed_102 rfl ?_
  refine tr_getI dX12_feed_103 fl12_378 (hK 183 12 (by decide) kd_183) ?_
  refine tr_topi 14 rfl ?_
  refine tr_iconst (v := 1) dX12_feed_106 (by decide +kernel) ?_
  refine tr_iadd dX12_feed_107 ?_
  refine tr_topi 15 (by decide +kernel) ?_
  refine tr_putI dX12_feed_108 fl12_378 (hK 183 12 (by decide) kd_183) (Or.inl rfl) ?_
  refine tr_iinc dX12_feed_111 rfl (by decide) ?_
  refine tr_goto 23 dX12_feed_114 (by decide) ?_
  refine tr_iload dX12_feed_23 rfl ?_
  refine tr_bipush (v := 20) dX12_feed_25 (by decide +kernel) ?_
  refine tr_icmp_ge 117 dX12_feed_27 (by decide) (fun h => absurd h (by decide +kernel)) (fun _ => ?_)
  refine tr_iload dX12_feed_30 rfl ?_
  refine tr_iconst (v := 4) dX12_feed_32 (by decide +kernel) ?_
  refine tr_icmp_ge 40 dX12_feed_33 (by decide) (fun _ => ?_) (fun h => absurd (by decide +kernel) h)
  refine tr_iload dX12_feed_40 rfl ?_
  refine tr_bipush (v := 8) dX12_feed_42 (by decide +kernel) ?_
  refine tr_icmp_ge 51 dX12_feed_44 (by decide) (fun _ => ?_) (fun h => absurd (by decide +kernel) h)
  refine tr_iload dX12_feed_51 rfl ?_
  refine tr_bipush (v := 12) dX12_feed_53 (by decide +kernel) ?_
  refine tr_icmp_ge 62 dX12_feed_55 (by decide) (fun _ => ?_) (fun h => absurd (by decide +kernel) h)
  refine tr_iload dX12_feed_62 rfl ?_
  refine tr_bipush (v := 16) dX12_feed_64 (by decide +kernel) ?_
  refine tr_icmp_ge 74 dX12_feed_66 (by decide) (fun h => absurd h (by decide +kernel)) (fun _ => ?_)
  refine tr_iload dX12_feed_69 rfl ?_
  refine tr_goto 76 dX12_feed_71 (by decide) ?_
  refine tr_istore dX12_feed_76 (by decide) (by decide) ?_
  refine tr_aload_n dX12_feed_78 rfl ?_
  refine tr_getR (x := 184) dX12_feed_79 fl12_13 (hK 183 12 (by decide) kd_183) (hR 183 5 (some 184) (by decide +kernel) rf_183_5) ?_
  refine tr_aload_n dX12_feed_82 rfl ?_
  refine tr_getI dX12_feed_83 fl12_378 (hK 183 12 (by decide) kd_183) ?_
  refine tr_topi 15 rfl ?_
  refine tr_iload dX12_feed_86 rfl ?_
  refine tr_bipush (v := 24) dX12_feed_88 (by decide +kernel) ?_
  refine tr_bipush (v := 8) dX12_feed_90 (by decide +kernel) ?_
  refine tr_iload dX12_feed_92 rfl ?_
  refine tr_iconst (v := 4) dX12_feed_94 (by decide +kernel) ?_
  refine tr_irem dX12_feed_95 (by decide +kernel) ?_
  refine tr_topi 3 (by decide +kernel) ?_
  refine tr_imul dX12_feed_96 ?_
  refine tr_topi 24 (by decide +kernel) ?_
  refine tr_isub dX12_feed_97 ?_
  refine tr_topi 0 (by decide +kernel) ?_
  refine tr_ishr dX12_feed_98 ?_
  refine tr_i2b dX12_feed_99 ?_
  refine tr_bast dX12_feed_100 (hK 184 13 (by decide) kd_184) (cz_inl 900 (hN 184 900 (by decide) ln_184) (by decide +kernel)) ?_
  refine tr_aload_n dX12_feed_101 rfl ?_
  refine tr_dup dX12_feed_102 rfl ?_
  refine tr_getI dX12_feed_103 fl12_378 (hK 183 12 (by decide) kd_183) ?_
  refine tr_topi 15 rfl ?_
  refine tr_iconst (v := 1) dX12_feed_106 (by decide +kernel) ?_
  refine tr_iadd dX12_feed_107 ?_
  refine tr_topi 16 (by decide +kernel) ?_
  refine tr_putI dX12_feed_108 fl12_378 (hK 183 12 (by decide) kd_183) (Or.inl rfl) ?_
  refine tr_iinc dX12_feed_111 rfl (by decide) ?_
  refine tr_goto 23 dX12_feed_114 (by decide) ?_
  refine tr_iload dX12_feed_23 rfl ?_
  refine tr_bipush (v := 20) dX12_feed_25 (by decide +kernel) ?_
  refine tr_icmp_ge 117 dX12_feed_27 (by decide) (fun h => absurd h (by decide +kernel)) (fun _ => ?_)
  refine tr_iload dX12_feed_30 rfl ?_
  refine tr_iconst (v := 4) dX12_feed_32 (by decide +kernel) ?_
  refine tr_icmp_ge 40 dX12_feed_33 (by decide) (fun _ => ?_) (fun h => absurd (by decide +kernel) h)
  refine tr_iload dX12_feed_40 rfl ?_
  refine tr_bipush (v := 8) dX12_feed_42 (by decide +kernel) ?_
  refine tr_icmp_ge 51 dX12_feed_44 (by decide) (fun _ => ?_) (fun h => absurd (by decide +kernel) h)
  refine tr_iload dX12_feed_51 rfl ?_
  refine tr_bipush (v := 12) dX12_feed_53 (by decide +kernel) ?_
  refine tr_icmp_ge 62 dX12_feed_55 (by decide) (fun _ => ?_) (fun h => absurd (by decide +kernel) h)
  refine tr_iload dX12_feed_62 rfl ?_
  refine tr_bipush (v := 16) dX12_feed_64 (by decide +kernel) ?_
  refine tr_icmp_ge 74 dX12_feed_66 (by decide) (fun _ => ?_) (fun h => absurd (by decide +kernel) h)
  refine tr_iload dX12_feed_74 rfl ?_
  refine tr_istore dX12_feed_76 (by decide) (by decide) ?_
  refine tr_aload_n dX12_feed_78 rfl ?_
  refine tr_getR (x := 184) dX12_feed_79 fl12_13 (hK 183 12 (by decide) kd_183) (hR 183 5 (some 184) (by decide +kernel) rf_183_5) ?_
  refine tr_aload_n dX12_feed_82 rfl ?_
  refine tr_getI dX12_feed_83 fl12_378 (hK 183 12 (by decide) kd_183) ?_
  refine tr_topi 16 rfl ?_
  refine tr_iload dX12_feed_86 rfl ?_
  refine tr_bipush (v := 24) dX12_feed_88 (by decide +kernel) ?_
  refine tr_bipush (v := 8) dX12_feed_90 (by decide +kernel) ?_
  refine tr_iload dX12_feed_92 rfl ?_
  refine tr_iconst (v := 4) dX12_feed_94 (by decide +kernel) ?_
  refine tr_irem dX12_feed_95 (by decide +kernel) ?_
  refine tr_topi 0 (by decide +kernel) ?_
  refine tr_imul dX12_feed_96 ?_
  refine tr_topi 0 (by decide +kernel) ?_
  refine tr_isub dX12_feed_97 ?_
  refine tr_topi 24 (by decide +kernel) ?_
  refine tr_ishr dX12_feed_98 ?_
  refine tr_i2b dX12_feed_99 ?_
  refine tr_bast dX12_feed_100 (hK 184 13 (by decide) kd_184) (cz_inl 900 (hN 184 900 (by decide) ln_184) (by decide +kernel)) ?_
  refine tr_aload_n dX12_feed_101 rfl ?_
  refine tr_dup dX12_feed_102 rfl ?_
  refine tr_getI dX12_feed_103 fl12_378 (hK 183 12 (by decide) kd_183) ?_
  refine tr_topi 16 rfl ?_
  refine tr_iconst (v := 1) dX12_feed_106 (by decide +kernel) ?_
  refine tr_iadd dX12_feed_107 ?_
  refine tr_topi 17 (by decide +kernel) ?_
  refine tr_putI dX12_feed_108 fl12_378 (hK 183 12 (by decide) kd_183) (Or.inl rfl) ?_
  refine tr_iinc dX12_feed_111 rfl (by decide) ?_
  refine tr_goto 23 dX12_feed_114 (by decide) ?_
  refine tr_iload dX12_feed_23 rfl ?_
  refine tr_bipush (v := 20) dX12_feed_25 (by decide +kernel) ?_
  refine tr_icmp_ge 117 dX12_feed_27 (by decide) (fun h => absurd h (by decide +kernel)) (fun _ => ?_)
  refine tr_iload dX12_feed_30 rfl ?_
  refine tr_iconst (v := 4) dX12_feed_32 (by decide +kernel) ?_
  refine tr_icmp_ge 40 dX12_feed_33 (by decide) (fun _ => ?_) (fun h => absurd (by decide +kernel) h)
  refine tr_iload dX12_feed_40 rfl ?_
  refine tr_bipush (v := 8) dX12_feed_42 (by decide +kernel) ?_
  refine tr_icmp_ge 51 dX12_feed_44 (by decide) (fun _ => ?_) (fun h => absurd (by decide +kernel) h)
  refine tr_iload dX12_feed_51 rfl ?_
  refine tr_bipush (v := 12) dX12_feed_53 (by decide +kernel) ?_
  refine tr_icmp_ge 62 dX12_feed_55 (by decide) (fun _ => ?_) (fun h => absurd (by decide +kernel) h)
  refine tr_iload dX12_feed_62 rfl ?_
  refine tr_bipush (v := 16) dX12_feed_64 (by decide +kernel) ?_
  refine tr_icmp_ge 74 dX12_feed_66 (by decide) (fun _ => ?_) (fun h => absurd (by decide +kernel) h)
  refine tr_iload dX12_feed_74 rfl ?_
  refine tr_istore dX12_feed_76 (by decide) (by decide) ?_
  refine tr_aload_n dX12_feed_78 rfl ?_
  refine tr_getR (x := 184) dX12_feed_79 fl12_13 (hK 183 12 (by decide) kd_183) (hR 183 5 (some 184) (by decide +kernel) rf_183_5) ?_
  refine tr_aload_n dX12_feed_82 rfl ?_
  refine tr_getI dX12_feed_83 fl12_378 (hK 183 12 (by decide) kd_183) ?_
  refine tr_topi 17 rfl ?_
  refine tr_iload dX12_feed_86 rfl ?_
  refine tr_bipush (v := 24) dX12_feed_88 (by decide +kernel) ?_
  refine tr_bipush (v := 8) dX12_feed_90 (by decide +kernel) ?_
  refine tr_iload dX12_feed_92 rfl ?_
  refine tr_iconst (v := 4) dX12_feed_94 (by decide +kernel) ?_
  refine tr_irem dX12_feed_95 (by decide +kernel) ?_
  refine tr_topi 1 (by decide +kernel) ?_
  refine tr_imul dX12_feed_96 ?_
  refine tr_topi 8 (by decide +kernel) ?_
  refine tr_isub dX12_feed_97 ?_
  refine tr_topi 16 (by decide +kernel) ?_
  refine tr_ishr dX12_feed_98 ?_
  refine tr_i2b dX12_feed_99 ?_
  refine tr_bast dX12_feed_100 (hK 184 13 (by decide) kd_184) (cz_inl 900 (hN 184 900 (by decide) ln_184) (by decide +kernel)) ?_
  refine tr_aload_n dX12_feed_101 rfl ?_
  refine tr_dup dX12_feed_102 rfl ?_
  refine tr_getI dX12_feed_103 fl12_378 (hK 183 12 (by decide) kd_183) ?_
  refine tr_topi 17 rfl ?_
  refine tr_iconst (v := 1) dX12_feed_106 (by decide +kernel) ?_
  refine tr_iadd dX12_feed_107 ?_
  refine tr_topi 18 (by decide +kernel) ?_
  refine tr_putI dX12_feed_108 fl12_378 (hK 183 12 (by decide) kd_183) (Or.inl rfl) ?_
  refine tr_iinc dX12_feed_111 rfl (by decide) ?_
  refine tr_goto 23 dX12_feed_114 (by decide) ?_
  refine tr_iload dX12_feed_23 rfl ?_
  refine tr_bipush (v := 20) dX12_feed_25 (by decide +kernel) ?_
  refine tr_icmp_ge 117 dX12_feed_27 (by decide) (fun h => absurd h (by decide +kernel)) (fun _ => ?_)
  refine tr_iload dX12_feed_30 rfl ?_
  refine tr_iconst (v := 4) dX12_feed_32 (by decide +kernel) ?_
  refine tr_icmp_ge 40 dX12_feed_33 (by decide) (fun _ => ?_) (fun h => absurd (by decide +kernel) h)
  refine tr_iload dX12_feed_40 rfl ?_
  refine tr_bipush (v := 8) dX12_feed_42 (by decide +kernel) ?_
  refine tr_icmp_ge 51 dX12_feed_44 (by decide) (fun _ => ?_) (fun h => absurd (by decide +kernel) h)
  refine tr_iload dX12_feed_51 rfl ?_
  refine tr_bipush (v := 12) dX12_feed_53 (by decide +kernel) ?_
  refine tr_icmp_ge 62 dX12_feed_55 (by decide) (fun _ => ?_) (fun h => absurd (by decide +kernel) h)
  refine tr_iload dX12_feed_62 rfl ?_
  refine tr_bipush (v := 16) dX12_feed_64 (by decide +kernel) ?_
  refine tr_icmp_ge 74 dX12_feed_66 (by decide) (fun _ => ?_) (fun h => absurd (by decide +kernel) h)
  refine tr_iload dX12_feed_74 rfl ?_
  refine tr_istore dX12_feed_76 (by decide) (by decide) ?_
  refine tr_aload_n dX12_feed_78 rfl ?_
  refine tr_getR (x := 184) dX12_feed_79 fl12_13 (hK 183 12 (by decide) kd_183) (hR 183 5 (some 184) (by decide +kernel) rf_183_5) ?_
  refine tr_aload_n dX12_feed_82 rfl ?_
  refine tr_getI dX12_feed_83 fl12_378 (hK 183 12 (by decide) kd_183) ?_
  refine tr_topi 18 rfl ?_
  refine tr_iload dX12_feed_86 rfl ?_
  refine tr_bipush (v := 24) dX12_feed_88 (by decide +kernel) ?_
  refine tr_bipush (v := 8) dX12_feed_90 (by decide +kernel) ?_
  refine tr_iload dX12_feed_92 rfl ?_
  refine tr_iconst (v := 4) dX12_feed_94 (by decide +kernel) ?_
  refine tr_irem dX12_feed_95 (by decide +kernel) ?_
  refine tr_topi 2 (by decide +kernel) ?_
  refine tr_imul dX12_feed_96 ?_
  refine tr_topi 16 (by decide +kernel) ?_
  refine tr_isub dX12_feed_97 ?_
  refine tr_topi 8 (by decide +kernel) ?_
  refine tr_ishr dX12_feed_98 ?_
  refine tr_i2b dX12_feed_99 ?_
  refine tr_bast dX12_feed_100 (hK 184 13 (by decide) kd_184) (cz_inl 900 (hN 184 900 (by decide) ln_184) (by decide +kernel)) ?_
  refine tr_aload_n dX12_feed_101 rfl ?_
  refine tr_dup dX12_feed_102 rfl ?_
  refine tr_getI dX12_feed_103 fl12_378 (hK 183 12 (by decide) kd_183) ?_
  refine tr_topi 18 rfl ?_
  refine tr_iconst (v := 1) dX12_feed_106 (by decide +kernel) ?_
  refine tr_iadd dX12_feed_107 ?_
  refine tr_topi 19 (by decide +kernel) ?_
  refine tr_putI dX12_feed_108 fl12_378 (hK 183 12 (by decide) kd_183) (Or.inl rfl) ?_
  refine tr_iinc dX12_feed_111 rfl (by decide) ?_
  refine tr_goto 23 dX12_feed_114 (by decide) ?_
  refine tr_iload dX12_feed_23 rfl ?_
  refine tr_bipush (v := 20) dX12_feed_25 (by decide +kernel) ?_
  refine tr_icmp_ge 117 dX12_feed_27 (by decide) (fun h => absurd h (by decide +kernel)) (fun _ => ?_)
  refine tr_iload dX12_feed_30 rfl ?_
  refine tr_iconst (v := 4) dX12_feed_32 (by decide +kernel) ?_
  refine tr_icmp_ge 40 dX12_feed_33 (by decide) (fun _ => ?_) (fun h => absurd (by decide +kernel) h)
  refine tr_iload dX12_feed_40 rfl ?_
  refine tr_bipush (v := 8) dX12_feed_42 (by decide +kernel) ?_
  refine tr_icmp_ge 51 dX12_feed_44 (by decide) (fun _ => ?_) (fun h => absurd (by decide +kernel) h)
  refine tr_iload dX12_feed_51 rfl ?_
  refine tr_bipush (v := 12) dX12_feed_53 (by decide +kernel) ?_
  refine tr_icmp_ge 62 dX12_feed_55 (by decide) (fun _ => ?_) (fun h => absurd (by decide +kernel) h)
  refine tr_iload dX12_feed_62 rfl ?_
  refine tr_bipush (v := 16) dX12_feed_64 (by decide +kernel) ?_
  refine tr_icmp_ge 74 dX12_feed_66 (by decide) (fun _ => ?_) (fun h => absurd (by decide +kernel) h)
  refine tr_iload dX12_feed_74 rfl ?_
  refine tr_istore dX12_feed_76 (by decide) (by decide) ?_
  refine tr_aload_n dX12_feed_78 rfl ?_
  refine tr_getR (x := 184) dX12_feed_79 fl12_13 (hK 183 12 (by decide) kd_183) (hR 183 5 (some 184) (by decide +kernel) rf_183_5) ?_
  refine tr_aload_n dX12_feed_82 rfl ?_
  refine tr_getI dX12_feed_83 fl12_378 (hK 183 12 (by decide) kd_183) ?_
  refine tr_topi 19 rfl ?_
  refine tr_iload dX12_feed_86 rfl ?_
  refine tr_bipush (v := 24) dX12_feed_88 (by decide +kernel) ?_
  refine tr_bipush (v := 8) dX12_feed_90 (by decide +kernel) ?_
  refine tr_iload dX12_feed_92 rfl ?_
  refine tr_iconst (v := 4) dX12_feed_94 (by decide +kernel) ?_
  refine tr_irem dX12_feed_95 (by decide +kernel) ?_
  refine tr_topi 3 (by decide +kernel) ?_
  refine tr_imul dX12_feed_96 ?_
  refine tr_topi 24 (by decide +kernel) ?_
  refine tr_isub dX12_feed_97 ?_
  refine tr_topi 0 (by decide +kernel) ?_
  refine tr_ishr dX12_feed_98 ?_
  refine tr_i2b dX12_feed_99 ?_
  refine tr_bast dX12_feed_100 (hK 184 13 (by decide) kd_184) (cz_inl 900 (hN 184 900 (by decide) ln_184) (by decide +kernel)) ?_
  refine tr_aload_n dX12_feed_101 rfl ?_
  refine tr_dup dX12_feed_102 rfl ?_
  refine tr_getI dX12_feed_103 fl12_378 (hK 183 12 (by decide) kd_183) ?_
  refine tr_topi 19 rfl ?_
  refine tr_iconst (v := 1) dX12_feed_106 (by decide +kernel) ?_
  refine tr_iadd dX12_feed_107 ?_
  refine tr_topi 20 (by decide +kernel) ?_
  refine tr_putI dX12_feed_108 fl12_378 (hK 183 12 (by decide) kd_183) (Or.inl rfl) ?_
  refine tr_iinc dX12_feed_111 rfl (by decide) ?_
  refine tr_goto 23 dX12_feed_114 (by decide) ?_
  refine tr_iload dX12_feed_23 rfl ?_
  refine tr_bipush (v := 20) dX12_feed_25 (by decide +kernel) ?_
  refine tr_icmp_ge 117 dX12_feed_27 (by decide) (fun _ => ?_) (fun h => absurd (by decide +kernel) h)
  refine tr_aload_n dX12_feed_117 rfl ?_
  refine tr_getI dX12_feed_118 fl12_378 (hK 183 12 (by decide) kd_183) ?_
  refine tr_topi 20 rfl ?_
  exact tr_iret zX7 dX12_feed_121 rfl (by decide) (by decide) rfl
set_option maxHeartbeats 4000000 in
set_option maxRecDepth 100000 in
theorem fX10_fault {l : Launch} {K N : Nat → Nat} {I : cz_I} {R : cz_R} {L : cz_L} (hf : cz_f1 K N I R) : Con l mX10_fault [.ref 0] 203 K N I R L (fun r cn' K' N' I' R' _ => r = some (.int (0)) ∧ cn' = 203 ∧ K' = K ∧ N' = N ∧ ∀ k : Nat, 183 ≤ k → I' k = I k ∧ R' k = R k) := by
  obtain ⟨hK, hN, hR, hI⟩ := hf
  refine Con.of (by decide +kernel) rfl (Nat.le_of_ble_eq_true rfl) rfl (fun X8 hX8 zX8 => ?_)
  refine tr_aload_n dX10_fault_0 rfl ?_
  refine tr_getI dX10_fault_1 fl10_90 (hK 0 10 (by decide) kd_0) ?_
  refine tr_topi 0 (hI 0 15 (by decide +kernel)) ?_
  exact tr_iret zX8 dX10_fault_4 rfl (by decide) (by decide) ⟨rfl, rfl, rfl, rfl, fun k hk => ⟨by first | rfl | (repeat rw [cz_uIn (by omega)]), by first | rfl | (repeat rw [cz_uRn (by omega)])⟩⟩
set_option maxHeartbeats 4000000 in
set_option maxRecDepth 100000 in
theorem fX12_fault {l : Launch} {K N : Nat → Nat} {I : cz_I} {R : cz_R} {L : cz_L} (hf : cz_f2 K N I R) : Con l mX12_fault [.ref 183] 203 K N I R L (fun r _ _ _ _ _ _ => r = some (.int (0))) := by
  obtain ⟨hK, hN, hR, hI, hI2⟩ := hf
  refine Con.of (by decide +kernel) rfl (Nat.le_of_ble_eq_true rfl) rfl (fun X9 hX9 zX9 => ?_)
  refine tr_aload_n dX12_fault_0 rfl ?_
  refine tr_iconst (v := 0) dX12_fault_1 (by decide +kernel) ?_
  refine tr_putI dX12_fault_2 fl12_70 (hK 183 12 (by decide) kd_183) (Or.inl rfl) ?_
  refine tr_aload_n dX12_fault_5 rfl ?_
  refine tr_getI dX12_fault_6 fl12_128 (hK 183 12 (by decide) kd_183) ?_
  refine tr_topi 0 (hI 183 13 (by decide +kernel)) ?_
  exact tr_iret zX9 dX12_fault_9 rfl (by decide) (by decide) rfl
set_option maxHeartbeats 4000000 in
set_option maxRecDepth 100000 in
theorem fX10_where {l : Launch} {K N : Nat → Nat} {I : cz_I} {R : cz_R} {L : cz_L} (hf : cz_f1 K N I R) : Con l mX10_where [.ref 0] 203 K N I R L (fun r cn' K' N' I' R' _ => r = some (.int ((-1))) ∧ cn' = 203 ∧ K' = K ∧ N' = N ∧ ∀ k : Nat, 183 ≤ k → I' k = I k ∧ R' k = R k) := by
  obtain ⟨hK, hN, hR, hI⟩ := hf
  refine Con.of (by decide +kernel) rfl (Nat.le_of_ble_eq_true rfl) rfl (fun X10 hX10 zX10 => ?_)
  refine tr_aload_n dX10_where_0 rfl ?_
  refine tr_getI dX10_where_1 fl10_112 (hK 0 10 (by decide) kd_0) ?_
  refine tr_topi 0 (hI 0 17 (by decide +kernel)) ?_
  refine tr_iconst (v := 4) dX10_where_4 (by decide +kernel) ?_
  refine tr_icmp_ne 15 dX10_where_5 (by decide) (fun _ => ?_) (fun h => absurd h (by decide +kernel))
  refine tr_iconst (v := (-1)) dX10_where_15 (by decide +kernel) ?_
  exact tr_iret zX10 dX10_where_16 rfl (by decide) (by decide) ⟨rfl, rfl, rfl, rfl, fun k hk => ⟨by first | rfl | (repeat rw [cz_uIn (by omega)]), by first | rfl | (repeat rw [cz_uRn (by omega)])⟩⟩
set_option maxHeartbeats 4000000 in
set_option maxRecDepth 100000 in
theorem fX12_where {l : Launch} {K N : Nat → Nat} {I : cz_I} {R : cz_R} {L : cz_L} (hf : cz_f2 K N I R) : Con l mX12_where [.ref 183] 203 K N I R L (fun r _ _ _ _ _ _ => r = some (.int ((-1)))) := by
  obtain ⟨hK, hN, hR, hI, hI2⟩ := hf
  refine Con.of (by decide +kernel) rfl (Nat.le_of_ble_eq_true rfl) rfl (fun X11 hX11 zX11 => ?_)
  refine tr_aload_n dX12_where_0 rfl ?_
  refine tr_iconst (v := 0) dX12_where_1 (by decide +kernel) ?_
  refine tr_putI dX12_where_2 fl12_70 (hK 183 12 (by decide) kd_183) (Or.inl rfl) ?_
  refine tr_aload_n dX12_where_5 rfl ?_
  refine tr_getI dX12_where_6 fl12_9 (hK 183 12 (by decide) kd_183) ?_
  refine tr_topi (-1) hI2 ?_
  exact tr_iret zX11 dX12_where_9 rfl (by decide) (by decide) rfl
set_option maxHeartbeats 4000000 in
set_option maxRecDepth 100000 in
theorem fX10_sky (a : Int32) {l : Launch} {K N : Nat → Nat} {I : cz_I} {R : cz_R} {L : cz_L} (hf : cz_f1 K N I R) : Con l mX10_sky [.ref 0, .int a] 203 K N I R L (fun r cn' K' N' I' R' _ => r = some (.int ((-1))) ∧ cn' = 203 ∧ K' = K ∧ N' = N ∧ ∀ k : Nat, 183 ≤ k → I' k = I k ∧ R' k = R k) := by
  obtain ⟨hK, hN, hR, hI⟩ := hf
  refine Con.of (by decide +kernel) rfl (Nat.le_of_ble_eq_true rfl) rfl (fun X12 hX12 zX12 => ?_)
  refine tr_aload_n dX10_sky_0 rfl ?_
  refine tr_getZ dX10_sky_1 fl10_95 (hK 0 10 (by decide) kd_0) ?_
  refine tr_topi 0 (hI 0 5 (by decide +kernel)) ?_
  refine tr_if_ne 13 dX10_sky_4 (by decide) (fun h => absurd (by decide +kernel) h) (fun _ => ?_)
  refine tr_aload_n dX10_sky_7 rfl ?_
  refine tr_iconst (v := 1) dX10_sky_8 (by decide +kernel) ?_
  refine tr_inVi (M' := mX10_refused) (as := [_]) dX10_sky_9 lk10_79 inX10_refused seX10_refused myX10_refused (by decide) ⟨by decide, by decide⟩ rfl (hK 0 10 (by decide) kd_0) (Nat.le_of_ble_eq_true rfl) (by decide) (by decide) (Con.of (by decide +kernel) rfl (Nat.le_of_ble_eq_true rfl) rfl (fun X13 hX13 zX13 => ?_))
  refine tr_aload_n dX10_refused_0 rfl ?_
  refine tr_iload_n dX10_refused_1 rfl ?_
  refine tr_putI dX10_refused_2 fl10_112 (hK 0 10 (by decide) kd_0) (Or.inl rfl) ?_
  refine tr_iconst (v := (-1)) dX10_refused_5 (by decide +kernel) ?_
  refine tr_iret zX13 dX10_refused_6 rfl (by decide) (by decide) ⟨_, rfl, ?_⟩
  exact tr_iret zX12 dX10_sky_12 rfl (by decide) (by decide) ⟨rfl, rfl, rfl, rfl, fun k hk => ⟨by first | rfl | (repeat rw [cz_uIn (by omega)]), by first | rfl | (repeat rw [cz_uRn (by omega)])⟩⟩
set_option maxHeartbeats 4000000 in
set_option maxRecDepth 100000 in
theorem fX12_sky (a : Int32) {l : Launch} {K N : Nat → Nat} {I : cz_I} {R : cz_R} {L : cz_L} (hf : cz_f2 K N I R) : Con l mX12_sky [.ref 183, .int a] 203 K N I R L (fun r _ _ _ _ _ _ => r = some (.int ((-1)))) := by
  obtain ⟨hK, hN, hR, hI, hI2⟩ := hf
  refine Con.of (by decide +kernel) rfl (Nat.le_of_ble_eq_true rfl) rfl (fun X14 hX14 zX14 => ?_)
  refine tr_aload_n dX12_sky_0 rfl ?_
  refine tr_iconst (v := 0) dX12_sky_1 (by decide +kernel) ?_
  refine tr_putI dX12_sky_2 fl12_70 (hK 183 12 (by decide) kd_183) (Or.inl rfl) ?_
  refine tr_aload_n dX12_sky_5 rfl ?_
  refine tr_getN dX12_sky_6 fl12_385 (hK 183 12 (by decide) kd_183) (hR 183 3 none (by decide +kernel) (by decide +kernel)) ?_
  refine tr_ifnonnullN dX12_sky_9 ?_
  refine tr_aload_n dX12_sky_12 rfl ?_
  refine tr_iconst (v := 1) dX12_sky_13 (by decide +kernel) ?_
  refine tr_inVi (M' := mX12_refused) (as := [_]) dX12_sky_14 lk12_76 inX12_refused seX12_refused myX12_refused (by decide) ⟨by decide, by decide⟩ rfl (hK 183 12 (by decide) kd_183) (Nat.le_of_ble_eq_true rfl) (by decide) (by decide) (Con.of (by decide +kernel) rfl (Nat.le_of_ble_eq_true rfl) rfl (fun X15 hX15 zX15 => ?_))
  refine tr_aload_n dX12_refused_0 rfl ?_
  refine tr_iload_n dX12_refused_1 rfl ?_
  refine tr_putI dX12_refused_2 fl12_73 (hK 183 12 (by decide) kd_183) (Or.inl rfl) ?_
  refine tr_aload_n dX12_refused_5 rfl ?_
  refine tr_iconst (v := (-1)) dX12_refused_6 (by decide +kernel) ?_
  refine tr_putI dX12_refused_7 fl12_9 (hK 183 12 (by decide) kd_183) (Or.inl rfl) ?_
  refine tr_iconst (v := (-1)) dX12_refused_10 (by decide +kernel) ?_
  refine tr_iret zX15 dX12_refused_11 rfl (by decide) (by decide) ⟨_, rfl, ?_⟩
  exact tr_iret zX14 dX12_sky_17 rfl (by decide) (by decide) rfl
set_option maxHeartbeats 4000000 in
set_option maxRecDepth 100000 in
theorem fX10_light (a b c : Int32) {l : Launch} {K N : Nat → Nat} {I : cz_I} {R : cz_R} {L : cz_L} (hf : cz_f1 K N I R) : Con l mX10_light [.ref 0, .int a, .int b, .int c] 203 K N I R L (fun r cn' K' N' I' R' _ => r = some (.int ((-1))) ∧ cn' = 203 ∧ K' = K ∧ N' = N ∧ ∀ k : Nat, 183 ≤ k → I' k = I k ∧ R' k = R k) := by
  obtain ⟨hK, hN, hR, hI⟩ := hf
  refine Con.of (by decide +kernel) rfl (Nat.le_of_ble_eq_true rfl) rfl (fun X16 hX16 zX16 => ?_)
  refine tr_aload_n dX10_light_0 rfl ?_
  refine tr_iload_n dX10_light_1 rfl ?_
  refine tr_inVi (M' := mX10_isHut) (as := [_]) dX10_light_2 lk10_126 inX10_isHut seX10_isHut myX10_isHut (by decide) ⟨by decide, by decide⟩ rfl (hK 0 10 (by decide) kd_0) (Nat.le_of_ble_eq_true rfl) (by decide) (by decide) (Con.of (by decide +kernel) rfl (Nat.le_of_ble_eq_true rfl) rfl (fun X17 hX17 zX17 => ?_))
  refine tr_iload_n dX10_isHut_0 rfl ?_
  refine tr_if_lt 19 dX10_isHut_1 (by decide) (fun q18 => ?_) (fun q18 => ?_)
  · skip
    refine tr_iconst (v := 0) dX10_isHut_19 (by decide +kernel) ?_
    refine tr_zret zX17 dX10_isHut_20 rfl (Or.inl rfl) (by decide) (by decide) ⟨_, rfl, ?_⟩
    refine tr_if_ne 14 dX10_light_5 (by decide) (fun h => absurd (by decide +kernel) h) (fun _ => ?_)
    refine tr_aload_n dX10_light_8 rfl ?_
    refine tr_iconst (v := 1) dX10_light_9 (by decide +kernel) ?_
    refine tr_inVi (M' := mX10_refused) (as := [_]) dX10_light_10 lk10_79 inX10_refused seX10_refused myX10_refused (by decide) ⟨by decide, by decide⟩ rfl (hK 0 10 (by decide) kd_0) (Nat.le_of_ble_eq_true rfl) (by decide) (by decide) (Con.of (by decide +kernel) rfl (Nat.le_of_ble_eq_true rfl) rfl (fun X19 hX19 zX19 => ?_))
    refine tr_aload_n dX10_refused_0 rfl ?_
    refine tr_iload_n dX10_refused_1 rfl ?_
    refine tr_putI dX10_refused_2 fl10_112 (hK 0 10 (by decide) kd_0) (Or.inl rfl) ?_
    refine tr_iconst (v := (-1)) dX10_refused_5 (by decide +kernel) ?_
    refine tr_iret zX19 dX10_refused_6 rfl (by decide) (by decide) ⟨_, rfl, ?_⟩
    exact tr_iret zX16 dX10_light_13 rfl (by decide) (by decide) ⟨rfl, rfl, rfl, rfl, fun k hk => ⟨by first | rfl | (repeat rw [cz_uIn (by omega)]), by first | rfl | (repeat rw [cz_uRn (by omega)])⟩⟩
  · skip
    refine tr_iload_n dX10_isHut_4 rfl ?_
    refine tr_aload_n dX10_isHut_5 rfl ?_
    refine tr_getR (x := 2) dX10_isHut_6 fl10_16 (hK 0 10 (by decide) kd_0) (hR 0 2 (some 2) (by decide +kernel) rf_0_2) ?_
    refine tr_getI dX10_isHut_9 fl10_332 (hK 2 0 (by decide) kd_2) ?_
    refine tr_topi 0 (hI 2 1 (by decide +kernel)) ?_
    refine tr_icmp_ge 19 dX10_isHut_12 (by decide) (fun q20 => ?_) (fun q20 => ?_)
    · skip
      refine tr_iconst (v := 0) dX10_isHut_19 (by decide +kernel) ?_
      refine tr_zret zX17 dX10_isHut_20 rfl (Or.inl rfl) (by decide) (by decide) ⟨_, rfl, ?_⟩
      refine tr_if_ne 14 dX10_light_5 (by decide) (fun h => absurd (by decide +kernel) h) (fun _ => ?_)
      refine tr_aload_n dX10_light_8 rfl ?_
      refine tr_iconst (v := 1) dX10_light_9 (by decide +kernel) ?_
      refine tr_inVi (M' := mX10_refused) (as := [_]) dX10_light_10 lk10_79 inX10_refused seX10_refused myX10_refused (by decide) ⟨by decide, by decide⟩ rfl (hK 0 10 (by decide) kd_0) (Nat.le_of_ble_eq_true rfl) (by decide) (by decide) (Con.of (by decide +kernel) rfl (Nat.le_of_ble_eq_true rfl) rfl (fun X21 hX21 zX21 => ?_))
      refine tr_aload_n dX10_refused_0 rfl ?_
      refine tr_iload_n dX10_refused_1 rfl ?_
      refine tr_putI dX10_refused_2 fl10_112 (hK 0 10 (by decide) kd_0) (Or.inl rfl) ?_
      refine tr_iconst (v := (-1)) dX10_refused_5 (by decide +kernel) ?_
      refine tr_iret zX21 dX10_refused_6 rfl (by decide) (by decide) ⟨_, rfl, ?_⟩
      exact tr_iret zX16 dX10_light_13 rfl (by decide) (by decide) ⟨rfl, rfl, rfl, rfl, fun k hk => ⟨by first | rfl | (repeat rw [cz_uIn (by omega)]), by first | rfl | (repeat rw [cz_uRn (by omega)])⟩⟩
    · skip
      exfalso
      have e0 : ((0 : Int32)).toInt = 0 := by decide +kernel
      simp only [Int32.lt_iff_toInt_lt, Int32.le_iff_toInt_le, ← Int32.toInt_inj] at q20
      simp only [Int32.lt_iff_toInt_lt, Int32.le_iff_toInt_le, ← Int32.toInt_inj] at q18
      omega
set_option maxHeartbeats 4000000 in
set_option maxRecDepth 100000 in
theorem fX12_light (a b c : Int32) {l : Launch} {K N : Nat → Nat} {I : cz_I} {R : cz_R} {L : cz_L} (hf : cz_f2 K N I R) : Con l mX12_light [.ref 183, .int a, .int b, .int c] 203 K N I R L (fun r _ _ _ _ _ _ => r = some (.int ((-1)))) := by
  obtain ⟨hK, hN, hR, hI, hI2⟩ := hf
  refine Con.of (by decide +kernel) rfl (Nat.le_of_ble_eq_true rfl) rfl (fun X22 hX22 zX22 => ?_)
  refine tr_aload_n dX12_light_0 rfl ?_
  refine tr_iconst (v := 0) dX12_light_1 (by decide +kernel) ?_
  refine tr_putI dX12_light_2 fl12_70 (hK 183 12 (by decide) kd_183) (Or.inl rfl) ?_
  refine tr_aload_n dX12_light_5 rfl ?_
  refine tr_iload_n dX12_light_6 rfl ?_
  refine tr_inVi (M' := mX12_isHut) (as := [_]) dX12_light_7 lk12_446 inX12_isHut seX12_isHut myX12_isHut (by decide) ⟨by decide, by decide⟩ rfl (hK 183 12 (by decide) kd_183) (Nat.le_of_ble_eq_true rfl) (by decide) (by decide) (Con.of (by decide +kernel) rfl (Nat.le_of_ble_eq_true rfl) rfl (fun X23 hX23 zX23 => ?_))
  refine tr_aload_n dX12_isHut_0 rfl ?_
  refine tr_getN dX12_isHut_1 fl12_385 (hK 183 12 (by decide) kd_183) (hR 183 3 none (by decide +kernel) (by decide +kernel)) ?_
  refine tr_ifnullN 26 dX12_isHut_4 (by decide) ?_
  refine tr_iconst (v := 0) dX12_isHut_26 (by decide +kernel) ?_
  refine tr_zret zX23 dX12_isHut_27 rfl (Or.inl rfl) (by decide) (by decide) ⟨_, rfl, ?_⟩
  refine tr_if_ne 19 dX12_light_10 (by decide) (fun h => absurd (by decide +kernel) h) (fun _ => ?_)
  refine tr_aload_n dX12_light_13 rfl ?_
  refine tr_iconst (v := 1) dX12_light_14 (by decide +kernel) ?_
  refine tr_inVi (M' := mX12_refused) (as := [_]) dX12_light_15 lk12_76 inX12_refused seX12_refused myX12_refused (by decide) ⟨by decide, by decide⟩ rfl (hK 183 12 (by decide) kd_183) (Nat.le_of_ble_eq_true rfl) (by decide) (by decide) (Con.of (by decide +kernel) rfl (Nat.le_of_ble_eq_true rfl) rfl (fun X24 hX24 zX24 => ?_))
  refine tr_aload_n dX12_refused_0 rfl ?_
  refine tr_iload_n dX12_refused_1 rfl ?_
  refine tr_putI dX12_refused_2 fl12_73 (hK 183 12 (by decide) kd_183) (Or.inl rfl) ?_
  refine tr_aload_n dX12_refused_5 rfl ?_
  refine tr_iconst (v := (-1)) dX12_refused_6 (by decide +kernel) ?_
  refine tr_putI dX12_refused_7 fl12_9 (hK 183 12 (by decide) kd_183) (Or.inl rfl) ?_
  refine tr_iconst (v := (-1)) dX12_refused_10 (by decide +kernel) ?_
  refine tr_iret zX24 dX12_refused_11 rfl (by decide) (by decide) ⟨_, rfl, ?_⟩
  exact tr_iret zX22 dX12_light_18 rfl (by decide) (by decide) rfl
set_option maxHeartbeats 4000000 in
set_option maxRecDepth 100000 in
theorem fX10_changes (a b : Int32) {l : Launch} {K N : Nat → Nat} {I : cz_I} {R : cz_R} {L : cz_L} (hf : cz_f1 K N I R) : Con l mX10_changes [.ref 0, .int a, .int b] 203 K N I R L (fun r cn' K' N' I' R' _ => r = some (.int ((-1))) ∧ cn' = 203 ∧ K' = K ∧ N' = N ∧ ∀ k : Nat, 183 ≤ k → I' k = I k ∧ R' k = R k) := by
  obtain ⟨hK, hN, hR, hI⟩ := hf
  refine Con.of (by decide +kernel) rfl (Nat.le_of_ble_eq_true rfl) rfl (fun X25 hX25 zX25 => ?_)
  refine tr_aload_n dX10_changes_0 rfl ?_
  refine tr_iload_n dX10_changes_1 rfl ?_
  refine tr_inVi (M' := mX10_isHut) (as := [_]) dX10_changes_2 lk10_126 inX10_isHut seX10_isHut myX10_isHut (by decide) ⟨by decide, by decide⟩ rfl (hK 0 10 (by decide) kd_0) (Nat.le_of_ble_eq_true rfl) (by decide) (by decide) (Con.of (by decide +kernel) rfl (Nat.le_of_ble_eq_true rfl) rfl (fun X26 hX26 zX26 => ?_))
  refine tr_iload_n dX10_isHut_0 rfl ?_
  refine tr_if_lt 19 dX10_isHut_1 (by decide) (fun q27 => ?_) (fun q27 => ?_)
  · skip
    refine tr_iconst (v := 0) dX10_isHut_19 (by decide +kernel) ?_
    refine tr_zret zX26 dX10_isHut_20 rfl (Or.inl rfl) (by decide) (by decide) ⟨_, rfl, ?_⟩
    refine tr_if_ne 14 dX10_changes_5 (by decide) (fun h => absurd (by decide +kernel) h) (fun _ => ?_)
    refine tr_aload_n dX10_changes_8 rfl ?_
    refine tr_iconst (v := 1) dX10_changes_9 (by decide +kernel) ?_
    refine tr_inVi (M' := mX10_refused) (as := [_]) dX10_changes_10 lk10_79 inX10_refused seX10_refused myX10_refused (by decide) ⟨by decide, by decide⟩ rfl (hK 0 10 (by decide) kd_0) (Nat.le_of_ble_eq_true rfl) (by decide) (by decide) (Con.of (by decide +kernel) rfl (Nat.le_of_ble_eq_true rfl) rfl (fun X28 hX28 zX28 => ?_))
    refine tr_aload_n dX10_refused_0 rfl ?_
    refine tr_iload_n dX10_refused_1 rfl ?_
    refine tr_putI dX10_refused_2 fl10_112 (hK 0 10 (by decide) kd_0) (Or.inl rfl) ?_
    refine tr_iconst (v := (-1)) dX10_refused_5 (by decide +kernel) ?_
    refine tr_iret zX28 dX10_refused_6 rfl (by decide) (by decide) ⟨_, rfl, ?_⟩
    exact tr_iret zX25 dX10_changes_13 rfl (by decide) (by decide) ⟨rfl, rfl, rfl, rfl, fun k hk => ⟨by first | rfl | (repeat rw [cz_uIn (by omega)]), by first | rfl | (repeat rw [cz_uRn (by omega)])⟩⟩
  · skip
    refine tr_iload_n dX10_isHut_4 rfl ?_
    refine tr_aload_n dX10_isHut_5 rfl ?_
    refine tr_getR (x := 2) dX10_isHut_6 fl10_16 (hK 0 10 (by decide) kd_0) (hR 0 2 (some 2) (by decide +kernel) rf_0_2) ?_
    refine tr_getI dX10_isHut_9 fl10_332 (hK 2 0 (by decide) kd_2) ?_
    refine tr_topi 0 (hI 2 1 (by decide +kernel)) ?_
    refine tr_icmp_ge 19 dX10_isHut_12 (by decide) (fun q29 => ?_) (fun q29 => ?_)
    · skip
      refine tr_iconst (v := 0) dX10_isHut_19 (by decide +kernel) ?_
      refine tr_zret zX26 dX10_isHut_20 rfl (Or.inl rfl) (by decide) (by decide) ⟨_, rfl, ?_⟩
      refine tr_if_ne 14 dX10_changes_5 (by decide) (fun h => absurd (by decide +kernel) h) (fun _ => ?_)
      refine tr_aload_n dX10_changes_8 rfl ?_
      refine tr_iconst (v := 1) dX10_changes_9 (by decide +kernel) ?_
      refine tr_inVi (M' := mX10_refused) (as := [_]) dX10_changes_10 lk10_79 inX10_refused seX10_refused myX10_refused (by decide) ⟨by decide, by decide⟩ rfl (hK 0 10 (by decide) kd_0) (Nat.le_of_ble_eq_true rfl) (by decide) (by decide) (Con.of (by decide +kernel) rfl (Nat.le_of_ble_eq_true rfl) rfl (fun X30 hX30 zX30 => ?_))
      refine tr_aload_n dX10_refused_0 rfl ?_
      refine tr_iload_n dX10_refused_1 rfl ?_
      refine tr_putI dX10_refused_2 fl10_112 (hK 0 10 (by decide) kd_0) (Or.inl rfl) ?_
      refine tr_iconst (v := (-1)) dX10_refused_5 (by decide +kernel) ?_
      refine tr_iret zX30 dX10_refused_6 rfl (by decide) (by decide) ⟨_, rfl, ?_⟩
      exact tr_iret zX25 dX10_changes_13 rfl (by decide) (by decide) ⟨rfl, rfl, rfl, rfl, fun k hk => ⟨by first | rfl | (repeat rw [cz_uIn (by omega)]), by first | rfl | (repeat rw [cz_uRn (by omega)])⟩⟩
    · skip
      exfalso
      have e0 : ((0 : Int32)).toInt = 0 := by decide +kernel
      simp only [Int32.lt_iff_toInt_lt, Int32.le_iff_toInt_le, ← Int32.toInt_inj] at q29
      simp only [Int32.lt_iff_toInt_lt, Int32.le_iff_toInt_le, ← Int32.toInt_inj] at q27
      omega
set_option maxHeartbeats 4000000 in
set_option maxRecDepth 100000 in
theorem fX12_changes (a b : Int32) {l : Launch} {K N : Nat → Nat} {I : cz_I} {R : cz_R} {L : cz_L} (hf : cz_f2 K N I R) : Con l mX12_changes [.ref 183, .int a, .int b] 203 K N I R L (fun r _ _ _ _ _ _ => r = some (.int ((-1)))) := by
  obtain ⟨hK, hN, hR, hI, hI2⟩ := hf
  refine Con.of (by decide +kernel) rfl (Nat.le_of_ble_eq_true rfl) rfl (fun X31 hX31 zX31 => ?_)
  refine tr_aload_n dX12_changes_0 rfl ?_
  refine tr_iconst (v := 0) dX12_changes_1 (by decide +kernel) ?_
  refine tr_putI dX12_changes_2 fl12_70 (hK 183 12 (by decide) kd_183) (Or.inl rfl) ?_
  refine tr_aload_n dX12_changes_5 rfl ?_
  refine tr_iload_n dX12_changes_6 rfl ?_
  refine tr_inVi (M' := mX12_isHut) (as := [_]) dX12_changes_7 lk12_446 inX12_isHut seX12_isHut myX12_isHut (by decide) ⟨by decide, by decide⟩ rfl (hK 183 12 (by decide) kd_183) (Nat.le_of_ble_eq_true rfl) (by decide) (by decide) (Con.of (by decide +kernel) rfl (Nat.le_of_ble_eq_true rfl) rfl (fun X32 hX32 zX32 => ?_))
  refine tr_aload_n dX12_isHut_0 rfl ?_
  refine tr_getN dX12_isHut_1 fl12_385 (hK 183 12 (by decide) kd_183) (hR 183 3 none (by decide +kernel) (by decide +kernel)) ?_
  refine tr_ifnullN 26 dX12_isHut_4 (by decide) ?_
  refine tr_iconst (v := 0) dX12_isHut_26 (by decide +kernel) ?_
  refine tr_zret zX32 dX12_isHut_27 rfl (Or.inl rfl) (by decide) (by decide) ⟨_, rfl, ?_⟩
  refine tr_if_ne 19 dX12_changes_10 (by decide) (fun h => absurd (by decide +kernel) h) (fun _ => ?_)
  refine tr_aload_n dX12_changes_13 rfl ?_
  refine tr_iconst (v := 1) dX12_changes_14 (by decide +kernel) ?_
  refine tr_inVi (M' := mX12_refused) (as := [_]) dX12_changes_15 lk12_76 inX12_refused seX12_refused myX12_refused (by decide) ⟨by decide, by decide⟩ rfl (hK 183 12 (by decide) kd_183) (Nat.le_of_ble_eq_true rfl) (by decide) (by decide) (Con.of (by decide +kernel) rfl (Nat.le_of_ble_eq_true rfl) rfl (fun X33 hX33 zX33 => ?_))
  refine tr_aload_n dX12_refused_0 rfl ?_
  refine tr_iload_n dX12_refused_1 rfl ?_
  refine tr_putI dX12_refused_2 fl12_73 (hK 183 12 (by decide) kd_183) (Or.inl rfl) ?_
  refine tr_aload_n dX12_refused_5 rfl ?_
  refine tr_iconst (v := (-1)) dX12_refused_6 (by decide +kernel) ?_
  refine tr_putI dX12_refused_7 fl12_9 (hK 183 12 (by decide) kd_183) (Or.inl rfl) ?_
  refine tr_iconst (v := (-1)) dX12_refused_10 (by decide +kernel) ?_
  refine tr_iret zX33 dX12_refused_11 rfl (by decide) (by decide) ⟨_, rfl, ?_⟩
  exact tr_iret zX31 dX12_changes_18 rfl (by decide) (by decide) rfl
set_option maxHeartbeats 4000000 in
set_option maxRecDepth 100000 in
theorem fX10_change (a b : Int32) {l : Launch} {K N : Nat → Nat} {I : cz_I} {R : cz_R} {L : cz_L} (hf : cz_f1 K N I R) : Con l mX10_change [.ref 0, .int a, .int b] 203 K N I R L (fun r cn' K' N' I' R' _ => r = some (.int ((-1))) ∧ cn' = 203 ∧ K' = K ∧ N' = N ∧ ∀ k : Nat, 183 ≤ k → I' k = I k ∧ R' k = R k) := by
  obtain ⟨hK, hN, hR, hI⟩ := hf
  refine Con.of (by decide +kernel) rfl (Nat.le_of_ble_eq_true rfl) rfl (fun X34 hX34 zX34 => ?_)
  refine tr_aload_n dX10_change_0 rfl ?_
  refine tr_iload_n dX10_change_1 rfl ?_
  refine tr_inVi (M' := mX10_isHut) (as := [_]) dX10_change_2 lk10_126 inX10_isHut seX10_isHut myX10_isHut (by decide) ⟨by decide, by decide⟩ rfl (hK 0 10 (by decide) kd_0) (Nat.le_of_ble_eq_true rfl) (by decide) (by decide) (Con.of (by decide +kernel) rfl (Nat.le_of_ble_eq_true rfl) rfl (fun X35 hX35 zX35 => ?_))
  refine tr_iload_n dX10_isHut_0 rfl ?_
  refine tr_if_lt 19 dX10_isHut_1 (by decide) (fun q36 => ?_) (fun q36 => ?_)
  · skip
    refine tr_iconst (v := 0) dX10_isHut_19 (by decide +kernel) ?_
    refine tr_zret zX35 dX10_isHut_20 rfl (Or.inl rfl) (by decide) (by decide) ⟨_, rfl, ?_⟩
    refine tr_if_ne 14 dX10_change_5 (by decide) (fun h => absurd (by decide +kernel) h) (fun _ => ?_)
    refine tr_aload_n dX10_change_8 rfl ?_
    refine tr_iconst (v := 1) dX10_change_9 (by decide +kernel) ?_
    refine tr_inVi (M' := mX10_refused) (as := [_]) dX10_change_10 lk10_79 inX10_refused seX10_refused myX10_refused (by decide) ⟨by decide, by decide⟩ rfl (hK 0 10 (by decide) kd_0) (Nat.le_of_ble_eq_true rfl) (by decide) (by decide) (Con.of (by decide +kernel) rfl (Nat.le_of_ble_eq_true rfl) rfl (fun X37 hX37 zX37 => ?_))
    refine tr_aload_n dX10_refused_0 rfl ?_
    refine tr_iload_n dX10_refused_1 rfl ?_
    refine tr_putI dX10_refused_2 fl10_112 (hK 0 10 (by decide) kd_0) (Or.inl rfl) ?_
    refine tr_iconst (v := (-1)) dX10_refused_5 (by decide +kernel) ?_
    refine tr_iret zX37 dX10_refused_6 rfl (by decide) (by decide) ⟨_, rfl, ?_⟩
    exact tr_iret zX34 dX10_change_13 rfl (by decide) (by decide) ⟨rfl, rfl, rfl, rfl, fun k hk => ⟨by first | rfl | (repeat rw [cz_uIn (by omega)]), by first | rfl | (repeat rw [cz_uRn (by omega)])⟩⟩
  · skip
    refine tr_iload_n dX10_isHut_4 rfl ?_
    refine tr_aload_n dX10_isHut_5 rfl ?_
    refine tr_getR (x := 2) dX10_isHut_6 fl10_16 (hK 0 10 (by decide) kd_0) (hR 0 2 (some 2) (by decide +kernel) rf_0_2) ?_
    refine tr_getI dX10_isHut_9 fl10_332 (hK 2 0 (by decide) kd_2) ?_
    refine tr_topi 0 (hI 2 1 (by decide +kernel)) ?_
    refine tr_icmp_ge 19 dX10_isHut_12 (by decide) (fun q38 => ?_) (fun q38 => ?_)
    · skip
      refine tr_iconst (v := 0) dX10_isHut_19 (by decide +kernel) ?_
      refine tr_zret zX35 dX10_isHut_20 rfl (Or.inl rfl) (by decide) (by decide) ⟨_, rfl, ?_⟩
      refine tr_if_ne 14 dX10_change_5 (by decide) (fun h => absurd (by decide +kernel) h) (fun _ => ?_)
      refine tr_aload_n dX10_change_8 rfl ?_
      refine tr_iconst (v := 1) dX10_change_9 (by decide +kernel) ?_
      refine tr_inVi (M' := mX10_refused) (as := [_]) dX10_change_10 lk10_79 inX10_refused seX10_refused myX10_refused (by decide) ⟨by decide, by decide⟩ rfl (hK 0 10 (by decide) kd_0) (Nat.le_of_ble_eq_true rfl) (by decide) (by decide) (Con.of (by decide +kernel) rfl (Nat.le_of_ble_eq_true rfl) rfl (fun X39 hX39 zX39 => ?_))
      refine tr_aload_n dX10_refused_0 rfl ?_
      refine tr_iload_n dX10_refused_1 rfl ?_
      refine tr_putI dX10_refused_2 fl10_112 (hK 0 10 (by decide) kd_0) (Or.inl rfl) ?_
      refine tr_iconst (v := (-1)) dX10_refused_5 (by decide +kernel) ?_
      refine tr_iret zX39 dX10_refused_6 rfl (by decide) (by decide) ⟨_, rfl, ?_⟩
      exact tr_iret zX34 dX10_change_13 rfl (by decide) (by decide) ⟨rfl, rfl, rfl, rfl, fun k hk => ⟨by first | rfl | (repeat rw [cz_uIn (by omega)]), by first | rfl | (repeat rw [cz_uRn (by omega)])⟩⟩
    · skip
      exfalso
      have e0 : ((0 : Int32)).toInt = 0 := by decide +kernel
      simp only [Int32.lt_iff_toInt_lt, Int32.le_iff_toInt_le, ← Int32.toInt_inj] at q38
      simp only [Int32.lt_iff_toInt_lt, Int32.le_iff_toInt_le, ← Int32.toInt_inj] at q36
      omega
set_option maxHeartbeats 4000000 in
set_option maxRecDepth 100000 in
theorem fX12_change (a b : Int32) {l : Launch} {K N : Nat → Nat} {I : cz_I} {R : cz_R} {L : cz_L} (hf : cz_f2 K N I R) : Con l mX12_change [.ref 183, .int a, .int b] 203 K N I R L (fun r _ _ _ _ _ _ => r = some (.int ((-1)))) := by
  obtain ⟨hK, hN, hR, hI, hI2⟩ := hf
  refine Con.of (by decide +kernel) rfl (Nat.le_of_ble_eq_true rfl) rfl (fun X40 hX40 zX40 => ?_)
  refine tr_aload_n dX12_change_0 rfl ?_
  refine tr_iconst (v := 0) dX12_change_1 (by decide +kernel) ?_
  refine tr_putI dX12_change_2 fl12_70 (hK 183 12 (by decide) kd_183) (Or.inl rfl) ?_
  refine tr_aload_n dX12_change_5 rfl ?_
  refine tr_iload_n dX12_change_6 rfl ?_
  refine tr_inVi (M' := mX12_isHut) (as := [_]) dX12_change_7 lk12_446 inX12_isHut seX12_isHut myX12_isHut (by decide) ⟨by decide, by decide⟩ rfl (hK 183 12 (by decide) kd_183) (Nat.le_of_ble_eq_true rfl) (by decide) (by decide) (Con.of (by decide +kernel) rfl (Nat.le_of_ble_eq_true rfl) rfl (fun X41 hX41 zX41 => ?_))
  refine tr_aload_n dX12_isHut_0 rfl ?_
  refine tr_getN dX12_isHut_1 fl12_385 (hK 183 12 (by decide) kd_183) (hR 183 3 none (by decide +kernel) (by decide +kernel)) ?_
  refine tr_ifnullN 26 dX12_isHut_4 (by decide) ?_
  refine tr_iconst (v := 0) dX12_isHut_26 (by decide +kernel) ?_
  refine tr_zret zX41 dX12_isHut_27 rfl (Or.inl rfl) (by decide) (by decide) ⟨_, rfl, ?_⟩
  refine tr_if_ne 19 dX12_change_10 (by decide) (fun h => absurd (by decide +kernel) h) (fun _ => ?_)
  refine tr_aload_n dX12_change_13 rfl ?_
  refine tr_iconst (v := 1) dX12_change_14 (by decide +kernel) ?_
  refine tr_inVi (M' := mX12_refused) (as := [_]) dX12_change_15 lk12_76 inX12_refused seX12_refused myX12_refused (by decide) ⟨by decide, by decide⟩ rfl (hK 183 12 (by decide) kd_183) (Nat.le_of_ble_eq_true rfl) (by decide) (by decide) (Con.of (by decide +kernel) rfl (Nat.le_of_ble_eq_true rfl) rfl (fun X42 hX42 zX42 => ?_))
  refine tr_aload_n dX12_refused_0 rfl ?_
  refine tr_iload_n dX12_refused_1 rfl ?_
  refine tr_putI dX12_refused_2 fl12_73 (hK 183 12 (by decide) kd_183) (Or.inl rfl) ?_
  refine tr_aload_n dX12_refused_5 rfl ?_
  refine tr_iconst (v := (-1)) dX12_refused_6 (by decide +kernel) ?_
  refine tr_putI dX12_refused_7 fl12_9 (hK 183 12 (by decide) kd_183) (Or.inl rfl) ?_
  refine tr_iconst (v := (-1)) dX12_refused_10 (by decide +kernel) ?_
  refine tr_iret zX42 dX12_refused_11 rfl (by decide) (by decide) ⟨_, rfl, ?_⟩
  exact tr_iret zX40 dX12_change_18 rfl (by decide) (by decide) rfl
set_option maxHeartbeats 4000000 in
set_option maxRecDepth 100000 in
theorem fX10_peak {l : Launch} {K N : Nat → Nat} {I : cz_I} {R : cz_R} {L : cz_L} (hf : cz_f1 K N I R) : Con l mX10_peak [.ref 0] 203 K N I R L (fun r cn' K' N' I' R' _ => r = some (.int ((-1))) ∧ cn' = 203 ∧ K' = K ∧ N' = N ∧ ∀ k : Nat, 183 ≤ k → I' k = I k ∧ R' k = R k) := by
  obtain ⟨hK, hN, hR, hI⟩ := hf
  refine Con.of (by decide +kernel) rfl (Nat.le_of_ble_eq_true rfl) rfl (fun X43 hX43 zX43 => ?_)
  refine tr_aload_n dX10_peak_0 rfl ?_
  refine tr_getZ dX10_peak_1 fl10_95 (hK 0 10 (by decide) kd_0) ?_
  refine tr_topi 0 (hI 0 5 (by decide +kernel)) ?_
  refine tr_if_ne 13 dX10_peak_4 (by decide) (fun h => absurd (by decide +kernel) h) (fun _ => ?_)
  refine tr_aload_n dX10_peak_7 rfl ?_
  refine tr_iconst (v := 1) dX10_peak_8 (by decide +kernel) ?_
  refine tr_inVi (M' := mX10_refused) (as := [_]) dX10_peak_9 lk10_79 inX10_refused seX10_refused myX10_refused (by decide) ⟨by decide, by decide⟩ rfl (hK 0 10 (by decide) kd_0) (Nat.le_of_ble_eq_true rfl) (by decide) (by decide) (Con.of (by decide +kernel) rfl (Nat.le_of_ble_eq_true rfl) rfl (fun X44 hX44 zX44 => ?_))
  refine tr_aload_n dX10_refused_0 rfl ?_
  refine tr_iload_n dX10_refused_1 rfl ?_
  refine tr_putI dX10_refused_2 fl10_112 (hK 0 10 (by decide) kd_0) (Or.inl rfl) ?_
  refine tr_iconst (v := (-1)) dX10_refused_5 (by decide +kernel) ?_
  refine tr_iret zX44 dX10_refused_6 rfl (by decide) (by decide) ⟨_, rfl, ?_⟩
  exact tr_iret zX43 dX10_peak_12 rfl (by decide) (by decide) ⟨rfl, rfl, rfl, rfl, fun k hk => ⟨by first | rfl | (repeat rw [cz_uIn (by omega)]), by first | rfl | (repeat rw [cz_uRn (by omega)])⟩⟩
set_option maxHeartbeats 4000000 in
set_option maxRecDepth 100000 in
theorem fX12_peak {l : Launch} {K N : Nat → Nat} {I : cz_I} {R : cz_R} {L : cz_L} (hf : cz_f2 K N I R) : Con l mX12_peak [.ref 183] 203 K N I R L (fun r _ _ _ _ _ _ => r = some (.int ((-1)))) := by
  obtain ⟨hK, hN, hR, hI, hI2⟩ := hf
  refine Con.of (by decide +kernel) rfl (Nat.le_of_ble_eq_true rfl) rfl (fun X45 hX45 zX45 => ?_)
  refine tr_aload_n dX12_peak_0 rfl ?_
  refine tr_iconst (v := 0) dX12_peak_1 (by decide +kernel) ?_
  refine tr_putI dX12_peak_2 fl12_70 (hK 183 12 (by decide) kd_183) (Or.inl rfl) ?_
  refine tr_aload_n dX12_peak_5 rfl ?_
  refine tr_getN dX12_peak_6 fl12_385 (hK 183 12 (by decide) kd_183) (hR 183 3 none (by decide +kernel) (by decide +kernel)) ?_
  refine tr_ifnonnullN dX12_peak_9 ?_
  refine tr_aload_n dX12_peak_12 rfl ?_
  refine tr_iconst (v := 1) dX12_peak_13 (by decide +kernel) ?_
  refine tr_inVi (M' := mX12_refused) (as := [_]) dX12_peak_14 lk12_76 inX12_refused seX12_refused myX12_refused (by decide) ⟨by decide, by decide⟩ rfl (hK 183 12 (by decide) kd_183) (Nat.le_of_ble_eq_true rfl) (by decide) (by decide) (Con.of (by decide +kernel) rfl (Nat.le_of_ble_eq_true rfl) rfl (fun X46 hX46 zX46 => ?_))
  refine tr_aload_n dX12_refused_0 rfl ?_
  refine tr_iload_n dX12_refused_1 rfl ?_
  refine tr_putI dX12_refused_2 fl12_73 (hK 183 12 (by decide) kd_183) (Or.inl rfl) ?_
  refine tr_aload_n dX12_refused_5 rfl ?_
  refine tr_iconst (v := (-1)) dX12_refused_6 (by decide +kernel) ?_
  refine tr_putI dX12_refused_7 fl12_9 (hK 183 12 (by decide) kd_183) (Or.inl rfl) ?_
  refine tr_iconst (v := (-1)) dX12_refused_10 (by decide +kernel) ?_
  refine tr_iret zX46 dX12_refused_11 rfl (by decide) (by decide) ⟨_, rfl, ?_⟩
  exact tr_iret zX45 dX12_peak_17 rfl (by decide) (by decide) rfl
set_option maxHeartbeats 4000000 in
set_option maxRecDepth 100000 in
theorem fX10_due (a : Int32) {l : Launch} {K N : Nat → Nat} {I : cz_I} {R : cz_R} {L : cz_L} (hf : cz_f1 K N I R) : Con l mX10_due [.ref 0, .int a] 203 K N I R L (fun r cn' K' N' I' R' _ => r = some (.int ((-1))) ∧ cn' = 203 ∧ K' = K ∧ N' = N ∧ ∀ k : Nat, 183 ≤ k → I' k = I k ∧ R' k = R k) := by
  obtain ⟨hK, hN, hR, hI⟩ := hf
  refine Con.of (by decide +kernel) rfl (Nat.le_of_ble_eq_true rfl) rfl (fun X47 hX47 zX47 => ?_)
  refine tr_aload_n dX10_due_0 rfl ?_
  refine tr_getZ dX10_due_1 fl10_95 (hK 0 10 (by decide) kd_0) ?_
  refine tr_topi 0 (hI 0 5 (by decide +kernel)) ?_
  refine tr_if_ne 13 dX10_due_4 (by decide) (fun h => absurd (by decide +kernel) h) (fun _ => ?_)
  refine tr_aload_n dX10_due_7 rfl ?_
  refine tr_iconst (v := 1) dX10_due_8 (by decide +kernel) ?_
  refine tr_inVi (M' := mX10_refused) (as := [_]) dX10_due_9 lk10_79 inX10_refused seX10_refused myX10_refused (by decide) ⟨by decide, by decide⟩ rfl (hK 0 10 (by decide) kd_0) (Nat.le_of_ble_eq_true rfl) (by decide) (by decide) (Con.of (by decide +kernel) rfl (Nat.le_of_ble_eq_true rfl) rfl (fun X48 hX48 zX48 => ?_))
  refine tr_aload_n dX10_refused_0 rfl ?_
  refine tr_iload_n dX10_refused_1 rfl ?_
  refine tr_putI dX10_refused_2 fl10_112 (hK 0 10 (by decide) kd_0) (Or.inl rfl) ?_
  refine tr_iconst (v := (-1)) dX10_refused_5 (by decide +kernel) ?_
  refine tr_iret zX48 dX10_refused_6 rfl (by decide) (by decide) ⟨_, rfl, ?_⟩
  exact tr_iret zX47 dX10_due_12 rfl (by decide) (by decide) ⟨rfl, rfl, rfl, rfl, fun k hk => ⟨by first | rfl | (repeat rw [cz_uIn (by omega)]), by first | rfl | (repeat rw [cz_uRn (by omega)])⟩⟩
set_option maxHeartbeats 4000000 in
set_option maxRecDepth 100000 in
theorem fX12_due (a : Int32) {l : Launch} {K N : Nat → Nat} {I : cz_I} {R : cz_R} {L : cz_L} (hf : cz_f2 K N I R) : Con l mX12_due [.ref 183, .int a] 203 K N I R L (fun r _ _ _ _ _ _ => r = some (.int ((-1)))) := by
  obtain ⟨hK, hN, hR, hI, hI2⟩ := hf
  refine Con.of (by decide +kernel) rfl (Nat.le_of_ble_eq_true rfl) rfl (fun X49 hX49 zX49 => ?_)
  refine tr_aload_n dX12_due_0 rfl ?_
  refine tr_iconst (v := 0) dX12_due_1 (by decide +kernel) ?_
  refine tr_putI dX12_due_2 fl12_70 (hK 183 12 (by decide) kd_183) (Or.inl rfl) ?_
  refine tr_aload_n dX12_due_5 rfl ?_
  refine tr_getN dX12_due_6 fl12_385 (hK 183 12 (by decide) kd_183) (hR 183 3 none (by decide +kernel) (by decide +kernel)) ?_
  refine tr_ifnonnullN dX12_due_9 ?_
  refine tr_aload_n dX12_due_12 rfl ?_
  refine tr_iconst (v := 1) dX12_due_13 (by decide +kernel) ?_
  refine tr_inVi (M' := mX12_refused) (as := [_]) dX12_due_14 lk12_76 inX12_refused seX12_refused myX12_refused (by decide) ⟨by decide, by decide⟩ rfl (hK 183 12 (by decide) kd_183) (Nat.le_of_ble_eq_true rfl) (by decide) (by decide) (Con.of (by decide +kernel) rfl (Nat.le_of_ble_eq_true rfl) rfl (fun X50 hX50 zX50 => ?_))
  refine tr_aload_n dX12_refused_0 rfl ?_
  refine tr_iload_n dX12_refused_1 rfl ?_
  refine tr_putI dX12_refused_2 fl12_73 (hK 183 12 (by decide) kd_183) (Or.inl rfl) ?_
  refine tr_aload_n dX12_refused_5 rfl ?_
  refine tr_iconst (v := (-1)) dX12_refused_6 (by decide +kernel) ?_
  refine tr_putI dX12_refused_7 fl12_9 (hK 183 12 (by decide) kd_183) (Or.inl rfl) ?_
  refine tr_iconst (v := (-1)) dX12_refused_10 (by decide +kernel) ?_
  refine tr_iret zX50 dX12_refused_11 rfl (by decide) (by decide) ⟨_, rfl, ?_⟩
  exact tr_iret zX49 dX12_due_17 rfl (by decide) (by decide) rfl
set_option maxHeartbeats 4000000 in
set_option maxRecDepth 100000 in
theorem fX10_awake (a b : Int32) {l : Launch} {K N : Nat → Nat} {I : cz_I} {R : cz_R} {L : cz_L} (hf : cz_f1 K N I R) : Con l mX10_awake [.ref 0, .int a, .int b] 203 K N I R L (fun r cn' K' N' I' R' _ => r = some (.int ((-1))) ∧ cn' = 203 ∧ K' = K ∧ N' = N ∧ ∀ k : Nat, 183 ≤ k → I' k = I k ∧ R' k = R k) := by
  obtain ⟨hK, hN, hR, hI⟩ := hf
  refine Con.of (by decide +kernel) rfl (Nat.le_of_ble_eq_true rfl) rfl (fun X51 hX51 zX51 => ?_)
  refine tr_aload_n dX10_awake_0 rfl ?_
  refine tr_iload_n dX10_awake_1 rfl ?_
  refine tr_inVi (M' := mX10_isTurner) (as := [_]) dX10_awake_2 lk10_152 inX10_isTurner seX10_isTurner myX10_isTurner (by decide) ⟨by decide, by decide⟩ rfl (hK 0 10 (by decide) kd_0) (Nat.le_of_ble_eq_true rfl) (by decide) (by decide) (Con.of (by decide +kernel) rfl (Nat.le_of_ble_eq_true rfl) rfl (fun X52 hX52 zX52 => ?_))
  refine tr_iload_n dX10_isTurner_0 rfl ?_
  refine tr_if_lt 19 dX10_isTurner_1 (by decide) (fun q53 => ?_) (fun q53 => ?_)
  · skip
    refine tr_iconst (v := 0) dX10_isTurner_19 (by decide +kernel) ?_
    refine tr_zret zX52 dX10_isTurner_20 rfl (Or.inl rfl) (by decide) (by decide) ⟨_, rfl, ?_⟩
    refine tr_if_ne 14 dX10_awake_5 (by decide) (fun h => absurd (by decide +kernel) h) (fun _ => ?_)
    refine tr_aload_n dX10_awake_8 rfl ?_
    refine tr_iconst (v := 1) dX10_awake_9 (by decide +kernel) ?_
    refine tr_inVi (M' := mX10_refused) (as := [_]) dX10_awake_10 lk10_79 inX10_refused seX10_refused myX10_refused (by decide) ⟨by decide, by decide⟩ rfl (hK 0 10 (by decide) kd_0) (Nat.le_of_ble_eq_true rfl) (by decide) (by decide) (Con.of (by decide +kernel) rfl (Nat.le_of_ble_eq_true rfl) rfl (fun X54 hX54 zX54 => ?_))
    refine tr_aload_n dX10_refused_0 rfl ?_
    refine tr_iload_n dX10_refused_1 rfl ?_
    refine tr_putI dX10_refused_2 fl10_112 (hK 0 10 (by decide) kd_0) (Or.inl rfl) ?_
    refine tr_iconst (v := (-1)) dX10_refused_5 (by decide +kernel) ?_
    refine tr_iret zX54 dX10_refused_6 rfl (by decide) (by decide) ⟨_, rfl, ?_⟩
    exact tr_iret zX51 dX10_awake_13 rfl (by decide) (by decide) ⟨rfl, rfl, rfl, rfl, fun k hk => ⟨by first | rfl | (repeat rw [cz_uIn (by omega)]), by first | rfl | (repeat rw [cz_uRn (by omega)])⟩⟩
  · skip
    refine tr_iload_n dX10_isTurner_4 rfl ?_
    refine tr_aload_n dX10_isTurner_5 rfl ?_
    refine tr_getR (x := 2) dX10_isTurner_6 fl10_16 (hK 0 10 (by decide) kd_0) (hR 0 2 (some 2) (by decide +kernel) rf_0_2) ?_
    refine tr_getI dX10_isTurner_9 fl10_335 (hK 2 0 (by decide) kd_2) ?_
    refine tr_topi 0 (hI 2 9 (by decide +kernel)) ?_
    refine tr_icmp_ge 19 dX10_isTurner_12 (by decide) (fun q55 => ?_) (fun q55 => ?_)
    · skip
      refine tr_iconst (v := 0) dX10_isTurner_19 (by decide +kernel) ?_
      refine tr_zret zX52 dX10_isTurner_20 rfl (Or.inl rfl) (by decide) (by decide) ⟨_, rfl, ?_⟩
      refine tr_if_ne 14 dX10_awake_5 (by decide) (fun h => absurd (by decide +kernel) h) (fun _ => ?_)
      refine tr_aload_n dX10_awake_8 rfl ?_
      refine tr_iconst (v := 1) dX10_awake_9 (by decide +kernel) ?_
      refine tr_inVi (M' := mX10_refused) (as := [_]) dX10_awake_10 lk10_79 inX10_refused seX10_refused myX10_refused (by decide) ⟨by decide, by decide⟩ rfl (hK 0 10 (by decide) kd_0) (Nat.le_of_ble_eq_true rfl) (by decide) (by decide) (Con.of (by decide +kernel) rfl (Nat.le_of_ble_eq_true rfl) rfl (fun X56 hX56 zX56 => ?_))
      refine tr_aload_n dX10_refused_0 rfl ?_
      refine tr_iload_n dX10_refused_1 rfl ?_
      refine tr_putI dX10_refused_2 fl10_112 (hK 0 10 (by decide) kd_0) (Or.inl rfl) ?_
      refine tr_iconst (v := (-1)) dX10_refused_5 (by decide +kernel) ?_
      refine tr_iret zX56 dX10_refused_6 rfl (by decide) (by decide) ⟨_, rfl, ?_⟩
      exact tr_iret zX51 dX10_awake_13 rfl (by decide) (by decide) ⟨rfl, rfl, rfl, rfl, fun k hk => ⟨by first | rfl | (repeat rw [cz_uIn (by omega)]), by first | rfl | (repeat rw [cz_uRn (by omega)])⟩⟩
    · skip
      exfalso
      have e0 : ((0 : Int32)).toInt = 0 := by decide +kernel
      simp only [Int32.lt_iff_toInt_lt, Int32.le_iff_toInt_le, ← Int32.toInt_inj] at q55
      simp only [Int32.lt_iff_toInt_lt, Int32.le_iff_toInt_le, ← Int32.toInt_inj] at q53
      omega
set_option maxHeartbeats 4000000 in
set_option maxRecDepth 100000 in
theorem fX12_awake (a b : Int32) {l : Launch} {K N : Nat → Nat} {I : cz_I} {R : cz_R} {L : cz_L} (hf : cz_f2 K N I R) : Con l mX12_awake [.ref 183, .int a, .int b] 203 K N I R L (fun r _ _ _ _ _ _ => r = some (.int ((-1)))) := by
  obtain ⟨hK, hN, hR, hI, hI2⟩ := hf
  refine Con.of (by decide +kernel) rfl (Nat.le_of_ble_eq_true rfl) rfl (fun X57 hX57 zX57 => ?_)
  refine tr_aload_n dX12_awake_0 rfl ?_
  refine tr_iconst (v := 0) dX12_awake_1 (by decide +kernel) ?_
  refine tr_putI dX12_awake_2 fl12_70 (hK 183 12 (by decide) kd_183) (Or.inl rfl) ?_
  refine tr_aload_n dX12_awake_5 rfl ?_
  refine tr_iload_n dX12_awake_6 rfl ?_
  refine tr_inVi (M' := mX12_isTurner) (as := [_]) dX12_awake_7 lk12_452 inX12_isTurner seX12_isTurner myX12_isTurner (by decide) ⟨by decide, by decide⟩ rfl (hK 183 12 (by decide) kd_183) (Nat.le_of_ble_eq_true rfl) (by decide) (by decide) (Con.of (by decide +kernel) rfl (Nat.le_of_ble_eq_true rfl) rfl (fun X58 hX58 zX58 => ?_))
  refine tr_aload_n dX12_isTurner_0 rfl ?_
  refine tr_getN dX12_isTurner_1 fl12_385 (hK 183 12 (by decide) kd_183) (hR 183 3 none (by decide +kernel) (by decide +kernel)) ?_
  refine tr_ifnullN 26 dX12_isTurner_4 (by decide) ?_
  refine tr_iconst (v := 0) dX12_isTurner_26 (by decide +kernel) ?_
  refine tr_zret zX58 dX12_isTurner_27 rfl (Or.inl rfl) (by decide) (by decide) ⟨_, rfl, ?_⟩
  refine tr_if_ne 19 dX12_awake_10 (by decide) (fun h => absurd (by decide +kernel) h) (fun _ => ?_)
  refine tr_aload_n dX12_awake_13 rfl ?_
  refine tr_iconst (v := 1) dX12_awake_14 (by decide +kernel) ?_
  refine tr_inVi (M' := mX12_refused) (as := [_]) dX12_awake_15 lk12_76 inX12_refused seX12_refused myX12_refused (by decide) ⟨by decide, by decide⟩ rfl (hK 183 12 (by decide) kd_183) (Nat.le_of_ble_eq_true rfl) (by decide) (by decide) (Con.of (by decide +kernel) rfl (Nat.le_of_ble_eq_true rfl) rfl (fun X59 hX59 zX59 => ?_))
  refine tr_aload_n dX12_refused_0 rfl ?_
  refine tr_iload_n dX12_refused_1 rfl ?_
  refine tr_putI dX12_refused_2 fl12_73 (hK 183 12 (by decide) kd_183) (Or.inl rfl) ?_
  refine tr_aload_n dX12_refused_5 rfl ?_
  refine tr_iconst (v := (-1)) dX12_refused_6 (by decide +kernel) ?_
  refine tr_putI dX12_refused_7 fl12_9 (hK 183 12 (by decide) kd_183) (Or.inl rfl) ?_
  refine tr_iconst (v := (-1)) dX12_refused_10 (by decide +kernel) ?_
  refine tr_iret zX59 dX12_refused_11 rfl (by decide) (by decide) ⟨_, rfl, ?_⟩
  exact tr_iret zX57 dX12_awake_18 rfl (by decide) (by decide) rfl
set_option maxHeartbeats 4000000 in
set_option maxRecDepth 100000 in
theorem fX10_notices (a b c : Int32) {l : Launch} {K N : Nat → Nat} {I : cz_I} {R : cz_R} {L : cz_L} (hf : cz_f1 K N I R) : Con l mX10_notices [.ref 0, .int a, .int b, .int c] 203 K N I R L (fun r cn' K' N' I' R' _ => r = some (.int ((-1))) ∧ cn' = 203 ∧ K' = K ∧ N' = N ∧ ∀ k : Nat, 183 ≤ k → I' k = I k ∧ R' k = R k) := by
  obtain ⟨hK, hN, hR, hI⟩ := hf
  refine Con.of (by decide +kernel) rfl (Nat.le_of_ble_eq_true rfl) rfl (fun X60 hX60 zX60 => ?_)
  refine tr_aload_n dX10_notices_0 rfl ?_
  refine tr_iload_n dX10_notices_1 rfl ?_
  refine tr_inVi (M' := mX10_isTurner) (as := [_]) dX10_notices_2 lk10_152 inX10_isTurner seX10_isTurner myX10_isTurner (by decide) ⟨by decide, by decide⟩ rfl (hK 0 10 (by decide) kd_0) (Nat.le_of_ble_eq_true rfl) (by decide) (by decide) (Con.of (by decide +kernel) rfl (Nat.le_of_ble_eq_true rfl) rfl (fun X61 hX61 zX61 => ?_))
  refine tr_iload_n dX10_isTurner_0 rfl ?_
  refine tr_if_lt 19 dX10_isTurner_1 (by decide) (fun q62 => ?_) (fun q62 => ?_)
  · skip
    refine tr_iconst (v := 0) dX10_isTurner_19 (by decide +kernel) ?_
    refine tr_zret zX61 dX10_isTurner_20 rfl (Or.inl rfl) (by decide) (by decide) ⟨_, rfl, ?_⟩
    refine tr_if_eq 16 dX10_notices_5 (by decide) (fun _ => ?_) (fun h => absurd (by decide +kernel) h)
    refine tr_aload_n dX10_notices_16 rfl ?_
    refine tr_iconst (v := 1) dX10_notices_17 (by decide +kernel) ?_
    refine tr_inVi (M' := mX10_refused) (as := [_]) dX10_notices_18 lk10_79 inX10_refused seX10_refused myX10_refused (by decide) ⟨by decide, by decide⟩ rfl (hK 0 10 (by decide) kd_0) (Nat.le_of_ble_eq_true rfl) (by decide) (by decide) (Con.of (by decide +kernel) rfl (Nat.le_of_ble_eq_true rfl) rfl (fun X63 hX63 zX63 => ?_))
    refine tr_aload_n dX10_refused_0 rfl ?_
    refine tr_iload_n dX10_refused_1 rfl ?_
    refine tr_putI dX10_refused_2 fl10_112 (hK 0 10 (by decide) kd_0) (Or.inl rfl) ?_
    refine tr_iconst (v := (-1)) dX10_refused_5 (by decide +kernel) ?_
    refine tr_iret zX63 dX10_refused_6 rfl (by decide) (by decide) ⟨_, rfl, ?_⟩
    exact tr_iret zX60 dX10_notices_21 rfl (by decide) (by decide) ⟨rfl, rfl, rfl, rfl, fun k hk => ⟨by first | rfl | (repeat rw [cz_uIn (by omega)]), by first | rfl | (repeat rw [cz_uRn (by omega)])⟩⟩
  · skip
    refine tr_iload_n dX10_isTurner_4 rfl ?_
    refine tr_aload_n dX10_isTurner_5 rfl ?_
    refine tr_getR (x := 2) dX10_isTurner_6 fl10_16 (hK 0 10 (by decide) kd_0) (hR 0 2 (some 2) (by decide +kernel) rf_0_2) ?_
    refine tr_getI dX10_isTurner_9 fl10_335 (hK 2 0 (by decide) kd_2) ?_
    refine tr_topi 0 (hI 2 9 (by decide +kernel)) ?_
    refine tr_icmp_ge 19 dX10_isTurner_12 (by decide) (fun q64 => ?_) (fun q64 => ?_)
    · skip
      refine tr_iconst (v := 0) dX10_isTurner_19 (by decide +kernel) ?_
      refine tr_zret zX61 dX10_isTurner_20 rfl (Or.inl rfl) (by decide) (by decide) ⟨_, rfl, ?_⟩
      refine tr_if_eq 16 dX10_notices_5 (by decide) (fun _ => ?_) (fun h => absurd (by decide +kernel) h)
      refine tr_aload_n dX10_notices_16 rfl ?_
      refine tr_iconst (v := 1) dX10_notices_17 (by decide +kernel) ?_
      refine tr_inVi (M' := mX10_refused) (as := [_]) dX10_notices_18 lk10_79 inX10_refused seX10_refused myX10_refused (by decide) ⟨by decide, by decide⟩ rfl (hK 0 10 (by decide) kd_0) (Nat.le_of_ble_eq_true rfl) (by decide) (by decide) (Con.of (by decide +kernel) rfl (Nat.le_of_ble_eq_true rfl) rfl (fun X65 hX65 zX65 => ?_))
      refine tr_aload_n dX10_refused_0 rfl ?_
      refine tr_iload_n dX10_refused_1 rfl ?_
      refine tr_putI dX10_refused_2 fl10_112 (hK 0 10 (by decide) kd_0) (Or.inl rfl) ?_
      refine tr_iconst (v := (-1)) dX10_refused_5 (by decide +kernel) ?_
      refine tr_iret zX65 dX10_refused_6 rfl (by decide) (by decide) ⟨_, rfl, ?_⟩
      exact tr_iret zX60 dX10_notices_21 rfl (by decide) (by decide) ⟨rfl, rfl, rfl, rfl, fun k hk => ⟨by first | rfl | (repeat rw [cz_uIn (by omega)]), by first | rfl | (repeat rw [cz_uRn (by omega)])⟩⟩
    · skip
      exfalso
      have e0 : ((0 : Int32)).toInt = 0 := by decide +kernel
      simp only [Int32.lt_iff_toInt_lt, Int32.le_iff_toInt_le, ← Int32.toInt_inj] at q64
      simp only [Int32.lt_iff_toInt_lt, Int32.le_iff_toInt_le, ← Int32.toInt_inj] at q62
      omega
set_option maxHeartbeats 4000000 in
set_option maxRecDepth 100000 in
theorem fX12_notices (a b c : Int32) {l : Launch} {K N : Nat → Nat} {I : cz_I} {R : cz_R} {L : cz_L} (hf : cz_f2 K N I R) : Con l mX12_notices [.ref 183, .int a, .int b, .int c] 203 K N I R L (fun r _ _ _ _ _ _ => r = some (.int ((-1)))) := by
  obtain ⟨hK, hN, hR, hI, hI2⟩ := hf
  refine Con.of (by decide +kernel) rfl (Nat.le_of_ble_eq_true rfl) rfl (fun X66 hX66 zX66 => ?_)
  refine tr_aload_n dX12_notices_0 rfl ?_
  refine tr_iconst (v := 0) dX12_notices_1 (by decide +kernel) ?_
  refine tr_putI dX12_notices_2 fl12_70 (hK 183 12 (by decide) kd_183) (Or.inl rfl) ?_
  refine tr_aload_n dX12_notices_5 rfl ?_
  refine tr_iload_n dX12_notices_6 rfl ?_
  refine tr_inVi (M' := mX12_isTurner) (as := [_]) dX12_notices_7 lk12_452 inX12_isTurner seX12_isTurner myX12_isTurner (by decide) ⟨by decide, by decide⟩ rfl (hK 183 12 (by decide) kd_183) (Nat.le_of_ble_eq_true rfl) (by decide) (by decide) (Con.of (by decide +kernel) rfl (Nat.le_of_ble_eq_true rfl) rfl (fun X67 hX67 zX67 => ?_))
  refine tr_aload_n dX12_isTurner_0 rfl ?_
  refine tr_getN dX12_isTurner_1 fl12_385 (hK 183 12 (by decide) kd_183) (hR 183 3 none (by decide +kernel) (by decide +kernel)) ?_
  refine tr_ifnullN 26 dX12_isTurner_4 (by decide) ?_
  refine tr_iconst (v := 0) dX12_isTurner_26 (by decide +kernel) ?_
  refine tr_zret zX67 dX12_isTurner_27 rfl (Or.inl rfl) (by decide) (by decide) ⟨_, rfl, ?_⟩
  refine tr_if_eq 21 dX12_notices_10 (by decide) (fun _ => ?_) (fun h => absurd (by decide +kernel) h)
  refine tr_aload_n dX12_notices_21 rfl ?_
  refine tr_iconst (v := 1) dX12_notices_22 (by decide +kernel) ?_
  refine tr_inVi (M' := mX12_refused) (as := [_]) dX12_notices_23 lk12_76 inX12_refused seX12_refused myX12_refused (by decide) ⟨by decide, by decide⟩ rfl (hK 183 12 (by decide) kd_183) (Nat.le_of_ble_eq_true rfl) (by decide) (by decide) (Con.of (by decide +kernel) rfl (Nat.le_of_ble_eq_true rfl) rfl (fun X68 hX68 zX68 => ?_))
  refine tr_aload_n dX12_refused_0 rfl ?_
  refine tr_iload_n dX12_refused_1 rfl ?_
  refine tr_putI dX12_refused_2 fl12_73 (hK 183 12 (by decide) kd_183) (Or.inl rfl) ?_
  refine tr_aload_n dX12_refused_5 rfl ?_
  refine tr_iconst (v := (-1)) dX12_refused_6 (by decide +kernel) ?_
  refine tr_putI dX12_refused_7 fl12_9 (hK 183 12 (by decide) kd_183) (Or.inl rfl) ?_
  refine tr_iconst (v := (-1)) dX12_refused_10 (by decide +kernel) ?_
  refine tr_iret zX68 dX12_refused_11 rfl (by decide) (by decide) ⟨_, rfl, ?_⟩
  exact tr_iret zX66 dX12_notices_26 rfl (by decide) (by decide) rfl
set_option maxHeartbeats 4000000 in
set_option maxRecDepth 100000 in
theorem fX10_work (a b : Int32) {l : Launch} {K N : Nat → Nat} {I : cz_I} {R : cz_R} {L : cz_L} (hf : cz_f1 K N I R) : Con l mX10_work [.ref 0, .int a, .int b] 203 K N I R L (fun r cn' K' N' I' R' _ => r = some (.int ((-1))) ∧ cn' = 203 ∧ K' = K ∧ N' = N ∧ ∀ k : Nat, 183 ≤ k → I' k = I k ∧ R' k = R k) := by
  obtain ⟨hK, hN, hR, hI⟩ := hf
  refine Con.of (by decide +kernel) rfl (Nat.le_of_ble_eq_true rfl) rfl (fun X69 hX69 zX69 => ?_)
  refine tr_aload_n dX10_work_0 rfl ?_
  refine tr_iload_n dX10_work_1 rfl ?_
  refine tr_inVi (M' := mX10_isTurner) (as := [_]) dX10_work_2 lk10_152 inX10_isTurner seX10_isTurner myX10_isTurner (by decide) ⟨by decide, by decide⟩ rfl (hK 0 10 (by decide) kd_0) (Nat.le_of_ble_eq_true rfl) (by decide) (by decide) (Con.of (by decide +kernel) rfl (Nat.le_of_ble_eq_true rfl) rfl (fun X70 hX70 zX70 => ?_))
  refine tr_iload_n dX10_isTurner_0 rfl ?_
  refine tr_if_lt 19 dX10_isTurner_1 (by decide) (fun q71 => ?_) (fun q71 => ?_)
  · skip
    refine tr_iconst (v := 0) dX10_isTurner_19 (by decide +kernel) ?_
    refine tr_zret zX70 dX10_isTurner_20 rfl (Or.inl rfl) (by decide) (by decide) ⟨_, rfl, ?_⟩
    refine tr_if_ne 14 dX10_work_5 (by decide) (fun h => absurd (by decide +kernel) h) (fun _ => ?_)
    refine tr_aload_n dX10_work_8 rfl ?_
    refine tr_iconst (v := 1) dX10_work_9 (by decide +kernel) ?_
    refine tr_inVi (M' := mX10_refused) (as := [_]) dX10_work_10 lk10_79 inX10_refused seX10_refused myX10_refused (by decide) ⟨by decide, by decide⟩ rfl (hK 0 10 (by decide) kd_0) (Nat.le_of_ble_eq_true rfl) (by decide) (by decide) (Con.of (by decide +kernel) rfl (Nat.le_of_ble_eq_true rfl) rfl (fun X72 hX72 zX72 => ?_))
    refine tr_aload_n dX10_refused_0 rfl ?_
    refine tr_iload_n dX10_refused_1 rfl ?_
    refine tr_putI dX10_refused_2 fl10_112 (hK 0 10 (by decide) kd_0) (Or.inl rfl) ?_
    refine tr_iconst (v := (-1)) dX10_refused_5 (by decide +kernel) ?_
    refine tr_iret zX72 dX10_refused_6 rfl (by decide) (by decide) ⟨_, rfl, ?_⟩
    exact tr_iret zX69 dX10_work_13 rfl (by decide) (by decide) ⟨rfl, rfl, rfl, rfl, fun k hk => ⟨by first | rfl | (repeat rw [cz_uIn (by omega)]), by first | rfl | (repeat rw [cz_uRn (by omega)])⟩⟩
  · skip
    refine tr_iload_n dX10_isTurner_4 rfl ?_
    refine tr_aload_n dX10_isTurner_5 rfl ?_
    refine tr_getR (x := 2) dX10_isTurner_6 fl10_16 (hK 0 10 (by decide) kd_0) (hR 0 2 (some 2) (by decide +kernel) rf_0_2) ?_
    refine tr_getI dX10_isTurner_9 fl10_335 (hK 2 0 (by decide) kd_2) ?_
    refine tr_topi 0 (hI 2 9 (by decide +kernel)) ?_
    refine tr_icmp_ge 19 dX10_isTurner_12 (by decide) (fun q73 => ?_) (fun q73 => ?_)
    · skip
      refine tr_iconst (v := 0) dX10_isTurner_19 (by decide +kernel) ?_
      refine tr_zret zX70 dX10_isTurner_20 rfl (Or.inl rfl) (by decide) (by decide) ⟨_, rfl, ?_⟩
      refine tr_if_ne 14 dX10_work_5 (by decide) (fun h => absurd (by decide +kernel) h) (fun _ => ?_)
      refine tr_aload_n dX10_work_8 rfl ?_
      refine tr_iconst (v := 1) dX10_work_9 (by decide +kernel) ?_
      refine tr_inVi (M' := mX10_refused) (as := [_]) dX10_work_10 lk10_79 inX10_refused seX10_refused myX10_refused (by decide) ⟨by decide, by decide⟩ rfl (hK 0 10 (by decide) kd_0) (Nat.le_of_ble_eq_true rfl) (by decide) (by decide) (Con.of (by decide +kernel) rfl (Nat.le_of_ble_eq_true rfl) rfl (fun X74 hX74 zX74 => ?_))
      refine tr_aload_n dX10_refused_0 rfl ?_
      refine tr_iload_n dX10_refused_1 rfl ?_
      refine tr_putI dX10_refused_2 fl10_112 (hK 0 10 (by decide) kd_0) (Or.inl rfl) ?_
      refine tr_iconst (v := (-1)) dX10_refused_5 (by decide +kernel) ?_
      refine tr_iret zX74 dX10_refused_6 rfl (by decide) (by decide) ⟨_, rfl, ?_⟩
      exact tr_iret zX69 dX10_work_13 rfl (by decide) (by decide) ⟨rfl, rfl, rfl, rfl, fun k hk => ⟨by first | rfl | (repeat rw [cz_uIn (by omega)]), by first | rfl | (repeat rw [cz_uRn (by omega)])⟩⟩
    · skip
      exfalso
      have e0 : ((0 : Int32)).toInt = 0 := by decide +kernel
      simp only [Int32.lt_iff_toInt_lt, Int32.le_iff_toInt_le, ← Int32.toInt_inj] at q73
      simp only [Int32.lt_iff_toInt_lt, Int32.le_iff_toInt_le, ← Int32.toInt_inj] at q71
      omega
set_option maxHeartbeats 4000000 in
set_option maxRecDepth 100000 in
theorem fX12_work (a b : Int32) {l : Launch} {K N : Nat → Nat} {I : cz_I} {R : cz_R} {L : cz_L} (hf : cz_f2 K N I R) : Con l mX12_work [.ref 183, .int a, .int b] 203 K N I R L (fun r _ _ _ _ _ _ => r = some (.int ((-1)))) := by
  obtain ⟨hK, hN, hR, hI, hI2⟩ := hf
  refine Con.of (by decide +kernel) rfl (Nat.le_of_ble_eq_true rfl) rfl (fun X75 hX75 zX75 => ?_)
  refine tr_aload_n dX12_work_0 rfl ?_
  refine tr_iconst (v := 0) dX12_work_1 (by decide +kernel) ?_
  refine tr_putI dX12_work_2 fl12_70 (hK 183 12 (by decide) kd_183) (Or.inl rfl) ?_
  refine tr_aload_n dX12_work_5 rfl ?_
  refine tr_iload_n dX12_work_6 rfl ?_
  refine tr_inVi (M' := mX12_isTurner) (as := [_]) dX12_work_7 lk12_452 inX12_isTurner seX12_isTurner myX12_isTurner (by decide) ⟨by decide, by decide⟩ rfl (hK 183 12 (by decide) kd_183) (Nat.le_of_ble_eq_true rfl) (by decide) (by decide) (Con.of (by decide +kernel) rfl (Nat.le_of_ble_eq_true rfl) rfl (fun X76 hX76 zX76 => ?_))
  refine tr_aload_n dX12_isTurner_0 rfl ?_
  refine tr_getN dX12_isTurner_1 fl12_385 (hK 183 12 (by decide) kd_183) (hR 183 3 none (by decide +kernel) (by decide +kernel)) ?_
  refine tr_ifnullN 26 dX12_isTurner_4 (by decide) ?_
  refine tr_iconst (v := 0) dX12_isTurner_26 (by decide +kernel) ?_
  refine tr_zret zX76 dX12_isTurner_27 rfl (Or.inl rfl) (by decide) (by decide) ⟨_, rfl, ?_⟩
  refine tr_if_eq 22 dX12_work_10 (by decide) (fun _ => ?_) (fun h => absurd (by decide +kernel) h)
  refine tr_aload_n dX12_work_22 rfl ?_
  refine tr_iconst (v := 1) dX12_work_23 (by decide +kernel) ?_
  refine tr_inVi (M' := mX12_refused) (as := [_]) dX12_work_24 lk12_76 inX12_refused seX12_refused myX12_refused (by decide) ⟨by decide, by decide⟩ rfl (hK 183 12 (by decide) kd_183) (Nat.le_of_ble_eq_true rfl) (by decide) (by decide) (Con.of (by decide +kernel) rfl (Nat.le_of_ble_eq_true rfl) rfl (fun X77 hX77 zX77 => ?_))
  refine tr_aload_n dX12_refused_0 rfl ?_
  refine tr_iload_n dX12_refused_1 rfl ?_
  refine tr_putI dX12_refused_2 fl12_73 (hK 183 12 (by decide) kd_183) (Or.inl rfl) ?_
  refine tr_aload_n dX12_refused_5 rfl ?_
  refine tr_iconst (v := (-1)) dX12_refused_6 (by decide +kernel) ?_
  refine tr_putI dX12_refused_7 fl12_9 (hK 183 12 (by decide) kd_183) (Or.inl rfl) ?_
  refine tr_iconst (v := (-1)) dX12_refused_10 (by decide +kernel) ?_
  refine tr_iret zX77 dX12_refused_11 rfl (by decide) (by decide) ⟨_, rfl, ?_⟩
  exact tr_iret zX75 dX12_work_27 rfl (by decide) (by decide) rfl
set_option maxHeartbeats 4000000 in
set_option maxRecDepth 100000 in
theorem fX10_worth (a : Int32) {l : Launch} {K N : Nat → Nat} {I : cz_I} {R : cz_R} {L : cz_L} (hf : cz_f1 K N I R) : Con l mX10_worth [.ref 0, .int a] 203 K N I R L (fun r cn' K' N' I' R' _ => r = some (.int ((-100000))) ∧ cn' = 203 ∧ K' = K ∧ N' = N ∧ ∀ k : Nat, 183 ≤ k → I' k = I k ∧ R' k = R k) := by
  obtain ⟨hK, hN, hR, hI⟩ := hf
  refine Con.of (by decide +kernel) rfl (Nat.le_of_ble_eq_true rfl) rfl (fun X78 hX78 zX78 => ?_)
  refine tr_aload_n dX10_worth_0 rfl ?_
  refine tr_iload_n dX10_worth_1 rfl ?_
  refine tr_inVi (M' := mX10_isTurner) (as := [_]) dX10_worth_2 lk10_152 inX10_isTurner seX10_isTurner myX10_isTurner (by decide) ⟨by decide, by decide⟩ rfl (hK 0 10 (by decide) kd_0) (Nat.le_of_ble_eq_true rfl) (by decide) (by decide) (Con.of (by decide +kernel) rfl (Nat.le_of_ble_eq_true rfl) rfl (fun X79 hX79 zX79 => ?_))
  refine tr_iload_n dX10_isTurner_0 rfl ?_
  refine tr_if_lt 19 dX10_isTurner_1 (by decide) (fun q80 => ?_) (fun q80 => ?_)
  · skip
    refine tr_iconst (v := 0) dX10_isTurner_19 (by decide +kernel) ?_
    refine tr_zret zX79 dX10_isTurner_20 rfl (Or.inl rfl) (by decide) (by decide) ⟨_, rfl, ?_⟩
    refine tr_if_ne 14 dX10_worth_5 (by decide) (fun h => absurd (by decide +kernel) h) (fun _ => ?_)
    refine tr_aload_n dX10_worth_8 rfl ?_
    refine tr_iconst (v := 1) dX10_worth_9 (by decide +kernel) ?_
    refine tr_inVi (M' := mX10_refusedTotal) (as := [_]) dX10_worth_10 lk10_178 inX10_refusedTotal seX10_refusedTotal myX10_refusedTotal (by decide) ⟨by decide, by decide⟩ rfl (hK 0 10 (by decide) kd_0) (Nat.le_of_ble_eq_true rfl) (by decide) (by decide) (Con.of (by decide +kernel) rfl (Nat.le_of_ble_eq_true rfl) rfl (fun X81 hX81 zX81 => ?_))
    refine tr_aload_n dX10_refusedTotal_0 rfl ?_
    refine tr_iload_n dX10_refusedTotal_1 rfl ?_
    refine tr_putI dX10_refusedTotal_2 fl10_112 (hK 0 10 (by decide) kd_0) (Or.inl rfl) ?_
    refine tr_ldcw dX10_refusedTotal_5 ld10_356 ?_
    refine tr_iret zX81 dX10_refusedTotal_8 rfl (by decide) (by decide) ⟨_, rfl, ?_⟩
    exact tr_iret zX78 dX10_worth_13 rfl (by decide) (by decide) ⟨rfl, rfl, rfl, rfl, fun k hk => ⟨by first | rfl | (repeat rw [cz_uIn (by omega)]), by first | rfl | (repeat rw [cz_uRn (by omega)])⟩⟩
  · skip
    refine tr_iload_n dX10_isTurner_4 rfl ?_
    refine tr_aload_n dX10_isTurner_5 rfl ?_
    refine tr_getR (x := 2) dX10_isTurner_6 fl10_16 (hK 0 10 (by decide) kd_0) (hR 0 2 (some 2) (by decide +kernel) rf_0_2) ?_
    refine tr_getI dX10_isTurner_9 fl10_335 (hK 2 0 (by decide) kd_2) ?_
    refine tr_topi 0 (hI 2 9 (by decide +kernel)) ?_
    refine tr_icmp_ge 19 dX10_isTurner_12 (by decide) (fun q82 => ?_) (fun q82 => ?_)
    · skip
      refine tr_iconst (v := 0) dX10_isTurner_19 (by decide +kernel) ?_
      refine tr_zret zX79 dX10_isTurner_20 rfl (Or.inl rfl) (by decide) (by decide) ⟨_, rfl, ?_⟩
      refine tr_if_ne 14 dX10_worth_5 (by decide) (fun h => absurd (by decide +kernel) h) (fun _ => ?_)
      refine tr_aload_n dX10_worth_8 rfl ?_
      refine tr_iconst (v := 1) dX10_worth_9 (by decide +kernel) ?_
      refine tr_inVi (M' := mX10_refusedTotal) (as := [_]) dX10_worth_10 lk10_178 inX10_refusedTotal seX10_refusedTotal myX10_refusedTotal (by decide) ⟨by decide, by decide⟩ rfl (hK 0 10 (by decide) kd_0) (Nat.le_of_ble_eq_true rfl) (by decide) (by decide) (Con.of (by decide +kernel) rfl (Nat.le_of_ble_eq_true rfl) rfl (fun X83 hX83 zX83 => ?_))
      refine tr_aload_n dX10_refusedTotal_0 rfl ?_
      refine tr_iload_n dX10_refusedTotal_1 rfl ?_
      refine tr_putI dX10_refusedTotal_2 fl10_112 (hK 0 10 (by decide) kd_0) (Or.inl rfl) ?_
      refine tr_ldcw dX10_refusedTotal_5 ld10_356 ?_
      refine tr_iret zX83 dX10_refusedTotal_8 rfl (by decide) (by decide) ⟨_, rfl, ?_⟩
      exact tr_iret zX78 dX10_worth_13 rfl (by decide) (by decide) ⟨rfl, rfl, rfl, rfl, fun k hk => ⟨by first | rfl | (repeat rw [cz_uIn (by omega)]), by first | rfl | (repeat rw [cz_uRn (by omega)])⟩⟩
    · skip
      exfalso
      have e0 : ((0 : Int32)).toInt = 0 := by decide +kernel
      simp only [Int32.lt_iff_toInt_lt, Int32.le_iff_toInt_le, ← Int32.toInt_inj] at q82
      simp only [Int32.lt_iff_toInt_lt, Int32.le_iff_toInt_le, ← Int32.toInt_inj] at q80
      omega
set_option maxHeartbeats 4000000 in
set_option maxRecDepth 100000 in
theorem fX12_worth (a : Int32) {l : Launch} {K N : Nat → Nat} {I : cz_I} {R : cz_R} {L : cz_L} (hf : cz_f2 K N I R) : Con l mX12_worth [.ref 183, .int a] 203 K N I R L (fun r _ _ _ _ _ _ => r = some (.int ((-100000)))) := by
  obtain ⟨hK, hN, hR, hI, hI2⟩ := hf
  refine Con.of (by decide +kernel) rfl (Nat.le_of_ble_eq_true rfl) rfl (fun X84 hX84 zX84 => ?_)
  refine tr_aload_n dX12_worth_0 rfl ?_
  refine tr_iconst (v := 0) dX12_worth_1 (by decide +kernel) ?_
  refine tr_putI dX12_worth_2 fl12_70 (hK 183 12 (by decide) kd_183) (Or.inl rfl) ?_
  refine tr_aload_n dX12_worth_5 rfl ?_
  refine tr_iload_n dX12_worth_6 rfl ?_
  refine tr_inVi (M' := mX12_isTurner) (as := [_]) dX12_worth_7 lk12_452 inX12_isTurner seX12_isTurner myX12_isTurner (by decide) ⟨by decide, by decide⟩ rfl (hK 183 12 (by decide) kd_183) (Nat.le_of_ble_eq_true rfl) (by decide) (by decide) (Con.of (by decide +kernel) rfl (Nat.le_of_ble_eq_true rfl) rfl (fun X85 hX85 zX85 => ?_))
  refine tr_aload_n dX12_isTurner_0 rfl ?_
  refine tr_getN dX12_isTurner_1 fl12_385 (hK 183 12 (by decide) kd_183) (hR 183 3 none (by decide +kernel) (by decide +kernel)) ?_
  refine tr_ifnullN 26 dX12_isTurner_4 (by decide) ?_
  refine tr_iconst (v := 0) dX12_isTurner_26 (by decide +kernel) ?_
  refine tr_zret zX85 dX12_isTurner_27 rfl (Or.inl rfl) (by decide) (by decide) ⟨_, rfl, ?_⟩
  refine tr_if_ne 19 dX12_worth_10 (by decide) (fun h => absurd (by decide +kernel) h) (fun _ => ?_)
  refine tr_aload_n dX12_worth_13 rfl ?_
  refine tr_iconst (v := 1) dX12_worth_14 (by decide +kernel) ?_
  refine tr_inVi (M' := mX12_lost) (as := [_]) dX12_worth_15 lk12_458 inX12_lost seX12_lost myX12_lost (by decide) ⟨by decide, by decide⟩ rfl (hK 183 12 (by decide) kd_183) (Nat.le_of_ble_eq_true rfl) (by decide) (by decide) (Con.of (by decide +kernel) rfl (Nat.le_of_ble_eq_true rfl) rfl (fun X86 hX86 zX86 => ?_))
  refine tr_aload_n dX12_lost_0 rfl ?_
  refine tr_iload_n dX12_lost_1 rfl ?_
  refine tr_inVi (M' := mX12_refused) (as := [_]) dX12_lost_2 lk12_76 inX12_refused seX12_refused myX12_refused (by decide) ⟨by decide, by decide⟩ rfl (hK 183 12 (by decide) kd_183) (Nat.le_of_ble_eq_true rfl) (by decide) (by decide) (Con.of (by decide +kernel) rfl (Nat.le_of_ble_eq_true rfl) rfl (fun X87 hX87 zX87 => ?_))
  refine tr_aload_n dX12_refused_0 rfl ?_
  refine tr_iload_n dX12_refused_1 rfl ?_
  refine tr_putI dX12_refused_2 fl12_73 (hK 183 12 (by decide) kd_183) (Or.inl rfl) ?_
  refine tr_aload_n dX12_refused_5 rfl ?_
  refine tr_iconst (v := (-1)) dX12_refused_6 (by decide +kernel) ?_
  refine tr_putI dX12_refused_7 fl12_9 (hK 183 12 (by decide) kd_183) (Or.inl rfl) ?_
  refine tr_iconst (v := (-1)) dX12_refused_10 (by decide +kernel) ?_
  refine tr_iret zX87 dX12_refused_11 rfl (by decide) (by decide) ⟨_, rfl, ?_⟩
  refine tr_pop dX12_lost_5 rfl ?_
  refine tr_ldc dX12_lost_6 ld12_80 ?_
  refine tr_iret zX86 dX12_lost_8 rfl (by decide) (by decide) ⟨_, rfl, ?_⟩
  exact tr_iret zX84 dX12_worth_18 rfl (by decide) (by decide) rfl
set_option maxHeartbeats 4000000 in
set_option maxRecDepth 100000 in
theorem fX10_turned (a b : Int32) {l : Launch} {K N : Nat → Nat} {I : cz_I} {R : cz_R} {L : cz_L} (hf : cz_f1 K N I R) : Con l mX10_turned [.ref 0, .int a, .int b] 203 K N I R L (fun r cn' K' N' I' R' _ => r = some (.int ((-1))) ∧ cn' = 203 ∧ K' = K ∧ N' = N ∧ ∀ k : Nat, 183 ≤ k → I' k = I k ∧ R' k = R k) := by
  obtain ⟨hK, hN, hR, hI⟩ := hf
  refine Con.of (by decide +kernel) rfl (Nat.le_of_ble_eq_true rfl) rfl (fun X88 hX88 zX88 => ?_)
  refine tr_aload_n dX10_turned_0 rfl ?_
  refine tr_iload_n dX10_turned_1 rfl ?_
  refine tr_inVi (M' := mX10_isCheese) (as := [_]) dX10_turned_2 lk10_195 inX10_isCheese seX10_isCheese myX10_isCheese (by decide) ⟨by decide, by decide⟩ rfl (hK 0 10 (by decide) kd_0) (Nat.le_of_ble_eq_true rfl) (by decide) (by decide) (Con.of (by decide +kernel) rfl (Nat.le_of_ble_eq_true rfl) rfl (fun X89 hX89 zX89 => ?_))
  refine tr_iload_n dX10_isCheese_0 rfl ?_
  refine tr_if_lt 19 dX10_isCheese_1 (by decide) (fun q90 => ?_) (fun q90 => ?_)
  · skip
    refine tr_iconst (v := 0) dX10_isCheese_19 (by decide +kernel) ?_
    refine tr_zret zX89 dX10_isCheese_20 rfl (Or.inl rfl) (by decide) (by decide) ⟨_, rfl, ?_⟩
    refine tr_if_ne 14 dX10_turned_5 (by decide) (fun h => absurd (by decide +kernel) h) (fun _ => ?_)
    refine tr_aload_n dX10_turned_8 rfl ?_
    refine tr_iconst (v := 1) dX10_turned_9 (by decide +kernel) ?_
    refine tr_inVi (M' := mX10_refused) (as := [_]) dX10_turned_10 lk10_79 inX10_refused seX10_refused myX10_refused (by decide) ⟨by decide, by decide⟩ rfl (hK 0 10 (by decide) kd_0) (Nat.le_of_ble_eq_true rfl) (by decide) (by decide) (Con.of (by decide +kernel) rfl (Nat.le_of_ble_eq_true rfl) rfl (fun X91 hX91 zX91 => ?_))
    refine tr_aload_n dX10_refused_0 rfl ?_
    refine tr_iload_n dX10_refused_1 rfl ?_
    refine tr_putI dX10_refused_2 fl10_112 (hK 0 10 (by decide) kd_0) (Or.inl rfl) ?_
    refine tr_iconst (v := (-1)) dX10_refused_5 (by decide +kernel) ?_
    refine tr_iret zX91 dX10_refused_6 rfl (by decide) (by decide) ⟨_, rfl, ?_⟩
    exact tr_iret zX88 dX10_turned_13 rfl (by decide) (by decide) ⟨rfl, rfl, rfl, rfl, fun k hk => ⟨by first | rfl | (repeat rw [cz_uIn (by omega)]), by first | rfl | (repeat rw [cz_uRn (by omega)])⟩⟩
  · skip
    refine tr_iload_n dX10_isCheese_4 rfl ?_
    refine tr_aload_n dX10_isCheese_5 rfl ?_
    refine tr_getR (x := 2) dX10_isCheese_6 fl10_16 (hK 0 10 (by decide) kd_0) (hR 0 2 (some 2) (by decide +kernel) rf_0_2) ?_
    refine tr_getI dX10_isCheese_9 fl10_106 (hK 2 0 (by decide) kd_2) ?_
    refine tr_topi 0 (hI 2 5 (by decide +kernel)) ?_
    refine tr_icmp_ge 19 dX10_isCheese_12 (by decide) (fun q92 => ?_) (fun q92 => ?_)
    · skip
      refine tr_iconst (v := 0) dX10_isCheese_19 (by decide +kernel) ?_
      refine tr_zret zX89 dX10_isCheese_20 rfl (Or.inl rfl) (by decide) (by decide) ⟨_, rfl, ?_⟩
      refine tr_if_ne 14 dX10_turned_5 (by decide) (fun h => absurd (by decide +kernel) h) (fun _ => ?_)
      refine tr_aload_n dX10_turned_8 rfl ?_
      refine tr_iconst (v := 1) dX10_turned_9 (by decide +kernel) ?_
      refine tr_inVi (M' := mX10_refused) (as := [_]) dX10_turned_10 lk10_79 inX10_refused seX10_refused myX10_refused (by decide) ⟨by decide, by decide⟩ rfl (hK 0 10 (by decide) kd_0) (Nat.le_of_ble_eq_true rfl) (by decide) (by decide) (Con.of (by decide +kernel) rfl (Nat.le_of_ble_eq_true rfl) rfl (fun X93 hX93 zX93 => ?_))
      refine tr_aload_n dX10_refused_0 rfl ?_
      refine tr_iload_n dX10_refused_1 rfl ?_
      refine tr_putI dX10_refused_2 fl10_112 (hK 0 10 (by decide) kd_0) (Or.inl rfl) ?_
      refine tr_iconst (v := (-1)) dX10_refused_5 (by decide +kernel) ?_
      refine tr_iret zX93 dX10_refused_6 rfl (by decide) (by decide) ⟨_, rfl, ?_⟩
      exact tr_iret zX88 dX10_turned_13 rfl (by decide) (by decide) ⟨rfl, rfl, rfl, rfl, fun k hk => ⟨by first | rfl | (repeat rw [cz_uIn (by omega)]), by first | rfl | (repeat rw [cz_uRn (by omega)])⟩⟩
    · skip
      exfalso
      have e0 : ((0 : Int32)).toInt = 0 := by decide +kernel
      simp only [Int32.lt_iff_toInt_lt, Int32.le_iff_toInt_le, ← Int32.toInt_inj] at q92
      simp only [Int32.lt_iff_toInt_lt, Int32.le_iff_toInt_le, ← Int32.toInt_inj] at q90
      omega
set_option maxHeartbeats 4000000 in
set_option maxRecDepth 100000 in
theorem fX12_turned (a b : Int32) {l : Launch} {K N : Nat → Nat} {I : cz_I} {R : cz_R} {L : cz_L} (hf : cz_f2 K N I R) : Con l mX12_turned [.ref 183, .int a, .int b] 203 K N I R L (fun r _ _ _ _ _ _ => r = some (.int ((-1)))) := by
  obtain ⟨hK, hN, hR, hI, hI2⟩ := hf
  refine Con.of (by decide +kernel) rfl (Nat.le_of_ble_eq_true rfl) rfl (fun X94 hX94 zX94 => ?_)
  refine tr_aload_n dX12_turned_0 rfl ?_
  refine tr_iconst (v := 0) dX12_turned_1 (by decide +kernel) ?_
  refine tr_putI dX12_turned_2 fl12_70 (hK 183 12 (by decide) kd_183) (Or.inl rfl) ?_
  refine tr_aload_n dX12_turned_5 rfl ?_
  refine tr_iload_n dX12_turned_6 rfl ?_
  refine tr_inVi (M' := mX12_isCheese) (as := [_]) dX12_turned_7 lk12_461 inX12_isCheese seX12_isCheese myX12_isCheese (by decide) ⟨by decide, by decide⟩ rfl (hK 183 12 (by decide) kd_183) (Nat.le_of_ble_eq_true rfl) (by decide) (by decide) (Con.of (by decide +kernel) rfl (Nat.le_of_ble_eq_true rfl) rfl (fun X95 hX95 zX95 => ?_))
  refine tr_aload_n dX12_isCheese_0 rfl ?_
  refine tr_getN dX12_isCheese_1 fl12_385 (hK 183 12 (by decide) kd_183) (hR 183 3 none (by decide +kernel) (by decide +kernel)) ?_
  refine tr_ifnullN 26 dX12_isCheese_4 (by decide) ?_
  refine tr_iconst (v := 0) dX12_isCheese_26 (by decide +kernel) ?_
  refine tr_zret zX95 dX12_isCheese_27 rfl (Or.inl rfl) (by decide) (by decide) ⟨_, rfl, ?_⟩
  refine tr_if_ne 19 dX12_turned_10 (by decide) (fun h => absurd (by decide +kernel) h) (fun _ => ?_)
  refine tr_aload_n dX12_turned_13 rfl ?_
  refine tr_iconst (v := 1) dX12_turned_14 (by decide +kernel) ?_
  refine tr_inVi (M' := mX12_refused) (as := [_]) dX12_turned_15 lk12_76 inX12_refused seX12_refused myX12_refused (by decide) ⟨by decide, by decide⟩ rfl (hK 183 12 (by decide) kd_183) (Nat.le_of_ble_eq_true rfl) (by decide) (by decide) (Con.of (by decide +kernel) rfl (Nat.le_of_ble_eq_true rfl) rfl (fun X96 hX96 zX96 => ?_))
  refine tr_aload_n dX12_refused_0 rfl ?_
  refine tr_iload_n dX12_refused_1 rfl ?_
  refine tr_putI dX12_refused_2 fl12_73 (hK 183 12 (by decide) kd_183) (Or.inl rfl) ?_
  refine tr_aload_n dX12_refused_5 rfl ?_
  refine tr_iconst (v := (-1)) dX12_refused_6 (by decide +kernel) ?_
  refine tr_putI dX12_refused_7 fl12_9 (hK 183 12 (by decide) kd_183) (Or.inl rfl) ?_
  refine tr_iconst (v := (-1)) dX12_refused_10 (by decide +kernel) ?_
  refine tr_iret zX96 dX12_refused_11 rfl (by decide) (by decide) ⟨_, rfl, ?_⟩
  exact tr_iret zX94 dX12_turned_18 rfl (by decide) (by decide) rfl
set_option maxHeartbeats 4000000 in
set_option maxRecDepth 100000 in
theorem fX10_up (a b : Int32) {l : Launch} {K N : Nat → Nat} {I : cz_I} {R : cz_R} {L : cz_L} (hf : cz_f1 K N I R) : Con l mX10_up [.ref 0, .int a, .int b] 203 K N I R L (fun r cn' K' N' I' R' _ => r = some (.int ((-1))) ∧ cn' = 203 ∧ K' = K ∧ N' = N ∧ ∀ k : Nat, 183 ≤ k → I' k = I k ∧ R' k = R k) := by
  obtain ⟨hK, hN, hR, hI⟩ := hf
  refine Con.of (by decide +kernel) rfl (Nat.le_of_ble_eq_true rfl) rfl (fun X97 hX97 zX97 => ?_)
  refine tr_aload_n dX10_up_0 rfl ?_
  refine tr_iload_n dX10_up_1 rfl ?_
  refine tr_inVi (M' := mX10_isCheese) (as := [_]) dX10_up_2 lk10_195 inX10_isCheese seX10_isCheese myX10_isCheese (by decide) ⟨by decide, by decide⟩ rfl (hK 0 10 (by decide) kd_0) (Nat.le_of_ble_eq_true rfl) (by decide) (by decide) (Con.of (by decide +kernel) rfl (Nat.le_of_ble_eq_true rfl) rfl (fun X98 hX98 zX98 => ?_))
  refine tr_iload_n dX10_isCheese_0 rfl ?_
  refine tr_if_lt 19 dX10_isCheese_1 (by decide) (fun q99 => ?_) (fun q99 => ?_)
  · skip
    refine tr_iconst (v := 0) dX10_isCheese_19 (by decide +kernel) ?_
    refine tr_zret zX98 dX10_isCheese_20 rfl (Or.inl rfl) (by decide) (by decide) ⟨_, rfl, ?_⟩
    refine tr_if_ne 14 dX10_up_5 (by decide) (fun h => absurd (by decide +kernel) h) (fun _ => ?_)
    refine tr_aload_n dX10_up_8 rfl ?_
    refine tr_iconst (v := 1) dX10_up_9 (by decide +kernel) ?_
    refine tr_inVi (M' := mX10_refused) (as := [_]) dX10_up_10 lk10_79 inX10_refused seX10_refused myX10_refused (by decide) ⟨by decide, by decide⟩ rfl (hK 0 10 (by decide) kd_0) (Nat.le_of_ble_eq_true rfl) (by decide) (by decide) (Con.of (by decide +kernel) rfl (Nat.le_of_ble_eq_true rfl) rfl (fun X100 hX100 zX100 => ?_))
    refine tr_aload_n dX10_refused_0 rfl ?_
    refine tr_iload_n dX10_refused_1 rfl ?_
    refine tr_putI dX10_refused_2 fl10_112 (hK 0 10 (by decide) kd_0) (Or.inl rfl) ?_
    refine tr_iconst (v := (-1)) dX10_refused_5 (by decide +kernel) ?_
    refine tr_iret zX100 dX10_refused_6 rfl (by decide) (by decide) ⟨_, rfl, ?_⟩
    exact tr_iret zX97 dX10_up_13 rfl (by decide) (by decide) ⟨rfl, rfl, rfl, rfl, fun k hk => ⟨by first | rfl | (repeat rw [cz_uIn (by omega)]), by first | rfl | (repeat rw [cz_uRn (by omega)])⟩⟩
  · skip
    refine tr_iload_n dX10_isCheese_4 rfl ?_
    refine tr_aload_n dX10_isCheese_5 rfl ?_
    refine tr_getR (x := 2) dX10_isCheese_6 fl10_16 (hK 0 10 (by decide) kd_0) (hR 0 2 (some 2) (by decide +kernel) rf_0_2) ?_
    refine tr_getI dX10_isCheese_9 fl10_106 (hK 2 0 (by decide) kd_2) ?_
    refine tr_topi 0 (hI 2 5 (by decide +kernel)) ?_
    refine tr_icmp_ge 19 dX10_isCheese_12 (by decide) (fun q101 => ?_) (fun q101 => ?_)
    · skip
      refine tr_iconst (v := 0) dX10_isCheese_19 (by decide +kernel) ?_
      refine tr_zret zX98 dX10_isCheese_20 rfl (Or.inl rfl) (by decide) (by decide) ⟨_, rfl, ?_⟩
      refine tr_if_ne 14 dX10_up_5 (by decide) (fun h => absurd (by decide +kernel) h) (fun _ => ?_)
      refine tr_aload_n dX10_up_8 rfl ?_
      refine tr_iconst (v := 1) dX10_up_9 (by decide +kernel) ?_
      refine tr_inVi (M' := mX10_refused) (as := [_]) dX10_up_10 lk10_79 inX10_refused seX10_refused myX10_refused (by decide) ⟨by decide, by decide⟩ rfl (hK 0 10 (by decide) kd_0) (Nat.le_of_ble_eq_true rfl) (by decide) (by decide) (Con.of (by decide +kernel) rfl (Nat.le_of_ble_eq_true rfl) rfl (fun X102 hX102 zX102 => ?_))
      refine tr_aload_n dX10_refused_0 rfl ?_
      refine tr_iload_n dX10_refused_1 rfl ?_
      refine tr_putI dX10_refused_2 fl10_112 (hK 0 10 (by decide) kd_0) (Or.inl rfl) ?_
      refine tr_iconst (v := (-1)) dX10_refused_5 (by decide +kernel) ?_
      refine tr_iret zX102 dX10_refused_6 rfl (by decide) (by decide) ⟨_, rfl, ?_⟩
      exact tr_iret zX97 dX10_up_13 rfl (by decide) (by decide) ⟨rfl, rfl, rfl, rfl, fun k hk => ⟨by first | rfl | (repeat rw [cz_uIn (by omega)]), by first | rfl | (repeat rw [cz_uRn (by omega)])⟩⟩
    · skip
      exfalso
      have e0 : ((0 : Int32)).toInt = 0 := by decide +kernel
      simp only [Int32.lt_iff_toInt_lt, Int32.le_iff_toInt_le, ← Int32.toInt_inj] at q101
      simp only [Int32.lt_iff_toInt_lt, Int32.le_iff_toInt_le, ← Int32.toInt_inj] at q99
      omega
set_option maxHeartbeats 4000000 in
set_option maxRecDepth 100000 in
theorem fX12_up (a b : Int32) {l : Launch} {K N : Nat → Nat} {I : cz_I} {R : cz_R} {L : cz_L} (hf : cz_f2 K N I R) : Con l mX12_up [.ref 183, .int a, .int b] 203 K N I R L (fun r _ _ _ _ _ _ => r = some (.int ((-1)))) := by
  obtain ⟨hK, hN, hR, hI, hI2⟩ := hf
  refine Con.of (by decide +kernel) rfl (Nat.le_of_ble_eq_true rfl) rfl (fun X103 hX103 zX103 => ?_)
  refine tr_aload_n dX12_up_0 rfl ?_
  refine tr_iconst (v := 0) dX12_up_1 (by decide +kernel) ?_
  refine tr_putI dX12_up_2 fl12_70 (hK 183 12 (by decide) kd_183) (Or.inl rfl) ?_
  refine tr_aload_n dX12_up_5 rfl ?_
  refine tr_iload_n dX12_up_6 rfl ?_
  refine tr_inVi (M' := mX12_isCheese) (as := [_]) dX12_up_7 lk12_461 inX12_isCheese seX12_isCheese myX12_isCheese (by decide) ⟨by decide, by decide⟩ rfl (hK 183 12 (by decide) kd_183) (Nat.le_of_ble_eq_true rfl) (by decide) (by decide) (Con.of (by decide +kernel) rfl (Nat.le_of_ble_eq_true rfl) rfl (fun X104 hX104 zX104 => ?_))
  refine tr_aload_n dX12_isCheese_0 rfl ?_
  refine tr_getN dX12_isCheese_1 fl12_385 (hK 183 12 (by decide) kd_183) (hR 183 3 none (by decide +kernel) (by decide +kernel)) ?_
  refine tr_ifnullN 26 dX12_isCheese_4 (by decide) ?_
  refine tr_iconst (v := 0) dX12_isCheese_26 (by decide +kernel) ?_
  refine tr_zret zX104 dX12_isCheese_27 rfl (Or.inl rfl) (by decide) (by decide) ⟨_, rfl, ?_⟩
  refine tr_if_ne 19 dX12_up_10 (by decide) (fun h => absurd (by decide +kernel) h) (fun _ => ?_)
  refine tr_aload_n dX12_up_13 rfl ?_
  refine tr_iconst (v := 1) dX12_up_14 (by decide +kernel) ?_
  refine tr_inVi (M' := mX12_refused) (as := [_]) dX12_up_15 lk12_76 inX12_refused seX12_refused myX12_refused (by decide) ⟨by decide, by decide⟩ rfl (hK 183 12 (by decide) kd_183) (Nat.le_of_ble_eq_true rfl) (by decide) (by decide) (Con.of (by decide +kernel) rfl (Nat.le_of_ble_eq_true rfl) rfl (fun X105 hX105 zX105 => ?_))
  refine tr_aload_n dX12_refused_0 rfl ?_
  refine tr_iload_n dX12_refused_1 rfl ?_
  refine tr_putI dX12_refused_2 fl12_73 (hK 183 12 (by decide) kd_183) (Or.inl rfl) ?_
  refine tr_aload_n dX12_refused_5 rfl ?_
  refine tr_iconst (v := (-1)) dX12_refused_6 (by decide +kernel) ?_
  refine tr_putI dX12_refused_7 fl12_9 (hK 183 12 (by decide) kd_183) (Or.inl rfl) ?_
  refine tr_iconst (v := (-1)) dX12_refused_10 (by decide +kernel) ?_
  refine tr_iret zX105 dX12_refused_11 rfl (by decide) (by decide) ⟨_, rfl, ?_⟩
  exact tr_iret zX103 dX12_up_18 rfl (by decide) (by decide) rfl
set_option maxHeartbeats 4000000 in
set_option maxRecDepth 100000 in
theorem fX10_cheese (a b : Int32) {l : Launch} {K N : Nat → Nat} {I : cz_I} {R : cz_R} {L : cz_L} (hf : cz_f1 K N I R) : Con l mX10_cheese [.ref 0, .int a, .int b] 203 K N I R L (fun r cn' K' N' I' R' _ => r = some (.int ((-1))) ∧ cn' = 203 ∧ K' = K ∧ N' = N ∧ ∀ k : Nat, 183 ≤ k → I' k = I k ∧ R' k = R k) := by
  obtain ⟨hK, hN, hR, hI⟩ := hf
  refine Con.of (by decide +kernel) rfl (Nat.le_of_ble_eq_true rfl) rfl (fun X106 hX106 zX106 => ?_)
  refine tr_aload_n dX10_cheese_0 rfl ?_
  refine tr_iload_n dX10_cheese_1 rfl ?_
  refine tr_inVi (M' := mX10_isCheese) (as := [_]) dX10_cheese_2 lk10_195 inX10_isCheese seX10_isCheese myX10_isCheese (by decide) ⟨by decide, by decide⟩ rfl (hK 0 10 (by decide) kd_0) (Nat.le_of_ble_eq_true rfl) (by decide) (by decide) (Con.of (by decide +kernel) rfl (Nat.le_of_ble_eq_true rfl) rfl (fun X107 hX107 zX107 => ?_))
  refine tr_iload_n dX10_isCheese_0 rfl ?_
  refine tr_if_lt 19 dX10_isCheese_1 (by decide) (fun q108 => ?_) (fun q108 => ?_)
  · skip
    refine tr_iconst (v := 0) dX10_isCheese_19 (by decide +kernel) ?_
    refine tr_zret zX107 dX10_isCheese_20 rfl (Or.inl rfl) (by decide) (by decide) ⟨_, rfl, ?_⟩
    refine tr_if_ne 14 dX10_cheese_5 (by decide) (fun h => absurd (by decide +kernel) h) (fun _ => ?_)
    refine tr_aload_n dX10_cheese_8 rfl ?_
    refine tr_iconst (v := 1) dX10_cheese_9 (by decide +kernel) ?_
    refine tr_inVi (M' := mX10_refused) (as := [_]) dX10_cheese_10 lk10_79 inX10_refused seX10_refused myX10_refused (by decide) ⟨by decide, by decide⟩ rfl (hK 0 10 (by decide) kd_0) (Nat.le_of_ble_eq_true rfl) (by decide) (by decide) (Con.of (by decide +kernel) rfl (Nat.le_of_ble_eq_true rfl) rfl (fun X109 hX109 zX109 => ?_))
    refine tr_aload_n dX10_refused_0 rfl ?_
    refine tr_iload_n dX10_refused_1 rfl ?_
    refine tr_putI dX10_refused_2 fl10_112 (hK 0 10 (by decide) kd_0) (Or.inl rfl) ?_
    refine tr_iconst (v := (-1)) dX10_refused_5 (by decide +kernel) ?_
    refine tr_iret zX109 dX10_refused_6 rfl (by decide) (by decide) ⟨_, rfl, ?_⟩
    exact tr_iret zX106 dX10_cheese_13 rfl (by decide) (by decide) ⟨rfl, rfl, rfl, rfl, fun k hk => ⟨by first | rfl | (repeat rw [cz_uIn (by omega)]), by first | rfl | (repeat rw [cz_uRn (by omega)])⟩⟩
  · skip
    refine tr_iload_n dX10_isCheese_4 rfl ?_
    refine tr_aload_n dX10_isCheese_5 rfl ?_
    refine tr_getR (x := 2) dX10_isCheese_6 fl10_16 (hK 0 10 (by decide) kd_0) (hR 0 2 (some 2) (by decide +kernel) rf_0_2) ?_
    refine tr_getI dX10_isCheese_9 fl10_106 (hK 2 0 (by decide) kd_2) ?_
    refine tr_topi 0 (hI 2 5 (by decide +kernel)) ?_
    refine tr_icmp_ge 19 dX10_isCheese_12 (by decide) (fun q110 => ?_) (fun q110 => ?_)
    · skip
      refine tr_iconst (v := 0) dX10_isCheese_19 (by decide +kernel) ?_
      refine tr_zret zX107 dX10_isCheese_20 rfl (Or.inl rfl) (by decide) (by decide) ⟨_, rfl, ?_⟩
      refine tr_if_ne 14 dX10_cheese_5 (by decide) (fun h => absurd (by decide +kernel) h) (fun _ => ?_)
      refine tr_aload_n dX10_cheese_8 rfl ?_
      refine tr_iconst (v := 1) dX10_cheese_9 (by decide +kernel) ?_
      refine tr_inVi (M' := mX10_refused) (as := [_]) dX10_cheese_10 lk10_79 inX10_refused seX10_refused myX10_refused (by decide) ⟨by decide, by decide⟩ rfl (hK 0 10 (by decide) kd_0) (Nat.le_of_ble_eq_true rfl) (by decide) (by decide) (Con.of (by decide +kernel) rfl (Nat.le_of_ble_eq_true rfl) rfl (fun X111 hX111 zX111 => ?_))
      refine tr_aload_n dX10_refused_0 rfl ?_
      refine tr_iload_n dX10_refused_1 rfl ?_
      refine tr_putI dX10_refused_2 fl10_112 (hK 0 10 (by decide) kd_0) (Or.inl rfl) ?_
      refine tr_iconst (v := (-1)) dX10_refused_5 (by decide +kernel) ?_
      refine tr_iret zX111 dX10_refused_6 rfl (by decide) (by decide) ⟨_, rfl, ?_⟩
      exact tr_iret zX106 dX10_cheese_13 rfl (by decide) (by decide) ⟨rfl, rfl, rfl, rfl, fun k hk => ⟨by first | rfl | (repeat rw [cz_uIn (by omega)]), by first | rfl | (repeat rw [cz_uRn (by omega)])⟩⟩
    · skip
      exfalso
      have e0 : ((0 : Int32)).toInt = 0 := by decide +kernel
      simp only [Int32.lt_iff_toInt_lt, Int32.le_iff_toInt_le, ← Int32.toInt_inj] at q110
      simp only [Int32.lt_iff_toInt_lt, Int32.le_iff_toInt_le, ← Int32.toInt_inj] at q108
      omega
set_option maxHeartbeats 4000000 in
set_option maxRecDepth 100000 in
theorem fX12_cheese (a b : Int32) {l : Launch} {K N : Nat → Nat} {I : cz_I} {R : cz_R} {L : cz_L} (hf : cz_f2 K N I R) : Con l mX12_cheese [.ref 183, .int a, .int b] 203 K N I R L (fun r _ _ _ _ _ _ => r = some (.int ((-1)))) := by
  obtain ⟨hK, hN, hR, hI, hI2⟩ := hf
  refine Con.of (by decide +kernel) rfl (Nat.le_of_ble_eq_true rfl) rfl (fun X112 hX112 zX112 => ?_)
  refine tr_aload_n dX12_cheese_0 rfl ?_
  refine tr_iconst (v := 0) dX12_cheese_1 (by decide +kernel) ?_
  refine tr_putI dX12_cheese_2 fl12_70 (hK 183 12 (by decide) kd_183) (Or.inl rfl) ?_
  refine tr_aload_n dX12_cheese_5 rfl ?_
  refine tr_iload_n dX12_cheese_6 rfl ?_
  refine tr_inVi (M' := mX12_isCheese) (as := [_]) dX12_cheese_7 lk12_461 inX12_isCheese seX12_isCheese myX12_isCheese (by decide) ⟨by decide, by decide⟩ rfl (hK 183 12 (by decide) kd_183) (Nat.le_of_ble_eq_true rfl) (by decide) (by decide) (Con.of (by decide +kernel) rfl (Nat.le_of_ble_eq_true rfl) rfl (fun X113 hX113 zX113 => ?_))
  refine tr_aload_n dX12_isCheese_0 rfl ?_
  refine tr_getN dX12_isCheese_1 fl12_385 (hK 183 12 (by decide) kd_183) (hR 183 3 none (by decide +kernel) (by decide +kernel)) ?_
  refine tr_ifnullN 26 dX12_isCheese_4 (by decide) ?_
  refine tr_iconst (v := 0) dX12_isCheese_26 (by decide +kernel) ?_
  refine tr_zret zX113 dX12_isCheese_27 rfl (Or.inl rfl) (by decide) (by decide) ⟨_, rfl, ?_⟩
  refine tr_if_eq 23 dX12_cheese_10 (by decide) (fun _ => ?_) (fun h => absurd (by decide +kernel) h)
  refine tr_aload_n dX12_cheese_23 rfl ?_
  refine tr_iconst (v := 1) dX12_cheese_24 (by decide +kernel) ?_
  refine tr_inVi (M' := mX12_refused) (as := [_]) dX12_cheese_25 lk12_76 inX12_refused seX12_refused myX12_refused (by decide) ⟨by decide, by decide⟩ rfl (hK 183 12 (by decide) kd_183) (Nat.le_of_ble_eq_true rfl) (by decide) (by decide) (Con.of (by decide +kernel) rfl (Nat.le_of_ble_eq_true rfl) rfl (fun X114 hX114 zX114 => ?_))
  refine tr_aload_n dX12_refused_0 rfl ?_
  refine tr_iload_n dX12_refused_1 rfl ?_
  refine tr_putI dX12_refused_2 fl12_73 (hK 183 12 (by decide) kd_183) (Or.inl rfl) ?_
  refine tr_aload_n dX12_refused_5 rfl ?_
  refine tr_iconst (v := (-1)) dX12_refused_6 (by decide +kernel) ?_
  refine tr_putI dX12_refused_7 fl12_9 (hK 183 12 (by decide) kd_183) (Or.inl rfl) ?_
  refine tr_iconst (v := (-1)) dX12_refused_10 (by decide +kernel) ?_
  refine tr_iret zX114 dX12_refused_11 rfl (by decide) (by decide) ⟨_, rfl, ?_⟩
  exact tr_iret zX112 dX12_cheese_28 rfl (by decide) (by decide) rfl
set_option maxHeartbeats 4000000 in
set_option maxRecDepth 100000 in
theorem fX10_vein (a b : Int32) {l : Launch} {K N : Nat → Nat} {I : cz_I} {R : cz_R} {L : cz_L} (hf : cz_f1 K N I R) : Con l mX10_vein [.ref 0, .int a, .int b] 203 K N I R L (fun r cn' K' N' I' R' _ => r = some (.int ((-1))) ∧ cn' = 203 ∧ K' = K ∧ N' = N ∧ ∀ k : Nat, 183 ≤ k → I' k = I k ∧ R' k = R k) := by
  obtain ⟨hK, hN, hR, hI⟩ := hf
  refine Con.of (by decide +kernel) rfl (Nat.le_of_ble_eq_true rfl) rfl (fun X115 hX115 zX115 => ?_)
  refine tr_aload_n dX10_vein_0 rfl ?_
  refine tr_iload_n dX10_vein_1 rfl ?_
  refine tr_iload_n dX10_vein_2 rfl ?_
  refine tr_inVi (M' := mX10_veinMinute) (as := [_, _]) dX10_vein_3 lk10_222 inX10_veinMinute seX10_veinMinute myX10_veinMinute (by decide) ⟨by decide, by decide⟩ rfl (hK 0 10 (by decide) kd_0) (Nat.le_of_ble_eq_true rfl) (by decide) (by decide) (Con.of (by decide +kernel) rfl (Nat.le_of_ble_eq_true rfl) rfl (fun X116 hX116 zX116 => ?_))
  refine tr_aload_n dX10_veinMinute_0 rfl ?_
  refine tr_iload_n dX10_veinMinute_1 rfl ?_
  refine tr_inVi (M' := mX10_isCheese) (as := [_]) dX10_veinMinute_2 lk10_195 inX10_isCheese seX10_isCheese myX10_isCheese (by decide) ⟨by decide, by decide⟩ rfl (hK 0 10 (by decide) kd_0) (Nat.le_of_ble_eq_true rfl) (by decide) (by decide) (Con.of (by decide +kernel) rfl (Nat.le_of_ble_eq_true rfl) rfl (fun X117 hX117 zX117 => ?_))
  refine tr_iload_n dX10_isCheese_0 rfl ?_
  refine tr_if_lt 19 dX10_isCheese_1 (by decide) (fun q118 => ?_) (fun q118 => ?_)
  · skip
    refine tr_iconst (v := 0) dX10_isCheese_19 (by decide +kernel) ?_
    refine tr_zret zX117 dX10_isCheese_20 rfl (Or.inl rfl) (by decide) (by decide) ⟨_, rfl, ?_⟩
    refine tr_if_eq 20 dX10_veinMinute_5 (by decide) (fun _ => ?_) (fun h => absurd (by decide +kernel) h)
    refine tr_iconst (v := (-1)) dX10_veinMinute_20 (by decide +kernel) ?_
    refine tr_iret zX116 dX10_veinMinute_21 rfl (by decide) (by decide) ⟨_, rfl, ?_⟩
    refine tr_istore_n dX10_vein_6 (by decide) (by decide) ?_
    refine tr_iload_n dX10_vein_7 rfl ?_
    refine tr_iconst (v := (-1)) dX10_vein_8 (by decide +kernel) ?_
    refine tr_icmp_ne 20 dX10_vein_9 (by decide) (fun h => absurd (by decide +kernel) h) (fun _ => ?_)
    refine tr_aload_n dX10_vein_12 rfl ?_
    refine tr_iconst (v := 1) dX10_vein_13 (by decide +kernel) ?_
    refine tr_inVi (M' := mX10_refused) (as := [_]) dX10_vein_14 lk10_79 inX10_refused seX10_refused myX10_refused (by decide) ⟨by decide, by decide⟩ rfl (hK 0 10 (by decide) kd_0) (Nat.le_of_ble_eq_true rfl) (by decide) (by decide) (Con.of (by decide +kernel) rfl (Nat.le_of_ble_eq_true rfl) rfl (fun X119 hX119 zX119 => ?_))
    refine tr_aload_n dX10_refused_0 rfl ?_
    refine tr_iload_n dX10_refused_1 rfl ?_
    refine tr_putI dX10_refused_2 fl10_112 (hK 0 10 (by decide) kd_0) (Or.inl rfl) ?_
    refine tr_iconst (v := (-1)) dX10_refused_5 (by decide +kernel) ?_
    refine tr_iret zX119 dX10_refused_6 rfl (by decide) (by decide) ⟨_, rfl, ?_⟩
    refine tr_goto 25 dX10_vein_17 (by decide) ?_
    exact tr_iret zX115 dX10_vein_25 rfl (by decide) (by decide) ⟨rfl, rfl, rfl, rfl, fun k hk => ⟨by first | rfl | (repeat rw [cz_uIn (by omega)]), by first | rfl | (repeat rw [cz_uRn (by omega)])⟩⟩
  · skip
    refine tr_iload_n dX10_isCheese_4 rfl ?_
    refine tr_aload_n dX10_isCheese_5 rfl ?_
    refine tr_getR (x := 2) dX10_isCheese_6 fl10_16 (hK 0 10 (by decide) kd_0) (hR 0 2 (some 2) (by decide +kernel) rf_0_2) ?_
    refine tr_getI dX10_isCheese_9 fl10_106 (hK 2 0 (by decide) kd_2) ?_
    refine tr_topi 0 (hI 2 5 (by decide +kernel)) ?_
    refine tr_icmp_ge 19 dX10_isCheese_12 (by decide) (fun q120 => ?_) (fun q120 => ?_)
    · skip
      refine tr_iconst (v := 0) dX10_isCheese_19 (by decide +kernel) ?_
      refine tr_zret zX117 dX10_isCheese_20 rfl (Or.inl rfl) (by decide) (by decide) ⟨_, rfl, ?_⟩
      refine tr_if_eq 20 dX10_veinMinute_5 (by decide) (fun _ => ?_) (fun h => absurd (by decide +kernel) h)
      refine tr_iconst (v := (-1)) dX10_veinMinute_20 (by decide +kernel) ?_
      refine tr_iret zX116 dX10_veinMinute_21 rfl (by decide) (by decide) ⟨_, rfl, ?_⟩
      refine tr_istore_n dX10_vein_6 (by decide) (by decide) ?_
      refine tr_iload_n dX10_vein_7 rfl ?_
      refine tr_iconst (v := (-1)) dX10_vein_8 (by decide +kernel) ?_
      refine tr_icmp_ne 20 dX10_vein_9 (by decide) (fun h => absurd (by decide +kernel) h) (fun _ => ?_)
      refine tr_aload_n dX10_vein_12 rfl ?_
      refine tr_iconst (v := 1) dX10_vein_13 (by decide +kernel) ?_
      refine tr_inVi (M' := mX10_refused) (as := [_]) dX10_vein_14 lk10_79 inX10_refused seX10_refused myX10_refused (by decide) ⟨by decide, by decide⟩ rfl (hK 0 10 (by decide) kd_0) (Nat.le_of_ble_eq_true rfl) (by decide) (by decide) (Con.of (by decide +kernel) rfl (Nat.le_of_ble_eq_true rfl) rfl (fun X121 hX121 zX121 => ?_))
      refine tr_aload_n dX10_refused_0 rfl ?_
      refine tr_iload_n dX10_refused_1 rfl ?_
      refine tr_putI dX10_refused_2 fl10_112 (hK 0 10 (by decide) kd_0) (Or.inl rfl) ?_
      refine tr_iconst (v := (-1)) dX10_refused_5 (by decide +kernel) ?_
      refine tr_iret zX121 dX10_refused_6 rfl (by decide) (by decide) ⟨_, rfl, ?_⟩
      refine tr_goto 25 dX10_vein_17 (by decide) ?_
      exact tr_iret zX115 dX10_vein_25 rfl (by decide) (by decide) ⟨rfl, rfl, rfl, rfl, fun k hk => ⟨by first | rfl | (repeat rw [cz_uIn (by omega)]), by first | rfl | (repeat rw [cz_uRn (by omega)])⟩⟩
    · skip
      exfalso
      have e0 : ((0 : Int32)).toInt = 0 := by decide +kernel
      simp only [Int32.lt_iff_toInt_lt, Int32.le_iff_toInt_le, ← Int32.toInt_inj] at q120
      simp only [Int32.lt_iff_toInt_lt, Int32.le_iff_toInt_le, ← Int32.toInt_inj] at q118
      omega
set_option maxHeartbeats 4000000 in
set_option maxRecDepth 100000 in
theorem fX12_vein (a b : Int32) {l : Launch} {K N : Nat → Nat} {I : cz_I} {R : cz_R} {L : cz_L} (hf : cz_f2 K N I R) : Con l mX12_vein [.ref 183, .int a, .int b] 203 K N I R L (fun r _ _ _ _ _ _ => r = some (.int ((-1)))) := by
  obtain ⟨hK, hN, hR, hI, hI2⟩ := hf
  refine Con.of (by decide +kernel) rfl (Nat.le_of_ble_eq_true rfl) rfl (fun X122 hX122 zX122 => ?_)
  refine tr_aload_n dX12_vein_0 rfl ?_
  refine tr_iconst (v := 0) dX12_vein_1 (by decide +kernel) ?_
  refine tr_putI dX12_vein_2 fl12_70 (hK 183 12 (by decide) kd_183) (Or.inl rfl) ?_
  refine tr_aload_n dX12_vein_5 rfl ?_
  refine tr_iload_n dX12_vein_6 rfl ?_
  refine tr_inVi (M' := mX12_isCheese) (as := [_]) dX12_vein_7 lk12_461 inX12_isCheese seX12_isCheese myX12_isCheese (by decide) ⟨by decide, by decide⟩ rfl (hK 183 12 (by decide) kd_183) (Nat.le_of_ble_eq_true rfl) (by decide) (by decide) (Con.of (by decide +kernel) rfl (Nat.le_of_ble_eq_true rfl) rfl (fun X123 hX123 zX123 => ?_))
  refine tr_aload_n dX12_isCheese_0 rfl ?_
  refine tr_getN dX12_isCheese_1 fl12_385 (hK 183 12 (by decide) kd_183) (hR 183 3 none (by decide +kernel) (by decide +kernel)) ?_
  refine tr_ifnullN 26 dX12_isCheese_4 (by decide) ?_
  refine tr_iconst (v := 0) dX12_isCheese_26 (by decide +kernel) ?_
  refine tr_zret zX123 dX12_isCheese_27 rfl (Or.inl rfl) (by decide) (by decide) ⟨_, rfl, ?_⟩
  refine tr_if_ne 19 dX12_vein_10 (by decide) (fun h => absurd (by decide +kernel) h) (fun _ => ?_)
  refine tr_aload_n dX12_vein_13 rfl ?_
  refine tr_iconst (v := 1) dX12_vein_14 (by decide +kernel) ?_
  refine tr_inVi (M' := mX12_refused) (as := [_]) dX12_vein_15 lk12_76 inX12_refused seX12_refused myX12_refused (by decide) ⟨by decide, by decide⟩ rfl (hK 183 12 (by decide) kd_183) (Nat.le_of_ble_eq_true rfl) (by decide) (by decide) (Con.of (by decide +kernel) rfl (Nat.le_of_ble_eq_true rfl) rfl (fun X124 hX124 zX124 => ?_))
  refine tr_aload_n dX12_refused_0 rfl ?_
  refine tr_iload_n dX12_refused_1 rfl ?_
  refine tr_putI dX12_refused_2 fl12_73 (hK 183 12 (by decide) kd_183) (Or.inl rfl) ?_
  refine tr_aload_n dX12_refused_5 rfl ?_
  refine tr_iconst (v := (-1)) dX12_refused_6 (by decide +kernel) ?_
  refine tr_putI dX12_refused_7 fl12_9 (hK 183 12 (by decide) kd_183) (Or.inl rfl) ?_
  refine tr_iconst (v := (-1)) dX12_refused_10 (by decide +kernel) ?_
  refine tr_iret zX124 dX12_refused_11 rfl (by decide) (by decide) ⟨_, rfl, ?_⟩
  exact tr_iret zX122 dX12_vein_18 rfl (by decide) (by decide) rfl
set_option maxHeartbeats 4000000 in
set_option maxRecDepth 100000 in
theorem fX10_cause (a b : Int32) {l : Launch} {K N : Nat → Nat} {I : cz_I} {R : cz_R} {L : cz_L} (hf : cz_f1 K N I R) : Con l mX10_cause [.ref 0, .int a, .int b] 203 K N I R L (fun r cn' K' N' I' R' _ => r = some (.int ((-1))) ∧ cn' = 203 ∧ K' = K ∧ N' = N ∧ ∀ k : Nat, 183 ≤ k → I' k = I k ∧ R' k = R k) := by
  obtain ⟨hK, hN, hR, hI⟩ := hf
  refine Con.of (by decide +kernel) rfl (Nat.le_of_ble_eq_true rfl) rfl (fun X125 hX125 zX125 => ?_)
  refine tr_aload_n dX10_cause_0 rfl ?_
  refine tr_iload_n dX10_cause_1 rfl ?_
  refine tr_iload_n dX10_cause_2 rfl ?_
  refine tr_inVi (M' := mX10_veinMinute) (as := [_, _]) dX10_cause_3 lk10_222 inX10_veinMinute seX10_veinMinute myX10_veinMinute (by decide) ⟨by decide, by decide⟩ rfl (hK 0 10 (by decide) kd_0) (Nat.le_of_ble_eq_true rfl) (by decide) (by decide) (Con.of (by decide +kernel) rfl (Nat.le_of_ble_eq_true rfl) rfl (fun X126 hX126 zX126 => ?_))
  refine tr_aload_n dX10_veinMinute_0 rfl ?_
  refine tr_iload_n dX10_veinMinute_1 rfl ?_
  refine tr_inVi (M' := mX10_isCheese) (as := [_]) dX10_veinMinute_2 lk10_195 inX10_isCheese seX10_isCheese myX10_isCheese (by decide) ⟨by decide, by decide⟩ rfl (hK 0 10 (by decide) kd_0) (Nat.le_of_ble_eq_true rfl) (by decide) (by decide) (Con.of (by decide +kernel) rfl (Nat.le_of_ble_eq_true rfl) rfl (fun X127 hX127 zX127 => ?_))
  refine tr_iload_n dX10_isCheese_0 rfl ?_
  refine tr_if_lt 19 dX10_isCheese_1 (by decide) (fun q128 => ?_) (fun q128 => ?_)
  · skip
    refine tr_iconst (v := 0) dX10_isCheese_19 (by decide +kernel) ?_
    refine tr_zret zX127 dX10_isCheese_20 rfl (Or.inl rfl) (by decide) (by decide) ⟨_, rfl, ?_⟩
    refine tr_if_eq 20 dX10_veinMinute_5 (by decide) (fun _ => ?_) (fun h => absurd (by decide +kernel) h)
    refine tr_iconst (v := (-1)) dX10_veinMinute_20 (by decide +kernel) ?_
    refine tr_iret zX126 dX10_veinMinute_21 rfl (by decide) (by decide) ⟨_, rfl, ?_⟩
    refine tr_istore_n dX10_cause_6 (by decide) (by decide) ?_
    refine tr_iload_n dX10_cause_7 rfl ?_
    refine tr_iconst (v := (-1)) dX10_cause_8 (by decide +kernel) ?_
    refine tr_icmp_ne 18 dX10_cause_9 (by decide) (fun h => absurd (by decide +kernel) h) (fun _ => ?_)
    refine tr_aload_n dX10_cause_12 rfl ?_
    refine tr_iconst (v := 1) dX10_cause_13 (by decide +kernel) ?_
    refine tr_inVi (M' := mX10_refused) (as := [_]) dX10_cause_14 lk10_79 inX10_refused seX10_refused myX10_refused (by decide) ⟨by decide, by decide⟩ rfl (hK 0 10 (by decide) kd_0) (Nat.le_of_ble_eq_true rfl) (by decide) (by decide) (Con.of (by decide +kernel) rfl (Nat.le_of_ble_eq_true rfl) rfl (fun X129 hX129 zX129 => ?_))
    refine tr_aload_n dX10_refused_0 rfl ?_
    refine tr_iload_n dX10_refused_1 rfl ?_
    refine tr_putI dX10_refused_2 fl10_112 (hK 0 10 (by decide) kd_0) (Or.inl rfl) ?_
    refine tr_iconst (v := (-1)) dX10_refused_5 (by decide +kernel) ?_
    refine tr_iret zX129 dX10_refused_6 rfl (by decide) (by decide) ⟨_, rfl, ?_⟩
    exact tr_iret zX125 dX10_cause_17 rfl (by decide) (by decide) ⟨rfl, rfl, rfl, rfl, fun k hk => ⟨by first | rfl | (repeat rw [cz_uIn (by omega)]), by first | rfl | (repeat rw [cz_uRn (by omega)])⟩⟩
  · skip
    refine tr_iload_n dX10_isCheese_4 rfl ?_
    refine tr_aload_n dX10_isCheese_5 rfl ?_
    refine tr_getR (x := 2) dX10_isCheese_6 fl10_16 (hK 0 10 (by decide) kd_0) (hR 0 2 (some 2) (by decide +kernel) rf_0_2) ?_
    refine tr_getI dX10_isCheese_9 fl10_106 (hK 2 0 (by decide) kd_2) ?_
    refine tr_topi 0 (hI 2 5 (by decide +kernel)) ?_
    refine tr_icmp_ge 19 dX10_isCheese_12 (by decide) (fun q130 => ?_) (fun q130 => ?_)
    · skip
      refine tr_iconst (v := 0) dX10_isCheese_19 (by decide +kernel) ?_
      refine tr_zret zX127 dX10_isCheese_20 rfl (Or.inl rfl) (by decide) (by decide) ⟨_, rfl, ?_⟩
      refine tr_if_eq 20 dX10_veinMinute_5 (by decide) (fun _ => ?_) (fun h => absurd (by decide +kernel) h)
      refine tr_iconst (v := (-1)) dX10_veinMinute_20 (by decide +kernel) ?_
      refine tr_iret zX126 dX10_veinMinute_21 rfl (by decide) (by decide) ⟨_, rfl, ?_⟩
      refine tr_istore_n dX10_cause_6 (by decide) (by decide) ?_
      refine tr_iload_n dX10_cause_7 rfl ?_
      refine tr_iconst (v := (-1)) dX10_cause_8 (by decide +kernel) ?_
      refine tr_icmp_ne 18 dX10_cause_9 (by decide) (fun h => absurd (by decide +kernel) h) (fun _ => ?_)
      refine tr_aload_n dX10_cause_12 rfl ?_
      refine tr_iconst (v := 1) dX10_cause_13 (by decide +kernel) ?_
      refine tr_inVi (M' := mX10_refused) (as := [_]) dX10_cause_14 lk10_79 inX10_refused seX10_refused myX10_refused (by decide) ⟨by decide, by decide⟩ rfl (hK 0 10 (by decide) kd_0) (Nat.le_of_ble_eq_true rfl) (by decide) (by decide) (Con.of (by decide +kernel) rfl (Nat.le_of_ble_eq_true rfl) rfl (fun X131 hX131 zX131 => ?_))
      refine tr_aload_n dX10_refused_0 rfl ?_
      refine tr_iload_n dX10_refused_1 rfl ?_
      refine tr_putI dX10_refused_2 fl10_112 (hK 0 10 (by decide) kd_0) (Or.inl rfl) ?_
      refine tr_iconst (v := (-1)) dX10_refused_5 (by decide +kernel) ?_
      refine tr_iret zX131 dX10_refused_6 rfl (by decide) (by decide) ⟨_, rfl, ?_⟩
      exact tr_iret zX125 dX10_cause_17 rfl (by decide) (by decide) ⟨rfl, rfl, rfl, rfl, fun k hk => ⟨by first | rfl | (repeat rw [cz_uIn (by omega)]), by first | rfl | (repeat rw [cz_uRn (by omega)])⟩⟩
    · skip
      exfalso
      have e0 : ((0 : Int32)).toInt = 0 := by decide +kernel
      simp only [Int32.lt_iff_toInt_lt, Int32.le_iff_toInt_le, ← Int32.toInt_inj] at q130
      simp only [Int32.lt_iff_toInt_lt, Int32.le_iff_toInt_le, ← Int32.toInt_inj] at q128
      omega
set_option maxHeartbeats 4000000 in
set_option maxRecDepth 100000 in
theorem fX12_cause (a b : Int32) {l : Launch} {K N : Nat → Nat} {I : cz_I} {R : cz_R} {L : cz_L} (hf : cz_f2 K N I R) : Con l mX12_cause [.ref 183, .int a, .int b] 203 K N I R L (fun r _ _ _ _ _ _ => r = some (.int ((-1)))) := by
  obtain ⟨hK, hN, hR, hI, hI2⟩ := hf
  refine Con.of (by decide +kernel) rfl (Nat.le_of_ble_eq_true rfl) rfl (fun X132 hX132 zX132 => ?_)
  refine tr_aload_n dX12_cause_0 rfl ?_
  refine tr_iconst (v := 0) dX12_cause_1 (by decide +kernel) ?_
  refine tr_putI dX12_cause_2 fl12_70 (hK 183 12 (by decide) kd_183) (Or.inl rfl) ?_
  refine tr_aload_n dX12_cause_5 rfl ?_
  refine tr_iload_n dX12_cause_6 rfl ?_
  refine tr_inVi (M' := mX12_isCheese) (as := [_]) dX12_cause_7 lk12_461 inX12_isCheese seX12_isCheese myX12_isCheese (by decide) ⟨by decide, by decide⟩ rfl (hK 183 12 (by decide) kd_183) (Nat.le_of_ble_eq_true rfl) (by decide) (by decide) (Con.of (by decide +kernel) rfl (Nat.le_of_ble_eq_true rfl) rfl (fun X133 hX133 zX133 => ?_))
  refine tr_aload_n dX12_isCheese_0 rfl ?_
  refine tr_getN dX12_isCheese_1 fl12_385 (hK 183 12 (by decide) kd_183) (hR 183 3 none (by decide +kernel) (by decide +kernel)) ?_
  refine tr_ifnullN 26 dX12_isCheese_4 (by decide) ?_
  refine tr_iconst (v := 0) dX12_isCheese_26 (by decide +kernel) ?_
  refine tr_zret zX133 dX12_isCheese_27 rfl (Or.inl rfl) (by decide) (by decide) ⟨_, rfl, ?_⟩
  refine tr_if_ne 19 dX12_cause_10 (by decide) (fun h => absurd (by decide +kernel) h) (fun _ => ?_)
  refine tr_aload_n dX12_cause_13 rfl ?_
  refine tr_iconst (v := 1) dX12_cause_14 (by decide +kernel) ?_
  refine tr_inVi (M' := mX12_refused) (as := [_]) dX12_cause_15 lk12_76 inX12_refused seX12_refused myX12_refused (by decide) ⟨by decide, by decide⟩ rfl (hK 183 12 (by decide) kd_183) (Nat.le_of_ble_eq_true rfl) (by decide) (by decide) (Con.of (by decide +kernel) rfl (Nat.le_of_ble_eq_true rfl) rfl (fun X134 hX134 zX134 => ?_))
  refine tr_aload_n dX12_refused_0 rfl ?_
  refine tr_iload_n dX12_refused_1 rfl ?_
  refine tr_putI dX12_refused_2 fl12_73 (hK 183 12 (by decide) kd_183) (Or.inl rfl) ?_
  refine tr_aload_n dX12_refused_5 rfl ?_
  refine tr_iconst (v := (-1)) dX12_refused_6 (by decide +kernel) ?_
  refine tr_putI dX12_refused_7 fl12_9 (hK 183 12 (by decide) kd_183) (Or.inl rfl) ?_
  refine tr_iconst (v := (-1)) dX12_refused_10 (by decide +kernel) ?_
  refine tr_iret zX134 dX12_refused_11 rfl (by decide) (by decide) ⟨_, rfl, ?_⟩
  exact tr_iret zX132 dX12_cause_18 rfl (by decide) (by decide) rfl
set_option maxHeartbeats 4000000 in
set_option maxRecDepth 100000 in
theorem fX10_total {l : Launch} {K N : Nat → Nat} {I : cz_I} {R : cz_R} {L : cz_L} (hf : cz_f1 K N I R) : Con l mX10_total [.ref 0] 203 K N I R L (fun r cn' K' N' I' R' _ => r = some (.int ((-100000))) ∧ cn' = 203 ∧ K' = K ∧ N' = N ∧ ∀ k : Nat, 183 ≤ k → I' k = I k ∧ R' k = R k) := by
  obtain ⟨hK, hN, hR, hI⟩ := hf
  refine Con.of (by decide +kernel) rfl (Nat.le_of_ble_eq_true rfl) rfl (fun X135 hX135 zX135 => ?_)
  refine tr_aload_n dX10_total_0 rfl ?_
  refine tr_getZ dX10_total_1 fl10_95 (hK 0 10 (by decide) kd_0) ?_
  refine tr_topi 0 (hI 0 5 (by decide +kernel)) ?_
  refine tr_if_eq 21 dX10_total_4 (by decide) (fun _ => ?_) (fun h => absurd (by decide +kernel) h)
  refine tr_aload_n dX10_total_21 rfl ?_
  refine tr_iconst (v := 1) dX10_total_22 (by decide +kernel) ?_
  refine tr_inVi (M' := mX10_refusedTotal) (as := [_]) dX10_total_23 lk10_178 inX10_refusedTotal seX10_refusedTotal myX10_refusedTotal (by decide) ⟨by decide, by decide⟩ rfl (hK 0 10 (by decide) kd_0) (Nat.le_of_ble_eq_true rfl) (by decide) (by decide) (Con.of (by decide +kernel) rfl (Nat.le_of_ble_eq_true rfl) rfl (fun X136 hX136 zX136 => ?_))
  refine tr_aload_n dX10_refusedTotal_0 rfl ?_
  refine tr_iload_n dX10_refusedTotal_1 rfl ?_
  refine tr_putI dX10_refusedTotal_2 fl10_112 (hK 0 10 (by decide) kd_0) (Or.inl rfl) ?_
  refine tr_ldcw dX10_refusedTotal_5 ld10_356 ?_
  refine tr_iret zX136 dX10_refusedTotal_8 rfl (by decide) (by decide) ⟨_, rfl, ?_⟩
  exact tr_iret zX135 dX10_total_26 rfl (by decide) (by decide) ⟨rfl, rfl, rfl, rfl, fun k hk => ⟨by first | rfl | (repeat rw [cz_uIn (by omega)]), by first | rfl | (repeat rw [cz_uRn (by omega)])⟩⟩
set_option maxHeartbeats 4000000 in
set_option maxRecDepth 100000 in
theorem fX12_total {l : Launch} {K N : Nat → Nat} {I : cz_I} {R : cz_R} {L : cz_L} (hf : cz_f2 K N I R) : Con l mX12_total [.ref 183] 203 K N I R L (fun r _ _ _ _ _ _ => r = some (.int ((-100000)))) := by
  obtain ⟨hK, hN, hR, hI, hI2⟩ := hf
  refine Con.of (by decide +kernel) rfl (Nat.le_of_ble_eq_true rfl) rfl (fun X137 hX137 zX137 => ?_)
  refine tr_aload_n dX12_total_0 rfl ?_
  refine tr_iconst (v := 0) dX12_total_1 (by decide +kernel) ?_
  refine tr_putI dX12_total_2 fl12_70 (hK 183 12 (by decide) kd_183) (Or.inl rfl) ?_
  refine tr_aload_n dX12_total_5 rfl ?_
  refine tr_getN dX12_total_6 fl12_385 (hK 183 12 (by decide) kd_183) (hR 183 3 none (by decide +kernel) (by decide +kernel)) ?_
  refine tr_ifnonnullN dX12_total_9 ?_
  refine tr_aload_n dX12_total_12 rfl ?_
  refine tr_iconst (v := 1) dX12_total_13 (by decide +kernel) ?_
  refine tr_inVi (M' := mX12_lost) (as := [_]) dX12_total_14 lk12_458 inX12_lost seX12_lost myX12_lost (by decide) ⟨by decide, by decide⟩ rfl (hK 183 12 (by decide) kd_183) (Nat.le_of_ble_eq_true rfl) (by decide) (by decide) (Con.of (by decide +kernel) rfl (Nat.le_of_ble_eq_true rfl) rfl (fun X138 hX138 zX138 => ?_))
  refine tr_aload_n dX12_lost_0 rfl ?_
  refine tr_iload_n dX12_lost_1 rfl ?_
  refine tr_inVi (M' := mX12_refused) (as := [_]) dX12_lost_2 lk12_76 inX12_refused seX12_refused myX12_refused (by decide) ⟨by decide, by decide⟩ rfl (hK 183 12 (by decide) kd_183) (Nat.le_of_ble_eq_true rfl) (by decide) (by decide) (Con.of (by decide +kernel) rfl (Nat.le_of_ble_eq_true rfl) rfl (fun X139 hX139 zX139 => ?_))
  refine tr_aload_n dX12_refused_0 rfl ?_
  refine tr_iload_n dX12_refused_1 rfl ?_
  refine tr_putI dX12_refused_2 fl12_73 (hK 183 12 (by decide) kd_183) (Or.inl rfl) ?_
  refine tr_aload_n dX12_refused_5 rfl ?_
  refine tr_iconst (v := (-1)) dX12_refused_6 (by decide +kernel) ?_
  refine tr_putI dX12_refused_7 fl12_9 (hK 183 12 (by decide) kd_183) (Or.inl rfl) ?_
  refine tr_iconst (v := (-1)) dX12_refused_10 (by decide +kernel) ?_
  refine tr_iret zX139 dX12_refused_11 rfl (by decide) (by decide) ⟨_, rfl, ?_⟩
  refine tr_pop dX12_lost_5 rfl ?_
  refine tr_ldc dX12_lost_6 ld12_80 ?_
  refine tr_iret zX138 dX12_lost_8 rfl (by decide) (by decide) ⟨_, rfl, ?_⟩
  refine tr_goto 28 dX12_total_17 (by decide) ?_
  exact tr_iret zX137 dX12_total_28 rfl (by decide) (by decide) rfl
set_option maxHeartbeats 4000000 in
set_option maxRecDepth 100000 in
theorem fX10_without (a : Int32) {l : Launch} {K N : Nat → Nat} {I : cz_I} {R : cz_R} {L : cz_L} (hf : cz_f1 K N I R) : Con l mX10_without [.ref 0, .int a] 203 K N I R L (fun r cn' K' N' I' R' _ => r = some (.int ((-100000))) ∧ cn' = 203 ∧ K' = K ∧ N' = N ∧ ∀ k : Nat, 183 ≤ k → I' k = I k ∧ R' k = R k) := by
  obtain ⟨hK, hN, hR, hI⟩ := hf
  refine Con.of (by decide +kernel) rfl (Nat.le_of_ble_eq_true rfl) rfl (fun X140 hX140 zX140 => ?_)
  refine tr_aload_n dX10_without_0 rfl ?_
  refine tr_iload_n dX10_without_1 rfl ?_
  refine tr_inVi (M' := mX10_isEvent) (as := [_]) dX10_without_2 lk10_234 inX10_isEvent seX10_isEvent myX10_isEvent (by decide) ⟨by decide, by decide⟩ rfl (hK 0 10 (by decide) kd_0) (Nat.le_of_ble_eq_true rfl) (by decide) (by decide) (Con.of (by decide +kernel) rfl (Nat.le_of_ble_eq_true rfl) rfl (fun X141 hX141 zX141 => ?_))
  refine tr_iload_n dX10_isEvent_0 rfl ?_
  refine tr_if_lt 16 dX10_isEvent_1 (by decide) (fun q142 => ?_) (fun q142 => ?_)
  · skip
    refine tr_iconst (v := 0) dX10_isEvent_16 (by decide +kernel) ?_
    refine tr_zret zX141 dX10_isEvent_17 rfl (Or.inl rfl) (by decide) (by decide) ⟨_, rfl, ?_⟩
    refine tr_if_ne 14 dX10_without_5 (by decide) (fun h => absurd (by decide +kernel) h) (fun _ => ?_)
    refine tr_aload_n dX10_without_8 rfl ?_
    refine tr_iconst (v := 1) dX10_without_9 (by decide +kernel) ?_
    refine tr_inVi (M' := mX10_refusedTotal) (as := [_]) dX10_without_10 lk10_178 inX10_refusedTotal seX10_refusedTotal myX10_refusedTotal (by decide) ⟨by decide, by decide⟩ rfl (hK 0 10 (by decide) kd_0) (Nat.le_of_ble_eq_true rfl) (by decide) (by decide) (Con.of (by decide +kernel) rfl (Nat.le_of_ble_eq_true rfl) rfl (fun X143 hX143 zX143 => ?_))
    refine tr_aload_n dX10_refusedTotal_0 rfl ?_
    refine tr_iload_n dX10_refusedTotal_1 rfl ?_
    refine tr_putI dX10_refusedTotal_2 fl10_112 (hK 0 10 (by decide) kd_0) (Or.inl rfl) ?_
    refine tr_ldcw dX10_refusedTotal_5 ld10_356 ?_
    refine tr_iret zX143 dX10_refusedTotal_8 rfl (by decide) (by decide) ⟨_, rfl, ?_⟩
    exact tr_iret zX140 dX10_without_13 rfl (by decide) (by decide) ⟨rfl, rfl, rfl, rfl, fun k hk => ⟨by first | rfl | (repeat rw [cz_uIn (by omega)]), by first | rfl | (repeat rw [cz_uRn (by omega)])⟩⟩
  · skip
    refine tr_iload_n dX10_isEvent_4 rfl ?_
    refine tr_aload_n dX10_isEvent_5 rfl ?_
    refine tr_inVi (M' := mX10_eventCount) (as := []) dX10_isEvent_6 lk10_225 inX10_eventCount seX10_eventCount myX10_eventCount (by decide) ⟨by decide, by decide⟩ rfl (hK 0 10 (by decide) kd_0) (Nat.le_of_ble_eq_true rfl) (by decide) (by decide) (Con.of (by decide +kernel) rfl (Nat.le_of_ble_eq_true rfl) rfl (fun X144 hX144 zX144 => ?_))
    refine tr_aload_n dX10_eventCount_0 rfl ?_
    refine tr_getR (x := 2) dX10_eventCount_1 fl10_16 (hK 0 10 (by decide) kd_0) (hR 0 2 (some 2) (by decide +kernel) rf_0_2) ?_
    refine tr_getI dX10_eventCount_4 fl10_311 (hK 2 0 (by decide) kd_2) ?_
    refine tr_topi 0 (hI 2 3 (by decide +kernel)) ?_
    refine tr_aload_n dX10_eventCount_7 rfl ?_
    refine tr_getR (x := 89) dX10_eventCount_8 fl10_35 (hK 0 10 (by decide) kd_0) (hR 0 6 (some 89) (by decide +kernel) rf_0_6) ?_
    refine tr_getI dX10_eventCount_11 fl10_272 (hK 89 3 (by decide) kd_89) ?_
    refine tr_topi 0 (hI 89 2 (by decide +kernel)) ?_
    refine tr_iadd dX10_eventCount_14 ?_
    refine tr_topi 0 (by decide +kernel) ?_
    refine tr_iret zX144 dX10_eventCount_15 rfl (by decide) (by decide) ⟨_, rfl, ?_⟩
    refine tr_icmp_ge 16 dX10_isEvent_9 (by decide) (fun q145 => ?_) (fun q145 => ?_)
    · skip
      refine tr_iconst (v := 0) dX10_isEvent_16 (by decide +kernel) ?_
      refine tr_zret zX141 dX10_isEvent_17 rfl (Or.inl rfl) (by decide) (by decide) ⟨_, rfl, ?_⟩
      refine tr_if_ne 14 dX10_without_5 (by decide) (fun h => absurd (by decide +kernel) h) (fun _ => ?_)
      refine tr_aload_n dX10_without_8 rfl ?_
      refine tr_iconst (v := 1) dX10_without_9 (by decide +kernel) ?_
      refine tr_inVi (M' := mX10_refusedTotal) (as := [_]) dX10_without_10 lk10_178 inX10_refusedTotal seX10_refusedTotal myX10_refusedTotal (by decide) ⟨by decide, by decide⟩ rfl (hK 0 10 (by decide) kd_0) (Nat.le_of_ble_eq_true rfl) (by decide) (by decide) (Con.of (by decide +kernel) rfl (Nat.le_of_ble_eq_true rfl) rfl (fun X146 hX146 zX146 => ?_))
      refine tr_aload_n dX10_refusedTotal_0 rfl ?_
      refine tr_iload_n dX10_refusedTotal_1 rfl ?_
      refine tr_putI dX10_refusedTotal_2 fl10_112 (hK 0 10 (by decide) kd_0) (Or.inl rfl) ?_
      refine tr_ldcw dX10_refusedTotal_5 ld10_356 ?_
      refine tr_iret zX146 dX10_refusedTotal_8 rfl (by decide) (by decide) ⟨_, rfl, ?_⟩
      exact tr_iret zX140 dX10_without_13 rfl (by decide) (by decide) ⟨rfl, rfl, rfl, rfl, fun k hk => ⟨by first | rfl | (repeat rw [cz_uIn (by omega)]), by first | rfl | (repeat rw [cz_uRn (by omega)])⟩⟩
    · skip
      exfalso
      have e0 : ((0 : Int32)).toInt = 0 := by decide +kernel
      simp only [Int32.lt_iff_toInt_lt, Int32.le_iff_toInt_le, ← Int32.toInt_inj] at q145
      simp only [Int32.lt_iff_toInt_lt, Int32.le_iff_toInt_le, ← Int32.toInt_inj] at q142
      omega
set_option maxHeartbeats 4000000 in
set_option maxRecDepth 100000 in
theorem fX12_without (a : Int32) {l : Launch} {K N : Nat → Nat} {I : cz_I} {R : cz_R} {L : cz_L} (hf : cz_f2 K N I R) : Con l mX12_without [.ref 183, .int a] 203 K N I R L (fun r _ _ _ _ _ _ => r = some (.int ((-100000)))) := by
  obtain ⟨hK, hN, hR, hI, hI2⟩ := hf
  refine Con.of (by decide +kernel) rfl (Nat.le_of_ble_eq_true rfl) rfl (fun X147 hX147 zX147 => ?_)
  refine tr_aload_n dX12_without_0 rfl ?_
  refine tr_iconst (v := 0) dX12_without_1 (by decide +kernel) ?_
  refine tr_putI dX12_without_2 fl12_70 (hK 183 12 (by decide) kd_183) (Or.inl rfl) ?_
  refine tr_aload_n dX12_without_5 rfl ?_
  refine tr_iload_n dX12_without_6 rfl ?_
  refine tr_inVi (M' := mX12_isEvent) (as := [_]) dX12_without_7 lk12_467 inX12_isEvent seX12_isEvent myX12_isEvent (by decide) ⟨by decide, by decide⟩ rfl (hK 183 12 (by decide) kd_183) (Nat.le_of_ble_eq_true rfl) (by decide) (by decide) (Con.of (by decide +kernel) rfl (Nat.le_of_ble_eq_true rfl) rfl (fun X148 hX148 zX148 => ?_))
  refine tr_aload_n dX12_isEvent_0 rfl ?_
  refine tr_getN dX12_isEvent_1 fl12_385 (hK 183 12 (by decide) kd_183) (hR 183 3 none (by decide +kernel) (by decide +kernel)) ?_
  refine tr_ifnullN 23 dX12_isEvent_4 (by decide) ?_
  refine tr_iconst (v := 0) dX12_isEvent_23 (by decide +kernel) ?_
  refine tr_zret zX148 dX12_isEvent_24 rfl (Or.inl rfl) (by decide) (by decide) ⟨_, rfl, ?_⟩
  refine tr_if_ne 19 dX12_without_10 (by decide) (fun h => absurd (by decide +kernel) h) (fun _ => ?_)
  refine tr_aload_n dX12_without_13 rfl ?_
  refine tr_iconst (v := 1) dX12_without_14 (by decide +kernel) ?_
  refine tr_inVi (M' := mX12_lost) (as := [_]) dX12_without_15 lk12_458 inX12_lost seX12_lost myX12_lost (by decide) ⟨by decide, by decide⟩ rfl (hK 183 12 (by decide) kd_183) (Nat.le_of_ble_eq_true rfl) (by decide) (by decide) (Con.of (by decide +kernel) rfl (Nat.le_of_ble_eq_true rfl) rfl (fun X149 hX149 zX149 => ?_))
  refine tr_aload_n dX12_lost_0 rfl ?_
  refine tr_iload_n dX12_lost_1 rfl ?_
  refine tr_inVi (M' := mX12_refused) (as := [_]) dX12_lost_2 lk12_76 inX12_refused seX12_refused myX12_refused (by decide) ⟨by decide, by decide⟩ rfl (hK 183 12 (by decide) kd_183) (Nat.le_of_ble_eq_true rfl) (by decide) (by decide) (Con.of (by decide +kernel) rfl (Nat.le_of_ble_eq_true rfl) rfl (fun X150 hX150 zX150 => ?_))
  refine tr_aload_n dX12_refused_0 rfl ?_
  refine tr_iload_n dX12_refused_1 rfl ?_
  refine tr_putI dX12_refused_2 fl12_73 (hK 183 12 (by decide) kd_183) (Or.inl rfl) ?_
  refine tr_aload_n dX12_refused_5 rfl ?_
  refine tr_iconst (v := (-1)) dX12_refused_6 (by decide +kernel) ?_
  refine tr_putI dX12_refused_7 fl12_9 (hK 183 12 (by decide) kd_183) (Or.inl rfl) ?_
  refine tr_iconst (v := (-1)) dX12_refused_10 (by decide +kernel) ?_
  refine tr_iret zX150 dX12_refused_11 rfl (by decide) (by decide) ⟨_, rfl, ?_⟩
  refine tr_pop dX12_lost_5 rfl ?_
  refine tr_ldc dX12_lost_6 ld12_80 ?_
  refine tr_iret zX149 dX12_lost_8 rfl (by decide) (by decide) ⟨_, rfl, ?_⟩
  exact tr_iret zX147 dX12_without_18 rfl (by decide) (by decide) rfl
set_option maxHeartbeats 4000000 in
set_option maxRecDepth 100000 in
theorem fX10_wake {l : Launch} {K N : Nat → Nat} {I : cz_I} {R : cz_R} {L : cz_L} (hf : cz_f1 K N I R) : Con l mX10_wake [.ref 0] 203 K N I R L (fun r cn' K' N' I' R' _ => r = some (.int ((-1))) ∧ cn' = 203 ∧ K' = K ∧ N' = N ∧ ∀ k : Nat, 183 ≤ k → I' k = I k ∧ R' k = R k) := by
  obtain ⟨hK, hN, hR, hI⟩ := hf
  refine Con.of (by decide +kernel) rfl (Nat.le_of_ble_eq_true rfl) rfl (fun X151 hX151 zX151 => ?_)
  refine tr_aload_n dX10_wake_0 rfl ?_
  refine tr_getZ dX10_wake_1 fl10_95 (hK 0 10 (by decide) kd_0) ?_
  refine tr_topi 0 (hI 0 5 (by decide +kernel)) ?_
  refine tr_if_eq 18 dX10_wake_4 (by decide) (fun _ => ?_) (fun h => absurd (by decide +kernel) h)
  refine tr_aload_n dX10_wake_18 rfl ?_
  refine tr_iconst (v := 1) dX10_wake_19 (by decide +kernel) ?_
  refine tr_inVi (M' := mX10_refused) (as := [_]) dX10_wake_20 lk10_79 inX10_refused seX10_refused myX10_refused (by decide) ⟨by decide, by decide⟩ rfl (hK 0 10 (by decide) kd_0) (Nat.le_of_ble_eq_true rfl) (by decide) (by decide) (Con.of (by decide +kernel) rfl (Nat.le_of_ble_eq_true rfl) rfl (fun X152 hX152 zX152 => ?_))
  refine tr_aload_n dX10_refused_0 rfl ?_
  refine tr_iload_n dX10_refused_1 rfl ?_
  refine tr_putI dX10_refused_2 fl10_112 (hK 0 10 (by decide) kd_0) (Or.inl rfl) ?_
  refine tr_iconst (v := (-1)) dX10_refused_5 (by decide +kernel) ?_
  refine tr_iret zX152 dX10_refused_6 rfl (by decide) (by decide) ⟨_, rfl, ?_⟩
  exact tr_iret zX151 dX10_wake_23 rfl (by decide) (by decide) ⟨rfl, rfl, rfl, rfl, fun k hk => ⟨by first | rfl | (repeat rw [cz_uIn (by omega)]), by first | rfl | (repeat rw [cz_uRn (by omega)])⟩⟩
set_option maxHeartbeats 4000000 in
set_option maxRecDepth 100000 in
theorem fX12_wake {l : Launch} {K N : Nat → Nat} {I : cz_I} {R : cz_R} {L : cz_L} (hf : cz_f2 K N I R) : Con l mX12_wake [.ref 183] 203 K N I R L (fun r _ _ _ _ _ _ => r = some (.int ((-1)))) := by
  obtain ⟨hK, hN, hR, hI, hI2⟩ := hf
  refine Con.of (by decide +kernel) rfl (Nat.le_of_ble_eq_true rfl) rfl (fun X153 hX153 zX153 => ?_)
  refine tr_aload_n dX12_wake_0 rfl ?_
  refine tr_iconst (v := 0) dX12_wake_1 (by decide +kernel) ?_
  refine tr_putI dX12_wake_2 fl12_70 (hK 183 12 (by decide) kd_183) (Or.inl rfl) ?_
  refine tr_aload_n dX12_wake_5 rfl ?_
  refine tr_getN dX12_wake_6 fl12_385 (hK 183 12 (by decide) kd_183) (hR 183 3 none (by decide +kernel) (by decide +kernel)) ?_
  refine tr_ifnonnullN dX12_wake_9 ?_
  refine tr_aload_n dX12_wake_12 rfl ?_
  refine tr_iconst (v := 1) dX12_wake_13 (by decide +kernel) ?_
  refine tr_inVi (M' := mX12_refused) (as := [_]) dX12_wake_14 lk12_76 inX12_refused seX12_refused myX12_refused (by decide) ⟨by decide, by decide⟩ rfl (hK 183 12 (by decide) kd_183) (Nat.le_of_ble_eq_true rfl) (by decide) (by decide) (Con.of (by decide +kernel) rfl (Nat.le_of_ble_eq_true rfl) rfl (fun X154 hX154 zX154 => ?_))
  refine tr_aload_n dX12_refused_0 rfl ?_
  refine tr_iload_n dX12_refused_1 rfl ?_
  refine tr_putI dX12_refused_2 fl12_73 (hK 183 12 (by decide) kd_183) (Or.inl rfl) ?_
  refine tr_aload_n dX12_refused_5 rfl ?_
  refine tr_iconst (v := (-1)) dX12_refused_6 (by decide +kernel) ?_
  refine tr_putI dX12_refused_7 fl12_9 (hK 183 12 (by decide) kd_183) (Or.inl rfl) ?_
  refine tr_iconst (v := (-1)) dX12_refused_10 (by decide +kernel) ?_
  refine tr_iret zX154 dX12_refused_11 rfl (by decide) (by decide) ⟨_, rfl, ?_⟩
  refine tr_goto 28 dX12_wake_17 (by decide) ?_
  exact tr_iret zX153 dX12_wake_28 rfl (by decide) (by decide) rfl
set_option maxHeartbeats 4000000 in
set_option maxRecDepth 100000 in
theorem fX10_wakeTotal {l : Launch} {K N : Nat → Nat} {I : cz_I} {R : cz_R} {L : cz_L} (hf : cz_f1 K N I R) : Con l mX10_wakeTotal [.ref 0] 203 K N I R L (fun r cn' K' N' I' R' _ => r = some (.int ((-100000))) ∧ cn' = 203 ∧ K' = K ∧ N' = N ∧ ∀ k : Nat, 183 ≤ k → I' k = I k ∧ R' k = R k) := by
  obtain ⟨hK, hN, hR, hI⟩ := hf
  refine Con.of (by decide +kernel) rfl (Nat.le_of_ble_eq_true rfl) rfl (fun X155 hX155 zX155 => ?_)
  refine tr_aload_n dX10_wakeTotal_0 rfl ?_
  refine tr_getZ dX10_wakeTotal_1 fl10_95 (hK 0 10 (by decide) kd_0) ?_
  refine tr_topi 0 (hI 0 5 (by decide +kernel)) ?_
  refine tr_if_ne 13 dX10_wakeTotal_4 (by decide) (fun h => absurd (by decide +kernel) h) (fun _ => ?_)
  refine tr_aload_n dX10_wakeTotal_7 rfl ?_
  refine tr_iconst (v := 1) dX10_wakeTotal_8 (by decide +kernel) ?_
  refine tr_inVi (M' := mX10_refusedTotal) (as := [_]) dX10_wakeTotal_9 lk10_178 inX10_refusedTotal seX10_refusedTotal myX10_refusedTotal (by decide) ⟨by decide, by decide⟩ rfl (hK 0 10 (by decide) kd_0) (Nat.le_of_ble_eq_true rfl) (by decide) (by decide) (Con.of (by decide +kernel) rfl (Nat.le_of_ble_eq_true rfl) rfl (fun X156 hX156 zX156 => ?_))
  refine tr_aload_n dX10_refusedTotal_0 rfl ?_
  refine tr_iload_n dX10_refusedTotal_1 rfl ?_
  refine tr_putI dX10_refusedTotal_2 fl10_112 (hK 0 10 (by decide) kd_0) (Or.inl rfl) ?_
  refine tr_ldcw dX10_refusedTotal_5 ld10_356 ?_
  refine tr_iret zX156 dX10_refusedTotal_8 rfl (by decide) (by decide) ⟨_, rfl, ?_⟩
  exact tr_iret zX155 dX10_wakeTotal_12 rfl (by decide) (by decide) ⟨rfl, rfl, rfl, rfl, fun k hk => ⟨by first | rfl | (repeat rw [cz_uIn (by omega)]), by first | rfl | (repeat rw [cz_uRn (by omega)])⟩⟩
set_option maxHeartbeats 4000000 in
set_option maxRecDepth 100000 in
theorem fX12_wakeTotal {l : Launch} {K N : Nat → Nat} {I : cz_I} {R : cz_R} {L : cz_L} (hf : cz_f2 K N I R) : Con l mX12_wakeTotal [.ref 183] 203 K N I R L (fun r _ _ _ _ _ _ => r = some (.int ((-100000)))) := by
  obtain ⟨hK, hN, hR, hI, hI2⟩ := hf
  refine Con.of (by decide +kernel) rfl (Nat.le_of_ble_eq_true rfl) rfl (fun X157 hX157 zX157 => ?_)
  refine tr_aload_n dX12_wakeTotal_0 rfl ?_
  refine tr_iconst (v := 0) dX12_wakeTotal_1 (by decide +kernel) ?_
  refine tr_putI dX12_wakeTotal_2 fl12_70 (hK 183 12 (by decide) kd_183) (Or.inl rfl) ?_
  refine tr_aload_n dX12_wakeTotal_5 rfl ?_
  refine tr_getN dX12_wakeTotal_6 fl12_385 (hK 183 12 (by decide) kd_183) (hR 183 3 none (by decide +kernel) (by decide +kernel)) ?_
  refine tr_ifnonnullN dX12_wakeTotal_9 ?_
  refine tr_aload_n dX12_wakeTotal_12 rfl ?_
  refine tr_iconst (v := 1) dX12_wakeTotal_13 (by decide +kernel) ?_
  refine tr_inVi (M' := mX12_lost) (as := [_]) dX12_wakeTotal_14 lk12_458 inX12_lost seX12_lost myX12_lost (by decide) ⟨by decide, by decide⟩ rfl (hK 183 12 (by decide) kd_183) (Nat.le_of_ble_eq_true rfl) (by decide) (by decide) (Con.of (by decide +kernel) rfl (Nat.le_of_ble_eq_true rfl) rfl (fun X158 hX158 zX158 => ?_))
  refine tr_aload_n dX12_lost_0 rfl ?_
  refine tr_iload_n dX12_lost_1 rfl ?_
  refine tr_inVi (M' := mX12_refused) (as := [_]) dX12_lost_2 lk12_76 inX12_refused seX12_refused myX12_refused (by decide) ⟨by decide, by decide⟩ rfl (hK 183 12 (by decide) kd_183) (Nat.le_of_ble_eq_true rfl) (by decide) (by decide) (Con.of (by decide +kernel) rfl (Nat.le_of_ble_eq_true rfl) rfl (fun X159 hX159 zX159 => ?_))
  refine tr_aload_n dX12_refused_0 rfl ?_
  refine tr_iload_n dX12_refused_1 rfl ?_
  refine tr_putI dX12_refused_2 fl12_73 (hK 183 12 (by decide) kd_183) (Or.inl rfl) ?_
  refine tr_aload_n dX12_refused_5 rfl ?_
  refine tr_iconst (v := (-1)) dX12_refused_6 (by decide +kernel) ?_
  refine tr_putI dX12_refused_7 fl12_9 (hK 183 12 (by decide) kd_183) (Or.inl rfl) ?_
  refine tr_iconst (v := (-1)) dX12_refused_10 (by decide +kernel) ?_
  refine tr_iret zX159 dX12_refused_11 rfl (by decide) (by decide) ⟨_, rfl, ?_⟩
  refine tr_pop dX12_lost_5 rfl ?_
  refine tr_ldc dX12_lost_6 ld12_80 ?_
  refine tr_iret zX158 dX12_lost_8 rfl (by decide) (by decide) ⟨_, rfl, ?_⟩
  exact tr_iret zX157 dX12_wakeTotal_17 rfl (by decide) (by decide) rfl
set_option maxHeartbeats 4000000 in
set_option maxRecDepth 100000 in
theorem fX10_fewest {l : Launch} {K N : Nat → Nat} {I : cz_I} {R : cz_R} {L : cz_L} (hf : cz_f1 K N I R) : Con l mX10_fewest [.ref 0] 203 K N I R L (fun r cn' K' N' I' R' _ => r = some (.int ((-1))) ∧ cn' = 203 ∧ K' = K ∧ N' = N ∧ ∀ k : Nat, 183 ≤ k → I' k = I k ∧ R' k = R k) := by
  obtain ⟨hK, hN, hR, hI⟩ := hf
  refine Con.of (by decide +kernel) rfl (Nat.le_of_ble_eq_true rfl) rfl (fun X160 hX160 zX160 => ?_)
  refine tr_aload_n dX10_fewest_0 rfl ?_
  refine tr_getZ dX10_fewest_1 fl10_95 (hK 0 10 (by decide) kd_0) ?_
  refine tr_topi 0 (hI 0 5 (by decide +kernel)) ?_
  refine tr_if_ne 13 dX10_fewest_4 (by decide) (fun h => absurd (by decide +kernel) h) (fun _ => ?_)
  refine tr_aload_n dX10_fewest_7 rfl ?_
  refine tr_iconst (v := 1) dX10_fewest_8 (by decide +kernel) ?_
  refine tr_inVi (M' := mX10_refused) (as := [_]) dX10_fewest_9 lk10_79 inX10_refused seX10_refused myX10_refused (by decide) ⟨by decide, by decide⟩ rfl (hK 0 10 (by decide) kd_0) (Nat.le_of_ble_eq_true rfl) (by decide) (by decide) (Con.of (by decide +kernel) rfl (Nat.le_of_ble_eq_true rfl) rfl (fun X161 hX161 zX161 => ?_))
  refine tr_aload_n dX10_refused_0 rfl ?_
  refine tr_iload_n dX10_refused_1 rfl ?_
  refine tr_putI dX10_refused_2 fl10_112 (hK 0 10 (by decide) kd_0) (Or.inl rfl) ?_
  refine tr_iconst (v := (-1)) dX10_refused_5 (by decide +kernel) ?_
  refine tr_iret zX161 dX10_refused_6 rfl (by decide) (by decide) ⟨_, rfl, ?_⟩
  exact tr_iret zX160 dX10_fewest_12 rfl (by decide) (by decide) ⟨rfl, rfl, rfl, rfl, fun k hk => ⟨by first | rfl | (repeat rw [cz_uIn (by omega)]), by first | rfl | (repeat rw [cz_uRn (by omega)])⟩⟩
set_option maxHeartbeats 4000000 in
set_option maxRecDepth 100000 in
theorem fX12_fewest {l : Launch} {K N : Nat → Nat} {I : cz_I} {R : cz_R} {L : cz_L} (hf : cz_f2 K N I R) : Con l mX12_fewest [.ref 183] 203 K N I R L (fun r _ _ _ _ _ _ => r = some (.int ((-1)))) := by
  obtain ⟨hK, hN, hR, hI, hI2⟩ := hf
  refine Con.of (by decide +kernel) rfl (Nat.le_of_ble_eq_true rfl) rfl (fun X162 hX162 zX162 => ?_)
  refine tr_aload_n dX12_fewest_0 rfl ?_
  refine tr_iconst (v := 0) dX12_fewest_1 (by decide +kernel) ?_
  refine tr_putI dX12_fewest_2 fl12_70 (hK 183 12 (by decide) kd_183) (Or.inl rfl) ?_
  refine tr_aload_n dX12_fewest_5 rfl ?_
  refine tr_getN dX12_fewest_6 fl12_385 (hK 183 12 (by decide) kd_183) (hR 183 3 none (by decide +kernel) (by decide +kernel)) ?_
  refine tr_ifnonnullN dX12_fewest_9 ?_
  refine tr_aload_n dX12_fewest_12 rfl ?_
  refine tr_iconst (v := 1) dX12_fewest_13 (by decide +kernel) ?_
  refine tr_inVi (M' := mX12_refused) (as := [_]) dX12_fewest_14 lk12_76 inX12_refused seX12_refused myX12_refused (by decide) ⟨by decide, by decide⟩ rfl (hK 183 12 (by decide) kd_183) (Nat.le_of_ble_eq_true rfl) (by decide) (by decide) (Con.of (by decide +kernel) rfl (Nat.le_of_ble_eq_true rfl) rfl (fun X163 hX163 zX163 => ?_))
  refine tr_aload_n dX12_refused_0 rfl ?_
  refine tr_iload_n dX12_refused_1 rfl ?_
  refine tr_putI dX12_refused_2 fl12_73 (hK 183 12 (by decide) kd_183) (Or.inl rfl) ?_
  refine tr_aload_n dX12_refused_5 rfl ?_
  refine tr_iconst (v := (-1)) dX12_refused_6 (by decide +kernel) ?_
  refine tr_putI dX12_refused_7 fl12_9 (hK 183 12 (by decide) kd_183) (Or.inl rfl) ?_
  refine tr_iconst (v := (-1)) dX12_refused_10 (by decide +kernel) ?_
  refine tr_iret zX163 dX12_refused_11 rfl (by decide) (by decide) ⟨_, rfl, ?_⟩
  exact tr_iret zX162 dX12_fewest_17 rfl (by decide) (by decide) rfl
set_option maxHeartbeats 4000000 in
set_option maxRecDepth 100000 in
theorem fX10_fewestBy {l : Launch} {K N : Nat → Nat} {I : cz_I} {R : cz_R} {L : cz_L} (hf : cz_f1 K N I R) : Con l mX10_fewestBy [.ref 0] 203 K N I R L (fun r cn' K' N' I' R' _ => r = some (.int ((-1))) ∧ cn' = 203 ∧ K' = K ∧ N' = N ∧ ∀ k : Nat, 183 ≤ k → I' k = I k ∧ R' k = R k) := by
  obtain ⟨hK, hN, hR, hI⟩ := hf
  refine Con.of (by decide +kernel) rfl (Nat.le_of_ble_eq_true rfl) rfl (fun X164 hX164 zX164 => ?_)
  refine tr_aload_n dX10_fewestBy_0 rfl ?_
  refine tr_getZ dX10_fewestBy_1 fl10_95 (hK 0 10 (by decide) kd_0) ?_
  refine tr_topi 0 (hI 0 5 (by decide +kernel)) ?_
  refine tr_if_eq 18 dX10_fewestBy_4 (by decide) (fun _ => ?_) (fun h => absurd (by decide +kernel) h)
  refine tr_aload_n dX10_fewestBy_18 rfl ?_
  refine tr_iconst (v := 1) dX10_fewestBy_19 (by decide +kernel) ?_
  refine tr_inVi (M' := mX10_refused) (as := [_]) dX10_fewestBy_20 lk10_79 inX10_refused seX10_refused myX10_refused (by decide) ⟨by decide, by decide⟩ rfl (hK 0 10 (by decide) kd_0) (Nat.le_of_ble_eq_true rfl) (by decide) (by decide) (Con.of (by decide +kernel) rfl (Nat.le_of_ble_eq_true rfl) rfl (fun X165 hX165 zX165 => ?_))
  refine tr_aload_n dX10_refused_0 rfl ?_
  refine tr_iload_n dX10_refused_1 rfl ?_
  refine tr_putI dX10_refused_2 fl10_112 (hK 0 10 (by decide) kd_0) (Or.inl rfl) ?_
  refine tr_iconst (v := (-1)) dX10_refused_5 (by decide +kernel) ?_
  refine tr_iret zX165 dX10_refused_6 rfl (by decide) (by decide) ⟨_, rfl, ?_⟩
  exact tr_iret zX164 dX10_fewestBy_23 rfl (by decide) (by decide) ⟨rfl, rfl, rfl, rfl, fun k hk => ⟨by first | rfl | (repeat rw [cz_uIn (by omega)]), by first | rfl | (repeat rw [cz_uRn (by omega)])⟩⟩
set_option maxHeartbeats 4000000 in
set_option maxRecDepth 100000 in
theorem fX12_fewestBy {l : Launch} {K N : Nat → Nat} {I : cz_I} {R : cz_R} {L : cz_L} (hf : cz_f2 K N I R) : Con l mX12_fewestBy [.ref 183] 203 K N I R L (fun r _ _ _ _ _ _ => r = some (.int ((-1)))) := by
  obtain ⟨hK, hN, hR, hI, hI2⟩ := hf
  refine Con.of (by decide +kernel) rfl (Nat.le_of_ble_eq_true rfl) rfl (fun X166 hX166 zX166 => ?_)
  refine tr_aload_n dX12_fewestBy_0 rfl ?_
  refine tr_iconst (v := 0) dX12_fewestBy_1 (by decide +kernel) ?_
  refine tr_putI dX12_fewestBy_2 fl12_70 (hK 183 12 (by decide) kd_183) (Or.inl rfl) ?_
  refine tr_aload_n dX12_fewestBy_5 rfl ?_
  refine tr_getN dX12_fewestBy_6 fl12_385 (hK 183 12 (by decide) kd_183) (hR 183 3 none (by decide +kernel) (by decide +kernel)) ?_
  refine tr_ifnonnullN dX12_fewestBy_9 ?_
  refine tr_aload_n dX12_fewestBy_12 rfl ?_
  refine tr_iconst (v := 1) dX12_fewestBy_13 (by decide +kernel) ?_
  refine tr_inVi (M' := mX12_refused) (as := [_]) dX12_fewestBy_14 lk12_76 inX12_refused seX12_refused myX12_refused (by decide) ⟨by decide, by decide⟩ rfl (hK 183 12 (by decide) kd_183) (Nat.le_of_ble_eq_true rfl) (by decide) (by decide) (Con.of (by decide +kernel) rfl (Nat.le_of_ble_eq_true rfl) rfl (fun X167 hX167 zX167 => ?_))
  refine tr_aload_n dX12_refused_0 rfl ?_
  refine tr_iload_n dX12_refused_1 rfl ?_
  refine tr_putI dX12_refused_2 fl12_73 (hK 183 12 (by decide) kd_183) (Or.inl rfl) ?_
  refine tr_aload_n dX12_refused_5 rfl ?_
  refine tr_iconst (v := (-1)) dX12_refused_6 (by decide +kernel) ?_
  refine tr_putI dX12_refused_7 fl12_9 (hK 183 12 (by decide) kd_183) (Or.inl rfl) ?_
  refine tr_iconst (v := (-1)) dX12_refused_10 (by decide +kernel) ?_
  refine tr_iret zX167 dX12_refused_11 rfl (by decide) (by decide) ⟨_, rfl, ?_⟩
  refine tr_goto 28 dX12_fewestBy_17 (by decide) ?_
  exact tr_iret zX166 dX12_fewestBy_28 rfl (by decide) (by decide) rfl
set_option maxHeartbeats 4000000 in
set_option maxRecDepth 100000 in
theorem fX10_fits (a : Int32) {l : Launch} {K N : Nat → Nat} {I : cz_I} {R : cz_R} {L : cz_L} (hf : cz_f1 K N I R) : Con l mX10_fits [.ref 0, .int a] 203 K N I R L (fun r cn' K' N' I' R' _ => r = some (.int ((-1))) ∧ cn' = 203 ∧ K' = K ∧ N' = N ∧ ∀ k : Nat, 183 ≤ k → I' k = I k ∧ R' k = R k) := by
  obtain ⟨hK, hN, hR, hI⟩ := hf
  refine Con.of (by decide +kernel) rfl (Nat.le_of_ble_eq_true rfl) rfl (fun X168 hX168 zX168 => ?_)
  refine tr_aload_n dX10_fits_0 rfl ?_
  refine tr_iload_n dX10_fits_1 rfl ?_
  refine tr_inVi (M' := mX10_isSlice) (as := [_]) dX10_fits_2 lk10_252 inX10_isSlice seX10_isSlice myX10_isSlice (by decide) ⟨by decide, by decide⟩ rfl (hK 0 10 (by decide) kd_0) (Nat.le_of_ble_eq_true rfl) (by decide) (by decide) (Con.of (by decide +kernel) rfl (Nat.le_of_ble_eq_true rfl) rfl (fun X169 hX169 zX169 => ?_))
  refine tr_iload_n dX10_isSlice_0 rfl ?_
  refine tr_if_lt 19 dX10_isSlice_1 (by decide) (fun q170 => ?_) (fun q170 => ?_)
  · skip
    refine tr_iconst (v := 0) dX10_isSlice_19 (by decide +kernel) ?_
    refine tr_zret zX169 dX10_isSlice_20 rfl (Or.inl rfl) (by decide) (by decide) ⟨_, rfl, ?_⟩
    refine tr_if_ne 14 dX10_fits_5 (by decide) (fun h => absurd (by decide +kernel) h) (fun _ => ?_)
    refine tr_aload_n dX10_fits_8 rfl ?_
    refine tr_iconst (v := 1) dX10_fits_9 (by decide +kernel) ?_
    refine tr_inVi (M' := mX10_refused) (as := [_]) dX10_fits_10 lk10_79 inX10_refused seX10_refused myX10_refused (by decide) ⟨by decide, by decide⟩ rfl (hK 0 10 (by decide) kd_0) (Nat.le_of_ble_eq_true rfl) (by decide) (by decide) (Con.of (by decide +kernel) rfl (Nat.le_of_ble_eq_true rfl) rfl (fun X171 hX171 zX171 => ?_))
    refine tr_aload_n dX10_refused_0 rfl ?_
    refine tr_iload_n dX10_refused_1 rfl ?_
    refine tr_putI dX10_refused_2 fl10_112 (hK 0 10 (by decide) kd_0) (Or.inl rfl) ?_
    refine tr_iconst (v := (-1)) dX10_refused_5 (by decide +kernel) ?_
    refine tr_iret zX171 dX10_refused_6 rfl (by decide) (by decide) ⟨_, rfl, ?_⟩
    exact tr_iret zX168 dX10_fits_13 rfl (by decide) (by decide) ⟨rfl, rfl, rfl, rfl, fun k hk => ⟨by first | rfl | (repeat rw [cz_uIn (by omega)]), by first | rfl | (repeat rw [cz_uRn (by omega)])⟩⟩
  · skip
    refine tr_iload_n dX10_isSlice_4 rfl ?_
    refine tr_aload_n dX10_isSlice_5 rfl ?_
    refine tr_getR (x := 2) dX10_isSlice_6 fl10_16 (hK 0 10 (by decide) kd_0) (hR 0 2 (some 2) (by decide +kernel) rf_0_2) ?_
    refine tr_getI dX10_isSlice_9 fl10_338 (hK 2 0 (by decide) kd_2) ?_
    refine tr_topi 0 (hI 2 13 (by decide +kernel)) ?_
    refine tr_icmp_ge 19 dX10_isSlice_12 (by decide) (fun q172 => ?_) (fun q172 => ?_)
    · skip
      refine tr_iconst (v := 0) dX10_isSlice_19 (by decide +kernel) ?_
      refine tr_zret zX169 dX10_isSlice_20 rfl (Or.inl rfl) (by decide) (by decide) ⟨_, rfl, ?_⟩
      refine tr_if_ne 14 dX10_fits_5 (by decide) (fun h => absurd (by decide +kernel) h) (fun _ => ?_)
      refine tr_aload_n dX10_fits_8 rfl ?_
      refine tr_iconst (v := 1) dX10_fits_9 (by decide +kernel) ?_
      refine tr_inVi (M' := mX10_refused) (as := [_]) dX10_fits_10 lk10_79 inX10_refused seX10_refused myX10_refused (by decide) ⟨by decide, by decide⟩ rfl (hK 0 10 (by decide) kd_0) (Nat.le_of_ble_eq_true rfl) (by decide) (by decide) (Con.of (by decide +kernel) rfl (Nat.le_of_ble_eq_true rfl) rfl (fun X173 hX173 zX173 => ?_))
      refine tr_aload_n dX10_refused_0 rfl ?_
      refine tr_iload_n dX10_refused_1 rfl ?_
      refine tr_putI dX10_refused_2 fl10_112 (hK 0 10 (by decide) kd_0) (Or.inl rfl) ?_
      refine tr_iconst (v := (-1)) dX10_refused_5 (by decide +kernel) ?_
      refine tr_iret zX173 dX10_refused_6 rfl (by decide) (by decide) ⟨_, rfl, ?_⟩
      exact tr_iret zX168 dX10_fits_13 rfl (by decide) (by decide) ⟨rfl, rfl, rfl, rfl, fun k hk => ⟨by first | rfl | (repeat rw [cz_uIn (by omega)]), by first | rfl | (repeat rw [cz_uRn (by omega)])⟩⟩
    · skip
      exfalso
      have e0 : ((0 : Int32)).toInt = 0 := by decide +kernel
      simp only [Int32.lt_iff_toInt_lt, Int32.le_iff_toInt_le, ← Int32.toInt_inj] at q172
      simp only [Int32.lt_iff_toInt_lt, Int32.le_iff_toInt_le, ← Int32.toInt_inj] at q170
      omega
set_option maxHeartbeats 4000000 in
set_option maxRecDepth 100000 in
theorem fX12_fits (a : Int32) {l : Launch} {K N : Nat → Nat} {I : cz_I} {R : cz_R} {L : cz_L} (hf : cz_f2 K N I R) : Con l mX12_fits [.ref 183, .int a] 203 K N I R L (fun r _ _ _ _ _ _ => r = some (.int ((-1)))) := by
  obtain ⟨hK, hN, hR, hI, hI2⟩ := hf
  refine Con.of (by decide +kernel) rfl (Nat.le_of_ble_eq_true rfl) rfl (fun X174 hX174 zX174 => ?_)
  refine tr_aload_n dX12_fits_0 rfl ?_
  refine tr_iconst (v := 0) dX12_fits_1 (by decide +kernel) ?_
  refine tr_putI dX12_fits_2 fl12_70 (hK 183 12 (by decide) kd_183) (Or.inl rfl) ?_
  refine tr_aload_n dX12_fits_5 rfl ?_
  refine tr_iload_n dX12_fits_6 rfl ?_
  refine tr_inVi (M' := mX12_isSlice) (as := [_]) dX12_fits_7 lk12_485 inX12_isSlice seX12_isSlice myX12_isSlice (by decide) ⟨by decide, by decide⟩ rfl (hK 183 12 (by decide) kd_183) (Nat.le_of_ble_eq_true rfl) (by decide) (by decide) (Con.of (by decide +kernel) rfl (Nat.le_of_ble_eq_true rfl) rfl (fun X175 hX175 zX175 => ?_))
  refine tr_aload_n dX12_isSlice_0 rfl ?_
  refine tr_getN dX12_isSlice_1 fl12_385 (hK 183 12 (by decide) kd_183) (hR 183 3 none (by decide +kernel) (by decide +kernel)) ?_
  refine tr_ifnullN 26 dX12_isSlice_4 (by decide) ?_
  refine tr_iconst (v := 0) dX12_isSlice_26 (by decide +kernel) ?_
  refine tr_zret zX175 dX12_isSlice_27 rfl (Or.inl rfl) (by decide) (by decide) ⟨_, rfl, ?_⟩
  refine tr_if_ne 19 dX12_fits_10 (by decide) (fun h => absurd (by decide +kernel) h) (fun _ => ?_)
  refine tr_aload_n dX12_fits_13 rfl ?_
  refine tr_iconst (v := 1) dX12_fits_14 (by decide +kernel) ?_
  refine tr_inVi (M' := mX12_refused) (as := [_]) dX12_fits_15 lk12_76 inX12_refused seX12_refused myX12_refused (by decide) ⟨by decide, by decide⟩ rfl (hK 183 12 (by decide) kd_183) (Nat.le_of_ble_eq_true rfl) (by decide) (by decide) (Con.of (by decide +kernel) rfl (Nat.le_of_ble_eq_true rfl) rfl (fun X176 hX176 zX176 => ?_))
  refine tr_aload_n dX12_refused_0 rfl ?_
  refine tr_iload_n dX12_refused_1 rfl ?_
  refine tr_putI dX12_refused_2 fl12_73 (hK 183 12 (by decide) kd_183) (Or.inl rfl) ?_
  refine tr_aload_n dX12_refused_5 rfl ?_
  refine tr_iconst (v := (-1)) dX12_refused_6 (by decide +kernel) ?_
  refine tr_putI dX12_refused_7 fl12_9 (hK 183 12 (by decide) kd_183) (Or.inl rfl) ?_
  refine tr_iconst (v := (-1)) dX12_refused_10 (by decide +kernel) ?_
  refine tr_iret zX176 dX12_refused_11 rfl (by decide) (by decide) ⟨_, rfl, ?_⟩
  exact tr_iret zX174 dX12_fits_18 rfl (by decide) (by decide) rfl
set_option maxHeartbeats 4000000 in
set_option maxRecDepth 100000 in
theorem fX10_by (a : Int32) {l : Launch} {K N : Nat → Nat} {I : cz_I} {R : cz_R} {L : cz_L} (hf : cz_f1 K N I R) : Con l mX10_by [.ref 0, .int a] 203 K N I R L (fun r cn' K' N' I' R' _ => r = some (.int ((-1))) ∧ cn' = 203 ∧ K' = K ∧ N' = N ∧ ∀ k : Nat, 183 ≤ k → I' k = I k ∧ R' k = R k) := by
  obtain ⟨hK, hN, hR, hI⟩ := hf
  refine Con.of (by decide +kernel) rfl (Nat.le_of_ble_eq_true rfl) rfl (fun X177 hX177 zX177 => ?_)
  refine tr_aload_n dX10_by_0 rfl ?_
  refine tr_iload_n dX10_by_1 rfl ?_
  refine tr_inVi (M' := mX10_isSlice) (as := [_]) dX10_by_2 lk10_252 inX10_isSlice seX10_isSlice myX10_isSlice (by decide) ⟨by decide, by decide⟩ rfl (hK 0 10 (by decide) kd_0) (Nat.le_of_ble_eq_true rfl) (by decide) (by decide) (Con.of (by decide +kernel) rfl (Nat.le_of_ble_eq_true rfl) rfl (fun X178 hX178 zX178 => ?_))
  refine tr_iload_n dX10_isSlice_0 rfl ?_
  refine tr_if_lt 19 dX10_isSlice_1 (by decide) (fun q179 => ?_) (fun q179 => ?_)
  · skip
    refine tr_iconst (v := 0) dX10_isSlice_19 (by decide +kernel) ?_
    refine tr_zret zX178 dX10_isSlice_20 rfl (Or.inl rfl) (by decide) (by decide) ⟨_, rfl, ?_⟩
    refine tr_if_ne 14 dX10_by_5 (by decide) (fun h => absurd (by decide +kernel) h) (fun _ => ?_)
    refine tr_aload_n dX10_by_8 rfl ?_
    refine tr_iconst (v := 1) dX10_by_9 (by decide +kernel) ?_
    refine tr_inVi (M' := mX10_refused) (as := [_]) dX10_by_10 lk10_79 inX10_refused seX10_refused myX10_refused (by decide) ⟨by decide, by decide⟩ rfl (hK 0 10 (by decide) kd_0) (Nat.le_of_ble_eq_true rfl) (by decide) (by decide) (Con.of (by decide +kernel) rfl (Nat.le_of_ble_eq_true rfl) rfl (fun X180 hX180 zX180 => ?_))
    refine tr_aload_n dX10_refused_0 rfl ?_
    refine tr_iload_n dX10_refused_1 rfl ?_
    refine tr_putI dX10_refused_2 fl10_112 (hK 0 10 (by decide) kd_0) (Or.inl rfl) ?_
    refine tr_iconst (v := (-1)) dX10_refused_5 (by decide +kernel) ?_
    refine tr_iret zX180 dX10_refused_6 rfl (by decide) (by decide) ⟨_, rfl, ?_⟩
    exact tr_iret zX177 dX10_by_13 rfl (by decide) (by decide) ⟨rfl, rfl, rfl, rfl, fun k hk => ⟨by first | rfl | (repeat rw [cz_uIn (by omega)]), by first | rfl | (repeat rw [cz_uRn (by omega)])⟩⟩
  · skip
    refine tr_iload_n dX10_isSlice_4 rfl ?_
    refine tr_aload_n dX10_isSlice_5 rfl ?_
    refine tr_getR (x := 2) dX10_isSlice_6 fl10_16 (hK 0 10 (by decide) kd_0) (hR 0 2 (some 2) (by decide +kernel) rf_0_2) ?_
    refine tr_getI dX10_isSlice_9 fl10_338 (hK 2 0 (by decide) kd_2) ?_
    refine tr_topi 0 (hI 2 13 (by decide +kernel)) ?_
    refine tr_icmp_ge 19 dX10_isSlice_12 (by decide) (fun q181 => ?_) (fun q181 => ?_)
    · skip
      refine tr_iconst (v := 0) dX10_isSlice_19 (by decide +kernel) ?_
      refine tr_zret zX178 dX10_isSlice_20 rfl (Or.inl rfl) (by decide) (by decide) ⟨_, rfl, ?_⟩
      refine tr_if_ne 14 dX10_by_5 (by decide) (fun h => absurd (by decide +kernel) h) (fun _ => ?_)
      refine tr_aload_n dX10_by_8 rfl ?_
      refine tr_iconst (v := 1) dX10_by_9 (by decide +kernel) ?_
      refine tr_inVi (M' := mX10_refused) (as := [_]) dX10_by_10 lk10_79 inX10_refused seX10_refused myX10_refused (by decide) ⟨by decide, by decide⟩ rfl (hK 0 10 (by decide) kd_0) (Nat.le_of_ble_eq_true rfl) (by decide) (by decide) (Con.of (by decide +kernel) rfl (Nat.le_of_ble_eq_true rfl) rfl (fun X182 hX182 zX182 => ?_))
      refine tr_aload_n dX10_refused_0 rfl ?_
      refine tr_iload_n dX10_refused_1 rfl ?_
      refine tr_putI dX10_refused_2 fl10_112 (hK 0 10 (by decide) kd_0) (Or.inl rfl) ?_
      refine tr_iconst (v := (-1)) dX10_refused_5 (by decide +kernel) ?_
      refine tr_iret zX182 dX10_refused_6 rfl (by decide) (by decide) ⟨_, rfl, ?_⟩
      exact tr_iret zX177 dX10_by_13 rfl (by decide) (by decide) ⟨rfl, rfl, rfl, rfl, fun k hk => ⟨by first | rfl | (repeat rw [cz_uIn (by omega)]), by first | rfl | (repeat rw [cz_uRn (by omega)])⟩⟩
    · skip
      exfalso
      have e0 : ((0 : Int32)).toInt = 0 := by decide +kernel
      simp only [Int32.lt_iff_toInt_lt, Int32.le_iff_toInt_le, ← Int32.toInt_inj] at q181
      simp only [Int32.lt_iff_toInt_lt, Int32.le_iff_toInt_le, ← Int32.toInt_inj] at q179
      omega
set_option maxHeartbeats 4000000 in
set_option maxRecDepth 100000 in
theorem fX12_by (a : Int32) {l : Launch} {K N : Nat → Nat} {I : cz_I} {R : cz_R} {L : cz_L} (hf : cz_f2 K N I R) : Con l mX12_by [.ref 183, .int a] 203 K N I R L (fun r _ _ _ _ _ _ => r = some (.int ((-1)))) := by
  obtain ⟨hK, hN, hR, hI, hI2⟩ := hf
  refine Con.of (by decide +kernel) rfl (Nat.le_of_ble_eq_true rfl) rfl (fun X183 hX183 zX183 => ?_)
  refine tr_aload_n dX12_by_0 rfl ?_
  refine tr_iconst (v := 0) dX12_by_1 (by decide +kernel) ?_
  refine tr_putI dX12_by_2 fl12_70 (hK 183 12 (by decide) kd_183) (Or.inl rfl) ?_
  refine tr_aload_n dX12_by_5 rfl ?_
  refine tr_iload_n dX12_by_6 rfl ?_
  refine tr_inVi (M' := mX12_isSlice) (as := [_]) dX12_by_7 lk12_485 inX12_isSlice seX12_isSlice myX12_isSlice (by decide) ⟨by decide, by decide⟩ rfl (hK 183 12 (by decide) kd_183) (Nat.le_of_ble_eq_true rfl) (by decide) (by decide) (Con.of (by decide +kernel) rfl (Nat.le_of_ble_eq_true rfl) rfl (fun X184 hX184 zX184 => ?_))
  refine tr_aload_n dX12_isSlice_0 rfl ?_
  refine tr_getN dX12_isSlice_1 fl12_385 (hK 183 12 (by decide) kd_183) (hR 183 3 none (by decide +kernel) (by decide +kernel)) ?_
  refine tr_ifnullN 26 dX12_isSlice_4 (by decide) ?_
  refine tr_iconst (v := 0) dX12_isSlice_26 (by decide +kernel) ?_
  refine tr_zret zX184 dX12_isSlice_27 rfl (Or.inl rfl) (by decide) (by decide) ⟨_, rfl, ?_⟩
  refine tr_if_ne 19 dX12_by_10 (by decide) (fun h => absurd (by decide +kernel) h) (fun _ => ?_)
  refine tr_aload_n dX12_by_13 rfl ?_
  refine tr_iconst (v := 1) dX12_by_14 (by decide +kernel) ?_
  refine tr_inVi (M' := mX12_refused) (as := [_]) dX12_by_15 lk12_76 inX12_refused seX12_refused myX12_refused (by decide) ⟨by decide, by decide⟩ rfl (hK 183 12 (by decide) kd_183) (Nat.le_of_ble_eq_true rfl) (by decide) (by decide) (Con.of (by decide +kernel) rfl (Nat.le_of_ble_eq_true rfl) rfl (fun X185 hX185 zX185 => ?_))
  refine tr_aload_n dX12_refused_0 rfl ?_
  refine tr_iload_n dX12_refused_1 rfl ?_
  refine tr_putI dX12_refused_2 fl12_73 (hK 183 12 (by decide) kd_183) (Or.inl rfl) ?_
  refine tr_aload_n dX12_refused_5 rfl ?_
  refine tr_iconst (v := (-1)) dX12_refused_6 (by decide +kernel) ?_
  refine tr_putI dX12_refused_7 fl12_9 (hK 183 12 (by decide) kd_183) (Or.inl rfl) ?_
  refine tr_iconst (v := (-1)) dX12_refused_10 (by decide +kernel) ?_
  refine tr_iret zX185 dX12_refused_11 rfl (by decide) (by decide) ⟨_, rfl, ?_⟩
  exact tr_iret zX183 dX12_by_18 rfl (by decide) (by decide) rfl
set_option maxHeartbeats 4000000 in
set_option maxRecDepth 100000 in
theorem fX10_nights (a b c : Int32) {l : Launch} {K N : Nat → Nat} {I : cz_I} {R : cz_R} {L : cz_L} (hf : cz_f1 K N I R) : Con l mX10_nights [.ref 0, .int a, .int b, .int c] 203 K N I R L (fun r cn' K' N' I' R' _ => r = some (.int ((-100000))) ∧ cn' = 203 ∧ K' = K ∧ N' = N ∧ ∀ k : Nat, 183 ≤ k → I' k = I k ∧ R' k = R k) := by
  obtain ⟨hK, hN, hR, hI⟩ := hf
  refine Con.of (by decide +kernel) rfl (Nat.le_of_ble_eq_true rfl) rfl (fun X186 hX186 zX186 => ?_)
  refine tr_aload_n dX10_nights_0 rfl ?_
  refine tr_getZ dX10_nights_1 fl10_95 (hK 0 10 (by decide) kd_0) ?_
  refine tr_topi 0 (hI 0 5 (by decide +kernel)) ?_
  refine tr_if_ne 13 dX10_nights_4 (by decide) (fun h => absurd (by decide +kernel) h) (fun _ => ?_)
  refine tr_aload_n dX10_nights_7 rfl ?_
  refine tr_iconst (v := 1) dX10_nights_8 (by decide +kernel) ?_
  refine tr_inVi (M' := mX10_refusedTotal) (as := [_]) dX10_nights_9 lk10_178 inX10_refusedTotal seX10_refusedTotal myX10_refusedTotal (by decide) ⟨by decide, by decide⟩ rfl (hK 0 10 (by decide) kd_0) (Nat.le_of_ble_eq_true rfl) (by decide) (by decide) (Con.of (by decide +kernel) rfl (Nat.le_of_ble_eq_true rfl) rfl (fun X187 hX187 zX187 => ?_))
  refine tr_aload_n dX10_refusedTotal_0 rfl ?_
  refine tr_iload_n dX10_refusedTotal_1 rfl ?_
  refine tr_putI dX10_refusedTotal_2 fl10_112 (hK 0 10 (by decide) kd_0) (Or.inl rfl) ?_
  refine tr_ldcw dX10_refusedTotal_5 ld10_356 ?_
  refine tr_iret zX187 dX10_refusedTotal_8 rfl (by decide) (by decide) ⟨_, rfl, ?_⟩
  exact tr_iret zX186 dX10_nights_12 rfl (by decide) (by decide) ⟨rfl, rfl, rfl, rfl, fun k hk => ⟨by first | rfl | (repeat rw [cz_uIn (by omega)]), by first | rfl | (repeat rw [cz_uRn (by omega)])⟩⟩
set_option maxHeartbeats 4000000 in
set_option maxRecDepth 100000 in
theorem fX12_nights (a b c : Int32) {l : Launch} {K N : Nat → Nat} {I : cz_I} {R : cz_R} {L : cz_L} (hf : cz_f2 K N I R) : Con l mX12_nights [.ref 183, .int a, .int b, .int c] 203 K N I R L (fun r _ _ _ _ _ _ => r = some (.int ((-100000)))) := by
  obtain ⟨hK, hN, hR, hI, hI2⟩ := hf
  refine Con.of (by decide +kernel) rfl (Nat.le_of_ble_eq_true rfl) rfl (fun X188 hX188 zX188 => ?_)
  refine tr_aload_n dX12_nights_0 rfl ?_
  refine tr_iconst (v := 0) dX12_nights_1 (by decide +kernel) ?_
  refine tr_putI dX12_nights_2 fl12_70 (hK 183 12 (by decide) kd_183) (Or.inl rfl) ?_
  refine tr_aload_n dX12_nights_5 rfl ?_
  refine tr_getN dX12_nights_6 fl12_385 (hK 183 12 (by decide) kd_183) (hR 183 3 none (by decide +kernel) (by decide +kernel)) ?_
  refine tr_ifnonnullN dX12_nights_9 ?_
  refine tr_aload_n dX12_nights_12 rfl ?_
  refine tr_iconst (v := 1) dX12_nights_13 (by decide +kernel) ?_
  refine tr_inVi (M' := mX12_lost) (as := [_]) dX12_nights_14 lk12_458 inX12_lost seX12_lost myX12_lost (by decide) ⟨by decide, by decide⟩ rfl (hK 183 12 (by decide) kd_183) (Nat.le_of_ble_eq_true rfl) (by decide) (by decide) (Con.of (by decide +kernel) rfl (Nat.le_of_ble_eq_true rfl) rfl (fun X189 hX189 zX189 => ?_))
  refine tr_aload_n dX12_lost_0 rfl ?_
  refine tr_iload_n dX12_lost_1 rfl ?_
  refine tr_inVi (M' := mX12_refused) (as := [_]) dX12_lost_2 lk12_76 inX12_refused seX12_refused myX12_refused (by decide) ⟨by decide, by decide⟩ rfl (hK 183 12 (by decide) kd_183) (Nat.le_of_ble_eq_true rfl) (by decide) (by decide) (Con.of (by decide +kernel) rfl (Nat.le_of_ble_eq_true rfl) rfl (fun X190 hX190 zX190 => ?_))
  refine tr_aload_n dX12_refused_0 rfl ?_
  refine tr_iload_n dX12_refused_1 rfl ?_
  refine tr_putI dX12_refused_2 fl12_73 (hK 183 12 (by decide) kd_183) (Or.inl rfl) ?_
  refine tr_aload_n dX12_refused_5 rfl ?_
  refine tr_iconst (v := (-1)) dX12_refused_6 (by decide +kernel) ?_
  refine tr_putI dX12_refused_7 fl12_9 (hK 183 12 (by decide) kd_183) (Or.inl rfl) ?_
  refine tr_iconst (v := (-1)) dX12_refused_10 (by decide +kernel) ?_
  refine tr_iret zX190 dX12_refused_11 rfl (by decide) (by decide) ⟨_, rfl, ?_⟩
  refine tr_pop dX12_lost_5 rfl ?_
  refine tr_ldc dX12_lost_6 ld12_80 ?_
  refine tr_iret zX189 dX12_lost_8 rfl (by decide) (by decide) ⟨_, rfl, ?_⟩
  exact tr_iret zX188 dX12_nights_17 rfl (by decide) (by decide) rfl
set_option maxHeartbeats 4000000 in
set_option maxRecDepth 100000 in
theorem fX10_call (a b : Int32) {l : Launch} {K N : Nat → Nat} {I : cz_I} {R : cz_R} {L : cz_L} (hf : cz_f1 K N I R) : Con l mX10_call [.ref 0, .int a, .int b] 203 K N I R L (fun r cn' K' N' I' R' _ => r = some (.int (0)) ∧ cn' = 203 ∧ K' = K ∧ N' = N ∧ ∀ k : Nat, 183 ≤ k → I' k = I k ∧ R' k = R k) := by
  obtain ⟨hK, hN, hR, hI⟩ := hf
  refine Con.of (by decide +kernel) rfl (Nat.le_of_ble_eq_true rfl) rfl (fun X191 hX191 zX191 => ?_)
  refine tr_iload_n dX10_call_0 rfl ?_
  refine tr_if_lt 15 dX10_call_1 (by decide) (fun q192 => ?_) (fun q192 => ?_)
  · skip
    refine tr_aload_n dX10_call_15 rfl ?_
    refine tr_iconst (v := 1) dX10_call_16 (by decide +kernel) ?_
    refine tr_inVi (M' := mX10_refusedAct) (as := [_]) dX10_call_17 lk10_281 inX10_refusedAct seX10_refusedAct myX10_refusedAct (by decide) ⟨by decide, by decide⟩ rfl (hK 0 10 (by decide) kd_0) (Nat.le_of_ble_eq_true rfl) (by decide) (by decide) (Con.of (by decide +kernel) rfl (Nat.le_of_ble_eq_true rfl) rfl (fun X193 hX193 zX193 => ?_))
    refine tr_aload_n dX10_refusedAct_0 rfl ?_
    refine tr_iload_n dX10_refusedAct_1 rfl ?_
    refine tr_putI dX10_refusedAct_2 fl10_112 (hK 0 10 (by decide) kd_0) (Or.inl rfl) ?_
    refine tr_iconst (v := 0) dX10_refusedAct_5 (by decide +kernel) ?_
    refine tr_zret zX193 dX10_refusedAct_6 rfl (Or.inl rfl) (by decide) (by decide) ⟨_, rfl, ?_⟩
    exact tr_zret zX191 dX10_call_20 rfl (Or.inl rfl) (by decide) (by decide) ⟨rfl, rfl, rfl, rfl, fun k hk => ⟨by first | rfl | (repeat rw [cz_uIn (by omega)]), by first | rfl | (repeat rw [cz_uRn (by omega)])⟩⟩
  · skip
    refine tr_iload_n dX10_call_4 rfl ?_
    refine tr_aload_n dX10_call_5 rfl ?_
    refine tr_getR (x := 2) dX10_call_6 fl10_16 (hK 0 10 (by decide) kd_0) (hR 0 2 (some 2) (by decide +kernel) rf_0_2) ?_
    refine tr_getI dX10_call_9 fl10_278 (hK 2 0 (by decide) kd_2) ?_
    refine tr_topi 0 (hI 2 11 (by decide +kernel)) ?_
    refine tr_icmp_lt 21 dX10_call_12 (by decide) (fun q194 => ?_) (fun q194 => ?_)
    · skip
      exfalso
      have e0 : ((0 : Int32)).toInt = 0 := by decide +kernel
      simp only [Int32.lt_iff_toInt_lt, Int32.le_iff_toInt_le, ← Int32.toInt_inj] at q194
      simp only [Int32.lt_iff_toInt_lt, Int32.le_iff_toInt_le, ← Int32.toInt_inj] at q192
      omega
    · skip
      refine tr_aload_n dX10_call_15 rfl ?_
      refine tr_iconst (v := 1) dX10_call_16 (by decide +kernel) ?_
      refine tr_inVi (M' := mX10_refusedAct) (as := [_]) dX10_call_17 lk10_281 inX10_refusedAct seX10_refusedAct myX10_refusedAct (by decide) ⟨by decide, by decide⟩ rfl (hK 0 10 (by decide) kd_0) (Nat.le_of_ble_eq_true rfl) (by decide) (by decide) (Con.of (by decide +kernel) rfl (Nat.le_of_ble_eq_true rfl) rfl (fun X195 hX195 zX195 => ?_))
      refine tr_aload_n dX10_refusedAct_0 rfl ?_
      refine tr_iload_n dX10_refusedAct_1 rfl ?_
      refine tr_putI dX10_refusedAct_2 fl10_112 (hK 0 10 (by decide) kd_0) (Or.inl rfl) ?_
      refine tr_iconst (v := 0) dX10_refusedAct_5 (by decide +kernel) ?_
      refine tr_zret zX195 dX10_refusedAct_6 rfl (Or.inl rfl) (by decide) (by decide) ⟨_, rfl, ?_⟩
      exact tr_zret zX191 dX10_call_20 rfl (Or.inl rfl) (by decide) (by decide) ⟨rfl, rfl, rfl, rfl, fun k hk => ⟨by first | rfl | (repeat rw [cz_uIn (by omega)]), by first | rfl | (repeat rw [cz_uRn (by omega)])⟩⟩
set_option maxHeartbeats 4000000 in
set_option maxRecDepth 100000 in
theorem fX12_call (a b : Int32) {l : Launch} {K N : Nat → Nat} {I : cz_I} {R : cz_R} {L : cz_L} (hf : cz_f2 K N I R) : Con l mX12_call [.ref 183, .int a, .int b] 203 K N I R L (fun r _ _ _ _ _ _ => r = some (.int (0))) := by
  obtain ⟨hK, hN, hR, hI, hI2⟩ := hf
  refine Con.of (by decide +kernel) rfl (Nat.le_of_ble_eq_true rfl) rfl (fun X196 hX196 zX196 => ?_)
  refine tr_aload_n dX12_call_0 rfl ?_
  refine tr_iconst (v := 0) dX12_call_1 (by decide +kernel) ?_
  refine tr_putI dX12_call_2 fl12_70 (hK 183 12 (by decide) kd_183) (Or.inl rfl) ?_
  refine tr_aload_n dX12_call_5 rfl ?_
  refine tr_getN dX12_call_6 fl12_385 (hK 183 12 (by decide) kd_183) (hR 183 3 none (by decide +kernel) (by decide +kernel)) ?_
  refine tr_ifnullN 27 dX12_call_9 (by decide) ?_
  refine tr_aload_n dX12_call_27 rfl ?_
  refine tr_iconst (v := 1) dX12_call_28 (by decide +kernel) ?_
  refine tr_inVi (M' := mX12_denied) (as := [_]) dX12_call_29 lk12_507 inX12_denied seX12_denied myX12_denied (by decide) ⟨by decide, by decide⟩ rfl (hK 183 12 (by decide) kd_183) (Nat.le_of_ble_eq_true rfl) (by decide) (by decide) (Con.of (by decide +kernel) rfl (Nat.le_of_ble_eq_true rfl) rfl (fun X197 hX197 zX197 => ?_))
  refine tr_aload_n dX12_denied_0 rfl ?_
  refine tr_iload_n dX12_denied_1 rfl ?_
  refine tr_inVi (M' := mX12_refused) (as := [_]) dX12_denied_2 lk12_76 inX12_refused seX12_refused myX12_refused (by decide) ⟨by decide, by decide⟩ rfl (hK 183 12 (by decide) kd_183) (Nat.le_of_ble_eq_true rfl) (by decide) (by decide) (Con.of (by decide +kernel) rfl (Nat.le_of_ble_eq_true rfl) rfl (fun X198 hX198 zX198 => ?_))
  refine tr_aload_n dX12_refused_0 rfl ?_
  refine tr_iload_n dX12_refused_1 rfl ?_
  refine tr_putI dX12_refused_2 fl12_73 (hK 183 12 (by decide) kd_183) (Or.inl rfl) ?_
  refine tr_aload_n dX12_refused_5 rfl ?_
  refine tr_iconst (v := (-1)) dX12_refused_6 (by decide +kernel) ?_
  refine tr_putI dX12_refused_7 fl12_9 (hK 183 12 (by decide) kd_183) (Or.inl rfl) ?_
  refine tr_iconst (v := (-1)) dX12_refused_10 (by decide +kernel) ?_
  refine tr_iret zX198 dX12_refused_11 rfl (by decide) (by decide) ⟨_, rfl, ?_⟩
  refine tr_pop dX12_denied_5 rfl ?_
  refine tr_iconst (v := 0) dX12_denied_6 (by decide +kernel) ?_
  refine tr_zret zX197 dX12_denied_7 rfl (Or.inl rfl) (by decide) (by decide) ⟨_, rfl, ?_⟩
  exact tr_zret zX196 dX12_call_32 rfl (Or.inl rfl) (by decide) (by decide) rfl
set_option maxHeartbeats 4000000 in
set_option maxRecDepth 100000 in
theorem fX10_calls {l : Launch} {K N : Nat → Nat} {I : cz_I} {R : cz_R} {L : cz_L} (hf : cz_f1 K N I R) : Con l mX10_calls [.ref 0] 203 K N I R L (fun r cn' K' N' I' R' _ => r = some (.int ((-1))) ∧ cn' = 203 ∧ K' = K ∧ N' = N ∧ ∀ k : Nat, 183 ≤ k → I' k = I k ∧ R' k = R k) := by
  obtain ⟨hK, hN, hR, hI⟩ := hf
  refine Con.of (by decide +kernel) rfl (Nat.le_of_ble_eq_true rfl) rfl (fun X199 hX199 zX199 => ?_)
  refine tr_aload_n dX10_calls_0 rfl ?_
  refine tr_getZ dX10_calls_1 fl10_95 (hK 0 10 (by decide) kd_0) ?_
  refine tr_topi 0 (hI 0 5 (by decide +kernel)) ?_
  refine tr_if_eq 21 dX10_calls_4 (by decide) (fun _ => ?_) (fun h => absurd (by decide +kernel) h)
  refine tr_aload_n dX10_calls_21 rfl ?_
  refine tr_iconst (v := 1) dX10_calls_22 (by decide +kernel) ?_
  refine tr_inVi (M' := mX10_refused) (as := [_]) dX10_calls_23 lk10_79 inX10_refused seX10_refused myX10_refused (by decide) ⟨by decide, by decide⟩ rfl (hK 0 10 (by decide) kd_0) (Nat.le_of_ble_eq_true rfl) (by decide) (by decide) (Con.of (by decide +kernel) rfl (Nat.le_of_ble_eq_true rfl) rfl (fun X200 hX200 zX200 => ?_))
  refine tr_aload_n dX10_refused_0 rfl ?_
  refine tr_iload_n dX10_refused_1 rfl ?_
  refine tr_putI dX10_refused_2 fl10_112 (hK 0 10 (by decide) kd_0) (Or.inl rfl) ?_
  refine tr_iconst (v := (-1)) dX10_refused_5 (by decide +kernel) ?_
  refine tr_iret zX200 dX10_refused_6 rfl (by decide) (by decide) ⟨_, rfl, ?_⟩
  exact tr_iret zX199 dX10_calls_26 rfl (by decide) (by decide) ⟨rfl, rfl, rfl, rfl, fun k hk => ⟨by first | rfl | (repeat rw [cz_uIn (by omega)]), by first | rfl | (repeat rw [cz_uRn (by omega)])⟩⟩
set_option maxHeartbeats 4000000 in
set_option maxRecDepth 100000 in
theorem fX12_calls {l : Launch} {K N : Nat → Nat} {I : cz_I} {R : cz_R} {L : cz_L} (hf : cz_f2 K N I R) : Con l mX12_calls [.ref 183] 203 K N I R L (fun r _ _ _ _ _ _ => r = some (.int ((-1)))) := by
  obtain ⟨hK, hN, hR, hI, hI2⟩ := hf
  refine Con.of (by decide +kernel) rfl (Nat.le_of_ble_eq_true rfl) rfl (fun X201 hX201 zX201 => ?_)
  refine tr_aload_n dX12_calls_0 rfl ?_
  refine tr_iconst (v := 0) dX12_calls_1 (by decide +kernel) ?_
  refine tr_putI dX12_calls_2 fl12_70 (hK 183 12 (by decide) kd_183) (Or.inl rfl) ?_
  refine tr_aload_n dX12_calls_5 rfl ?_
  refine tr_getN dX12_calls_6 fl12_385 (hK 183 12 (by decide) kd_183) (hR 183 3 none (by decide +kernel) (by decide +kernel)) ?_
  refine tr_ifnonnullN dX12_calls_9 ?_
  refine tr_aload_n dX12_calls_12 rfl ?_
  refine tr_iconst (v := 1) dX12_calls_13 (by decide +kernel) ?_
  refine tr_inVi (M' := mX12_refused) (as := [_]) dX12_calls_14 lk12_76 inX12_refused seX12_refused myX12_refused (by decide) ⟨by decide, by decide⟩ rfl (hK 183 12 (by decide) kd_183) (Nat.le_of_ble_eq_true rfl) (by decide) (by decide) (Con.of (by decide +kernel) rfl (Nat.le_of_ble_eq_true rfl) rfl (fun X202 hX202 zX202 => ?_))
  refine tr_aload_n dX12_refused_0 rfl ?_
  refine tr_iload_n dX12_refused_1 rfl ?_
  refine tr_putI dX12_refused_2 fl12_73 (hK 183 12 (by decide) kd_183) (Or.inl rfl) ?_
  refine tr_aload_n dX12_refused_5 rfl ?_
  refine tr_iconst (v := (-1)) dX12_refused_6 (by decide +kernel) ?_
  refine tr_putI dX12_refused_7 fl12_9 (hK 183 12 (by decide) kd_183) (Or.inl rfl) ?_
  refine tr_iconst (v := (-1)) dX12_refused_10 (by decide +kernel) ?_
  refine tr_iret zX202 dX12_refused_11 rfl (by decide) (by decide) ⟨_, rfl, ?_⟩
  refine tr_goto 30 dX12_calls_17 (by decide) ?_
  exact tr_iret zX201 dX12_calls_30 rfl (by decide) (by decide) rfl
set_option maxHeartbeats 4000000 in
set_option maxRecDepth 100000 in
theorem fX10_cloud (a b : Int32) {l : Launch} {K N : Nat → Nat} {I : cz_I} {R : cz_R} {L : cz_L} (hf : cz_f1 K N I R) : Con l mX10_cloud [.ref 0, .int a, .int b] 203 K N I R L (fun r cn' K' N' I' R' _ => r = some (.int (0)) ∧ cn' = 203 ∧ K' = K ∧ N' = N ∧ ∀ k : Nat, 183 ≤ k → I' k = I k ∧ R' k = R k) := by
  obtain ⟨hK, hN, hR, hI⟩ := hf
  refine Con.of (by decide +kernel) rfl (Nat.le_of_ble_eq_true rfl) rfl (fun X203 hX203 zX203 => ?_)
  refine tr_aload_n dX10_cloud_0 rfl ?_
  refine tr_getZ dX10_cloud_1 fl10_95 (hK 0 10 (by decide) kd_0) ?_
  refine tr_topi 0 (hI 0 5 (by decide +kernel)) ?_
  refine tr_if_ne 13 dX10_cloud_4 (by decide) (fun h => absurd (by decide +kernel) h) (fun _ => ?_)
  refine tr_aload_n dX10_cloud_7 rfl ?_
  refine tr_iconst (v := 1) dX10_cloud_8 (by decide +kernel) ?_
  refine tr_inVi (M' := mX10_refusedAct) (as := [_]) dX10_cloud_9 lk10_281 inX10_refusedAct seX10_refusedAct myX10_refusedAct (by decide) ⟨by decide, by decide⟩ rfl (hK 0 10 (by decide) kd_0) (Nat.le_of_ble_eq_true rfl) (by decide) (by decide) (Con.of (by decide +kernel) rfl (Nat.le_of_ble_eq_true rfl) rfl (fun X204 hX204 zX204 => ?_))
  refine tr_aload_n dX10_refusedAct_0 rfl ?_
  refine tr_iload_n dX10_refusedAct_1 rfl ?_
  refine tr_putI dX10_refusedAct_2 fl10_112 (hK 0 10 (by decide) kd_0) (Or.inl rfl) ?_
  refine tr_iconst (v := 0) dX10_refusedAct_5 (by decide +kernel) ?_
  refine tr_zret zX204 dX10_refusedAct_6 rfl (Or.inl rfl) (by decide) (by decide) ⟨_, rfl, ?_⟩
  exact tr_zret zX203 dX10_cloud_12 rfl (Or.inl rfl) (by decide) (by decide) ⟨rfl, rfl, rfl, rfl, fun k hk => ⟨by first | rfl | (repeat rw [cz_uIn (by omega)]), by first | rfl | (repeat rw [cz_uRn (by omega)])⟩⟩
set_option maxHeartbeats 4000000 in
set_option maxRecDepth 100000 in
theorem fX12_cloud (a b : Int32) {l : Launch} {K N : Nat → Nat} {I : cz_I} {R : cz_R} {L : cz_L} (hf : cz_f2 K N I R) : Con l mX12_cloud [.ref 183, .int a, .int b] 203 K N I R L (fun r _ _ _ _ _ _ => r = some (.int (0))) := by
  obtain ⟨hK, hN, hR, hI, hI2⟩ := hf
  refine Con.of (by decide +kernel) rfl (Nat.le_of_ble_eq_true rfl) rfl (fun X205 hX205 zX205 => ?_)
  refine tr_aload_n dX12_cloud_0 rfl ?_
  refine tr_iconst (v := 0) dX12_cloud_1 (by decide +kernel) ?_
  refine tr_putI dX12_cloud_2 fl12_70 (hK 183 12 (by decide) kd_183) (Or.inl rfl) ?_
  refine tr_aload_n dX12_cloud_5 rfl ?_
  refine tr_getN dX12_cloud_6 fl12_385 (hK 183 12 (by decide) kd_183) (hR 183 3 none (by decide +kernel) (by decide +kernel)) ?_
  refine tr_ifnonnullN dX12_cloud_9 ?_
  refine tr_aload_n dX12_cloud_12 rfl ?_
  refine tr_iconst (v := 1) dX12_cloud_13 (by decide +kernel) ?_
  refine tr_inVi (M' := mX12_denied) (as := [_]) dX12_cloud_14 lk12_507 inX12_denied seX12_denied myX12_denied (by decide) ⟨by decide, by decide⟩ rfl (hK 183 12 (by decide) kd_183) (Nat.le_of_ble_eq_true rfl) (by decide) (by decide) (Con.of (by decide +kernel) rfl (Nat.le_of_ble_eq_true rfl) rfl (fun X206 hX206 zX206 => ?_))
  refine tr_aload_n dX12_denied_0 rfl ?_
  refine tr_iload_n dX12_denied_1 rfl ?_
  refine tr_inVi (M' := mX12_refused) (as := [_]) dX12_denied_2 lk12_76 inX12_refused seX12_refused myX12_refused (by decide) ⟨by decide, by decide⟩ rfl (hK 183 12 (by decide) kd_183) (Nat.le_of_ble_eq_true rfl) (by decide) (by decide) (Con.of (by decide +kernel) rfl (Nat.le_of_ble_eq_true rfl) rfl (fun X207 hX207 zX207 => ?_))
  refine tr_aload_n dX12_refused_0 rfl ?_
  refine tr_iload_n dX12_refused_1 rfl ?_
  refine tr_putI dX12_refused_2 fl12_73 (hK 183 12 (by decide) kd_183) (Or.inl rfl) ?_
  refine tr_aload_n dX12_refused_5 rfl ?_
  refine tr_iconst (v := (-1)) dX12_refused_6 (by decide +kernel) ?_
  refine tr_putI dX12_refused_7 fl12_9 (hK 183 12 (by decide) kd_183) (Or.inl rfl) ?_
  refine tr_iconst (v := (-1)) dX12_refused_10 (by decide +kernel) ?_
  refine tr_iret zX207 dX12_refused_11 rfl (by decide) (by decide) ⟨_, rfl, ?_⟩
  refine tr_pop dX12_denied_5 rfl ?_
  refine tr_iconst (v := 0) dX12_denied_6 (by decide +kernel) ?_
  refine tr_zret zX206 dX12_denied_7 rfl (Or.inl rfl) (by decide) (by decide) ⟨_, rfl, ?_⟩
  exact tr_zret zX205 dX12_cloud_17 rfl (Or.inl rfl) (by decide) (by decide) rfl
set_option maxHeartbeats 4000000 in
set_option maxRecDepth 100000 in
theorem fX10_draw {l : Launch} {K N : Nat → Nat} {I : cz_I} {R : cz_R} {L : cz_L} (hf : cz_f1 K N I R) : Con l mX10_draw [.ref 0] 203 K N I R L (fun r cn' K' N' I' R' _ => r = some (.int ((-1))) ∧ cn' = 203 ∧ K' = K ∧ N' = N ∧ ∀ k : Nat, 183 ≤ k → I' k = I k ∧ R' k = R k) := by
  obtain ⟨hK, hN, hR, hI⟩ := hf
  refine Con.of (by decide +kernel) rfl (Nat.le_of_ble_eq_true rfl) rfl (fun X208 hX208 zX208 => ?_)
  refine tr_aload_n dX10_draw_0 rfl ?_
  refine tr_getZ dX10_draw_1 fl10_95 (hK 0 10 (by decide) kd_0) ?_
  refine tr_topi 0 (hI 0 5 (by decide +kernel)) ?_
  refine tr_if_ne 13 dX10_draw_4 (by decide) (fun h => absurd (by decide +kernel) h) (fun _ => ?_)
  refine tr_aload_n dX10_draw_7 rfl ?_
  refine tr_iconst (v := 1) dX10_draw_8 (by decide +kernel) ?_
  refine tr_inVi (M' := mX10_refused) (as := [_]) dX10_draw_9 lk10_79 inX10_refused seX10_refused myX10_refused (by decide) ⟨by decide, by decide⟩ rfl (hK 0 10 (by decide) kd_0) (Nat.le_of_ble_eq_true rfl) (by decide) (by decide) (Con.of (by decide +kernel) rfl (Nat.le_of_ble_eq_true rfl) rfl (fun X209 hX209 zX209 => ?_))
  refine tr_aload_n dX10_refused_0 rfl ?_
  refine tr_iload_n dX10_refused_1 rfl ?_
  refine tr_putI dX10_refused_2 fl10_112 (hK 0 10 (by decide) kd_0) (Or.inl rfl) ?_
  refine tr_iconst (v := (-1)) dX10_refused_5 (by decide +kernel) ?_
  refine tr_iret zX209 dX10_refused_6 rfl (by decide) (by decide) ⟨_, rfl, ?_⟩
  exact tr_iret zX208 dX10_draw_12 rfl (by decide) (by decide) ⟨rfl, rfl, rfl, rfl, fun k hk => ⟨by first | rfl | (repeat rw [cz_uIn (by omega)]), by first | rfl | (repeat rw [cz_uRn (by omega)])⟩⟩
set_option maxHeartbeats 4000000 in
set_option maxRecDepth 100000 in
theorem fX12_draw {l : Launch} {K N : Nat → Nat} {I : cz_I} {R : cz_R} {L : cz_L} (hf : cz_f2 K N I R) : Con l mX12_draw [.ref 183] 203 K N I R L (fun r _ _ _ _ _ _ => r = some (.int ((-1)))) := by
  obtain ⟨hK, hN, hR, hI, hI2⟩ := hf
  refine Con.of (by decide +kernel) rfl (Nat.le_of_ble_eq_true rfl) rfl (fun X210 hX210 zX210 => ?_)
  refine tr_aload_n dX12_draw_0 rfl ?_
  refine tr_iconst (v := 0) dX12_draw_1 (by decide +kernel) ?_
  refine tr_putI dX12_draw_2 fl12_70 (hK 183 12 (by decide) kd_183) (Or.inl rfl) ?_
  refine tr_aload_n dX12_draw_5 rfl ?_
  refine tr_getN dX12_draw_6 fl12_385 (hK 183 12 (by decide) kd_183) (hR 183 3 none (by decide +kernel) (by decide +kernel)) ?_
  refine tr_ifnonnullN dX12_draw_9 ?_
  refine tr_aload_n dX12_draw_12 rfl ?_
  refine tr_iconst (v := 1) dX12_draw_13 (by decide +kernel) ?_
  refine tr_inVi (M' := mX12_refused) (as := [_]) dX12_draw_14 lk12_76 inX12_refused seX12_refused myX12_refused (by decide) ⟨by decide, by decide⟩ rfl (hK 183 12 (by decide) kd_183) (Nat.le_of_ble_eq_true rfl) (by decide) (by decide) (Con.of (by decide +kernel) rfl (Nat.le_of_ble_eq_true rfl) rfl (fun X211 hX211 zX211 => ?_))
  refine tr_aload_n dX12_refused_0 rfl ?_
  refine tr_iload_n dX12_refused_1 rfl ?_
  refine tr_putI dX12_refused_2 fl12_73 (hK 183 12 (by decide) kd_183) (Or.inl rfl) ?_
  refine tr_aload_n dX12_refused_5 rfl ?_
  refine tr_iconst (v := (-1)) dX12_refused_6 (by decide +kernel) ?_
  refine tr_putI dX12_refused_7 fl12_9 (hK 183 12 (by decide) kd_183) (Or.inl rfl) ?_
  refine tr_iconst (v := (-1)) dX12_refused_10 (by decide +kernel) ?_
  refine tr_iret zX211 dX12_refused_11 rfl (by decide) (by decide) ⟨_, rfl, ?_⟩
  exact tr_iret zX210 dX12_draw_17 rfl (by decide) (by decide) rfl
set_option maxHeartbeats 4000000 in
set_option maxRecDepth 100000 in
theorem fX10_lift {l : Launch} {K N : Nat → Nat} {I : cz_I} {R : cz_R} {L : cz_L} (hf : cz_f1 K N I R) : Con l mX10_lift [.ref 0] 203 K N I R L (fun r cn' K' N' I' R' _ => r = some (.int (0)) ∧ cn' = 203 ∧ K' = K ∧ N' = N ∧ ∀ k : Nat, 183 ≤ k → I' k = I k ∧ R' k = R k) := by
  obtain ⟨hK, hN, hR, hI⟩ := hf
  refine Con.of (by decide +kernel) rfl (Nat.le_of_ble_eq_true rfl) rfl (fun X212 hX212 zX212 => ?_)
  refine tr_aload_n dX10_lift_0 rfl ?_
  refine tr_getR (x := 89) dX10_lift_1 fl10_35 (hK 0 10 (by decide) kd_0) (hR 0 6 (some 89) (by decide +kernel) rf_0_6) ?_
  refine tr_getI dX10_lift_4 fl10_272 (hK 89 3 (by decide) kd_89) ?_
  refine tr_topi 0 (hI 89 2 (by decide +kernel)) ?_
  refine tr_if_ne 17 dX10_lift_7 (by decide) (fun h => absurd (by decide +kernel) h) (fun _ => ?_)
  refine tr_aload_n dX10_lift_10 rfl ?_
  refine tr_bipush (v := 6) dX10_lift_11 (by decide +kernel) ?_
  refine tr_inVi (M' := mX10_refusedAct) (as := [_]) dX10_lift_13 lk10_281 inX10_refusedAct seX10_refusedAct myX10_refusedAct (by decide) ⟨by decide, by decide⟩ rfl (hK 0 10 (by decide) kd_0) (Nat.le_of_ble_eq_true rfl) (by decide) (by decide) (Con.of (by decide +kernel) rfl (Nat.le_of_ble_eq_true rfl) rfl (fun X213 hX213 zX213 => ?_))
  refine tr_aload_n dX10_refusedAct_0 rfl ?_
  refine tr_iload_n dX10_refusedAct_1 rfl ?_
  refine tr_putI dX10_refusedAct_2 fl10_112 (hK 0 10 (by decide) kd_0) (Or.inl rfl) ?_
  refine tr_iconst (v := 0) dX10_refusedAct_5 (by decide +kernel) ?_
  refine tr_zret zX213 dX10_refusedAct_6 rfl (Or.inl rfl) (by decide) (by decide) ⟨_, rfl, ?_⟩
  exact tr_zret zX212 dX10_lift_16 rfl (Or.inl rfl) (by decide) (by decide) ⟨rfl, rfl, rfl, rfl, fun k hk => ⟨by first | rfl | (repeat rw [cz_uIn (by omega)]), by first | rfl | (repeat rw [cz_uRn (by omega)])⟩⟩
set_option maxHeartbeats 4000000 in
set_option maxRecDepth 100000 in
theorem fX12_lift {l : Launch} {K N : Nat → Nat} {I : cz_I} {R : cz_R} {L : cz_L} (hf : cz_f2 K N I R) : Con l mX12_lift [.ref 183] 203 K N I R L (fun r _ _ _ _ _ _ => r = some (.int (0))) := by
  obtain ⟨hK, hN, hR, hI, hI2⟩ := hf
  refine Con.of (by decide +kernel) rfl (Nat.le_of_ble_eq_true rfl) rfl (fun X214 hX214 zX214 => ?_)
  refine tr_aload_n dX12_lift_0 rfl ?_
  refine tr_iconst (v := 0) dX12_lift_1 (by decide +kernel) ?_
  refine tr_putI dX12_lift_2 fl12_70 (hK 183 12 (by decide) kd_183) (Or.inl rfl) ?_
  refine tr_aload_n dX12_lift_5 rfl ?_
  refine tr_getN dX12_lift_6 fl12_385 (hK 183 12 (by decide) kd_183) (hR 183 3 none (by decide +kernel) (by decide +kernel)) ?_
  refine tr_ifnullN 21 dX12_lift_9 (by decide) ?_
  refine tr_aload_n dX12_lift_21 rfl ?_
  refine tr_bipush (v := 6) dX12_lift_22 (by decide +kernel) ?_
  refine tr_inVi (M' := mX12_denied) (as := [_]) dX12_lift_24 lk12_507 inX12_denied seX12_denied myX12_denied (by decide) ⟨by decide, by decide⟩ rfl (hK 183 12 (by decide) kd_183) (Nat.le_of_ble_eq_true rfl) (by decide) (by decide) (Con.of (by decide +kernel) rfl (Nat.le_of_ble_eq_true rfl) rfl (fun X215 hX215 zX215 => ?_))
  refine tr_aload_n dX12_denied_0 rfl ?_
  refine tr_iload_n dX12_denied_1 rfl ?_
  refine tr_inVi (M' := mX12_refused) (as := [_]) dX12_denied_2 lk12_76 inX12_refused seX12_refused myX12_refused (by decide) ⟨by decide, by decide⟩ rfl (hK 183 12 (by decide) kd_183) (Nat.le_of_ble_eq_true rfl) (by decide) (by decide) (Con.of (by decide +kernel) rfl (Nat.le_of_ble_eq_true rfl) rfl (fun X216 hX216 zX216 => ?_))
  refine tr_aload_n dX12_refused_0 rfl ?_
  refine tr_iload_n dX12_refused_1 rfl ?_
  refine tr_putI dX12_refused_2 fl12_73 (hK 183 12 (by decide) kd_183) (Or.inl rfl) ?_
  refine tr_aload_n dX12_refused_5 rfl ?_
  refine tr_iconst (v := (-1)) dX12_refused_6 (by decide +kernel) ?_
  refine tr_putI dX12_refused_7 fl12_9 (hK 183 12 (by decide) kd_183) (Or.inl rfl) ?_
  refine tr_iconst (v := (-1)) dX12_refused_10 (by decide +kernel) ?_
  refine tr_iret zX216 dX12_refused_11 rfl (by decide) (by decide) ⟨_, rfl, ?_⟩
  refine tr_pop dX12_denied_5 rfl ?_
  refine tr_iconst (v := 0) dX12_denied_6 (by decide +kernel) ?_
  refine tr_zret zX215 dX12_denied_7 rfl (Or.inl rfl) (by decide) (by decide) ⟨_, rfl, ?_⟩
  exact tr_zret zX214 dX12_lift_27 rfl (Or.inl rfl) (by decide) (by decide) rfl
set_option maxHeartbeats 4000000 in
set_option maxRecDepth 100000 in
theorem fX10_seed (a : Int32) {l : Launch} {K N : Nat → Nat} {I : cz_I} {R : cz_R} {L : cz_L} (hf : cz_f1 K N I R) : Con l mX10_seed [.ref 0, .int a] 203 K N I R L (fun r cn' K' N' I' R' _ => r = some (.int (0)) ∧ cn' = 203 ∧ K' = K ∧ N' = N ∧ ∀ k : Nat, 183 ≤ k → I' k = I k ∧ R' k = R k) := by
  obtain ⟨hK, hN, hR, hI⟩ := hf
  refine Con.of (by decide +kernel) rfl (Nat.le_of_ble_eq_true rfl) rfl (fun X217 hX217 zX217 => ?_)
  refine tr_aload_n dX10_seed_0 rfl ?_
  refine tr_getZ dX10_seed_1 fl10_95 (hK 0 10 (by decide) kd_0) ?_
  refine tr_topi 0 (hI 0 5 (by decide +kernel)) ?_
  refine tr_if_ne 13 dX10_seed_4 (by decide) (fun h => absurd (by decide +kernel) h) (fun _ => ?_)
  refine tr_aload_n dX10_seed_7 rfl ?_
  refine tr_iconst (v := 1) dX10_seed_8 (by decide +kernel) ?_
  refine tr_inVi (M' := mX10_refusedAct) (as := [_]) dX10_seed_9 lk10_281 inX10_refusedAct seX10_refusedAct myX10_refusedAct (by decide) ⟨by decide, by decide⟩ rfl (hK 0 10 (by decide) kd_0) (Nat.le_of_ble_eq_true rfl) (by decide) (by decide) (Con.of (by decide +kernel) rfl (Nat.le_of_ble_eq_true rfl) rfl (fun X218 hX218 zX218 => ?_))
  refine tr_aload_n dX10_refusedAct_0 rfl ?_
  refine tr_iload_n dX10_refusedAct_1 rfl ?_
  refine tr_putI dX10_refusedAct_2 fl10_112 (hK 0 10 (by decide) kd_0) (Or.inl rfl) ?_
  refine tr_iconst (v := 0) dX10_refusedAct_5 (by decide +kernel) ?_
  refine tr_zret zX218 dX10_refusedAct_6 rfl (Or.inl rfl) (by decide) (by decide) ⟨_, rfl, ?_⟩
  exact tr_zret zX217 dX10_seed_12 rfl (Or.inl rfl) (by decide) (by decide) ⟨rfl, rfl, rfl, rfl, fun k hk => ⟨by first | rfl | (repeat rw [cz_uIn (by omega)]), by first | rfl | (repeat rw [cz_uRn (by omega)])⟩⟩
set_option maxHeartbeats 4000000 in
set_option maxRecDepth 100000 in
theorem fX12_seed (a : Int32) {l : Launch} {K N : Nat → Nat} {I : cz_I} {R : cz_R} {L : cz_L} (hf : cz_f2 K N I R) : Con l mX12_seed [.ref 183, .int a] 203 K N I R L (fun r _ _ _ _ _ _ => r = some (.int (0))) := by
  obtain ⟨hK, hN, hR, hI, hI2⟩ := hf
  refine Con.of (by decide +kernel) rfl (Nat.le_of_ble_eq_true rfl) rfl (fun X219 hX219 zX219 => ?_)
  refine tr_aload_n dX12_seed_0 rfl ?_
  refine tr_iconst (v := 0) dX12_seed_1 (by decide +kernel) ?_
  refine tr_putI dX12_seed_2 fl12_70 (hK 183 12 (by decide) kd_183) (Or.inl rfl) ?_
  refine tr_aload_n dX12_seed_5 rfl ?_
  refine tr_getN dX12_seed_6 fl12_385 (hK 183 12 (by decide) kd_183) (hR 183 3 none (by decide +kernel) (by decide +kernel)) ?_
  refine tr_ifnonnullN dX12_seed_9 ?_
  refine tr_aload_n dX12_seed_12 rfl ?_
  refine tr_iconst (v := 1) dX12_seed_13 (by decide +kernel) ?_
  refine tr_inVi (M' := mX12_denied) (as := [_]) dX12_seed_14 lk12_507 inX12_denied seX12_denied myX12_denied (by decide) ⟨by decide, by decide⟩ rfl (hK 183 12 (by decide) kd_183) (Nat.le_of_ble_eq_true rfl) (by decide) (by decide) (Con.of (by decide +kernel) rfl (Nat.le_of_ble_eq_true rfl) rfl (fun X220 hX220 zX220 => ?_))
  refine tr_aload_n dX12_denied_0 rfl ?_
  refine tr_iload_n dX12_denied_1 rfl ?_
  refine tr_inVi (M' := mX12_refused) (as := [_]) dX12_denied_2 lk12_76 inX12_refused seX12_refused myX12_refused (by decide) ⟨by decide, by decide⟩ rfl (hK 183 12 (by decide) kd_183) (Nat.le_of_ble_eq_true rfl) (by decide) (by decide) (Con.of (by decide +kernel) rfl (Nat.le_of_ble_eq_true rfl) rfl (fun X221 hX221 zX221 => ?_))
  refine tr_aload_n dX12_refused_0 rfl ?_
  refine tr_iload_n dX12_refused_1 rfl ?_
  refine tr_putI dX12_refused_2 fl12_73 (hK 183 12 (by decide) kd_183) (Or.inl rfl) ?_
  refine tr_aload_n dX12_refused_5 rfl ?_
  refine tr_iconst (v := (-1)) dX12_refused_6 (by decide +kernel) ?_
  refine tr_putI dX12_refused_7 fl12_9 (hK 183 12 (by decide) kd_183) (Or.inl rfl) ?_
  refine tr_iconst (v := (-1)) dX12_refused_10 (by decide +kernel) ?_
  refine tr_iret zX221 dX12_refused_11 rfl (by decide) (by decide) ⟨_, rfl, ?_⟩
  refine tr_pop dX12_denied_5 rfl ?_
  refine tr_iconst (v := 0) dX12_denied_6 (by decide +kernel) ?_
  refine tr_zret zX220 dX12_denied_7 rfl (Or.inl rfl) (by decide) (by decide) ⟨_, rfl, ?_⟩
  exact tr_zret zX219 dX12_seed_17 rfl (Or.inl rfl) (by decide) (by decide) rfl
set_option maxHeartbeats 4000000 in
set_option maxRecDepth 100000 in
theorem fX10_undo {l : Launch} {K N : Nat → Nat} {I : cz_I} {R : cz_R} {L : cz_L} (hf : cz_f1 K N I R) : Con l mX10_undo [.ref 0] 203 K N I R L (fun r cn' K' N' I' R' _ => r = some (.int (0)) ∧ cn' = 203 ∧ K' = K ∧ N' = N ∧ ∀ k : Nat, 183 ≤ k → I' k = I k ∧ R' k = R k) := by
  obtain ⟨hK, hN, hR, hI⟩ := hf
  refine Con.of (by decide +kernel) rfl (Nat.le_of_ble_eq_true rfl) rfl (fun X222 hX222 zX222 => ?_)
  refine tr_aload_n dX10_undo_0 rfl ?_
  refine tr_getR (x := 92) dX10_undo_1 fl10_42 (hK 0 10 (by decide) kd_0) (hR 0 7 (some 92) (by decide +kernel) rf_0_7) ?_
  refine tr_aload_n dX10_undo_4 rfl ?_
  refine tr_getR (x := 89) dX10_undo_5 fl10_35 (hK 0 10 (by decide) kd_0) (hR 0 6 (some 89) (by decide +kernel) rf_0_6) ?_
  refine tr_inVi (M' := mX6_takeBack) (as := [_]) dX10_undo_8 lk10_299 inX6_takeBack seX6_takeBack myX6_takeBack (by decide) ⟨by decide, by decide⟩ rfl (hK 92 6 (by decide) kd_92) (Nat.le_of_ble_eq_true rfl) (by decide) (by decide) (Con.of (by decide +kernel) rfl (Nat.le_of_ble_eq_true rfl) rfl (fun X223 hX223 zX223 => ?_))
  refine tr_aload_n dX6_takeBack_0 rfl ?_
  refine tr_getI dX6_takeBack_1 fl6_21 (hK 92 6 (by decide) kd_92) ?_
  refine tr_topi 0 (hI 92 0 (by decide +kernel)) ?_
  refine tr_if_ne 9 dX6_takeBack_4 (by decide) (fun h => absurd (by decide +kernel) h) (fun _ => ?_)
  refine tr_iconst (v := 0) dX6_takeBack_7 (by decide +kernel) ?_
  refine tr_zret zX223 dX6_takeBack_8 rfl (Or.inl rfl) (by decide) (by decide) ⟨_, rfl, ?_⟩
  refine tr_if_ne 21 dX10_undo_11 (by decide) (fun h => absurd (by decide +kernel) h) (fun _ => ?_)
  refine tr_aload_n dX10_undo_14 rfl ?_
  refine tr_bipush (v := 6) dX10_undo_15 (by decide +kernel) ?_
  refine tr_inVi (M' := mX10_refusedAct) (as := [_]) dX10_undo_17 lk10_281 inX10_refusedAct seX10_refusedAct myX10_refusedAct (by decide) ⟨by decide, by decide⟩ rfl (hK 0 10 (by decide) kd_0) (Nat.le_of_ble_eq_true rfl) (by decide) (by decide) (Con.of (by decide +kernel) rfl (Nat.le_of_ble_eq_true rfl) rfl (fun X224 hX224 zX224 => ?_))
  refine tr_aload_n dX10_refusedAct_0 rfl ?_
  refine tr_iload_n dX10_refusedAct_1 rfl ?_
  refine tr_putI dX10_refusedAct_2 fl10_112 (hK 0 10 (by decide) kd_0) (Or.inl rfl) ?_
  refine tr_iconst (v := 0) dX10_refusedAct_5 (by decide +kernel) ?_
  refine tr_zret zX224 dX10_refusedAct_6 rfl (Or.inl rfl) (by decide) (by decide) ⟨_, rfl, ?_⟩
  exact tr_zret zX222 dX10_undo_20 rfl (Or.inl rfl) (by decide) (by decide) ⟨rfl, rfl, rfl, rfl, fun k hk => ⟨by first | rfl | (repeat rw [cz_uIn (by omega)]), by first | rfl | (repeat rw [cz_uRn (by omega)])⟩⟩
set_option maxHeartbeats 4000000 in
set_option maxRecDepth 100000 in
theorem fX12_undo {l : Launch} {K N : Nat → Nat} {I : cz_I} {R : cz_R} {L : cz_L} (hf : cz_f2 K N I R) : Con l mX12_undo [.ref 183] 203 K N I R L (fun r _ _ _ _ _ _ => r = some (.int (0))) := by
  obtain ⟨hK, hN, hR, hI, hI2⟩ := hf
  refine Con.of (by decide +kernel) rfl (Nat.le_of_ble_eq_true rfl) rfl (fun X225 hX225 zX225 => ?_)
  refine tr_aload_n dX12_undo_0 rfl ?_
  refine tr_iconst (v := 0) dX12_undo_1 (by decide +kernel) ?_
  refine tr_putI dX12_undo_2 fl12_70 (hK 183 12 (by decide) kd_183) (Or.inl rfl) ?_
  refine tr_aload_n dX12_undo_5 rfl ?_
  refine tr_getN dX12_undo_6 fl12_385 (hK 183 12 (by decide) kd_183) (hR 183 3 none (by decide +kernel) (by decide +kernel)) ?_
  refine tr_ifnullN 19 dX12_undo_9 (by decide) ?_
  refine tr_aload_n dX12_undo_19 rfl ?_
  refine tr_bipush (v := 6) dX12_undo_20 (by decide +kernel) ?_
  refine tr_inVi (M' := mX12_denied) (as := [_]) dX12_undo_22 lk12_507 inX12_denied seX12_denied myX12_denied (by decide) ⟨by decide, by decide⟩ rfl (hK 183 12 (by decide) kd_183) (Nat.le_of_ble_eq_true rfl) (by decide) (by decide) (Con.of (by decide +kernel) rfl (Nat.le_of_ble_eq_true rfl) rfl (fun X226 hX226 zX226 => ?_))
  refine tr_aload_n dX12_denied_0 rfl ?_
  refine tr_iload_n dX12_denied_1 rfl ?_
  refine tr_inVi (M' := mX12_refused) (as := [_]) dX12_denied_2 lk12_76 inX12_refused seX12_refused myX12_refused (by decide) ⟨by decide, by decide⟩ rfl (hK 183 12 (by decide) kd_183) (Nat.le_of_ble_eq_true rfl) (by decide) (by decide) (Con.of (by decide +kernel) rfl (Nat.le_of_ble_eq_true rfl) rfl (fun X227 hX227 zX227 => ?_))
  refine tr_aload_n dX12_refused_0 rfl ?_
  refine tr_iload_n dX12_refused_1 rfl ?_
  refine tr_putI dX12_refused_2 fl12_73 (hK 183 12 (by decide) kd_183) (Or.inl rfl) ?_
  refine tr_aload_n dX12_refused_5 rfl ?_
  refine tr_iconst (v := (-1)) dX12_refused_6 (by decide +kernel) ?_
  refine tr_putI dX12_refused_7 fl12_9 (hK 183 12 (by decide) kd_183) (Or.inl rfl) ?_
  refine tr_iconst (v := (-1)) dX12_refused_10 (by decide +kernel) ?_
  refine tr_iret zX227 dX12_refused_11 rfl (by decide) (by decide) ⟨_, rfl, ?_⟩
  refine tr_pop dX12_denied_5 rfl ?_
  refine tr_iconst (v := 0) dX12_denied_6 (by decide +kernel) ?_
  refine tr_zret zX226 dX12_denied_7 rfl (Or.inl rfl) (by decide) (by decide) ⟨_, rfl, ?_⟩
  exact tr_zret zX225 dX12_undo_25 rfl (Or.inl rfl) (by decide) (by decide) rfl
set_option maxHeartbeats 4000000 in
set_option maxRecDepth 100000 in
theorem fX10_mark {l : Launch} {K N : Nat → Nat} {I : cz_I} {R : cz_R} {L : cz_L} (hf : cz_f1 K N I R) : Con l mX10_mark [.ref 0] 203 K N I R L (fun r cn' K' N' I' R' _ => r = some (.int ((-1))) ∧ cn' = 203 ∧ K' = K ∧ N' = N ∧ ∀ k : Nat, 183 ≤ k → I' k = I k ∧ R' k = R k) := by
  obtain ⟨hK, hN, hR, hI⟩ := hf
  refine Con.of (by decide +kernel) rfl (Nat.le_of_ble_eq_true rfl) rfl (fun X228 hX228 zX228 => ?_)
  refine tr_aload_n dX10_mark_0 rfl ?_
  refine tr_getZ dX10_mark_1 fl10_95 (hK 0 10 (by decide) kd_0) ?_
  refine tr_topi 0 (hI 0 5 (by decide +kernel)) ?_
  refine tr_if_ne 13 dX10_mark_4 (by decide) (fun h => absurd (by decide +kernel) h) (fun _ => ?_)
  refine tr_aload_n dX10_mark_7 rfl ?_
  refine tr_iconst (v := 1) dX10_mark_8 (by decide +kernel) ?_
  refine tr_inVi (M' := mX10_refused) (as := [_]) dX10_mark_9 lk10_79 inX10_refused seX10_refused myX10_refused (by decide) ⟨by decide, by decide⟩ rfl (hK 0 10 (by decide) kd_0) (Nat.le_of_ble_eq_true rfl) (by decide) (by decide) (Con.of (by decide +kernel) rfl (Nat.le_of_ble_eq_true rfl) rfl (fun X229 hX229 zX229 => ?_))
  refine tr_aload_n dX10_refused_0 rfl ?_
  refine tr_iload_n dX10_refused_1 rfl ?_
  refine tr_putI dX10_refused_2 fl10_112 (hK 0 10 (by decide) kd_0) (Or.inl rfl) ?_
  refine tr_iconst (v := (-1)) dX10_refused_5 (by decide +kernel) ?_
  refine tr_iret zX229 dX10_refused_6 rfl (by decide) (by decide) ⟨_, rfl, ?_⟩
  exact tr_iret zX228 dX10_mark_12 rfl (by decide) (by decide) ⟨rfl, rfl, rfl, rfl, fun k hk => ⟨by first | rfl | (repeat rw [cz_uIn (by omega)]), by first | rfl | (repeat rw [cz_uRn (by omega)])⟩⟩
set_option maxHeartbeats 4000000 in
set_option maxRecDepth 100000 in
theorem fX12_mark {l : Launch} {K N : Nat → Nat} {I : cz_I} {R : cz_R} {L : cz_L} (hf : cz_f2 K N I R) : Con l mX12_mark [.ref 183] 203 K N I R L (fun r _ _ _ _ _ _ => r = some (.int ((-1)))) := by
  obtain ⟨hK, hN, hR, hI, hI2⟩ := hf
  refine Con.of (by decide +kernel) rfl (Nat.le_of_ble_eq_true rfl) rfl (fun X230 hX230 zX230 => ?_)
  refine tr_aload_n dX12_mark_0 rfl ?_
  refine tr_iconst (v := 0) dX12_mark_1 (by decide +kernel) ?_
  refine tr_putI dX12_mark_2 fl12_70 (hK 183 12 (by decide) kd_183) (Or.inl rfl) ?_
  refine tr_aload_n dX12_mark_5 rfl ?_
  refine tr_getN dX12_mark_6 fl12_385 (hK 183 12 (by decide) kd_183) (hR 183 3 none (by decide +kernel) (by decide +kernel)) ?_
  refine tr_ifnonnullN dX12_mark_9 ?_
  refine tr_aload_n dX12_mark_12 rfl ?_
  refine tr_iconst (v := 1) dX12_mark_13 (by decide +kernel) ?_
  refine tr_inVi (M' := mX12_refused) (as := [_]) dX12_mark_14 lk12_76 inX12_refused seX12_refused myX12_refused (by decide) ⟨by decide, by decide⟩ rfl (hK 183 12 (by decide) kd_183) (Nat.le_of_ble_eq_true rfl) (by decide) (by decide) (Con.of (by decide +kernel) rfl (Nat.le_of_ble_eq_true rfl) rfl (fun X231 hX231 zX231 => ?_))
  refine tr_aload_n dX12_refused_0 rfl ?_
  refine tr_iload_n dX12_refused_1 rfl ?_
  refine tr_putI dX12_refused_2 fl12_73 (hK 183 12 (by decide) kd_183) (Or.inl rfl) ?_
  refine tr_aload_n dX12_refused_5 rfl ?_
  refine tr_iconst (v := (-1)) dX12_refused_6 (by decide +kernel) ?_
  refine tr_putI dX12_refused_7 fl12_9 (hK 183 12 (by decide) kd_183) (Or.inl rfl) ?_
  refine tr_iconst (v := (-1)) dX12_refused_10 (by decide +kernel) ?_
  refine tr_iret zX231 dX12_refused_11 rfl (by decide) (by decide) ⟨_, rfl, ?_⟩
  exact tr_iret zX230 dX12_mark_17 rfl (by decide) (by decide) rfl
set_option maxHeartbeats 4000000 in
set_option maxRecDepth 100000 in
theorem fX10_back (a : Int32) {l : Launch} {K N : Nat → Nat} {I : cz_I} {R : cz_R} {L : cz_L} (hf : cz_f1 K N I R) : Con l mX10_back [.ref 0, .int a] 203 K N I R L (fun r cn' K' N' I' R' _ => r = some (.int (0)) ∧ cn' = 203 ∧ K' = K ∧ N' = N ∧ ∀ k : Nat, 183 ≤ k → I' k = I k ∧ R' k = R k) := by
  obtain ⟨hK, hN, hR, hI⟩ := hf
  refine Con.of (by decide +kernel) rfl (Nat.le_of_ble_eq_true rfl) rfl (fun X232 hX232 zX232 => ?_)
  refine tr_aload_n dX10_back_0 rfl ?_
  refine tr_getR (x := 92) dX10_back_1 fl10_42 (hK 0 10 (by decide) kd_0) (hR 0 7 (some 92) (by decide +kernel) rf_0_7) ?_
  refine tr_aload_n dX10_back_4 rfl ?_
  refine tr_getR (x := 89) dX10_back_5 fl10_35 (hK 0 10 (by decide) kd_0) (hR 0 6 (some 89) (by decide +kernel) rf_0_6) ?_
  refine tr_iload_n dX10_back_8 rfl ?_
  refine tr_inVi (M' := mX6_goBack) (as := [_, _]) dX10_back_9 lk10_307 inX6_goBack seX6_goBack myX6_goBack (by decide) ⟨by decide, by decide⟩ rfl (hK 92 6 (by decide) kd_92) (Nat.le_of_ble_eq_true rfl) (by decide) (by decide) (Con.of (by decide +kernel) rfl (Nat.le_of_ble_eq_true rfl) rfl (fun X233 hX233 zX233 => ?_))
  refine tr_iload_n dX6_goBack_0 rfl ?_
  refine tr_if_lt 12 dX6_goBack_1 (by decide) (fun q234 => ?_) (fun q234 => ?_)
  · skip
    refine tr_iconst (v := 0) dX6_goBack_12 (by decide +kernel) ?_
    refine tr_zret zX233 dX6_goBack_13 rfl (Or.inl rfl) (by decide) (by decide) ⟨_, rfl, ?_⟩
    refine tr_if_ne 21 dX10_back_12 (by decide) (fun h => absurd (by decide +kernel) h) (fun _ => ?_)
    refine tr_aload_n dX10_back_15 rfl ?_
    refine tr_iconst (v := 1) dX10_back_16 (by decide +kernel) ?_
    refine tr_inVi (M' := mX10_refusedAct) (as := [_]) dX10_back_17 lk10_281 inX10_refusedAct seX10_refusedAct myX10_refusedAct (by decide) ⟨by decide, by decide⟩ rfl (hK 0 10 (by decide) kd_0) (Nat.le_of_ble_eq_true rfl) (by decide) (by decide) (Con.of (by decide +kernel) rfl (Nat.le_of_ble_eq_true rfl) rfl (fun X235 hX235 zX235 => ?_))
    refine tr_aload_n dX10_refusedAct_0 rfl ?_
    refine tr_iload_n dX10_refusedAct_1 rfl ?_
    refine tr_putI dX10_refusedAct_2 fl10_112 (hK 0 10 (by decide) kd_0) (Or.inl rfl) ?_
    refine tr_iconst (v := 0) dX10_refusedAct_5 (by decide +kernel) ?_
    refine tr_zret zX235 dX10_refusedAct_6 rfl (Or.inl rfl) (by decide) (by decide) ⟨_, rfl, ?_⟩
    exact tr_zret zX232 dX10_back_20 rfl (Or.inl rfl) (by decide) (by decide) ⟨rfl, rfl, rfl, rfl, fun k hk => ⟨by first | rfl | (repeat rw [cz_uIn (by omega)]), by first | rfl | (repeat rw [cz_uRn (by omega)])⟩⟩
  · skip
    refine tr_iload_n dX6_goBack_4 rfl ?_
    refine tr_aload_n dX6_goBack_5 rfl ?_
    refine tr_getI dX6_goBack_6 fl6_25 (hK 92 6 (by decide) kd_92) ?_
    refine tr_topi 0 (hI 92 2 (by decide +kernel)) ?_
    refine tr_icmp_lt 14 dX6_goBack_9 (by decide) (fun q236 => ?_) (fun q236 => ?_)
    · skip
      exfalso
      have e0 : ((0 : Int32)).toInt = 0 := by decide +kernel
      simp only [Int32.lt_iff_toInt_lt, Int32.le_iff_toInt_le, ← Int32.toInt_inj] at q236
      simp only [Int32.lt_iff_toInt_lt, Int32.le_iff_toInt_le, ← Int32.toInt_inj] at q234
      omega
    · skip
      refine tr_iconst (v := 0) dX6_goBack_12 (by decide +kernel) ?_
      refine tr_zret zX233 dX6_goBack_13 rfl (Or.inl rfl) (by decide) (by decide) ⟨_, rfl, ?_⟩
      refine tr_if_ne 21 dX10_back_12 (by decide) (fun h => absurd (by decide +kernel) h) (fun _ => ?_)
      refine tr_aload_n dX10_back_15 rfl ?_
      refine tr_iconst (v := 1) dX10_back_16 (by decide +kernel) ?_
      refine tr_inVi (M' := mX10_refusedAct) (as := [_]) dX10_back_17 lk10_281 inX10_refusedAct seX10_refusedAct myX10_refusedAct (by decide) ⟨by decide, by decide⟩ rfl (hK 0 10 (by decide) kd_0) (Nat.le_of_ble_eq_true rfl) (by decide) (by decide) (Con.of (by decide +kernel) rfl (Nat.le_of_ble_eq_true rfl) rfl (fun X237 hX237 zX237 => ?_))
      refine tr_aload_n dX10_refusedAct_0 rfl ?_
      refine tr_iload_n dX10_refusedAct_1 rfl ?_
      refine tr_putI dX10_refusedAct_2 fl10_112 (hK 0 10 (by decide) kd_0) (Or.inl rfl) ?_
      refine tr_iconst (v := 0) dX10_refusedAct_5 (by decide +kernel) ?_
      refine tr_zret zX237 dX10_refusedAct_6 rfl (Or.inl rfl) (by decide) (by decide) ⟨_, rfl, ?_⟩
      exact tr_zret zX232 dX10_back_20 rfl (Or.inl rfl) (by decide) (by decide) ⟨rfl, rfl, rfl, rfl, fun k hk => ⟨by first | rfl | (repeat rw [cz_uIn (by omega)]), by first | rfl | (repeat rw [cz_uRn (by omega)])⟩⟩
set_option maxHeartbeats 4000000 in
set_option maxRecDepth 100000 in
theorem fX12_back (a : Int32) {l : Launch} {K N : Nat → Nat} {I : cz_I} {R : cz_R} {L : cz_L} (hf : cz_f2 K N I R) : Con l mX12_back [.ref 183, .int a] 203 K N I R L (fun r _ _ _ _ _ _ => r = some (.int (0))) := by
  obtain ⟨hK, hN, hR, hI, hI2⟩ := hf
  refine Con.of (by decide +kernel) rfl (Nat.le_of_ble_eq_true rfl) rfl (fun X238 hX238 zX238 => ?_)
  refine tr_aload_n dX12_back_0 rfl ?_
  refine tr_iconst (v := 0) dX12_back_1 (by decide +kernel) ?_
  refine tr_putI dX12_back_2 fl12_70 (hK 183 12 (by decide) kd_183) (Or.inl rfl) ?_
  refine tr_aload_n dX12_back_5 rfl ?_
  refine tr_getN dX12_back_6 fl12_385 (hK 183 12 (by decide) kd_183) (hR 183 3 none (by decide +kernel) (by decide +kernel)) ?_
  refine tr_ifnullN 24 dX12_back_9 (by decide) ?_
  refine tr_aload_n dX12_back_24 rfl ?_
  refine tr_iconst (v := 1) dX12_back_25 (by decide +kernel) ?_
  refine tr_inVi (M' := mX12_denied) (as := [_]) dX12_back_26 lk12_507 inX12_denied seX12_denied myX12_denied (by decide) ⟨by decide, by decide⟩ rfl (hK 183 12 (by decide) kd_183) (Nat.le_of_ble_eq_true rfl) (by decide) (by decide) (Con.of (by decide +kernel) rfl (Nat.le_of_ble_eq_true rfl) rfl (fun X239 hX239 zX239 => ?_))
  refine tr_aload_n dX12_denied_0 rfl ?_
  refine tr_iload_n dX12_denied_1 rfl ?_
  refine tr_inVi (M' := mX12_refused) (as := [_]) dX12_denied_2 lk12_76 inX12_refused seX12_refused myX12_refused (by decide) ⟨by decide, by decide⟩ rfl (hK 183 12 (by decide) kd_183) (Nat.le_of_ble_eq_true rfl) (by decide) (by decide) (Con.of (by decide +kernel) rfl (Nat.le_of_ble_eq_true rfl) rfl (fun X240 hX240 zX240 => ?_))
  refine tr_aload_n dX12_refused_0 rfl ?_
  refine tr_iload_n dX12_refused_1 rfl ?_
  refine tr_putI dX12_refused_2 fl12_73 (hK 183 12 (by decide) kd_183) (Or.inl rfl) ?_
  refine tr_aload_n dX12_refused_5 rfl ?_
  refine tr_iconst (v := (-1)) dX12_refused_6 (by decide +kernel) ?_
  refine tr_putI dX12_refused_7 fl12_9 (hK 183 12 (by decide) kd_183) (Or.inl rfl) ?_
  refine tr_iconst (v := (-1)) dX12_refused_10 (by decide +kernel) ?_
  refine tr_iret zX240 dX12_refused_11 rfl (by decide) (by decide) ⟨_, rfl, ?_⟩
  refine tr_pop dX12_denied_5 rfl ?_
  refine tr_iconst (v := 0) dX12_denied_6 (by decide +kernel) ?_
  refine tr_zret zX239 dX12_denied_7 rfl (Or.inl rfl) (by decide) (by decide) ⟨_, rfl, ?_⟩
  exact tr_zret zX238 dX12_back_29 rfl (Or.inl rfl) (by decide) (by decide) rfl
set_option maxHeartbeats 4000000 in
set_option maxRecDepth 100000 in
theorem fX10_event (a b : Int32) {l : Launch} {K N : Nat → Nat} {I : cz_I} {R : cz_R} {L : cz_L} (hf : cz_f1 K N I R) : Con l mX10_event [.ref 0, .int a, .int b] 203 K N I R L (fun r cn' K' N' I' R' _ => r = some (.int ((-1))) ∧ cn' = 203 ∧ K' = K ∧ N' = N ∧ ∀ k : Nat, 183 ≤ k → I' k = I k ∧ R' k = R k) := by
  obtain ⟨hK, hN, hR, hI⟩ := hf
  refine Con.of (by decide +kernel) rfl (Nat.le_of_ble_eq_true rfl) rfl (fun X241 hX241 zX241 => ?_)
  refine tr_aload_n dX10_event_0 rfl ?_
  refine tr_iload_n dX10_event_1 rfl ?_
  refine tr_inVi (M' := mX10_isEvent) (as := [_]) dX10_event_2 lk10_234 inX10_isEvent seX10_isEvent myX10_isEvent (by decide) ⟨by decide, by decide⟩ rfl (hK 0 10 (by decide) kd_0) (Nat.le_of_ble_eq_true rfl) (by decide) (by decide) (Con.of (by decide +kernel) rfl (Nat.le_of_ble_eq_true rfl) rfl (fun X242 hX242 zX242 => ?_))
  refine tr_iload_n dX10_isEvent_0 rfl ?_
  refine tr_if_lt 16 dX10_isEvent_1 (by decide) (fun q243 => ?_) (fun q243 => ?_)
  · skip
    refine tr_iconst (v := 0) dX10_isEvent_16 (by decide +kernel) ?_
    refine tr_zret zX242 dX10_isEvent_17 rfl (Or.inl rfl) (by decide) (by decide) ⟨_, rfl, ?_⟩
    refine tr_if_ne 14 dX10_event_5 (by decide) (fun h => absurd (by decide +kernel) h) (fun _ => ?_)
    refine tr_aload_n dX10_event_8 rfl ?_
    refine tr_iconst (v := 1) dX10_event_9 (by decide +kernel) ?_
    refine tr_inVi (M' := mX10_refused) (as := [_]) dX10_event_10 lk10_79 inX10_refused seX10_refused myX10_refused (by decide) ⟨by decide, by decide⟩ rfl (hK 0 10 (by decide) kd_0) (Nat.le_of_ble_eq_true rfl) (by decide) (by decide) (Con.of (by decide +kernel) rfl (Nat.le_of_ble_eq_true rfl) rfl (fun X244 hX244 zX244 => ?_))
    refine tr_aload_n dX10_refused_0 rfl ?_
    refine tr_iload_n dX10_refused_1 rfl ?_
    refine tr_putI dX10_refused_2 fl10_112 (hK 0 10 (by decide) kd_0) (Or.inl rfl) ?_
    refine tr_iconst (v := (-1)) dX10_refused_5 (by decide +kernel) ?_
    refine tr_iret zX244 dX10_refused_6 rfl (by decide) (by decide) ⟨_, rfl, ?_⟩
    exact tr_iret zX241 dX10_event_13 rfl (by decide) (by decide) ⟨rfl, rfl, rfl, rfl, fun k hk => ⟨by first | rfl | (repeat rw [cz_uIn (by omega)]), by first | rfl | (repeat rw [cz_uRn (by omega)])⟩⟩
  · skip
    refine tr_iload_n dX10_isEvent_4 rfl ?_
    refine tr_aload_n dX10_isEvent_5 rfl ?_
    refine tr_inVi (M' := mX10_eventCount) (as := []) dX10_isEvent_6 lk10_225 inX10_eventCount seX10_eventCount myX10_eventCount (by decide) ⟨by decide, by decide⟩ rfl (hK 0 10 (by decide) kd_0) (Nat.le_of_ble_eq_true rfl) (by decide) (by decide) (Con.of (by decide +kernel) rfl (Nat.le_of_ble_eq_true rfl) rfl (fun X245 hX245 zX245 => ?_))
    refine tr_aload_n dX10_eventCount_0 rfl ?_
    refine tr_getR (x := 2) dX10_eventCount_1 fl10_16 (hK 0 10 (by decide) kd_0) (hR 0 2 (some 2) (by decide +kernel) rf_0_2) ?_
    refine tr_getI dX10_eventCount_4 fl10_311 (hK 2 0 (by decide) kd_2) ?_
    refine tr_topi 0 (hI 2 3 (by decide +kernel)) ?_
    refine tr_aload_n dX10_eventCount_7 rfl ?_
    refine tr_getR (x := 89) dX10_eventCount_8 fl10_35 (hK 0 10 (by decide) kd_0) (hR 0 6 (some 89) (by decide +kernel) rf_0_6) ?_
    refine tr_getI dX10_eventCount_11 fl10_272 (hK 89 3 (by decide) kd_89) ?_
    refine tr_topi 0 (hI 89 2 (by decide +kernel)) ?_
    refine tr_iadd dX10_eventCount_14 ?_
    refine tr_topi 0 (by decide +kernel) ?_
    refine tr_iret zX245 dX10_eventCount_15 rfl (by decide) (by decide) ⟨_, rfl, ?_⟩
    refine tr_icmp_ge 16 dX10_isEvent_9 (by decide) (fun q246 => ?_) (fun q246 => ?_)
    · skip
      refine tr_iconst (v := 0) dX10_isEvent_16 (by decide +kernel) ?_
      refine tr_zret zX242 dX10_isEvent_17 rfl (Or.inl rfl) (by decide) (by decide) ⟨_, rfl, ?_⟩
      refine tr_if_ne 14 dX10_event_5 (by decide) (fun h => absurd (by decide +kernel) h) (fun _ => ?_)
      refine tr_aload_n dX10_event_8 rfl ?_
      refine tr_iconst (v := 1) dX10_event_9 (by decide +kernel) ?_
      refine tr_inVi (M' := mX10_refused) (as := [_]) dX10_event_10 lk10_79 inX10_refused seX10_refused myX10_refused (by decide) ⟨by decide, by decide⟩ rfl (hK 0 10 (by decide) kd_0) (Nat.le_of_ble_eq_true rfl) (by decide) (by decide) (Con.of (by decide +kernel) rfl (Nat.le_of_ble_eq_true rfl) rfl (fun X247 hX247 zX247 => ?_))
      refine tr_aload_n dX10_refused_0 rfl ?_
      refine tr_iload_n dX10_refused_1 rfl ?_
      refine tr_putI dX10_refused_2 fl10_112 (hK 0 10 (by decide) kd_0) (Or.inl rfl) ?_
      refine tr_iconst (v := (-1)) dX10_refused_5 (by decide +kernel) ?_
      refine tr_iret zX247 dX10_refused_6 rfl (by decide) (by decide) ⟨_, rfl, ?_⟩
      exact tr_iret zX241 dX10_event_13 rfl (by decide) (by decide) ⟨rfl, rfl, rfl, rfl, fun k hk => ⟨by first | rfl | (repeat rw [cz_uIn (by omega)]), by first | rfl | (repeat rw [cz_uRn (by omega)])⟩⟩
    · skip
      exfalso
      have e0 : ((0 : Int32)).toInt = 0 := by decide +kernel
      simp only [Int32.lt_iff_toInt_lt, Int32.le_iff_toInt_le, ← Int32.toInt_inj] at q246
      simp only [Int32.lt_iff_toInt_lt, Int32.le_iff_toInt_le, ← Int32.toInt_inj] at q243
      omega
set_option maxHeartbeats 4000000 in
set_option maxRecDepth 100000 in
theorem fX12_event (a b : Int32) {l : Launch} {K N : Nat → Nat} {I : cz_I} {R : cz_R} {L : cz_L} (hf : cz_f2 K N I R) : Con l mX12_event [.ref 183, .int a, .int b] 203 K N I R L (fun r _ _ _ _ _ _ => r = some (.int ((-1)))) := by
  obtain ⟨hK, hN, hR, hI, hI2⟩ := hf
  refine Con.of (by decide +kernel) rfl (Nat.le_of_ble_eq_true rfl) rfl (fun X248 hX248 zX248 => ?_)
  refine tr_aload_n dX12_event_0 rfl ?_
  refine tr_iconst (v := 0) dX12_event_1 (by decide +kernel) ?_
  refine tr_putI dX12_event_2 fl12_70 (hK 183 12 (by decide) kd_183) (Or.inl rfl) ?_
  refine tr_aload_n dX12_event_5 rfl ?_
  refine tr_iload_n dX12_event_6 rfl ?_
  refine tr_inVi (M' := mX12_isEvent) (as := [_]) dX12_event_7 lk12_467 inX12_isEvent seX12_isEvent myX12_isEvent (by decide) ⟨by decide, by decide⟩ rfl (hK 183 12 (by decide) kd_183) (Nat.le_of_ble_eq_true rfl) (by decide) (by decide) (Con.of (by decide +kernel) rfl (Nat.le_of_ble_eq_true rfl) rfl (fun X249 hX249 zX249 => ?_))
  refine tr_aload_n dX12_isEvent_0 rfl ?_
  refine tr_getN dX12_isEvent_1 fl12_385 (hK 183 12 (by decide) kd_183) (hR 183 3 none (by decide +kernel) (by decide +kernel)) ?_
  refine tr_ifnullN 23 dX12_isEvent_4 (by decide) ?_
  refine tr_iconst (v := 0) dX12_isEvent_23 (by decide +kernel) ?_
  refine tr_zret zX249 dX12_isEvent_24 rfl (Or.inl rfl) (by decide) (by decide) ⟨_, rfl, ?_⟩
  refine tr_if_eq 22 dX12_event_10 (by decide) (fun _ => ?_) (fun h => absurd (by decide +kernel) h)
  refine tr_aload_n dX12_event_22 rfl ?_
  refine tr_iconst (v := 1) dX12_event_23 (by decide +kernel) ?_
  refine tr_inVi (M' := mX12_refused) (as := [_]) dX12_event_24 lk12_76 inX12_refused seX12_refused myX12_refused (by decide) ⟨by decide, by decide⟩ rfl (hK 183 12 (by decide) kd_183) (Nat.le_of_ble_eq_true rfl) (by decide) (by decide) (Con.of (by decide +kernel) rfl (Nat.le_of_ble_eq_true rfl) rfl (fun X250 hX250 zX250 => ?_))
  refine tr_aload_n dX12_refused_0 rfl ?_
  refine tr_iload_n dX12_refused_1 rfl ?_
  refine tr_putI dX12_refused_2 fl12_73 (hK 183 12 (by decide) kd_183) (Or.inl rfl) ?_
  refine tr_aload_n dX12_refused_5 rfl ?_
  refine tr_iconst (v := (-1)) dX12_refused_6 (by decide +kernel) ?_
  refine tr_putI dX12_refused_7 fl12_9 (hK 183 12 (by decide) kd_183) (Or.inl rfl) ?_
  refine tr_iconst (v := (-1)) dX12_refused_10 (by decide +kernel) ?_
  refine tr_iret zX250 dX12_refused_11 rfl (by decide) (by decide) ⟨_, rfl, ?_⟩
  exact tr_iret zX248 dX12_event_27 rfl (by decide) (by decide) rfl
set_option maxHeartbeats 4000000 in
set_option maxRecDepth 100000 in
theorem fX10_size (a : Int32) {l : Launch} {K N : Nat → Nat} {I : cz_I} {R : cz_R} {L : cz_L} (hf : cz_f1 K N I R) : Con l mX10_size [.ref 0, .int a] 203 K N I R L (fun r cn' K' N' I' R' _ => r = some (.int (cz_szv a)) ∧ cn' = 203 ∧ K' = K ∧ N' = N ∧ ∀ k : Nat, 183 ≤ k → I' k = I k ∧ R' k = R k) := by
  obtain ⟨hK, hN, hR, hI⟩ := hf
  refine Con.of (by decide +kernel) rfl (Nat.le_of_ble_eq_true rfl) rfl (fun X251 hX251 zX251 => ?_)
  rcases cz_sz13 a with ha | ha | rfl | rfl | rfl | rfl | rfl | rfl | rfl | rfl | rfl | rfl | rfl | rfl | rfl
  · skip
    refine tr_iload_n dX10_size_0 rfl ?_
    refine tr_tabOut 172 dX10_size_1 (cz_outl ha) (by decide) ?_
    refine tr_iconst (v := (-1)) dX10_size_172 (by decide +kernel) ?_
    exact tr_iret zX251 dX10_size_173 rfl (by decide) (by decide) ⟨(by rw [show cz_szv a = -1 from cz_szl ha]), rfl, rfl, rfl, fun k hk => ⟨by first | rfl | (repeat rw [cz_uIn (by omega)]), by first | rfl | (repeat rw [cz_uRn (by omega)])⟩⟩
  · skip
    refine tr_iload_n dX10_size_0 rfl ?_
    refine tr_tabOut 172 dX10_size_1 (cz_outr ha) (by decide) ?_
    refine tr_iconst (v := (-1)) dX10_size_172 (by decide +kernel) ?_
    exact tr_iret zX251 dX10_size_173 rfl (by decide) (by decide) ⟨(by rw [show cz_szv a = -1 from cz_szr ha]), rfl, rfl, rfl, fun k hk => ⟨by first | rfl | (repeat rw [cz_uIn (by omega)]), by first | rfl | (repeat rw [cz_uRn (by omega)])⟩⟩
  · skip
    refine tr_iload_n dX10_size_0 rfl ?_
    refine tr_tabIn (off := 67) 68 dX10_size_1 (by decide +kernel) (by decide +kernel) (by decide +kernel) (by decide) ?_
    refine tr_aload_n dX10_size_68 rfl ?_
    refine tr_getR (x := 2) dX10_size_69 fl10_16 (hK 0 10 (by decide) kd_0) (hR 0 2 (some 2) (by decide +kernel) rf_0_2) ?_
    refine tr_getI dX10_size_72 fl10_146 (hK 2 0 (by decide) kd_2) ?_
    refine tr_topi 0 (hI 2 0 (by decide +kernel)) ?_
    exact tr_iret zX251 dX10_size_75 rfl (by decide) (by decide) ⟨(by rw [show cz_szv 0 = 0 by decide +kernel]), rfl, rfl, rfl, fun k hk => ⟨by first | rfl | (repeat rw [cz_uIn (by omega)]), by first | rfl | (repeat rw [cz_uRn (by omega)])⟩⟩
  · skip
    refine tr_iload_n dX10_size_0 rfl ?_
    refine tr_tabIn (off := 75) 76 dX10_size_1 (by decide +kernel) (by decide +kernel) (by decide +kernel) (by decide) ?_
    refine tr_aload_n dX10_size_76 rfl ?_
    refine tr_getR (x := 2) dX10_size_77 fl10_16 (hK 0 10 (by decide) kd_0) (hR 0 2 (some 2) (by decide +kernel) rf_0_2) ?_
    refine tr_getI dX10_size_80 fl10_332 (hK 2 0 (by decide) kd_2) ?_
    refine tr_topi 0 (hI 2 1 (by decide +kernel)) ?_
    exact tr_iret zX251 dX10_size_83 rfl (by decide) (by decide) ⟨(by rw [show cz_szv 1 = 0 by decide +kernel]), rfl, rfl, rfl, fun k hk => ⟨by first | rfl | (repeat rw [cz_uIn (by omega)]), by first | rfl | (repeat rw [cz_uRn (by omega)])⟩⟩
  · skip
    refine tr_iload_n dX10_size_0 rfl ?_
    refine tr_tabIn (off := 83) 84 dX10_size_1 (by decide +kernel) (by decide +kernel) (by decide +kernel) (by decide) ?_
    refine tr_aload_n dX10_size_84 rfl ?_
    refine tr_getR (x := 2) dX10_size_85 fl10_16 (hK 0 10 (by decide) kd_0) (hR 0 2 (some 2) (by decide +kernel) rf_0_2) ?_
    refine tr_getI dX10_size_88 fl10_311 (hK 2 0 (by decide) kd_2) ?_
    refine tr_topi 0 (hI 2 3 (by decide +kernel)) ?_
    exact tr_iret zX251 dX10_size_91 rfl (by decide) (by decide) ⟨(by rw [show cz_szv 2 = 0 by decide +kernel]), rfl, rfl, rfl, fun k hk => ⟨by first | rfl | (repeat rw [cz_uIn (by omega)]), by first | rfl | (repeat rw [cz_uRn (by omega)])⟩⟩
  · skip
    refine tr_iload_n dX10_size_0 rfl ?_
    refine tr_tabIn (off := 91) 92 dX10_size_1 (by decide +kernel) (by decide +kernel) (by decide +kernel) (by decide) ?_
    refine tr_aload_n dX10_size_92 rfl ?_
    refine tr_getR (x := 89) dX10_size_93 fl10_35 (hK 0 10 (by decide) kd_0) (hR 0 6 (some 89) (by decide +kernel) rf_0_6) ?_
    refine tr_getI dX10_size_96 fl10_272 (hK 89 3 (by decide) kd_89) ?_
    refine tr_topi 0 (hI 89 2 (by decide +kernel)) ?_
    exact tr_iret zX251 dX10_size_99 rfl (by decide) (by decide) ⟨(by rw [show cz_szv 3 = 0 by decide +kernel]), rfl, rfl, rfl, fun k hk => ⟨by first | rfl | (repeat rw [cz_uIn (by omega)]), by first | rfl | (repeat rw [cz_uRn (by omega)])⟩⟩
  · skip
    refine tr_iload_n dX10_size_0 rfl ?_
    refine tr_tabIn (off := 99) 100 dX10_size_1 (by decide +kernel) (by decide +kernel) (by decide +kernel) (by decide) ?_
    refine tr_aload_n dX10_size_100 rfl ?_
    refine tr_getR (x := 2) dX10_size_101 fl10_16 (hK 0 10 (by decide) kd_0) (hR 0 2 (some 2) (by decide +kernel) rf_0_2) ?_
    refine tr_getI dX10_size_104 fl10_106 (hK 2 0 (by decide) kd_2) ?_
    refine tr_topi 0 (hI 2 5 (by decide +kernel)) ?_
    exact tr_iret zX251 dX10_size_107 rfl (by decide) (by decide) ⟨(by rw [show cz_szv 4 = 0 by decide +kernel]), rfl, rfl, rfl, fun k hk => ⟨by first | rfl | (repeat rw [cz_uIn (by omega)]), by first | rfl | (repeat rw [cz_uRn (by omega)])⟩⟩
  · skip
    refine tr_iload_n dX10_size_0 rfl ?_
    refine tr_tabIn (off := 107) 108 dX10_size_1 (by decide +kernel) (by decide +kernel) (by decide +kernel) (by decide) ?_
    refine tr_aload_n dX10_size_108 rfl ?_
    refine tr_getR (x := 2) dX10_size_109 fl10_16 (hK 0 10 (by decide) kd_0) (hR 0 2 (some 2) (by decide +kernel) rf_0_2) ?_
    refine tr_getI dX10_size_112 fl10_335 (hK 2 0 (by decide) kd_2) ?_
    refine tr_topi 0 (hI 2 9 (by decide +kernel)) ?_
    exact tr_iret zX251 dX10_size_115 rfl (by decide) (by decide) ⟨(by rw [show cz_szv 5 = 0 by decide +kernel]), rfl, rfl, rfl, fun k hk => ⟨by first | rfl | (repeat rw [cz_uIn (by omega)]), by first | rfl | (repeat rw [cz_uRn (by omega)])⟩⟩
  · skip
    refine tr_iload_n dX10_size_0 rfl ?_
    refine tr_tabIn (off := 115) 116 dX10_size_1 (by decide +kernel) (by decide +kernel) (by decide +kernel) (by decide) ?_
    refine tr_aload_n dX10_size_116 rfl ?_
    refine tr_getR (x := 2) dX10_size_117 fl10_16 (hK 0 10 (by decide) kd_0) (hR 0 2 (some 2) (by decide +kernel) rf_0_2) ?_
    refine tr_getI dX10_size_120 fl10_278 (hK 2 0 (by decide) kd_2) ?_
    refine tr_topi 0 (hI 2 11 (by decide +kernel)) ?_
    exact tr_iret zX251 dX10_size_123 rfl (by decide) (by decide) ⟨(by rw [show cz_szv 6 = 0 by decide +kernel]), rfl, rfl, rfl, fun k hk => ⟨by first | rfl | (repeat rw [cz_uIn (by omega)]), by first | rfl | (repeat rw [cz_uRn (by omega)])⟩⟩
  · skip
    refine tr_iload_n dX10_size_0 rfl ?_
    refine tr_tabIn (off := 123) 124 dX10_size_1 (by decide +kernel) (by decide +kernel) (by decide +kernel) (by decide) ?_
    refine tr_aload_n dX10_size_124 rfl ?_
    refine tr_getR (x := 2) dX10_size_125 fl10_16 (hK 0 10 (by decide) kd_0) (hR 0 2 (some 2) (by decide +kernel) rf_0_2) ?_
    refine tr_getI dX10_size_128 fl10_338 (hK 2 0 (by decide) kd_2) ?_
    refine tr_topi 0 (hI 2 13 (by decide +kernel)) ?_
    exact tr_iret zX251 dX10_size_131 rfl (by decide) (by decide) ⟨(by rw [show cz_szv 7 = 0 by decide +kernel]), rfl, rfl, rfl, fun k hk => ⟨by first | rfl | (repeat rw [cz_uIn (by omega)]), by first | rfl | (repeat rw [cz_uRn (by omega)])⟩⟩
  · skip
    refine tr_iload_n dX10_size_0 rfl ?_
    refine tr_tabIn (off := 131) 132 dX10_size_1 (by decide +kernel) (by decide +kernel) (by decide +kernel) (by decide) ?_
    refine tr_aload_n dX10_size_132 rfl ?_
    refine tr_getR (x := 2) dX10_size_133 fl10_16 (hK 0 10 (by decide) kd_0) (hR 0 2 (some 2) (by decide +kernel) rf_0_2) ?_
    refine tr_getR (x := 6) dX10_size_136 fl10_341 (hK 2 0 (by decide) kd_2) (hR 2 8 (some 6) (by decide +kernel) rf_2_8) ?_
    refine tr_getI dX10_size_139 fl10_345 (hK 6 4 (by decide) kd_6) ?_
    refine tr_topi 0 (hI 6 0 (by decide +kernel)) ?_
    exact tr_iret zX251 dX10_size_142 rfl (by decide) (by decide) ⟨(by rw [show cz_szv 8 = 0 by decide +kernel]), rfl, rfl, rfl, fun k hk => ⟨by first | rfl | (repeat rw [cz_uIn (by omega)]), by first | rfl | (repeat rw [cz_uRn (by omega)])⟩⟩
  · skip
    refine tr_iload_n dX10_size_0 rfl ?_
    refine tr_tabIn (off := 142) 143 dX10_size_1 (by decide +kernel) (by decide +kernel) (by decide +kernel) (by decide) ?_
    refine tr_aload_n dX10_size_143 rfl ?_
    refine tr_getR (x := 89) dX10_size_144 fl10_35 (hK 0 10 (by decide) kd_0) (hR 0 6 (some 89) (by decide +kernel) rf_0_6) ?_
    refine tr_getI dX10_size_147 fl10_269 (hK 89 3 (by decide) kd_89) ?_
    refine tr_topi 0 (hI 89 1 (by decide +kernel)) ?_
    exact tr_iret zX251 dX10_size_150 rfl (by decide) (by decide) ⟨(by rw [show cz_szv 9 = 0 by decide +kernel]), rfl, rfl, rfl, fun k hk => ⟨by first | rfl | (repeat rw [cz_uIn (by omega)]), by first | rfl | (repeat rw [cz_uRn (by omega)])⟩⟩
  · skip
    refine tr_iload_n dX10_size_0 rfl ?_
    refine tr_tabIn (off := 150) 151 dX10_size_1 (by decide +kernel) (by decide +kernel) (by decide +kernel) (by decide) ?_
    refine tr_aload_n dX10_size_151 rfl ?_
    refine tr_getR (x := 92) dX10_size_152 fl10_42 (hK 0 10 (by decide) kd_0) (hR 0 7 (some 92) (by decide +kernel) rf_0_7) ?_
    refine tr_getI dX10_size_155 fl10_350 (hK 92 6 (by decide) kd_92) ?_
    refine tr_topi 0 (hI 92 0 (by decide +kernel)) ?_
    exact tr_iret zX251 dX10_size_158 rfl (by decide) (by decide) ⟨(by rw [show cz_szv 10 = 0 by decide +kernel]), rfl, rfl, rfl, fun k hk => ⟨by first | rfl | (repeat rw [cz_uIn (by omega)]), by first | rfl | (repeat rw [cz_uRn (by omega)])⟩⟩
  · skip
    refine tr_iload_n dX10_size_0 rfl ?_
    refine tr_tabIn (off := 158) 159 dX10_size_1 (by decide +kernel) (by decide +kernel) (by decide +kernel) (by decide) ?_
    refine tr_aload_n dX10_size_159 rfl ?_
    refine tr_getR (x := 92) dX10_size_160 fl10_42 (hK 0 10 (by decide) kd_0) (hR 0 7 (some 92) (by decide +kernel) rf_0_7) ?_
    refine tr_getI dX10_size_163 fl10_353 (hK 92 6 (by decide) kd_92) ?_
    refine tr_topi 0 (hI 92 2 (by decide +kernel)) ?_
    exact tr_iret zX251 dX10_size_166 rfl (by decide) (by decide) ⟨(by rw [show cz_szv 11 = 0 by decide +kernel]), rfl, rfl, rfl, fun k hk => ⟨by first | rfl | (repeat rw [cz_uIn (by omega)]), by first | rfl | (repeat rw [cz_uRn (by omega)])⟩⟩
  · skip
    refine tr_iload_n dX10_size_0 rfl ?_
    refine tr_tabIn (off := 166) 167 dX10_size_1 (by decide +kernel) (by decide +kernel) (by decide +kernel) (by decide) ?_
    refine tr_aload_n dX10_size_167 rfl ?_
    refine tr_getI dX10_size_168 fl10_71 (hK 0 10 (by decide) kd_0) ?_
    refine tr_topi 0 (hI 0 1 (by decide +kernel)) ?_
    exact tr_iret zX251 dX10_size_171 rfl (by decide) (by decide) ⟨(by rw [show cz_szv 12 = 0 by decide +kernel]), rfl, rfl, rfl, fun k hk => ⟨by first | rfl | (repeat rw [cz_uIn (by omega)]), by first | rfl | (repeat rw [cz_uRn (by omega)])⟩⟩
set_option maxHeartbeats 4000000 in
set_option maxRecDepth 100000 in
theorem fX12_size (a : Int32) {l : Launch} {K N : Nat → Nat} {I : cz_I} {R : cz_R} {L : cz_L} (hf : cz_f2 K N I R) : Con l mX12_size [.ref 183, .int a] 203 K N I R L (fun r _ _ _ _ _ _ => r = some (.int (cz_szv a))) := by
  obtain ⟨hK, hN, hR, hI, hI2⟩ := hf
  refine Con.of (by decide +kernel) rfl (Nat.le_of_ble_eq_true rfl) rfl (fun X252 hX252 zX252 => ?_)
  rcases cz_sz13 a with ha | ha | rfl | rfl | rfl | rfl | rfl | rfl | rfl | rfl | rfl | rfl | rfl | rfl | rfl
  · skip
    refine tr_aload_n dX12_size_0 rfl ?_
    refine tr_iconst (v := 0) dX12_size_1 (by decide +kernel) ?_
    refine tr_putI dX12_size_2 fl12_70 (hK 183 12 (by decide) kd_183) (Or.inl rfl) ?_
    refine tr_iload_n dX12_size_5 rfl ?_
    refine tr_bipush (v := 12) dX12_size_6 (by decide +kernel) ?_
    refine tr_icmp_ne 16 dX12_size_8 (by decide) (fun q253 => ?_) (fun q253 => ?_)
    · skip
      refine tr_iload_n dX12_size_16 rfl ?_
      refine tr_iconst (v := 0) dX12_size_17 (by decide +kernel) ?_
      refine tr_bipush (v := 11) dX12_size_18 (by decide +kernel) ?_
      refine tr_inSi (M' := mX12_in) (as := [_, _, _]) dX12_size_20 lk12_149 inX12_in myX12_in ⟨by decide, by decide⟩ rfl (Nat.le_of_ble_eq_true rfl) (by decide) (by decide) (Con.of (by decide +kernel) rfl (Nat.le_of_ble_eq_true rfl) rfl (fun X254 hX254 zX254 => ?_))
      refine tr_iload_n dX12_in_0 rfl ?_
      refine tr_iload_n dX12_in_1 rfl ?_
      refine tr_icmp_lt 14 dX12_in_2 (by decide) (fun q255 => ?_) (fun q255 => ?_)
      · skip
        refine tr_iconst (v := 0) dX12_in_14 (by decide +kernel) ?_
        refine tr_zret zX254 dX12_in_15 rfl (Or.inl rfl) (by decide) (by decide) ⟨_, rfl, ?_⟩
        refine tr_if_ne 28 dX12_size_23 (by decide) (fun h => absurd (by decide +kernel) h) (fun _ => ?_)
        refine tr_iconst (v := (-1)) dX12_size_26 (by decide +kernel) ?_
        exact tr_iret zX252 dX12_size_27 rfl (by decide) (by decide) (by rw [show cz_szv a = -1 from cz_szl ha])
      · skip
        exfalso
        have e0 : ((0 : Int32)).toInt = 0 := by decide +kernel
        have e1 : ((12 : Int32)).toInt = 12 := by decide +kernel
        simp only [Int32.lt_iff_toInt_lt, Int32.le_iff_toInt_le, ← Int32.toInt_inj] at q255
        simp only [Int32.lt_iff_toInt_lt, Int32.le_iff_toInt_le, ← Int32.toInt_inj] at ha
        simp only [Int32.lt_iff_toInt_lt, Int32.le_iff_toInt_le, ← Int32.toInt_inj] at q253
        omega
    · skip
      exfalso
      have e0 : ((0 : Int32)).toInt = 0 := by decide +kernel
      have e1 : ((12 : Int32)).toInt = 12 := by decide +kernel
      simp only [Int32.lt_iff_toInt_lt, Int32.le_iff_toInt_le, ← Int32.toInt_inj] at q253
      simp only [Int32.lt_iff_toInt_lt, Int32.le_iff_toInt_le, ← Int32.toInt_inj] at ha
      omega
  · skip
    refine tr_aload_n dX12_size_0 rfl ?_
    refine tr_iconst (v := 0) dX12_size_1 (by decide +kernel) ?_
    refine tr_putI dX12_size_2 fl12_70 (hK 183 12 (by decide) kd_183) (Or.inl rfl) ?_
    refine tr_iload_n dX12_size_5 rfl ?_
    refine tr_bipush (v := 12) dX12_size_6 (by decide +kernel) ?_
    refine tr_icmp_ne 16 dX12_size_8 (by decide) (fun q256 => ?_) (fun q256 => ?_)
    · skip
      refine tr_iload_n dX12_size_16 rfl ?_
      refine tr_iconst (v := 0) dX12_size_17 (by decide +kernel) ?_
      refine tr_bipush (v := 11) dX12_size_18 (by decide +kernel) ?_
      refine tr_inSi (M' := mX12_in) (as := [_, _, _]) dX12_size_20 lk12_149 inX12_in myX12_in ⟨by decide, by decide⟩ rfl (Nat.le_of_ble_eq_true rfl) (by decide) (by decide) (Con.of (by decide +kernel) rfl (Nat.le_of_ble_eq_true rfl) rfl (fun X257 hX257 zX257 => ?_))
      refine tr_iload_n dX12_in_0 rfl ?_
      refine tr_iload_n dX12_in_1 rfl ?_
      refine tr_icmp_lt 14 dX12_in_2 (by decide) (fun q258 => ?_) (fun q258 => ?_)
      · skip
        exfalso
        have e0 : ((0 : Int32)).toInt = 0 := by decide +kernel
        have e1 : ((12 : Int32)).toInt = 12 := by decide +kernel
        simp only [Int32.lt_iff_toInt_lt, Int32.le_iff_toInt_le, ← Int32.toInt_inj] at q258
        simp only [Int32.lt_iff_toInt_lt, Int32.le_iff_toInt_le, ← Int32.toInt_inj] at ha
        simp only [Int32.lt_iff_toInt_lt, Int32.le_iff_toInt_le, ← Int32.toInt_inj] at q256
        omega
      · skip
        refine tr_iload_n dX12_in_5 rfl ?_
        refine tr_iload_n dX12_in_6 rfl ?_
        refine tr_icmp_gt 14 dX12_in_7 (by decide) (fun q259 => ?_) (fun q259 => ?_)
        · skip
          refine tr_iconst (v := 0) dX12_in_14 (by decide +kernel) ?_
          refine tr_zret zX257 dX12_in_15 rfl (Or.inl rfl) (by decide) (by decide) ⟨_, rfl, ?_⟩
          refine tr_if_ne 28 dX12_size_23 (by decide) (fun h => absurd (by decide +kernel) h) (fun _ => ?_)
          refine tr_iconst (v := (-1)) dX12_size_26 (by decide +kernel) ?_
          exact tr_iret zX252 dX12_size_27 rfl (by decide) (by decide) (by rw [show cz_szv a = -1 from cz_szr ha])
        · skip
          exfalso
          have e0 : ((0 : Int32)).toInt = 0 := by decide +kernel
          have e1 : ((11 : Int32)).toInt = 11 := by decide +kernel
          have e2 : ((12 : Int32)).toInt = 12 := by decide +kernel
          simp only [Int32.lt_iff_toInt_lt, Int32.le_iff_toInt_le, ← Int32.toInt_inj] at q259
          simp only [Int32.lt_iff_toInt_lt, Int32.le_iff_toInt_le, ← Int32.toInt_inj] at ha
          simp only [Int32.lt_iff_toInt_lt, Int32.le_iff_toInt_le, ← Int32.toInt_inj] at q256
          simp only [Int32.lt_iff_toInt_lt, Int32.le_iff_toInt_le, ← Int32.toInt_inj] at q258
          omega
    · skip
      exfalso
      have e0 : ((0 : Int32)).toInt = 0 := by decide +kernel
      have e1 : ((12 : Int32)).toInt = 12 := by decide +kernel
      simp only [Int32.lt_iff_toInt_lt, Int32.le_iff_toInt_le, ← Int32.toInt_inj] at q256
      simp only [Int32.lt_iff_toInt_lt, Int32.le_iff_toInt_le, ← Int32.toInt_inj] at ha
      omega
  · skip
    refine tr_aload_n dX12_size_0 rfl ?_
    refine tr_iconst (v := 0) dX12_size_1 (by decide +kernel) ?_
    refine tr_putI dX12_size_2 fl12_70 (hK 183 12 (by decide) kd_183) (Or.inl rfl) ?_
    refine tr_iload_n dX12_size_5 rfl ?_
    refine tr_bipush (v := 12) dX12_size_6 (by decide +kernel) ?_
    refine tr_icmp_ne 16 dX12_size_8 (by decide) (fun _ => ?_) (fun h => absurd h (by decide +kernel))
    refine tr_iload_n dX12_size_16 rfl ?_
    refine tr_iconst (v := 0) dX12_size_17 (by decide +kernel) ?_
    refine tr_bipush (v := 11) dX12_size_18 (by decide +kernel) ?_
    refine tr_inSi (M' := mX12_in) (as := [_, _, _]) dX12_size_20 lk12_149 inX12_in myX12_in ⟨by decide, by decide⟩ rfl (Nat.le_of_ble_eq_true rfl) (by decide) (by decide) (Con.of (by decide +kernel) rfl (Nat.le_of_ble_eq_true rfl) rfl (fun X260 hX260 zX260 => ?_))
    refine tr_iload_n dX12_in_0 rfl ?_
    refine tr_iload_n dX12_in_1 rfl ?_
    refine tr_icmp_lt 14 dX12_in_2 (by decide) (fun h => absurd h (by decide +kernel)) (fun _ => ?_)
    refine tr_iload_n dX12_in_5 rfl ?_
    refine tr_iload_n dX12_in_6 rfl ?_
    refine tr_icmp_gt 14 dX12_in_7 (by decide) (fun h => absurd h (by decide +kernel)) (fun _ => ?_)
    refine tr_iconst (v := 1) dX12_in_10 (by decide +kernel) ?_
    refine tr_goto 15 dX12_in_11 (by decide) ?_
    refine tr_zret zX260 dX12_in_15 rfl (Or.inr rfl) (by decide) (by decide) ⟨_, rfl, ?_⟩
    refine tr_if_ne 28 dX12_size_23 (by decide) (fun _ => ?_) (fun h => absurd h (by decide +kernel))
    refine tr_aload_n dX12_size_28 rfl ?_
    refine tr_getN dX12_size_29 fl12_385 (hK 183 12 (by decide) kd_183) (hR 183 3 none (by decide +kernel) (by decide +kernel)) ?_
    refine tr_ifnonnullN dX12_size_32 ?_
    refine tr_iconst (v := 0) dX12_size_35 (by decide +kernel) ?_
    exact tr_iret zX252 dX12_size_36 rfl (by decide) (by decide) (by rw [show cz_szv 0 = 0 by decide +kernel])
  · skip
    refine tr_aload_n dX12_size_0 rfl ?_
    refine tr_iconst (v := 0) dX12_size_1 (by decide +kernel) ?_
    refine tr_putI dX12_size_2 fl12_70 (hK 183 12 (by decide) kd_183) (Or.inl rfl) ?_
    refine tr_iload_n dX12_size_5 rfl ?_
    refine tr_bipush (v := 12) dX12_size_6 (by decide +kernel) ?_
    refine tr_icmp_ne 16 dX12_size_8 (by decide) (fun _ => ?_) (fun h => absurd h (by decide +kernel))
    refine tr_iload_n dX12_size_16 rfl ?_
    refine tr_iconst (v := 0) dX12_size_17 (by decide +kernel) ?_
    refine tr_bipush (v := 11) dX12_size_18 (by decide +kernel) ?_
    refine tr_inSi (M' := mX12_in) (as := [_, _, _]) dX12_size_20 lk12_149 inX12_in myX12_in ⟨by decide, by decide⟩ rfl (Nat.le_of_ble_eq_true rfl) (by decide) (by decide) (Con.of (by decide +kernel) rfl (Nat.le_of_ble_eq_true rfl) rfl (fun X261 hX261 zX261 => ?_))
    refine tr_iload_n dX12_in_0 rfl ?_
    refine tr_iload_n dX12_in_1 rfl ?_
    refine tr_icmp_lt 14 dX12_in_2 (by decide) (fun h => absurd h (by decide +kernel)) (fun _ => ?_)
    refine tr_iload_n dX12_in_5 rfl ?_
    refine tr_iload_n dX12_in_6 rfl ?_
    refine tr_icmp_gt 14 dX12_in_7 (by decide) (fun h => absurd h (by decide +kernel)) (fun _ => ?_)
    refine tr_iconst (v := 1) dX12_in_10 (by decide +kernel) ?_
    refine tr_goto 15 dX12_in_11 (by decide) ?_
    refine tr_zret zX261 dX12_in_15 rfl (Or.inr rfl) (by decide) (by decide) ⟨_, rfl, ?_⟩
    refine tr_if_ne 28 dX12_size_23 (by decide) (fun _ => ?_) (fun h => absurd h (by decide +kernel))
    refine tr_aload_n dX12_size_28 rfl ?_
    refine tr_getN dX12_size_29 fl12_385 (hK 183 12 (by decide) kd_183) (hR 183 3 none (by decide +kernel) (by decide +kernel)) ?_
    refine tr_ifnonnullN dX12_size_32 ?_
    refine tr_iconst (v := 0) dX12_size_35 (by decide +kernel) ?_
    exact tr_iret zX252 dX12_size_36 rfl (by decide) (by decide) (by rw [show cz_szv 1 = 0 by decide +kernel])
  · skip
    refine tr_aload_n dX12_size_0 rfl ?_
    refine tr_iconst (v := 0) dX12_size_1 (by decide +kernel) ?_
    refine tr_putI dX12_size_2 fl12_70 (hK 183 12 (by decide) kd_183) (Or.inl rfl) ?_
    refine tr_iload_n dX12_size_5 rfl ?_
    refine tr_bipush (v := 12) dX12_size_6 (by decide +kernel) ?_
    refine tr_icmp_ne 16 dX12_size_8 (by decide) (fun _ => ?_) (fun h => absurd h (by decide +kernel))
    refine tr_iload_n dX12_size_16 rfl ?_
    refine tr_iconst (v := 0) dX12_size_17 (by decide +kernel) ?_
    refine tr_bipush (v := 11) dX12_size_18 (by decide +kernel) ?_
    refine tr_inSi (M' := mX12_in) (as := [_, _, _]) dX12_size_20 lk12_149 inX12_in myX12_in ⟨by decide, by decide⟩ rfl (Nat.le_of_ble_eq_true rfl) (by decide) (by decide) (Con.of (by decide +kernel) rfl (Nat.le_of_ble_eq_true rfl) rfl (fun X262 hX262 zX262 => ?_))
    refine tr_iload_n dX12_in_0 rfl ?_
    refine tr_iload_n dX12_in_1 rfl ?_
    refine tr_icmp_lt 14 dX12_in_2 (by decide) (fun h => absurd h (by decide +kernel)) (fun _ => ?_)
    refine tr_iload_n dX12_in_5 rfl ?_
    refine tr_iload_n dX12_in_6 rfl ?_
    refine tr_icmp_gt 14 dX12_in_7 (by decide) (fun h => absurd h (by decide +kernel)) (fun _ => ?_)
    refine tr_iconst (v := 1) dX12_in_10 (by decide +kernel) ?_
    refine tr_goto 15 dX12_in_11 (by decide) ?_
    refine tr_zret zX262 dX12_in_15 rfl (Or.inr rfl) (by decide) (by decide) ⟨_, rfl, ?_⟩
    refine tr_if_ne 28 dX12_size_23 (by decide) (fun _ => ?_) (fun h => absurd h (by decide +kernel))
    refine tr_aload_n dX12_size_28 rfl ?_
    refine tr_getN dX12_size_29 fl12_385 (hK 183 12 (by decide) kd_183) (hR 183 3 none (by decide +kernel) (by decide +kernel)) ?_
    refine tr_ifnonnullN dX12_size_32 ?_
    refine tr_iconst (v := 0) dX12_size_35 (by decide +kernel) ?_
    exact tr_iret zX252 dX12_size_36 rfl (by decide) (by decide) (by rw [show cz_szv 2 = 0 by decide +kernel])
  · skip
    refine tr_aload_n dX12_size_0 rfl ?_
    refine tr_iconst (v := 0) dX12_size_1 (by decide +kernel) ?_
    refine tr_putI dX12_size_2 fl12_70 (hK 183 12 (by decide) kd_183) (Or.inl rfl) ?_
    refine tr_iload_n dX12_size_5 rfl ?_
    refine tr_bipush (v := 12) dX12_size_6 (by decide +kernel) ?_
    refine tr_icmp_ne 16 dX12_size_8 (by decide) (fun _ => ?_) (fun h => absurd h (by decide +kernel))
    refine tr_iload_n dX12_size_16 rfl ?_
    refine tr_iconst (v := 0) dX12_size_17 (by decide +kernel) ?_
    refine tr_bipush (v := 11) dX12_size_18 (by decide +kernel) ?_
    refine tr_inSi (M' := mX12_in) (as := [_, _, _]) dX12_size_20 lk12_149 inX12_in myX12_in ⟨by decide, by decide⟩ rfl (Nat.le_of_ble_eq_true rfl) (by decide) (by decide) (Con.of (by decide +kernel) rfl (Nat.le_of_ble_eq_true rfl) rfl (fun X263 hX263 zX263 => ?_))
    refine tr_iload_n dX12_in_0 rfl ?_
    refine tr_iload_n dX12_in_1 rfl ?_
    refine tr_icmp_lt 14 dX12_in_2 (by decide) (fun h => absurd h (by decide +kernel)) (fun _ => ?_)
    refine tr_iload_n dX12_in_5 rfl ?_
    refine tr_iload_n dX12_in_6 rfl ?_
    refine tr_icmp_gt 14 dX12_in_7 (by decide) (fun h => absurd h (by decide +kernel)) (fun _ => ?_)
    refine tr_iconst (v := 1) dX12_in_10 (by decide +kernel) ?_
    refine tr_goto 15 dX12_in_11 (by decide) ?_
    refine tr_zret zX263 dX12_in_15 rfl (Or.inr rfl) (by decide) (by decide) ⟨_, rfl, ?_⟩
    refine tr_if_ne 28 dX12_size_23 (by decide) (fun _ => ?_) (fun h => absurd h (by decide +kernel))
    refine tr_aload_n dX12_size_28 rfl ?_
    refine tr_getN dX12_size_29 fl12_385 (hK 183 12 (by decide) kd_183) (hR 183 3 none (by decide +kernel) (by decide +kernel)) ?_
    refine tr_ifnonnullN dX12_size_32 ?_
    refine tr_iconst (v := 0) dX12_size_35 (by decide +kernel) ?_
    exact tr_iret zX252 dX12_size_36 rfl (by decide) (by decide) (by rw [show cz_szv 3 = 0 by decide +kernel])
  · skip
    refine tr_aload_n dX12_size_0 rfl ?_
    refine tr_iconst (v := 0) dX12_size_1 (by decide +kernel) ?_
    refine tr_putI dX12_size_2 fl12_70 (hK 183 12 (by decide) kd_183) (Or.inl rfl) ?_
    refine tr_iload_n dX12_size_5 rfl ?_
    refine tr_bipush (v := 12) dX12_size_6 (by decide +kernel) ?_
    refine tr_icmp_ne 16 dX12_size_8 (by decide) (fun _ => ?_) (fun h => absurd h (by decide +kernel))
    refine tr_iload_n dX12_size_16 rfl ?_
    refine tr_iconst (v := 0) dX12_size_17 (by decide +kernel) ?_
    refine tr_bipush (v := 11) dX12_size_18 (by decide +kernel) ?_
    refine tr_inSi (M' := mX12_in) (as := [_, _, _]) dX12_size_20 lk12_149 inX12_in myX12_in ⟨by decide, by decide⟩ rfl (Nat.le_of_ble_eq_true rfl) (by decide) (by decide) (Con.of (by decide +kernel) rfl (Nat.le_of_ble_eq_true rfl) rfl (fun X264 hX264 zX264 => ?_))
    refine tr_iload_n dX12_in_0 rfl ?_
    refine tr_iload_n dX12_in_1 rfl ?_
    refine tr_icmp_lt 14 dX12_in_2 (by decide) (fun h => absurd h (by decide +kernel)) (fun _ => ?_)
    refine tr_iload_n dX12_in_5 rfl ?_
    refine tr_iload_n dX12_in_6 rfl ?_
    refine tr_icmp_gt 14 dX12_in_7 (by decide) (fun h => absurd h (by decide +kernel)) (fun _ => ?_)
    refine tr_iconst (v := 1) dX12_in_10 (by decide +kernel) ?_
    refine tr_goto 15 dX12_in_11 (by decide) ?_
    refine tr_zret zX264 dX12_in_15 rfl (Or.inr rfl) (by decide) (by decide) ⟨_, rfl, ?_⟩
    refine tr_if_ne 28 dX12_size_23 (by decide) (fun _ => ?_) (fun h => absurd h (by decide +kernel))
    refine tr_aload_n dX12_size_28 rfl ?_
    refine tr_getN dX12_size_29 fl12_385 (hK 183 12 (by decide) kd_183) (hR 183 3 none (by decide +kernel) (by decide +kernel)) ?_
    refine tr_ifnonnullN dX12_size_32 ?_
    refine tr_iconst (v := 0) dX12_size_35 (by decide +kernel) ?_
    exact tr_iret zX252 dX12_size_36 rfl (by decide) (by decide) (by rw [show cz_szv 4 = 0 by decide +kernel])
  · skip
    refine tr_aload_n dX12_size_0 rfl ?_
    refine tr_iconst (v := 0) dX12_size_1 (by decide +kernel) ?_
    refine tr_putI dX12_size_2 fl12_70 (hK 183 12 (by decide) kd_183) (Or.inl rfl) ?_
    refine tr_iload_n dX12_size_5 rfl ?_
    refine tr_bipush (v := 12) dX12_size_6 (by decide +kernel) ?_
    refine tr_icmp_ne 16 dX12_size_8 (by decide) (fun _ => ?_) (fun h => absurd h (by decide +kernel))
    refine tr_iload_n dX12_size_16 rfl ?_
    refine tr_iconst (v := 0) dX12_size_17 (by decide +kernel) ?_
    refine tr_bipush (v := 11) dX12_size_18 (by decide +kernel) ?_
    refine tr_inSi (M' := mX12_in) (as := [_, _, _]) dX12_size_20 lk12_149 inX12_in myX12_in ⟨by decide, by decide⟩ rfl (Nat.le_of_ble_eq_true rfl) (by decide) (by decide) (Con.of (by decide +kernel) rfl (Nat.le_of_ble_eq_true rfl) rfl (fun X265 hX265 zX265 => ?_))
    refine tr_iload_n dX12_in_0 rfl ?_
    refine tr_iload_n dX12_in_1 rfl ?_
    refine tr_icmp_lt 14 dX12_in_2 (by decide) (fun h => absurd h (by decide +kernel)) (fun _ => ?_)
    refine tr_iload_n dX12_in_5 rfl ?_
    refine tr_iload_n dX12_in_6 rfl ?_
    refine tr_icmp_gt 14 dX12_in_7 (by decide) (fun h => absurd h (by decide +kernel)) (fun _ => ?_)
    refine tr_iconst (v := 1) dX12_in_10 (by decide +kernel) ?_
    refine tr_goto 15 dX12_in_11 (by decide) ?_
    refine tr_zret zX265 dX12_in_15 rfl (Or.inr rfl) (by decide) (by decide) ⟨_, rfl, ?_⟩
    refine tr_if_ne 28 dX12_size_23 (by decide) (fun _ => ?_) (fun h => absurd h (by decide +kernel))
    refine tr_aload_n dX12_size_28 rfl ?_
    refine tr_getN dX12_size_29 fl12_385 (hK 183 12 (by decide) kd_183) (hR 183 3 none (by decide +kernel) (by decide +kernel)) ?_
    refine tr_ifnonnullN dX12_size_32 ?_
    refine tr_iconst (v := 0) dX12_size_35 (by decide +kernel) ?_
    exact tr_iret zX252 dX12_size_36 rfl (by decide) (by decide) (by rw [show cz_szv 5 = 0 by decide +kernel])
  · skip
    refine tr_aload_n dX12_size_0 rfl ?_
    refine tr_iconst (v := 0) dX12_size_1 (by decide +kernel) ?_
    refine tr_putI dX12_size_2 fl12_70 (hK 183 12 (by decide) kd_183) (Or.inl rfl) ?_
    refine tr_iload_n dX12_size_5 rfl ?_
    refine tr_bipush (v := 12) dX12_size_6 (by decide +kernel) ?_
    refine tr_icmp_ne 16 dX12_size_8 (by decide) (fun _ => ?_) (fun h => absurd h (by decide +kernel))
    refine tr_iload_n dX12_size_16 rfl ?_
    refine tr_iconst (v := 0) dX12_size_17 (by decide +kernel) ?_
    refine tr_bipush (v := 11) dX12_size_18 (by decide +kernel) ?_
    refine tr_inSi (M' := mX12_in) (as := [_, _, _]) dX12_size_20 lk12_149 inX12_in myX12_in ⟨by decide, by decide⟩ rfl (Nat.le_of_ble_eq_true rfl) (by decide) (by decide) (Con.of (by decide +kernel) rfl (Nat.le_of_ble_eq_true rfl) rfl (fun X266 hX266 zX266 => ?_))
    refine tr_iload_n dX12_in_0 rfl ?_
    refine tr_iload_n dX12_in_1 rfl ?_
    refine tr_icmp_lt 14 dX12_in_2 (by decide) (fun h => absurd h (by decide +kernel)) (fun _ => ?_)
    refine tr_iload_n dX12_in_5 rfl ?_
    refine tr_iload_n dX12_in_6 rfl ?_
    refine tr_icmp_gt 14 dX12_in_7 (by decide) (fun h => absurd h (by decide +kernel)) (fun _ => ?_)
    refine tr_iconst (v := 1) dX12_in_10 (by decide +kernel) ?_
    refine tr_goto 15 dX12_in_11 (by decide) ?_
    refine tr_zret zX266 dX12_in_15 rfl (Or.inr rfl) (by decide) (by decide) ⟨_, rfl, ?_⟩
    refine tr_if_ne 28 dX12_size_23 (by decide) (fun _ => ?_) (fun h => absurd h (by decide +kernel))
    refine tr_aload_n dX12_size_28 rfl ?_
    refine tr_getN dX12_size_29 fl12_385 (hK 183 12 (by decide) kd_183) (hR 183 3 none (by decide +kernel) (by decide +kernel)) ?_
    refine tr_ifnonnullN dX12_size_32 ?_
    refine tr_iconst (v := 0) dX12_size_35 (by decide +kernel) ?_
    exact tr_iret zX252 dX12_size_36 rfl (by decide) (by decide) (by rw [show cz_szv 6 = 0 by decide +kernel])
  · skip
    refine tr_aload_n dX12_size_0 rfl ?_
    refine tr_iconst (v := 0) dX12_size_1 (by decide +kernel) ?_
    refine tr_putI dX12_size_2 fl12_70 (hK 183 12 (by decide) kd_183) (Or.inl rfl) ?_
    refine tr_iload_n dX12_size_5 rfl ?_
    refine tr_bipush (v := 12) dX12_size_6 (by decide +kernel) ?_
    refine tr_icmp_ne 16 dX12_size_8 (by decide) (fun _ => ?_) (fun h => absurd h (by decide +kernel))
    refine tr_iload_n dX12_size_16 rfl ?_
    refine tr_iconst (v := 0) dX12_size_17 (by decide +kernel) ?_
    refine tr_bipush (v := 11) dX12_size_18 (by decide +kernel) ?_
    refine tr_inSi (M' := mX12_in) (as := [_, _, _]) dX12_size_20 lk12_149 inX12_in myX12_in ⟨by decide, by decide⟩ rfl (Nat.le_of_ble_eq_true rfl) (by decide) (by decide) (Con.of (by decide +kernel) rfl (Nat.le_of_ble_eq_true rfl) rfl (fun X267 hX267 zX267 => ?_))
    refine tr_iload_n dX12_in_0 rfl ?_
    refine tr_iload_n dX12_in_1 rfl ?_
    refine tr_icmp_lt 14 dX12_in_2 (by decide) (fun h => absurd h (by decide +kernel)) (fun _ => ?_)
    refine tr_iload_n dX12_in_5 rfl ?_
    refine tr_iload_n dX12_in_6 rfl ?_
    refine tr_icmp_gt 14 dX12_in_7 (by decide) (fun h => absurd h (by decide +kernel)) (fun _ => ?_)
    refine tr_iconst (v := 1) dX12_in_10 (by decide +kernel) ?_
    refine tr_goto 15 dX12_in_11 (by decide) ?_
    refine tr_zret zX267 dX12_in_15 rfl (Or.inr rfl) (by decide) (by decide) ⟨_, rfl, ?_⟩
    refine tr_if_ne 28 dX12_size_23 (by decide) (fun _ => ?_) (fun h => absurd h (by decide +kernel))
    refine tr_aload_n dX12_size_28 rfl ?_
    refine tr_getN dX12_size_29 fl12_385 (hK 183 12 (by decide) kd_183) (hR 183 3 none (by decide +kernel) (by decide +kernel)) ?_
    refine tr_ifnonnullN dX12_size_32 ?_
    refine tr_iconst (v := 0) dX12_size_35 (by decide +kernel) ?_
    exact tr_iret zX252 dX12_size_36 rfl (by decide) (by decide) (by rw [show cz_szv 7 = 0 by decide +kernel])
  · skip
    refine tr_aload_n dX12_size_0 rfl ?_
    refine tr_iconst (v := 0) dX12_size_1 (by decide +kernel) ?_
    refine tr_putI dX12_size_2 fl12_70 (hK 183 12 (by decide) kd_183) (Or.inl rfl) ?_
    refine tr_iload_n dX12_size_5 rfl ?_
    refine tr_bipush (v := 12) dX12_size_6 (by decide +kernel) ?_
    refine tr_icmp_ne 16 dX12_size_8 (by decide) (fun _ => ?_) (fun h => absurd h (by decide +kernel))
    refine tr_iload_n dX12_size_16 rfl ?_
    refine tr_iconst (v := 0) dX12_size_17 (by decide +kernel) ?_
    refine tr_bipush (v := 11) dX12_size_18 (by decide +kernel) ?_
    refine tr_inSi (M' := mX12_in) (as := [_, _, _]) dX12_size_20 lk12_149 inX12_in myX12_in ⟨by decide, by decide⟩ rfl (Nat.le_of_ble_eq_true rfl) (by decide) (by decide) (Con.of (by decide +kernel) rfl (Nat.le_of_ble_eq_true rfl) rfl (fun X268 hX268 zX268 => ?_))
    refine tr_iload_n dX12_in_0 rfl ?_
    refine tr_iload_n dX12_in_1 rfl ?_
    refine tr_icmp_lt 14 dX12_in_2 (by decide) (fun h => absurd h (by decide +kernel)) (fun _ => ?_)
    refine tr_iload_n dX12_in_5 rfl ?_
    refine tr_iload_n dX12_in_6 rfl ?_
    refine tr_icmp_gt 14 dX12_in_7 (by decide) (fun h => absurd h (by decide +kernel)) (fun _ => ?_)
    refine tr_iconst (v := 1) dX12_in_10 (by decide +kernel) ?_
    refine tr_goto 15 dX12_in_11 (by decide) ?_
    refine tr_zret zX268 dX12_in_15 rfl (Or.inr rfl) (by decide) (by decide) ⟨_, rfl, ?_⟩
    refine tr_if_ne 28 dX12_size_23 (by decide) (fun _ => ?_) (fun h => absurd h (by decide +kernel))
    refine tr_aload_n dX12_size_28 rfl ?_
    refine tr_getN dX12_size_29 fl12_385 (hK 183 12 (by decide) kd_183) (hR 183 3 none (by decide +kernel) (by decide +kernel)) ?_
    refine tr_ifnonnullN dX12_size_32 ?_
    refine tr_iconst (v := 0) dX12_size_35 (by decide +kernel) ?_
    exact tr_iret zX252 dX12_size_36 rfl (by decide) (by decide) (by rw [show cz_szv 8 = 0 by decide +kernel])
  · skip
    refine tr_aload_n dX12_size_0 rfl ?_
    refine tr_iconst (v := 0) dX12_size_1 (by decide +kernel) ?_
    refine tr_putI dX12_size_2 fl12_70 (hK 183 12 (by decide) kd_183) (Or.inl rfl) ?_
    refine tr_iload_n dX12_size_5 rfl ?_
    refine tr_bipush (v := 12) dX12_size_6 (by decide +kernel) ?_
    refine tr_icmp_ne 16 dX12_size_8 (by decide) (fun _ => ?_) (fun h => absurd h (by decide +kernel))
    refine tr_iload_n dX12_size_16 rfl ?_
    refine tr_iconst (v := 0) dX12_size_17 (by decide +kernel) ?_
    refine tr_bipush (v := 11) dX12_size_18 (by decide +kernel) ?_
    refine tr_inSi (M' := mX12_in) (as := [_, _, _]) dX12_size_20 lk12_149 inX12_in myX12_in ⟨by decide, by decide⟩ rfl (Nat.le_of_ble_eq_true rfl) (by decide) (by decide) (Con.of (by decide +kernel) rfl (Nat.le_of_ble_eq_true rfl) rfl (fun X269 hX269 zX269 => ?_))
    refine tr_iload_n dX12_in_0 rfl ?_
    refine tr_iload_n dX12_in_1 rfl ?_
    refine tr_icmp_lt 14 dX12_in_2 (by decide) (fun h => absurd h (by decide +kernel)) (fun _ => ?_)
    refine tr_iload_n dX12_in_5 rfl ?_
    refine tr_iload_n dX12_in_6 rfl ?_
    refine tr_icmp_gt 14 dX12_in_7 (by decide) (fun h => absurd h (by decide +kernel)) (fun _ => ?_)
    refine tr_iconst (v := 1) dX12_in_10 (by decide +kernel) ?_
    refine tr_goto 15 dX12_in_11 (by decide) ?_
    refine tr_zret zX269 dX12_in_15 rfl (Or.inr rfl) (by decide) (by decide) ⟨_, rfl, ?_⟩
    refine tr_if_ne 28 dX12_size_23 (by decide) (fun _ => ?_) (fun h => absurd h (by decide +kernel))
    refine tr_aload_n dX12_size_28 rfl ?_
    refine tr_getN dX12_size_29 fl12_385 (hK 183 12 (by decide) kd_183) (hR 183 3 none (by decide +kernel) (by decide +kernel)) ?_
    refine tr_ifnonnullN dX12_size_32 ?_
    refine tr_iconst (v := 0) dX12_size_35 (by decide +kernel) ?_
    exact tr_iret zX252 dX12_size_36 rfl (by decide) (by decide) (by rw [show cz_szv 9 = 0 by decide +kernel])
  · skip
    refine tr_aload_n dX12_size_0 rfl ?_
    refine tr_iconst (v := 0) dX12_size_1 (by decide +kernel) ?_
    refine tr_putI dX12_size_2 fl12_70 (hK 183 12 (by decide) kd_183) (Or.inl rfl) ?_
    refine tr_iload_n dX12_size_5 rfl ?_
    refine tr_bipush (v := 12) dX12_size_6 (by decide +kernel) ?_
    refine tr_icmp_ne 16 dX12_size_8 (by decide) (fun _ => ?_) (fun h => absurd h (by decide +kernel))
    refine tr_iload_n dX12_size_16 rfl ?_
    refine tr_iconst (v := 0) dX12_size_17 (by decide +kernel) ?_
    refine tr_bipush (v := 11) dX12_size_18 (by decide +kernel) ?_
    refine tr_inSi (M' := mX12_in) (as := [_, _, _]) dX12_size_20 lk12_149 inX12_in myX12_in ⟨by decide, by decide⟩ rfl (Nat.le_of_ble_eq_true rfl) (by decide) (by decide) (Con.of (by decide +kernel) rfl (Nat.le_of_ble_eq_true rfl) rfl (fun X270 hX270 zX270 => ?_))
    refine tr_iload_n dX12_in_0 rfl ?_
    refine tr_iload_n dX12_in_1 rfl ?_
    refine tr_icmp_lt 14 dX12_in_2 (by decide) (fun h => absurd h (by decide +kernel)) (fun _ => ?_)
    refine tr_iload_n dX12_in_5 rfl ?_
    refine tr_iload_n dX12_in_6 rfl ?_
    refine tr_icmp_gt 14 dX12_in_7 (by decide) (fun h => absurd h (by decide +kernel)) (fun _ => ?_)
    refine tr_iconst (v := 1) dX12_in_10 (by decide +kernel) ?_
    refine tr_goto 15 dX12_in_11 (by decide) ?_
    refine tr_zret zX270 dX12_in_15 rfl (Or.inr rfl) (by decide) (by decide) ⟨_, rfl, ?_⟩
    refine tr_if_ne 28 dX12_size_23 (by decide) (fun _ => ?_) (fun h => absurd h (by decide +kernel))
    refine tr_aload_n dX12_size_28 rfl ?_
    refine tr_getN dX12_size_29 fl12_385 (hK 183 12 (by decide) kd_183) (hR 183 3 none (by decide +kernel) (by decide +kernel)) ?_
    refine tr_ifnonnullN dX12_size_32 ?_
    refine tr_iconst (v := 0) dX12_size_35 (by decide +kernel) ?_
    exact tr_iret zX252 dX12_size_36 rfl (by decide) (by decide) (by rw [show cz_szv 10 = 0 by decide +kernel])
  · skip
    refine tr_aload_n dX12_size_0 rfl ?_
    refine tr_iconst (v := 0) dX12_size_1 (by decide +kernel) ?_
    refine tr_putI dX12_size_2 fl12_70 (hK 183 12 (by decide) kd_183) (Or.inl rfl) ?_
    refine tr_iload_n dX12_size_5 rfl ?_
    refine tr_bipush (v := 12) dX12_size_6 (by decide +kernel) ?_
    refine tr_icmp_ne 16 dX12_size_8 (by decide) (fun _ => ?_) (fun h => absurd h (by decide +kernel))
    refine tr_iload_n dX12_size_16 rfl ?_
    refine tr_iconst (v := 0) dX12_size_17 (by decide +kernel) ?_
    refine tr_bipush (v := 11) dX12_size_18 (by decide +kernel) ?_
    refine tr_inSi (M' := mX12_in) (as := [_, _, _]) dX12_size_20 lk12_149 inX12_in myX12_in ⟨by decide, by decide⟩ rfl (Nat.le_of_ble_eq_true rfl) (by decide) (by decide) (Con.of (by decide +kernel) rfl (Nat.le_of_ble_eq_true rfl) rfl (fun X271 hX271 zX271 => ?_))
    refine tr_iload_n dX12_in_0 rfl ?_
    refine tr_iload_n dX12_in_1 rfl ?_
    refine tr_icmp_lt 14 dX12_in_2 (by decide) (fun h => absurd h (by decide +kernel)) (fun _ => ?_)
    refine tr_iload_n dX12_in_5 rfl ?_
    refine tr_iload_n dX12_in_6 rfl ?_
    refine tr_icmp_gt 14 dX12_in_7 (by decide) (fun h => absurd h (by decide +kernel)) (fun _ => ?_)
    refine tr_iconst (v := 1) dX12_in_10 (by decide +kernel) ?_
    refine tr_goto 15 dX12_in_11 (by decide) ?_
    refine tr_zret zX271 dX12_in_15 rfl (Or.inr rfl) (by decide) (by decide) ⟨_, rfl, ?_⟩
    refine tr_if_ne 28 dX12_size_23 (by decide) (fun _ => ?_) (fun h => absurd h (by decide +kernel))
    refine tr_aload_n dX12_size_28 rfl ?_
    refine tr_getN dX12_size_29 fl12_385 (hK 183 12 (by decide) kd_183) (hR 183 3 none (by decide +kernel) (by decide +kernel)) ?_
    refine tr_ifnonnullN dX12_size_32 ?_
    refine tr_iconst (v := 0) dX12_size_35 (by decide +kernel) ?_
    exact tr_iret zX252 dX12_size_36 rfl (by decide) (by decide) (by rw [show cz_szv 11 = 0 by decide +kernel])
  · skip
    refine tr_aload_n dX12_size_0 rfl ?_
    refine tr_iconst (v := 0) dX12_size_1 (by decide +kernel) ?_
    refine tr_putI dX12_size_2 fl12_70 (hK 183 12 (by decide) kd_183) (Or.inl rfl) ?_
    refine tr_iload_n dX12_size_5 rfl ?_
    refine tr_bipush (v := 12) dX12_size_6 (by decide +kernel) ?_
    refine tr_icmp_ne 16 dX12_size_8 (by decide) (fun h => absurd (by decide +kernel) h) (fun _ => ?_)
    refine tr_aload_n dX12_size_11 rfl ?_
    refine tr_getI dX12_size_12 fl12_378 (hK 183 12 (by decide) kd_183) ?_
    refine tr_topi 0 (hI 183 6 (by decide +kernel)) ?_
    exact tr_iret zX252 dX12_size_15 rfl (by decide) (by decide) (by rw [show cz_szv 12 = 0 by decide +kernel])
set_option maxHeartbeats 4000000 in
set_option maxRecDepth 100000 in
theorem fX10_trouble {l : Launch} {K N : Nat → Nat} {I : cz_I} {R : cz_R} {L : cz_L} (hf : cz_f1 K N I R) : Con l mX10_trouble [.ref 0] 203 K N I R L (fun r cn' K' N' I' R' _ => r = some (.int (0)) ∧ cn' = 203 ∧ K' = K ∧ N' = N ∧ ∀ k : Nat, 183 ≤ k → I' k = I k ∧ R' k = R k) := by
  obtain ⟨hK, hN, hR, hI⟩ := hf
  refine Con.of (by decide +kernel) rfl (Nat.le_of_ble_eq_true rfl) rfl (fun X272 hX272 zX272 => ?_)
  refine tr_aload_n dX10_trouble_0 rfl ?_
  refine tr_getI dX10_trouble_1 fl10_112 (hK 0 10 (by decide) kd_0) ?_
  refine tr_topi 0 (hI 0 17 (by decide +kernel)) ?_
  exact tr_iret zX272 dX10_trouble_4 rfl (by decide) (by decide) ⟨rfl, rfl, rfl, rfl, fun k hk => ⟨by first | rfl | (repeat rw [cz_uIn (by omega)]), by first | rfl | (repeat rw [cz_uRn (by omega)])⟩⟩
set_option maxHeartbeats 4000000 in
set_option maxRecDepth 100000 in
theorem fX12_trouble {l : Launch} {K N : Nat → Nat} {I : cz_I} {R : cz_R} {L : cz_L} (hf : cz_f2 K N I R) : Con l mX12_trouble [.ref 183] 203 K N I R L (fun r _ _ _ _ _ _ => r = some (.int (0))) := by
  obtain ⟨hK, hN, hR, hI, hI2⟩ := hf
  refine Con.of (by decide +kernel) rfl (Nat.le_of_ble_eq_true rfl) rfl (fun X273 hX273 zX273 => ?_)
  refine tr_aload_n dX12_trouble_0 rfl ?_
  refine tr_iconst (v := 0) dX12_trouble_1 (by decide +kernel) ?_
  refine tr_putI dX12_trouble_2 fl12_70 (hK 183 12 (by decide) kd_183) (Or.inl rfl) ?_
  refine tr_aload_n dX12_trouble_5 rfl ?_
  refine tr_getI dX12_trouble_6 fl12_73 (hK 183 12 (by decide) kd_183) ?_
  refine tr_topi 0 (hI 183 1 (by decide +kernel)) ?_
  exact tr_iret zX273 dX12_trouble_9 rfl (by decide) (by decide) rfl
