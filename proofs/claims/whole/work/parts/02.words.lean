theorem lk1_9 : Cond.fieldLink R1 9 "FencedTreeHeap$State" "keys" "[I" ∈ BG := bg_t 20 (by decide +kernel) (by decide +kernel)
theorem lk1_15 : Cond.fieldLink R1 15 "FencedTreeHeap$State" "values" "[I" ∈ BG := bg_t 21 (by decide +kernel) (by decide +kernel)
theorem lk2_53 : Cond.fieldLink R2 53 "FencedTreeHeap$State" "values" "[I" ∈ BG := bg_t 22 (by decide +kernel) (by decide +kernel)
theorem lk1_18 : Cond.fieldLink R1 18 "FencedTreeHeap$State" "ranks" "[I" ∈ BG := bg_t 23 (by decide +kernel) (by decide +kernel)
theorem lk1_21 : Cond.fieldLink R1 21 "FencedTreeHeap$State" "nodeOf" "[I" ∈ BG := bg_t 24 (by decide +kernel) (by decide +kernel)
theorem lk0_24 : Cond.fieldLink R0 24 "FencedTreeHeap$State" "nodeOf" "[I" ∈ BG := bg_t 25 (by decide +kernel) (by decide +kernel)
theorem lk1_24 : Cond.fieldLink R1 24 "FencedTreeHeap$State" "count" "I" ∈ BG := bg_t 26 (by decide +kernel) (by decide +kernel)
theorem lk0_19 : Cond.fieldLink R0 19 "FencedTreeHeap$State" "count" "I" ∈ BG := bg_t 27 (by decide +kernel) (by decide +kernel)
theorem lk2_57 : Cond.fieldLink R2 57 "FencedTreeHeap$State" "count" "I" ∈ BG := bg_t 28 (by decide +kernel) (by decide +kernel)
theorem lk0_9 : Cond.fieldLink R0 9 "FencedTreeHeap$Heap" "used" "[Z" ∈ BG := bg_t 48 (by decide +kernel) (by decide +kernel)
theorem lk0_15 : Cond.fieldLink R0 15 "FencedTreeHeap$Heap" "inUse" "I" ∈ BG := bg_t 49 (by decide +kernel) (by decide +kernel)
theorem lk2_88 : Cond.fieldLink R2 88 "FencedTreeHeap$Heap" "inUse" "I" ∈ BG := bg_t 50 (by decide +kernel) (by decide +kernel)
theorem lk2_10 : Cond.fieldLink R2 10 "FencedTreeHeap" "map" "LFencedTreeHeap$State;" ∈ BG := bg_t 57 (by decide +kernel) (by decide +kernel)
theorem lk2_16 : Cond.fieldLink R2 16 "FencedTreeHeap" "draft" "LFencedTreeHeap$State;" ∈ BG := bg_t 58 (by decide +kernel) (by decide +kernel)
theorem lk2_19 : Cond.fieldLink R2 19 "FencedTreeHeap" "slots" "[LFencedTreeHeap$State;" ∈ BG := bg_t 59 (by decide +kernel) (by decide +kernel)
theorem lk2_23 : Cond.fieldLink R2 23 "FencedTreeHeap" "taken" "[Z" ∈ BG := bg_t 60 (by decide +kernel) (by decide +kernel)
theorem lk2_30 : Cond.fieldLink R2 30 "FencedTreeHeap" "heap" "LFencedTreeHeap$Heap;" ∈ BG := bg_t 61 (by decide +kernel) (by decide +kernel)
theorem lk2_38 : Cond.fieldLink R2 38 "FencedTreeHeap" "down" "Z" ∈ BG := bg_t 62 (by decide +kernel) (by decide +kernel)
theorem lk2_100 : Cond.fieldLink R2 100 "FencedTreeHeap" "rootStored" "Z" ∈ BG := bg_t 63 (by decide +kernel) (by decide +kernel)
theorem lk2_97 : Cond.fieldLink R2 97 "FencedTreeHeap" "rootFlushed" "Z" ∈ BG := bg_t 64 (by decide +kernel) (by decide +kernel)
theorem lk2_34 : Cond.fieldLink R2 34 "FencedTreeHeap" "eventsToCut" "I" ∈ BG := bg_t 65 (by decide +kernel) (by decide +kernel)
theorem lk2_103 : Cond.fieldLink R2 103 "FencedTreeHeap" "eventsDone" "I" ∈ BG := bg_t 66 (by decide +kernel) (by decide +kernel)
theorem lk2_106 : Cond.fieldLink R2 106 "FencedTreeHeap" "fencesDone" "I" ∈ BG := bg_t 67 (by decide +kernel) (by decide +kernel)
theorem ck2_109 : Cond.constant R2 109 (999999999) ∈ BG := bg_t 105 (by decide +kernel) (by decide +kernel)
theorem ck1_48 : Cond.constant R1 48 (1664525) ∈ BG := bg_t 132 (by decide +kernel) (by decide +kernel)
theorem ck1_49 : Cond.constant R1 49 (1013904223) ∈ BG := bg_t 133 (by decide +kernel) (by decide +kernel)
theorem ck1_50 : Cond.constant R1 50 (1048575) ∈ BG := bg_t 134 (by decide +kernel) (by decide +kernel)
theorem lk3_7 : Cond.fieldLink R3 7 "FencedTreeHeapModel" "count" "[I" ∈ BG := bg_t 269 (by decide +kernel) (by decide +kernel)
theorem lk3_13 : Cond.fieldLink R3 13 "FencedTreeHeapModel" "keys" "[I" ∈ BG := bg_t 270 (by decide +kernel) (by decide +kernel)
theorem lk3_16 : Cond.fieldLink R3 16 "FencedTreeHeapModel" "values" "[I" ∈ BG := bg_t 271 (by decide +kernel) (by decide +kernel)
theorem lk3_19 : Cond.fieldLink R3 19 "FencedTreeHeapModel" "ids" "[I" ∈ BG := bg_t 272 (by decide +kernel) (by decide +kernel)
theorem lk3_22 : Cond.fieldLink R3 22 "FencedTreeHeapModel" "held" "[Z" ∈ BG := bg_t 273 (by decide +kernel) (by decide +kernel)
theorem lk3_58 : Cond.fieldLink R3 58 "FencedTreeHeapModel" "made" "I" ∈ BG := bg_t 274 (by decide +kernel) (by decide +kernel)
theorem lk3_88 : Cond.fieldLink R3 88 "FencedTreeHeapModel" "down" "Z" ∈ BG := bg_t 275 (by decide +kernel) (by decide +kernel)
theorem lk3_85 : Cond.fieldLink R3 85 "FencedTreeHeapModel" "pending" "Z" ∈ BG := bg_t 276 (by decide +kernel) (by decide +kernel)
theorem lk3_78 : Cond.fieldLink R3 78 "FencedTreeHeapModel" "stored" "Z" ∈ BG := bg_t 277 (by decide +kernel) (by decide +kernel)
theorem lk3_82 : Cond.fieldLink R3 82 "FencedTreeHeapModel" "flushed" "Z" ∈ BG := bg_t 278 (by decide +kernel) (by decide +kernel)
theorem lk3_26 : Cond.fieldLink R3 26 "FencedTreeHeapModel" "left" "I" ∈ BG := bg_t 279 (by decide +kernel) (by decide +kernel)
theorem lk3_68 : Cond.fieldLink R3 68 "FencedTreeHeapModel" "events" "I" ∈ BG := bg_t 280 (by decide +kernel) (by decide +kernel)
theorem lk3_71 : Cond.fieldLink R3 71 "FencedTreeHeapModel" "fences" "I" ∈ BG := bg_t 281 (by decide +kernel) (by decide +kernel)
theorem ck3_91 : Cond.constant R3 91 (999999999) ∈ BG := bg_t 317 (by decide +kernel) (by decide +kernel)
theorem ck3_30 : Cond.constant R3 30 (1664525) ∈ BG := bg_t 348 (by decide +kernel) (by decide +kernel)
theorem ck3_31 : Cond.constant R3 31 (1013904223) ∈ BG := bg_t 349 (by decide +kernel) (by decide +kernel)
theorem ck3_32 : Cond.constant R3 32 (1048575) ∈ BG := bg_t 350 (by decide +kernel) (by decide +kernel)
theorem gd_V {c0 : Cond} {own C : String} {index maxL : Nat} {y : MethodName} {bytes : ByteArray} {ret : Option FieldType} (h1 : Cond.methodLink own index y ∈ BG) (h2 : Cond.instanceMethod y ∈ BG) (h3 : Cond.selects C y y ∈ BG) (h4 : Cond.initialized C ∈ BG) (h5 : Cond.code y bytes maxL ret ∈ BG) : GoodIn (c0 :: BG) (wsV own index C y (Cond.code y bytes maxL ret :: BG)) := by
  intro w hw
  have : w ∈ BG := by
    rcases List.mem_append.mp hw with h | h
    · simp only [List.mem_cons, List.not_mem_nil, or_false] at h
      rcases h with rfl | rfl | rfl | rfl <;> assumption
    · rcases List.mem_cons.mp h with rfl | h <;> assumption
  exact bg_good this
theorem gd_S {c0 : Cond} {own : String} {index maxL : Nat} {y : MethodName} {bytes : ByteArray} {ret : Option FieldType} (h1 : Cond.methodLink own index y ∈ BG) (h2 : Cond.static y ∈ BG) (h4 : Cond.initialized own ∈ BG) (h5 : Cond.code y bytes maxL ret ∈ BG) : GoodIn (c0 :: BG) (wsS own index y (Cond.code y bytes maxL ret :: BG)) := by
  intro w hw
  have : w ∈ BG := by
    rcases List.mem_append.mp hw with h | h
    · simp only [List.mem_cons, List.not_mem_nil, or_false] at h
      rcases h with rfl | rfl | rfl <;> assumption
    · rcases List.mem_cons.mp h with rfl | h <;> assumption
  exact bg_good this
theorem ini0 : Cond.initialized R0 ∈ BG := bg_t 3 (by decide +kernel) (by decide +kernel)
theorem ini1 : Cond.initialized R1 ∈ BG := bg_t 2 (by decide +kernel) (by decide +kernel)
theorem ini2 : Cond.initialized R2 ∈ BG := bg_t 1 (by decide +kernel) (by decide +kernel)
theorem ini3 : Cond.initialized R3 ∈ BG := bg_t 4 (by decide +kernel) (by decide +kernel)
theorem cd2_init : Cond.code y2_init c2_init 2 none ∈ BG := bg_t 10 (by decide +kernel) (by decide +kernel)
theorem cd1_init : Cond.code y1_init c1_init 1 none ∈ BG := bg_t 18 (by decide +kernel) (by decide +kernel)
theorem cd0_init : Cond.code y0_init c0_init 1 none ∈ BG := bg_t 46 (by decide +kernel) (by decide +kernel)
theorem cd2_cut : Cond.code y2_cut c2_cut 2 (some .boolean) ∈ BG := bg_t 94 (by decide +kernel) (by decide +kernel)
theorem hd2_cut : y2_cut.cls = R2 ∧ y2_cut.cls ≠ "java/lang/invoke/MethodHandle" ∧ y2_cut.cls ≠ "java/lang/invoke/VarHandle" ∧ (parseMethodDescriptor y2_cut.desc).map (fun d => d.parameters.length) = some 1 := by decide +kernel
theorem im2_cut : Cond.instanceMethod y2_cut ∈ BG := bg_t 92 (by decide +kernel) (by decide +kernel)
theorem se2_cut : Cond.selects R2 y2_cut y2_cut ∈ BG := bg_t 93 (by decide +kernel) (by decide +kernel)
theorem cd2_put : Cond.code y2_put c2_put 4 (some .int) ∈ BG := bg_t 98 (by decide +kernel) (by decide +kernel)
theorem hd2_put : y2_put.cls = R2 ∧ y2_put.cls ≠ "java/lang/invoke/MethodHandle" ∧ y2_put.cls ≠ "java/lang/invoke/VarHandle" ∧ (parseMethodDescriptor y2_put.desc).map (fun d => d.parameters.length) = some 2 := by decide +kernel
theorem im2_put : Cond.instanceMethod y2_put ∈ BG := bg_t 96 (by decide +kernel) (by decide +kernel)
theorem se2_put : Cond.selects R2 y2_put y2_put ∈ BG := bg_t 97 (by decide +kernel) (by decide +kernel)
theorem cd2_isKey : Cond.code y2_isKey c2_isKey 1 (some .boolean) ∈ BG := bg_t 101 (by decide +kernel) (by decide +kernel)
theorem hd2_isKey : y2_isKey.cls = R2 ∧ y2_isKey.cls ≠ "java/lang/invoke/MethodHandle" ∧ y2_isKey.cls ≠ "java/lang/invoke/VarHandle" ∧ (parseMethodDescriptor y2_isKey.desc).map (fun d => d.parameters.length) = some 1 := by decide +kernel
theorem st2_isKey : Cond.static y2_isKey ∈ BG := bg_t 100 (by decide +kernel) (by decide +kernel)
theorem cd2_isValue : Cond.code y2_isValue c2_isValue 1 (some .boolean) ∈ BG := bg_t 104 (by decide +kernel) (by decide +kernel)
theorem hd2_isValue : y2_isValue.cls = R2 ∧ y2_isValue.cls ≠ "java/lang/invoke/MethodHandle" ∧ y2_isValue.cls ≠ "java/lang/invoke/VarHandle" ∧ (parseMethodDescriptor y2_isValue.desc).map (fun d => d.parameters.length) = some 1 := by decide +kernel
theorem st2_isValue : Cond.static y2_isValue ∈ BG := bg_t 103 (by decide +kernel) (by decide +kernel)
theorem cd1_indexOf : Cond.code y1_indexOf c1_indexOf 3 (some .int) ∈ BG := bg_t 109 (by decide +kernel) (by decide +kernel)
theorem hd1_indexOf : y1_indexOf.cls = R1 ∧ y1_indexOf.cls ≠ "java/lang/invoke/MethodHandle" ∧ y1_indexOf.cls ≠ "java/lang/invoke/VarHandle" ∧ (parseMethodDescriptor y1_indexOf.desc).map (fun d => d.parameters.length) = some 1 := by decide +kernel
theorem im1_indexOf : Cond.instanceMethod y1_indexOf ∈ BG := bg_t 107 (by decide +kernel) (by decide +kernel)
theorem se1_indexOf : Cond.selects R1 y1_indexOf y1_indexOf ∈ BG := bg_t 108 (by decide +kernel) (by decide +kernel)
theorem cd1_indexFrom : Cond.code y1_indexFrom c1_indexFrom 3 (some .int) ∈ BG := bg_t 113 (by decide +kernel) (by decide +kernel)
theorem hd1_indexFrom : y1_indexFrom.cls = R1 ∧ y1_indexFrom.cls ≠ "java/lang/invoke/MethodHandle" ∧ y1_indexFrom.cls ≠ "java/lang/invoke/VarHandle" ∧ (parseMethodDescriptor y1_indexFrom.desc).map (fun d => d.parameters.length) = some 1 := by decide +kernel
theorem im1_indexFrom : Cond.instanceMethod y1_indexFrom ∈ BG := bg_t 111 (by decide +kernel) (by decide +kernel)
theorem se1_indexFrom : Cond.selects R1 y1_indexFrom y1_indexFrom ∈ BG := bg_t 112 (by decide +kernel) (by decide +kernel)
theorem cd1_copyFrom : Cond.code y1_copyFrom c1_copyFrom 2 none ∈ BG := bg_t 117 (by decide +kernel) (by decide +kernel)
theorem hd1_copyFrom : y1_copyFrom.cls = R1 ∧ y1_copyFrom.cls ≠ "java/lang/invoke/MethodHandle" ∧ y1_copyFrom.cls ≠ "java/lang/invoke/VarHandle" ∧ (parseMethodDescriptor y1_copyFrom.desc).map (fun d => d.parameters.length) = some 1 := by decide +kernel
theorem im1_copyFrom : Cond.instanceMethod y1_copyFrom ∈ BG := bg_t 115 (by decide +kernel) (by decide +kernel)
theorem se1_copyFrom : Cond.selects R1 y1_copyFrom y1_copyFrom ∈ BG := bg_t 116 (by decide +kernel) (by decide +kernel)
theorem cd1_insert : Cond.code y1_insert c1_insert 5 none ∈ BG := bg_t 124 (by decide +kernel) (by decide +kernel)
theorem hd1_insert : y1_insert.cls = R1 ∧ y1_insert.cls ≠ "java/lang/invoke/MethodHandle" ∧ y1_insert.cls ≠ "java/lang/invoke/VarHandle" ∧ (parseMethodDescriptor y1_insert.desc).map (fun d => d.parameters.length) = some 2 := by decide +kernel
theorem im1_insert : Cond.instanceMethod y1_insert ∈ BG := bg_t 122 (by decide +kernel) (by decide +kernel)
theorem se1_insert : Cond.selects R1 y1_insert y1_insert ∈ BG := bg_t 123 (by decide +kernel) (by decide +kernel)
theorem cd1_moveEntry : Cond.code y1_moveEntry c1_moveEntry 3 none ∈ BG := bg_t 128 (by decide +kernel) (by decide +kernel)
theorem hd1_moveEntry : y1_moveEntry.cls = R1 ∧ y1_moveEntry.cls ≠ "java/lang/invoke/MethodHandle" ∧ y1_moveEntry.cls ≠ "java/lang/invoke/VarHandle" ∧ (parseMethodDescriptor y1_moveEntry.desc).map (fun d => d.parameters.length) = some 2 := by decide +kernel
theorem im1_moveEntry : Cond.instanceMethod y1_moveEntry ∈ BG := bg_t 127 (by decide +kernel) (by decide +kernel)
theorem se1_moveEntry : Cond.selects R1 y1_moveEntry y1_moveEntry ∈ BG := bg_s 0 (by decide +kernel) (by decide +kernel)
theorem cd1_rankOf : Cond.code y1_rankOf c1_rankOf 2 (some .int) ∈ BG := bg_t 131 (by decide +kernel) (by decide +kernel)
theorem hd1_rankOf : y1_rankOf.cls = R1 ∧ y1_rankOf.cls ≠ "java/lang/invoke/MethodHandle" ∧ y1_rankOf.cls ≠ "java/lang/invoke/VarHandle" ∧ (parseMethodDescriptor y1_rankOf.desc).map (fun d => d.parameters.length) = some 1 := by decide +kernel
theorem st1_rankOf : Cond.static y1_rankOf ∈ BG := bg_t 130 (by decide +kernel) (by decide +kernel)
theorem cd2_changeToDraft : Cond.code y2_changeToDraft c2_changeToDraft 2 (some .int) ∈ BG := bg_t 138 (by decide +kernel) (by decide +kernel)
theorem hd2_changeToDraft : y2_changeToDraft.cls = R2 ∧ y2_changeToDraft.cls ≠ "java/lang/invoke/MethodHandle" ∧ y2_changeToDraft.cls ≠ "java/lang/invoke/VarHandle" ∧ (parseMethodDescriptor y2_changeToDraft.desc).map (fun d => d.parameters.length) = some 0 := by decide +kernel
theorem im2_changeToDraft : Cond.instanceMethod y2_changeToDraft ∈ BG := bg_t 137 (by decide +kernel) (by decide +kernel)
theorem se2_changeToDraft : Cond.selects R2 y2_changeToDraft y2_changeToDraft ∈ BG := bg_s 1 (by decide +kernel) (by decide +kernel)
theorem cd1_keepNodesOf : Cond.code y1_keepNodesOf c1_keepNodesOf 5 (some .int) ∈ BG := bg_t 142 (by decide +kernel) (by decide +kernel)
theorem hd1_keepNodesOf : y1_keepNodesOf.cls = R1 ∧ y1_keepNodesOf.cls ≠ "java/lang/invoke/MethodHandle" ∧ y1_keepNodesOf.cls ≠ "java/lang/invoke/VarHandle" ∧ (parseMethodDescriptor y1_keepNodesOf.desc).map (fun d => d.parameters.length) = some 1 := by decide +kernel
theorem im1_keepNodesOf : Cond.instanceMethod y1_keepNodesOf ∈ BG := bg_t 140 (by decide +kernel) (by decide +kernel)
theorem se1_keepNodesOf : Cond.selects R1 y1_keepNodesOf y1_keepNodesOf ∈ BG := bg_t 141 (by decide +kernel) (by decide +kernel)
theorem cd1_hasSameSubtree : Cond.code y1_hasSameSubtree c1_hasSameSubtree 8 (some .boolean) ∈ BG := bg_t 147 (by decide +kernel) (by decide +kernel)
theorem hd1_hasSameSubtree : y1_hasSameSubtree.cls = R1 ∧ y1_hasSameSubtree.cls ≠ "java/lang/invoke/MethodHandle" ∧ y1_hasSameSubtree.cls ≠ "java/lang/invoke/VarHandle" ∧ (parseMethodDescriptor y1_hasSameSubtree.desc).map (fun d => d.parameters.length) = some 3 := by decide +kernel
theorem im1_hasSameSubtree : Cond.instanceMethod y1_hasSameSubtree ∈ BG := bg_t 146 (by decide +kernel) (by decide +kernel)
theorem se1_hasSameSubtree : Cond.selects R1 y1_hasSameSubtree y1_hasSameSubtree ∈ BG := bg_s 2 (by decide +kernel) (by decide +kernel)
theorem cd1_firstOfSubtree : Cond.code y1_firstOfSubtree c1_firstOfSubtree 3 (some .int) ∈ BG := bg_t 151 (by decide +kernel) (by decide +kernel)
theorem hd1_firstOfSubtree : y1_firstOfSubtree.cls = R1 ∧ y1_firstOfSubtree.cls ≠ "java/lang/invoke/MethodHandle" ∧ y1_firstOfSubtree.cls ≠ "java/lang/invoke/VarHandle" ∧ (parseMethodDescriptor y1_firstOfSubtree.desc).map (fun d => d.parameters.length) = some 1 := by decide +kernel
theorem im1_firstOfSubtree : Cond.instanceMethod y1_firstOfSubtree ∈ BG := bg_t 150 (by decide +kernel) (by decide +kernel)
theorem se1_firstOfSubtree : Cond.selects R1 y1_firstOfSubtree y1_firstOfSubtree ∈ BG := bg_s 3 (by decide +kernel) (by decide +kernel)
theorem cd1_isHigher : Cond.code y1_isHigher c1_isHigher 3 (some .boolean) ∈ BG := bg_t 155 (by decide +kernel) (by decide +kernel)
theorem hd1_isHigher : y1_isHigher.cls = R1 ∧ y1_isHigher.cls ≠ "java/lang/invoke/MethodHandle" ∧ y1_isHigher.cls ≠ "java/lang/invoke/VarHandle" ∧ (parseMethodDescriptor y1_isHigher.desc).map (fun d => d.parameters.length) = some 2 := by decide +kernel
theorem im1_isHigher : Cond.instanceMethod y1_isHigher ∈ BG := bg_t 154 (by decide +kernel) (by decide +kernel)
theorem se1_isHigher : Cond.selects R1 y1_isHigher y1_isHigher ∈ BG := bg_s 4 (by decide +kernel) (by decide +kernel)
theorem cd1_lastOfSubtree : Cond.code y1_lastOfSubtree c1_lastOfSubtree 3 (some .int) ∈ BG := bg_t 159 (by decide +kernel) (by decide +kernel)
theorem hd1_lastOfSubtree : y1_lastOfSubtree.cls = R1 ∧ y1_lastOfSubtree.cls ≠ "java/lang/invoke/MethodHandle" ∧ y1_lastOfSubtree.cls ≠ "java/lang/invoke/VarHandle" ∧ (parseMethodDescriptor y1_lastOfSubtree.desc).map (fun d => d.parameters.length) = some 1 := by decide +kernel
theorem im1_lastOfSubtree : Cond.instanceMethod y1_lastOfSubtree ∈ BG := bg_t 158 (by decide +kernel) (by decide +kernel)
theorem se1_lastOfSubtree : Cond.selects R1 y1_lastOfSubtree y1_lastOfSubtree ∈ BG := bg_s 5 (by decide +kernel) (by decide +kernel)
theorem cd2_findNodesInUse : Cond.code y2_findNodesInUse c2_findNodesInUse 2 none ∈ BG := bg_t 163 (by decide +kernel) (by decide +kernel)
theorem hd2_findNodesInUse : y2_findNodesInUse.cls = R2 ∧ y2_findNodesInUse.cls ≠ "java/lang/invoke/MethodHandle" ∧ y2_findNodesInUse.cls ≠ "java/lang/invoke/VarHandle" ∧ (parseMethodDescriptor y2_findNodesInUse.desc).map (fun d => d.parameters.length) = some 0 := by decide +kernel
theorem im2_findNodesInUse : Cond.instanceMethod y2_findNodesInUse ∈ BG := bg_t 162 (by decide +kernel) (by decide +kernel)
theorem se2_findNodesInUse : Cond.selects R2 y2_findNodesInUse y2_findNodesInUse ∈ BG := bg_s 6 (by decide +kernel) (by decide +kernel)
theorem cd0_forgetAll : Cond.code y0_forgetAll c0_forgetAll 2 none ∈ BG := bg_t 167 (by decide +kernel) (by decide +kernel)
theorem hd0_forgetAll : y0_forgetAll.cls = R0 ∧ y0_forgetAll.cls ≠ "java/lang/invoke/MethodHandle" ∧ y0_forgetAll.cls ≠ "java/lang/invoke/VarHandle" ∧ (parseMethodDescriptor y0_forgetAll.desc).map (fun d => d.parameters.length) = some 0 := by decide +kernel
theorem im0_forgetAll : Cond.instanceMethod y0_forgetAll ∈ BG := bg_t 165 (by decide +kernel) (by decide +kernel)
theorem se0_forgetAll : Cond.selects R0 y0_forgetAll y0_forgetAll ∈ BG := bg_t 166 (by decide +kernel) (by decide +kernel)
theorem cd0_useNodesOf : Cond.code y0_useNodesOf c0_useNodesOf 3 none ∈ BG := bg_t 171 (by decide +kernel) (by decide +kernel)
theorem hd0_useNodesOf : y0_useNodesOf.cls = R0 ∧ y0_useNodesOf.cls ≠ "java/lang/invoke/MethodHandle" ∧ y0_useNodesOf.cls ≠ "java/lang/invoke/VarHandle" ∧ (parseMethodDescriptor y0_useNodesOf.desc).map (fun d => d.parameters.length) = some 1 := by decide +kernel
theorem im0_useNodesOf : Cond.instanceMethod y0_useNodesOf ∈ BG := bg_t 169 (by decide +kernel) (by decide +kernel)
theorem se0_useNodesOf : Cond.selects R0 y0_useNodesOf y0_useNodesOf ∈ BG := bg_t 170 (by decide +kernel) (by decide +kernel)
theorem cd0_useNode : Cond.code y0_useNode c0_useNode 2 none ∈ BG := bg_t 175 (by decide +kernel) (by decide +kernel)
theorem hd0_useNode : y0_useNode.cls = R0 ∧ y0_useNode.cls ≠ "java/lang/invoke/MethodHandle" ∧ y0_useNode.cls ≠ "java/lang/invoke/VarHandle" ∧ (parseMethodDescriptor y0_useNode.desc).map (fun d => d.parameters.length) = some 1 := by decide +kernel
theorem im0_useNode : Cond.instanceMethod y0_useNode ∈ BG := bg_t 174 (by decide +kernel) (by decide +kernel)
theorem se0_useNode : Cond.selects R0 y0_useNode y0_useNode ∈ BG := bg_s 7 (by decide +kernel) (by decide +kernel)
theorem cd0_giveNodesTo : Cond.code y0_giveNodesTo c0_giveNodesTo 4 none ∈ BG := bg_t 179 (by decide +kernel) (by decide +kernel)
theorem hd0_giveNodesTo : y0_giveNodesTo.cls = R0 ∧ y0_giveNodesTo.cls ≠ "java/lang/invoke/MethodHandle" ∧ y0_giveNodesTo.cls ≠ "java/lang/invoke/VarHandle" ∧ (parseMethodDescriptor y0_giveNodesTo.desc).map (fun d => d.parameters.length) = some 1 := by decide +kernel
theorem im0_giveNodesTo : Cond.instanceMethod y0_giveNodesTo ∈ BG := bg_t 177 (by decide +kernel) (by decide +kernel)
theorem se0_giveNodesTo : Cond.selects R0 y0_giveNodesTo y0_giveNodesTo ∈ BG := bg_t 178 (by decide +kernel) (by decide +kernel)
theorem cd2_doEvents : Cond.code y2_doEvents c2_doEvents 6 (some .int) ∈ BG := bg_t 183 (by decide +kernel) (by decide +kernel)
theorem hd2_doEvents : y2_doEvents.cls = R2 ∧ y2_doEvents.cls ≠ "java/lang/invoke/MethodHandle" ∧ y2_doEvents.cls ≠ "java/lang/invoke/VarHandle" ∧ (parseMethodDescriptor y2_doEvents.desc).map (fun d => d.parameters.length) = some 1 := by decide +kernel
theorem im2_doEvents : Cond.instanceMethod y2_doEvents ∈ BG := bg_t 182 (by decide +kernel) (by decide +kernel)
theorem se2_doEvents : Cond.selects R2 y2_doEvents y2_doEvents ∈ BG := bg_s 8 (by decide +kernel) (by decide +kernel)
theorem cd2_remove : Cond.code y2_remove c2_remove 3 (some .int) ∈ BG := bg_t 187 (by decide +kernel) (by decide +kernel)
theorem hd2_remove : y2_remove.cls = R2 ∧ y2_remove.cls ≠ "java/lang/invoke/MethodHandle" ∧ y2_remove.cls ≠ "java/lang/invoke/VarHandle" ∧ (parseMethodDescriptor y2_remove.desc).map (fun d => d.parameters.length) = some 1 := by decide +kernel
theorem im2_remove : Cond.instanceMethod y2_remove ∈ BG := bg_t 185 (by decide +kernel) (by decide +kernel)
theorem se2_remove : Cond.selects R2 y2_remove y2_remove ∈ BG := bg_t 186 (by decide +kernel) (by decide +kernel)
theorem cd1_removeAt : Cond.code y1_removeAt c1_removeAt 3 none ∈ BG := bg_t 191 (by decide +kernel) (by decide +kernel)
theorem hd1_removeAt : y1_removeAt.cls = R1 ∧ y1_removeAt.cls ≠ "java/lang/invoke/MethodHandle" ∧ y1_removeAt.cls ≠ "java/lang/invoke/VarHandle" ∧ (parseMethodDescriptor y1_removeAt.desc).map (fun d => d.parameters.length) = some 1 := by decide +kernel
theorem im1_removeAt : Cond.instanceMethod y1_removeAt ∈ BG := bg_t 189 (by decide +kernel) (by decide +kernel)
theorem se1_removeAt : Cond.selects R1 y1_removeAt y1_removeAt ∈ BG := bg_t 190 (by decide +kernel) (by decide +kernel)
theorem cd2_get : Cond.code y2_get c2_get 2 (some .int) ∈ BG := bg_t 195 (by decide +kernel) (by decide +kernel)
theorem hd2_get : y2_get.cls = R2 ∧ y2_get.cls ≠ "java/lang/invoke/MethodHandle" ∧ y2_get.cls ≠ "java/lang/invoke/VarHandle" ∧ (parseMethodDescriptor y2_get.desc).map (fun d => d.parameters.length) = some 1 := by decide +kernel
theorem im2_get : Cond.instanceMethod y2_get ∈ BG := bg_t 193 (by decide +kernel) (by decide +kernel)
theorem se2_get : Cond.selects R2 y2_get y2_get ∈ BG := bg_t 194 (by decide +kernel) (by decide +kernel)
theorem cd1_valueOf : Cond.code y1_valueOf c1_valueOf 3 (some .int) ∈ BG := bg_t 199 (by decide +kernel) (by decide +kernel)
theorem hd1_valueOf : y1_valueOf.cls = R1 ∧ y1_valueOf.cls ≠ "java/lang/invoke/MethodHandle" ∧ y1_valueOf.cls ≠ "java/lang/invoke/VarHandle" ∧ (parseMethodDescriptor y1_valueOf.desc).map (fun d => d.parameters.length) = some 1 := by decide +kernel
theorem im1_valueOf : Cond.instanceMethod y1_valueOf ∈ BG := bg_t 197 (by decide +kernel) (by decide +kernel)
theorem se1_valueOf : Cond.selects R1 y1_valueOf y1_valueOf ∈ BG := bg_t 198 (by decide +kernel) (by decide +kernel)
theorem cd2_next : Cond.code y2_next c2_next 2 (some .int) ∈ BG := bg_t 203 (by decide +kernel) (by decide +kernel)
theorem hd2_next : y2_next.cls = R2 ∧ y2_next.cls ≠ "java/lang/invoke/MethodHandle" ∧ y2_next.cls ≠ "java/lang/invoke/VarHandle" ∧ (parseMethodDescriptor y2_next.desc).map (fun d => d.parameters.length) = some 1 := by decide +kernel
theorem im2_next : Cond.instanceMethod y2_next ∈ BG := bg_t 201 (by decide +kernel) (by decide +kernel)
theorem se2_next : Cond.selects R2 y2_next y2_next ∈ BG := bg_t 202 (by decide +kernel) (by decide +kernel)
theorem cd1_keyFrom : Cond.code y1_keyFrom c1_keyFrom 3 (some .int) ∈ BG := bg_t 207 (by decide +kernel) (by decide +kernel)
theorem hd1_keyFrom : y1_keyFrom.cls = R1 ∧ y1_keyFrom.cls ≠ "java/lang/invoke/MethodHandle" ∧ y1_keyFrom.cls ≠ "java/lang/invoke/VarHandle" ∧ (parseMethodDescriptor y1_keyFrom.desc).map (fun d => d.parameters.length) = some 1 := by decide +kernel
theorem im1_keyFrom : Cond.instanceMethod y1_keyFrom ∈ BG := bg_t 205 (by decide +kernel) (by decide +kernel)
theorem se1_keyFrom : Cond.selects R1 y1_keyFrom y1_keyFrom ∈ BG := bg_t 206 (by decide +kernel) (by decide +kernel)
theorem cd2_depth : Cond.code y2_depth c2_depth 3 (some .int) ∈ BG := bg_t 211 (by decide +kernel) (by decide +kernel)
theorem hd2_depth : y2_depth.cls = R2 ∧ y2_depth.cls ≠ "java/lang/invoke/MethodHandle" ∧ y2_depth.cls ≠ "java/lang/invoke/VarHandle" ∧ (parseMethodDescriptor y2_depth.desc).map (fun d => d.parameters.length) = some 1 := by decide +kernel
theorem im2_depth : Cond.instanceMethod y2_depth ∈ BG := bg_t 209 (by decide +kernel) (by decide +kernel)
theorem se2_depth : Cond.selects R2 y2_depth y2_depth ∈ BG := bg_t 210 (by decide +kernel) (by decide +kernel)
theorem cd1_depthAt : Cond.code y1_depthAt c1_depthAt 4 (some .int) ∈ BG := bg_t 215 (by decide +kernel) (by decide +kernel)
theorem hd1_depthAt : y1_depthAt.cls = R1 ∧ y1_depthAt.cls ≠ "java/lang/invoke/MethodHandle" ∧ y1_depthAt.cls ≠ "java/lang/invoke/VarHandle" ∧ (parseMethodDescriptor y1_depthAt.desc).map (fun d => d.parameters.length) = some 1 := by decide +kernel
theorem im1_depthAt : Cond.instanceMethod y1_depthAt ∈ BG := bg_t 213 (by decide +kernel) (by decide +kernel)
theorem se1_depthAt : Cond.selects R1 y1_depthAt y1_depthAt ∈ BG := bg_t 214 (by decide +kernel) (by decide +kernel)
theorem cd2_size : Cond.code y2_size c2_size 1 (some .int) ∈ BG := bg_t 219 (by decide +kernel) (by decide +kernel)
theorem hd2_size : y2_size.cls = R2 ∧ y2_size.cls ≠ "java/lang/invoke/MethodHandle" ∧ y2_size.cls ≠ "java/lang/invoke/VarHandle" ∧ (parseMethodDescriptor y2_size.desc).map (fun d => d.parameters.length) = some 0 := by decide +kernel
theorem im2_size : Cond.instanceMethod y2_size ∈ BG := bg_t 217 (by decide +kernel) (by decide +kernel)
theorem se2_size : Cond.selects R2 y2_size y2_size ∈ BG := bg_t 218 (by decide +kernel) (by decide +kernel)
theorem cd2_nodes : Cond.code y2_nodes c2_nodes 1 (some .int) ∈ BG := bg_t 223 (by decide +kernel) (by decide +kernel)
theorem hd2_nodes : y2_nodes.cls = R2 ∧ y2_nodes.cls ≠ "java/lang/invoke/MethodHandle" ∧ y2_nodes.cls ≠ "java/lang/invoke/VarHandle" ∧ (parseMethodDescriptor y2_nodes.desc).map (fun d => d.parameters.length) = some 0 := by decide +kernel
theorem im2_nodes : Cond.instanceMethod y2_nodes ∈ BG := bg_t 221 (by decide +kernel) (by decide +kernel)
theorem se2_nodes : Cond.selects R2 y2_nodes y2_nodes ∈ BG := bg_t 222 (by decide +kernel) (by decide +kernel)
theorem cd2_hold : Cond.code y2_hold c2_hold 2 (some .boolean) ∈ BG := bg_t 227 (by decide +kernel) (by decide +kernel)
theorem hd2_hold : y2_hold.cls = R2 ∧ y2_hold.cls ≠ "java/lang/invoke/MethodHandle" ∧ y2_hold.cls ≠ "java/lang/invoke/VarHandle" ∧ (parseMethodDescriptor y2_hold.desc).map (fun d => d.parameters.length) = some 1 := by decide +kernel
theorem im2_hold : Cond.instanceMethod y2_hold ∈ BG := bg_t 225 (by decide +kernel) (by decide +kernel)
theorem se2_hold : Cond.selects R2 y2_hold y2_hold ∈ BG := bg_t 226 (by decide +kernel) (by decide +kernel)
theorem cd2_isSlot : Cond.code y2_isSlot c2_isSlot 1 (some .boolean) ∈ BG := bg_t 230 (by decide +kernel) (by decide +kernel)
theorem hd2_isSlot : y2_isSlot.cls = R2 ∧ y2_isSlot.cls ≠ "java/lang/invoke/MethodHandle" ∧ y2_isSlot.cls ≠ "java/lang/invoke/VarHandle" ∧ (parseMethodDescriptor y2_isSlot.desc).map (fun d => d.parameters.length) = some 1 := by decide +kernel
theorem st2_isSlot : Cond.static y2_isSlot ∈ BG := bg_t 229 (by decide +kernel) (by decide +kernel)
theorem cd2_release : Cond.code y2_release c2_release 2 (some .boolean) ∈ BG := bg_t 234 (by decide +kernel) (by decide +kernel)
theorem hd2_release : y2_release.cls = R2 ∧ y2_release.cls ≠ "java/lang/invoke/MethodHandle" ∧ y2_release.cls ≠ "java/lang/invoke/VarHandle" ∧ (parseMethodDescriptor y2_release.desc).map (fun d => d.parameters.length) = some 1 := by decide +kernel
theorem im2_release : Cond.instanceMethod y2_release ∈ BG := bg_t 232 (by decide +kernel) (by decide +kernel)
theorem se2_release : Cond.selects R2 y2_release y2_release ∈ BG := bg_t 233 (by decide +kernel) (by decide +kernel)
theorem cd2_isHeld : Cond.code y2_isHeld c2_isHeld 2 (some .boolean) ∈ BG := bg_t 238 (by decide +kernel) (by decide +kernel)
theorem hd2_isHeld : y2_isHeld.cls = R2 ∧ y2_isHeld.cls ≠ "java/lang/invoke/MethodHandle" ∧ y2_isHeld.cls ≠ "java/lang/invoke/VarHandle" ∧ (parseMethodDescriptor y2_isHeld.desc).map (fun d => d.parameters.length) = some 1 := by decide +kernel
theorem im2_isHeld : Cond.instanceMethod y2_isHeld ∈ BG := bg_t 237 (by decide +kernel) (by decide +kernel)
theorem se2_isHeld : Cond.selects R2 y2_isHeld y2_isHeld ∈ BG := bg_s 9 (by decide +kernel) (by decide +kernel)
theorem cd2_heldGet : Cond.code y2_heldGet c2_heldGet 3 (some .int) ∈ BG := bg_t 242 (by decide +kernel) (by decide +kernel)
theorem hd2_heldGet : y2_heldGet.cls = R2 ∧ y2_heldGet.cls ≠ "java/lang/invoke/MethodHandle" ∧ y2_heldGet.cls ≠ "java/lang/invoke/VarHandle" ∧ (parseMethodDescriptor y2_heldGet.desc).map (fun d => d.parameters.length) = some 2 := by decide +kernel
theorem im2_heldGet : Cond.instanceMethod y2_heldGet ∈ BG := bg_t 240 (by decide +kernel) (by decide +kernel)
theorem se2_heldGet : Cond.selects R2 y2_heldGet y2_heldGet ∈ BG := bg_t 241 (by decide +kernel) (by decide +kernel)
theorem cd2_heldNext : Cond.code y2_heldNext c2_heldNext 3 (some .int) ∈ BG := bg_t 246 (by decide +kernel) (by decide +kernel)
theorem hd2_heldNext : y2_heldNext.cls = R2 ∧ y2_heldNext.cls ≠ "java/lang/invoke/MethodHandle" ∧ y2_heldNext.cls ≠ "java/lang/invoke/VarHandle" ∧ (parseMethodDescriptor y2_heldNext.desc).map (fun d => d.parameters.length) = some 2 := by decide +kernel
theorem im2_heldNext : Cond.instanceMethod y2_heldNext ∈ BG := bg_t 244 (by decide +kernel) (by decide +kernel)
theorem se2_heldNext : Cond.selects R2 y2_heldNext y2_heldNext ∈ BG := bg_t 245 (by decide +kernel) (by decide +kernel)
theorem cd2_crash : Cond.code y2_crash c2_crash 1 (some .boolean) ∈ BG := bg_t 250 (by decide +kernel) (by decide +kernel)
theorem hd2_crash : y2_crash.cls = R2 ∧ y2_crash.cls ≠ "java/lang/invoke/MethodHandle" ∧ y2_crash.cls ≠ "java/lang/invoke/VarHandle" ∧ (parseMethodDescriptor y2_crash.desc).map (fun d => d.parameters.length) = some 0 := by decide +kernel
theorem im2_crash : Cond.instanceMethod y2_crash ∈ BG := bg_t 248 (by decide +kernel) (by decide +kernel)
theorem se2_crash : Cond.selects R2 y2_crash y2_crash ∈ BG := bg_t 249 (by decide +kernel) (by decide +kernel)
theorem cd2_restart : Cond.code y2_restart c2_restart 3 (some .int) ∈ BG := bg_t 254 (by decide +kernel) (by decide +kernel)
theorem hd2_restart : y2_restart.cls = R2 ∧ y2_restart.cls ≠ "java/lang/invoke/MethodHandle" ∧ y2_restart.cls ≠ "java/lang/invoke/VarHandle" ∧ (parseMethodDescriptor y2_restart.desc).map (fun d => d.parameters.length) = some 1 := by decide +kernel
theorem im2_restart : Cond.instanceMethod y2_restart ∈ BG := bg_t 252 (by decide +kernel) (by decide +kernel)
theorem se2_restart : Cond.selects R2 y2_restart y2_restart ∈ BG := bg_t 253 (by decide +kernel) (by decide +kernel)
theorem cd2_events : Cond.code y2_events c2_events 1 (some .int) ∈ BG := bg_t 258 (by decide +kernel) (by decide +kernel)
theorem hd2_events : y2_events.cls = R2 ∧ y2_events.cls ≠ "java/lang/invoke/MethodHandle" ∧ y2_events.cls ≠ "java/lang/invoke/VarHandle" ∧ (parseMethodDescriptor y2_events.desc).map (fun d => d.parameters.length) = some 0 := by decide +kernel
theorem im2_events : Cond.instanceMethod y2_events ∈ BG := bg_t 256 (by decide +kernel) (by decide +kernel)
theorem se2_events : Cond.selects R2 y2_events y2_events ∈ BG := bg_t 257 (by decide +kernel) (by decide +kernel)
theorem cd2_fences : Cond.code y2_fences c2_fences 1 (some .int) ∈ BG := bg_t 262 (by decide +kernel) (by decide +kernel)
theorem hd2_fences : y2_fences.cls = R2 ∧ y2_fences.cls ≠ "java/lang/invoke/MethodHandle" ∧ y2_fences.cls ≠ "java/lang/invoke/VarHandle" ∧ (parseMethodDescriptor y2_fences.desc).map (fun d => d.parameters.length) = some 0 := by decide +kernel
theorem im2_fences : Cond.instanceMethod y2_fences ∈ BG := bg_t 260 (by decide +kernel) (by decide +kernel)
theorem se2_fences : Cond.selects R2 y2_fences y2_fences ∈ BG := bg_t 261 (by decide +kernel) (by decide +kernel)
theorem cd3_init : Cond.code y3_init c3_init 1 none ∈ BG := bg_t 267 (by decide +kernel) (by decide +kernel)
theorem cd3_cut : Cond.code y3_cut c3_cut 2 (some .boolean) ∈ BG := bg_t 312 (by decide +kernel) (by decide +kernel)
theorem hd3_cut : y3_cut.cls = R3 ∧ y3_cut.cls ≠ "java/lang/invoke/MethodHandle" ∧ y3_cut.cls ≠ "java/lang/invoke/VarHandle" ∧ (parseMethodDescriptor y3_cut.desc).map (fun d => d.parameters.length) = some 1 := by decide +kernel
theorem im3_cut : Cond.instanceMethod y3_cut ∈ BG := bg_t 310 (by decide +kernel) (by decide +kernel)
theorem se3_cut : Cond.selects R3 y3_cut y3_cut ∈ BG := bg_t 311 (by decide +kernel) (by decide +kernel)
theorem cd3_put : Cond.code y3_put c3_put 5 (some .int) ∈ BG := bg_t 316 (by decide +kernel) (by decide +kernel)
theorem hd3_put : y3_put.cls = R3 ∧ y3_put.cls ≠ "java/lang/invoke/MethodHandle" ∧ y3_put.cls ≠ "java/lang/invoke/VarHandle" ∧ (parseMethodDescriptor y3_put.desc).map (fun d => d.parameters.length) = some 2 := by decide +kernel
theorem im3_put : Cond.instanceMethod y3_put ∈ BG := bg_t 314 (by decide +kernel) (by decide +kernel)
theorem se3_put : Cond.selects R3 y3_put y3_put ∈ BG := bg_t 315 (by decide +kernel) (by decide +kernel)
theorem cd3_find : Cond.code y3_find c3_find 4 (some .int) ∈ BG := bg_t 321 (by decide +kernel) (by decide +kernel)
theorem hd3_find : y3_find.cls = R3 ∧ y3_find.cls ≠ "java/lang/invoke/MethodHandle" ∧ y3_find.cls ≠ "java/lang/invoke/VarHandle" ∧ (parseMethodDescriptor y3_find.desc).map (fun d => d.parameters.length) = some 2 := by decide +kernel
theorem im3_find : Cond.instanceMethod y3_find ∈ BG := bg_t 320 (by decide +kernel) (by decide +kernel)
theorem se3_find : Cond.selects R3 y3_find y3_find ∈ BG := bg_s 10 (by decide +kernel) (by decide +kernel)
theorem cd3_copy : Cond.code y3_copy c3_copy 4 none ∈ BG := bg_t 325 (by decide +kernel) (by decide +kernel)
theorem hd3_copy : y3_copy.cls = R3 ∧ y3_copy.cls ≠ "java/lang/invoke/MethodHandle" ∧ y3_copy.cls ≠ "java/lang/invoke/VarHandle" ∧ (parseMethodDescriptor y3_copy.desc).map (fun d => d.parameters.length) = some 2 := by decide +kernel
theorem im3_copy : Cond.instanceMethod y3_copy ∈ BG := bg_t 324 (by decide +kernel) (by decide +kernel)
theorem se3_copy : Cond.selects R3 y3_copy y3_copy ∈ BG := bg_s 11 (by decide +kernel) (by decide +kernel)
theorem cd3_change : Cond.code y3_change c3_change 3 (some .int) ∈ BG := bg_t 329 (by decide +kernel) (by decide +kernel)
theorem hd3_change : y3_change.cls = R3 ∧ y3_change.cls ≠ "java/lang/invoke/MethodHandle" ∧ y3_change.cls ≠ "java/lang/invoke/VarHandle" ∧ (parseMethodDescriptor y3_change.desc).map (fun d => d.parameters.length) = some 0 := by decide +kernel
theorem im3_change : Cond.instanceMethod y3_change ∈ BG := bg_t 328 (by decide +kernel) (by decide +kernel)
theorem se3_change : Cond.selects R3 y3_change y3_change ∈ BG := bg_s 12 (by decide +kernel) (by decide +kernel)
theorem cd3_settle : Cond.code y3_settle c3_settle 5 (some .int) ∈ BG := bg_t 333 (by decide +kernel) (by decide +kernel)
theorem hd3_settle : y3_settle.cls = R3 ∧ y3_settle.cls ≠ "java/lang/invoke/MethodHandle" ∧ y3_settle.cls ≠ "java/lang/invoke/VarHandle" ∧ (parseMethodDescriptor y3_settle.desc).map (fun d => d.parameters.length) = some 0 := by decide +kernel
theorem im3_settle : Cond.instanceMethod y3_settle ∈ BG := bg_t 332 (by decide +kernel) (by decide +kernel)
theorem se3_settle : Cond.selects R3 y3_settle y3_settle ∈ BG := bg_s 13 (by decide +kernel) (by decide +kernel)
theorem cd3_same : Cond.code y3_same c3_same 10 (some .boolean) ∈ BG := bg_t 337 (by decide +kernel) (by decide +kernel)
theorem hd3_same : y3_same.cls = R3 ∧ y3_same.cls ≠ "java/lang/invoke/MethodHandle" ∧ y3_same.cls ≠ "java/lang/invoke/VarHandle" ∧ (parseMethodDescriptor y3_same.desc).map (fun d => d.parameters.length) = some 4 := by decide +kernel
theorem im3_same : Cond.instanceMethod y3_same ∈ BG := bg_t 336 (by decide +kernel) (by decide +kernel)
theorem se3_same : Cond.selects R3 y3_same y3_same ∈ BG := bg_s 14 (by decide +kernel) (by decide +kernel)
theorem cd3_first : Cond.code y3_first c3_first 4 (some .int) ∈ BG := bg_t 341 (by decide +kernel) (by decide +kernel)
theorem hd3_first : y3_first.cls = R3 ∧ y3_first.cls ≠ "java/lang/invoke/MethodHandle" ∧ y3_first.cls ≠ "java/lang/invoke/VarHandle" ∧ (parseMethodDescriptor y3_first.desc).map (fun d => d.parameters.length) = some 2 := by decide +kernel
theorem im3_first : Cond.instanceMethod y3_first ∈ BG := bg_t 340 (by decide +kernel) (by decide +kernel)
theorem se3_first : Cond.selects R3 y3_first y3_first ∈ BG := bg_s 15 (by decide +kernel) (by decide +kernel)
theorem cd3_higher : Cond.code y3_higher c3_higher 2 (some .boolean) ∈ BG := bg_t 344 (by decide +kernel) (by decide +kernel)
theorem hd3_higher : y3_higher.cls = R3 ∧ y3_higher.cls ≠ "java/lang/invoke/MethodHandle" ∧ y3_higher.cls ≠ "java/lang/invoke/VarHandle" ∧ (parseMethodDescriptor y3_higher.desc).map (fun d => d.parameters.length) = some 2 := by decide +kernel
theorem st3_higher : Cond.static y3_higher ∈ BG := bg_t 343 (by decide +kernel) (by decide +kernel)
theorem cd3_rank : Cond.code y3_rank c3_rank 2 (some .int) ∈ BG := bg_t 347 (by decide +kernel) (by decide +kernel)
theorem hd3_rank : y3_rank.cls = R3 ∧ y3_rank.cls ≠ "java/lang/invoke/MethodHandle" ∧ y3_rank.cls ≠ "java/lang/invoke/VarHandle" ∧ (parseMethodDescriptor y3_rank.desc).map (fun d => d.parameters.length) = some 1 := by decide +kernel
theorem st3_rank : Cond.static y3_rank ∈ BG := bg_t 346 (by decide +kernel) (by decide +kernel)
theorem cd3_last : Cond.code y3_last c3_last 4 (some .int) ∈ BG := bg_t 354 (by decide +kernel) (by decide +kernel)
theorem hd3_last : y3_last.cls = R3 ∧ y3_last.cls ≠ "java/lang/invoke/MethodHandle" ∧ y3_last.cls ≠ "java/lang/invoke/VarHandle" ∧ (parseMethodDescriptor y3_last.desc).map (fun d => d.parameters.length) = some 2 := by decide +kernel
theorem im3_last : Cond.instanceMethod y3_last ∈ BG := bg_t 353 (by decide +kernel) (by decide +kernel)
theorem se3_last : Cond.selects R3 y3_last y3_last ∈ BG := bg_s 16 (by decide +kernel) (by decide +kernel)
theorem cd3_inUse : Cond.code y3_inUse c3_inUse 5 (some .int) ∈ BG := bg_t 358 (by decide +kernel) (by decide +kernel)
theorem hd3_inUse : y3_inUse.cls = R3 ∧ y3_inUse.cls ≠ "java/lang/invoke/MethodHandle" ∧ y3_inUse.cls ≠ "java/lang/invoke/VarHandle" ∧ (parseMethodDescriptor y3_inUse.desc).map (fun d => d.parameters.length) = some 0 := by decide +kernel
theorem im3_inUse : Cond.instanceMethod y3_inUse ∈ BG := bg_t 357 (by decide +kernel) (by decide +kernel)
theorem se3_inUse : Cond.selects R3 y3_inUse y3_inUse ∈ BG := bg_s 17 (by decide +kernel) (by decide +kernel)
theorem cd3_hasNode : Cond.code y3_hasNode c3_hasNode 5 (some .boolean) ∈ BG := bg_t 362 (by decide +kernel) (by decide +kernel)
theorem hd3_hasNode : y3_hasNode.cls = R3 ∧ y3_hasNode.cls ≠ "java/lang/invoke/MethodHandle" ∧ y3_hasNode.cls ≠ "java/lang/invoke/VarHandle" ∧ (parseMethodDescriptor y3_hasNode.desc).map (fun d => d.parameters.length) = some 2 := by decide +kernel
theorem im3_hasNode : Cond.instanceMethod y3_hasNode ∈ BG := bg_t 361 (by decide +kernel) (by decide +kernel)
theorem se3_hasNode : Cond.selects R3 y3_hasNode y3_hasNode ∈ BG := bg_s 18 (by decide +kernel) (by decide +kernel)
theorem cd3_remove : Cond.code y3_remove c3_remove 4 (some .int) ∈ BG := bg_t 366 (by decide +kernel) (by decide +kernel)
theorem hd3_remove : y3_remove.cls = R3 ∧ y3_remove.cls ≠ "java/lang/invoke/MethodHandle" ∧ y3_remove.cls ≠ "java/lang/invoke/VarHandle" ∧ (parseMethodDescriptor y3_remove.desc).map (fun d => d.parameters.length) = some 1 := by decide +kernel
theorem im3_remove : Cond.instanceMethod y3_remove ∈ BG := bg_t 364 (by decide +kernel) (by decide +kernel)
theorem se3_remove : Cond.selects R3 y3_remove y3_remove ∈ BG := bg_t 365 (by decide +kernel) (by decide +kernel)
theorem cd3_get : Cond.code y3_get c3_get 2 (some .int) ∈ BG := bg_t 370 (by decide +kernel) (by decide +kernel)
theorem hd3_get : y3_get.cls = R3 ∧ y3_get.cls ≠ "java/lang/invoke/MethodHandle" ∧ y3_get.cls ≠ "java/lang/invoke/VarHandle" ∧ (parseMethodDescriptor y3_get.desc).map (fun d => d.parameters.length) = some 1 := by decide +kernel
theorem im3_get : Cond.instanceMethod y3_get ∈ BG := bg_t 368 (by decide +kernel) (by decide +kernel)
theorem se3_get : Cond.selects R3 y3_get y3_get ∈ BG := bg_t 369 (by decide +kernel) (by decide +kernel)
theorem cd3_value : Cond.code y3_value c3_value 4 (some .int) ∈ BG := bg_t 374 (by decide +kernel) (by decide +kernel)
theorem hd3_value : y3_value.cls = R3 ∧ y3_value.cls ≠ "java/lang/invoke/MethodHandle" ∧ y3_value.cls ≠ "java/lang/invoke/VarHandle" ∧ (parseMethodDescriptor y3_value.desc).map (fun d => d.parameters.length) = some 2 := by decide +kernel
theorem im3_value : Cond.instanceMethod y3_value ∈ BG := bg_t 373 (by decide +kernel) (by decide +kernel)
theorem se3_value : Cond.selects R3 y3_value y3_value ∈ BG := bg_s 19 (by decide +kernel) (by decide +kernel)
theorem cd3_next : Cond.code y3_next c3_next 2 (some .int) ∈ BG := bg_t 378 (by decide +kernel) (by decide +kernel)
theorem hd3_next : y3_next.cls = R3 ∧ y3_next.cls ≠ "java/lang/invoke/MethodHandle" ∧ y3_next.cls ≠ "java/lang/invoke/VarHandle" ∧ (parseMethodDescriptor y3_next.desc).map (fun d => d.parameters.length) = some 1 := by decide +kernel
theorem im3_next : Cond.instanceMethod y3_next ∈ BG := bg_t 376 (by decide +kernel) (by decide +kernel)
theorem se3_next : Cond.selects R3 y3_next y3_next ∈ BG := bg_t 377 (by decide +kernel) (by decide +kernel)
theorem cd3_least : Cond.code y3_least c3_least 4 (some .int) ∈ BG := bg_t 382 (by decide +kernel) (by decide +kernel)
theorem hd3_least : y3_least.cls = R3 ∧ y3_least.cls ≠ "java/lang/invoke/MethodHandle" ∧ y3_least.cls ≠ "java/lang/invoke/VarHandle" ∧ (parseMethodDescriptor y3_least.desc).map (fun d => d.parameters.length) = some 2 := by decide +kernel
theorem im3_least : Cond.instanceMethod y3_least ∈ BG := bg_t 381 (by decide +kernel) (by decide +kernel)
theorem se3_least : Cond.selects R3 y3_least y3_least ∈ BG := bg_s 20 (by decide +kernel) (by decide +kernel)
theorem cd3_depth : Cond.code y3_depth c3_depth 5 (some .int) ∈ BG := bg_t 386 (by decide +kernel) (by decide +kernel)
theorem hd3_depth : y3_depth.cls = R3 ∧ y3_depth.cls ≠ "java/lang/invoke/MethodHandle" ∧ y3_depth.cls ≠ "java/lang/invoke/VarHandle" ∧ (parseMethodDescriptor y3_depth.desc).map (fun d => d.parameters.length) = some 1 := by decide +kernel
theorem im3_depth : Cond.instanceMethod y3_depth ∈ BG := bg_t 384 (by decide +kernel) (by decide +kernel)
theorem se3_depth : Cond.selects R3 y3_depth y3_depth ∈ BG := bg_t 385 (by decide +kernel) (by decide +kernel)
theorem cd3_size : Cond.code y3_size c3_size 1 (some .int) ∈ BG := bg_t 390 (by decide +kernel) (by decide +kernel)
theorem hd3_size : y3_size.cls = R3 ∧ y3_size.cls ≠ "java/lang/invoke/MethodHandle" ∧ y3_size.cls ≠ "java/lang/invoke/VarHandle" ∧ (parseMethodDescriptor y3_size.desc).map (fun d => d.parameters.length) = some 0 := by decide +kernel
theorem im3_size : Cond.instanceMethod y3_size ∈ BG := bg_t 388 (by decide +kernel) (by decide +kernel)
theorem se3_size : Cond.selects R3 y3_size y3_size ∈ BG := bg_t 389 (by decide +kernel) (by decide +kernel)
theorem cd3_nodes : Cond.code y3_nodes c3_nodes 1 (some .int) ∈ BG := bg_t 394 (by decide +kernel) (by decide +kernel)
theorem hd3_nodes : y3_nodes.cls = R3 ∧ y3_nodes.cls ≠ "java/lang/invoke/MethodHandle" ∧ y3_nodes.cls ≠ "java/lang/invoke/VarHandle" ∧ (parseMethodDescriptor y3_nodes.desc).map (fun d => d.parameters.length) = some 0 := by decide +kernel
theorem im3_nodes : Cond.instanceMethod y3_nodes ∈ BG := bg_t 392 (by decide +kernel) (by decide +kernel)
theorem se3_nodes : Cond.selects R3 y3_nodes y3_nodes ∈ BG := bg_t 393 (by decide +kernel) (by decide +kernel)
theorem cd3_hold : Cond.code y3_hold c3_hold 2 (some .boolean) ∈ BG := bg_t 398 (by decide +kernel) (by decide +kernel)
theorem hd3_hold : y3_hold.cls = R3 ∧ y3_hold.cls ≠ "java/lang/invoke/MethodHandle" ∧ y3_hold.cls ≠ "java/lang/invoke/VarHandle" ∧ (parseMethodDescriptor y3_hold.desc).map (fun d => d.parameters.length) = some 1 := by decide +kernel
theorem im3_hold : Cond.instanceMethod y3_hold ∈ BG := bg_t 396 (by decide +kernel) (by decide +kernel)
theorem se3_hold : Cond.selects R3 y3_hold y3_hold ∈ BG := bg_t 397 (by decide +kernel) (by decide +kernel)
theorem cd3_isSlot : Cond.code y3_isSlot c3_isSlot 1 (some .boolean) ∈ BG := bg_t 401 (by decide +kernel) (by decide +kernel)
theorem hd3_isSlot : y3_isSlot.cls = R3 ∧ y3_isSlot.cls ≠ "java/lang/invoke/MethodHandle" ∧ y3_isSlot.cls ≠ "java/lang/invoke/VarHandle" ∧ (parseMethodDescriptor y3_isSlot.desc).map (fun d => d.parameters.length) = some 1 := by decide +kernel
theorem st3_isSlot : Cond.static y3_isSlot ∈ BG := bg_t 400 (by decide +kernel) (by decide +kernel)
theorem cd3_release : Cond.code y3_release c3_release 2 (some .boolean) ∈ BG := bg_t 405 (by decide +kernel) (by decide +kernel)
theorem hd3_release : y3_release.cls = R3 ∧ y3_release.cls ≠ "java/lang/invoke/MethodHandle" ∧ y3_release.cls ≠ "java/lang/invoke/VarHandle" ∧ (parseMethodDescriptor y3_release.desc).map (fun d => d.parameters.length) = some 1 := by decide +kernel
theorem im3_release : Cond.instanceMethod y3_release ∈ BG := bg_t 403 (by decide +kernel) (by decide +kernel)
theorem se3_release : Cond.selects R3 y3_release y3_release ∈ BG := bg_t 404 (by decide +kernel) (by decide +kernel)
theorem cd3_heldGet : Cond.code y3_heldGet c3_heldGet 3 (some .int) ∈ BG := bg_t 409 (by decide +kernel) (by decide +kernel)
theorem hd3_heldGet : y3_heldGet.cls = R3 ∧ y3_heldGet.cls ≠ "java/lang/invoke/MethodHandle" ∧ y3_heldGet.cls ≠ "java/lang/invoke/VarHandle" ∧ (parseMethodDescriptor y3_heldGet.desc).map (fun d => d.parameters.length) = some 2 := by decide +kernel
theorem im3_heldGet : Cond.instanceMethod y3_heldGet ∈ BG := bg_t 407 (by decide +kernel) (by decide +kernel)
theorem se3_heldGet : Cond.selects R3 y3_heldGet y3_heldGet ∈ BG := bg_t 408 (by decide +kernel) (by decide +kernel)
theorem cd3_heldNext : Cond.code y3_heldNext c3_heldNext 3 (some .int) ∈ BG := bg_t 413 (by decide +kernel) (by decide +kernel)
theorem hd3_heldNext : y3_heldNext.cls = R3 ∧ y3_heldNext.cls ≠ "java/lang/invoke/MethodHandle" ∧ y3_heldNext.cls ≠ "java/lang/invoke/VarHandle" ∧ (parseMethodDescriptor y3_heldNext.desc).map (fun d => d.parameters.length) = some 2 := by decide +kernel
theorem im3_heldNext : Cond.instanceMethod y3_heldNext ∈ BG := bg_t 411 (by decide +kernel) (by decide +kernel)
theorem se3_heldNext : Cond.selects R3 y3_heldNext y3_heldNext ∈ BG := bg_t 412 (by decide +kernel) (by decide +kernel)
theorem cd3_crash : Cond.code y3_crash c3_crash 1 (some .boolean) ∈ BG := bg_t 417 (by decide +kernel) (by decide +kernel)
theorem hd3_crash : y3_crash.cls = R3 ∧ y3_crash.cls ≠ "java/lang/invoke/MethodHandle" ∧ y3_crash.cls ≠ "java/lang/invoke/VarHandle" ∧ (parseMethodDescriptor y3_crash.desc).map (fun d => d.parameters.length) = some 0 := by decide +kernel
theorem im3_crash : Cond.instanceMethod y3_crash ∈ BG := bg_t 415 (by decide +kernel) (by decide +kernel)
theorem se3_crash : Cond.selects R3 y3_crash y3_crash ∈ BG := bg_t 416 (by decide +kernel) (by decide +kernel)
theorem cd3_restart : Cond.code y3_restart c3_restart 2 (some .int) ∈ BG := bg_t 421 (by decide +kernel) (by decide +kernel)
theorem hd3_restart : y3_restart.cls = R3 ∧ y3_restart.cls ≠ "java/lang/invoke/MethodHandle" ∧ y3_restart.cls ≠ "java/lang/invoke/VarHandle" ∧ (parseMethodDescriptor y3_restart.desc).map (fun d => d.parameters.length) = some 1 := by decide +kernel
theorem im3_restart : Cond.instanceMethod y3_restart ∈ BG := bg_t 419 (by decide +kernel) (by decide +kernel)
theorem se3_restart : Cond.selects R3 y3_restart y3_restart ∈ BG := bg_t 420 (by decide +kernel) (by decide +kernel)
theorem cd3_events : Cond.code y3_events c3_events 1 (some .int) ∈ BG := bg_t 425 (by decide +kernel) (by decide +kernel)
theorem hd3_events : y3_events.cls = R3 ∧ y3_events.cls ≠ "java/lang/invoke/MethodHandle" ∧ y3_events.cls ≠ "java/lang/invoke/VarHandle" ∧ (parseMethodDescriptor y3_events.desc).map (fun d => d.parameters.length) = some 0 := by decide +kernel
theorem im3_events : Cond.instanceMethod y3_events ∈ BG := bg_t 423 (by decide +kernel) (by decide +kernel)
theorem se3_events : Cond.selects R3 y3_events y3_events ∈ BG := bg_t 424 (by decide +kernel) (by decide +kernel)
theorem cd3_fences : Cond.code y3_fences c3_fences 1 (some .int) ∈ BG := bg_t 429 (by decide +kernel) (by decide +kernel)
theorem hd3_fences : y3_fences.cls = R3 ∧ y3_fences.cls ≠ "java/lang/invoke/MethodHandle" ∧ y3_fences.cls ≠ "java/lang/invoke/VarHandle" ∧ (parseMethodDescriptor y3_fences.desc).map (fun d => d.parameters.length) = some 0 := by decide +kernel
theorem im3_fences : Cond.instanceMethod y3_fences ∈ BG := bg_t 427 (by decide +kernel) (by decide +kernel)
theorem se3_fences : Cond.selects R3 y3_fences y3_fences ∈ BG := bg_t 428 (by decide +kernel) (by decide +kernel)
theorem ml2_42 : Cond.methodLink R2 42 y2_isKey ∈ BG := bg_t 99 (by decide +kernel) (by decide +kernel)
theorem ml2_46 : Cond.methodLink R2 46 y2_isValue ∈ BG := bg_t 102 (by decide +kernel) (by decide +kernel)
theorem ml2_49 : Cond.methodLink R2 49 y1_indexOf ∈ BG := bg_t 106 (by decide +kernel) (by decide +kernel)
theorem ml1_34 : Cond.methodLink R1 34 y1_indexFrom ∈ BG := bg_t 110 (by decide +kernel) (by decide +kernel)
theorem ml2_60 : Cond.methodLink R2 60 y1_copyFrom ∈ BG := bg_t 114 (by decide +kernel) (by decide +kernel)
theorem ml2_64 : Cond.methodLink R2 64 y1_insert ∈ BG := bg_t 121 (by decide +kernel) (by decide +kernel)
theorem ml1_41 : Cond.methodLink R1 41 y1_moveEntry ∈ BG := bg_t 125 (by decide +kernel) (by decide +kernel)
theorem ml1_45 : Cond.methodLink R1 45 y1_rankOf ∈ BG := bg_t 129 (by decide +kernel) (by decide +kernel)
theorem ml2_68 : Cond.methodLink R2 68 y2_changeToDraft ∈ BG := bg_t 135 (by decide +kernel) (by decide +kernel)
theorem ml2_116 : Cond.methodLink R2 116 y1_keepNodesOf ∈ BG := bg_t 139 (by decide +kernel) (by decide +kernel)
theorem ml1_38 : Cond.methodLink R1 38 y1_indexOf ∈ BG := bg_t 143 (by decide +kernel) (by decide +kernel)
theorem ml1_61 : Cond.methodLink R1 61 y1_hasSameSubtree ∈ BG := bg_t 144 (by decide +kernel) (by decide +kernel)
theorem ml1_55 : Cond.methodLink R1 55 y1_firstOfSubtree ∈ BG := bg_t 148 (by decide +kernel) (by decide +kernel)
theorem ml1_51 : Cond.methodLink R1 51 y1_isHigher ∈ BG := bg_t 152 (by decide +kernel) (by decide +kernel)
theorem ml1_58 : Cond.methodLink R1 58 y1_lastOfSubtree ∈ BG := bg_t 156 (by decide +kernel) (by decide +kernel)
theorem ml2_85 : Cond.methodLink R2 85 y2_findNodesInUse ∈ BG := bg_t 160 (by decide +kernel) (by decide +kernel)
theorem ml2_110 : Cond.methodLink R2 110 y0_forgetAll ∈ BG := bg_t 164 (by decide +kernel) (by decide +kernel)
theorem ml2_113 : Cond.methodLink R2 113 y0_useNodesOf ∈ BG := bg_t 168 (by decide +kernel) (by decide +kernel)
theorem ml0_28 : Cond.methodLink R0 28 y0_useNode ∈ BG := bg_t 172 (by decide +kernel) (by decide +kernel)
theorem ml2_120 : Cond.methodLink R2 120 y0_giveNodesTo ∈ BG := bg_t 176 (by decide +kernel) (by decide +kernel)
theorem ml2_123 : Cond.methodLink R2 123 y2_doEvents ∈ BG := bg_t 180 (by decide +kernel) (by decide +kernel)
theorem ml2_72 : Cond.methodLink R2 72 y1_removeAt ∈ BG := bg_t 188 (by decide +kernel) (by decide +kernel)
theorem ml2_76 : Cond.methodLink R2 76 y1_valueOf ∈ BG := bg_t 196 (by decide +kernel) (by decide +kernel)
theorem ml2_79 : Cond.methodLink R2 79 y1_keyFrom ∈ BG := bg_t 204 (by decide +kernel) (by decide +kernel)
theorem ml2_82 : Cond.methodLink R2 82 y1_depthAt ∈ BG := bg_t 212 (by decide +kernel) (by decide +kernel)
theorem ml2_91 : Cond.methodLink R2 91 y2_isSlot ∈ BG := bg_t 228 (by decide +kernel) (by decide +kernel)
theorem ml2_94 : Cond.methodLink R2 94 y2_isHeld ∈ BG := bg_t 235 (by decide +kernel) (by decide +kernel)
theorem ml3_51 : Cond.methodLink R3 51 y3_find ∈ BG := bg_t 318 (by decide +kernel) (by decide +kernel)
theorem ml3_74 : Cond.methodLink R3 74 y3_copy ∈ BG := bg_t 322 (by decide +kernel) (by decide +kernel)
theorem ml3_92 : Cond.methodLink R3 92 y3_change ∈ BG := bg_t 326 (by decide +kernel) (by decide +kernel)
theorem ml3_61 : Cond.methodLink R3 61 y3_settle ∈ BG := bg_t 330 (by decide +kernel) (by decide +kernel)
theorem ml3_54 : Cond.methodLink R3 54 y3_same ∈ BG := bg_t 334 (by decide +kernel) (by decide +kernel)
theorem ml3_41 : Cond.methodLink R3 41 y3_first ∈ BG := bg_t 338 (by decide +kernel) (by decide +kernel)
theorem ml3_37 : Cond.methodLink R3 37 y3_higher ∈ BG := bg_t 342 (by decide +kernel) (by decide +kernel)
theorem ml3_33 : Cond.methodLink R3 33 y3_rank ∈ BG := bg_t 345 (by decide +kernel) (by decide +kernel)
theorem ml3_45 : Cond.methodLink R3 45 y3_last ∈ BG := bg_t 351 (by decide +kernel) (by decide +kernel)
theorem ml3_65 : Cond.methodLink R3 65 y3_inUse ∈ BG := bg_t 355 (by decide +kernel) (by decide +kernel)
theorem ml3_48 : Cond.methodLink R3 48 y3_hasNode ∈ BG := bg_t 359 (by decide +kernel) (by decide +kernel)
theorem ml3_95 : Cond.methodLink R3 95 y3_value ∈ BG := bg_t 371 (by decide +kernel) (by decide +kernel)
theorem ml3_98 : Cond.methodLink R3 98 y3_least ∈ BG := bg_t 379 (by decide +kernel) (by decide +kernel)
theorem ml3_101 : Cond.methodLink R3 101 y3_isSlot ∈ BG := bg_t 399 (by decide +kernel) (by decide +kernel)
