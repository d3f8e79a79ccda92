def T_CharacterList : u_T := fun k => match k with
  | 0 => ("EventGraphText$CharacterList", "order", "[I", true)
  | 1 => ("EventGraphText$CharacterList", "holders", "[I", true)
  | 2 => ("EventGraphText$CharacterList", "onTheRight", "[Z", true)
  | 3 => ("EventGraphText$CharacterList", "chains", "[J", true)
  | 4 => ("EventGraphText$CharacterList", "taken", "[I", true)
  | 5 => ("EventGraphText$CharacterList", "deletes", "J", false)
  | 6 => ("EventGraphText$CharacterList", "inserts", "J", false)
  | _ => ("EventGraphText$CharacterList", "count", "I", false)
def ty_CharacterList : Nat → FieldType := fun k => match k with
  | 0 => .array .int
  | 1 => .array .int
  | 2 => .array .boolean
  | 3 => .array .long
  | 4 => .array .int
  | 5 => .long
  | 6 => .long
  | _ => .int
theorem nm_CharacterList : ∀ a, a < 8 → ∀ b, b < 8 → a ≠ b → (T_CharacterList a).2.1 ≠ (T_CharacterList b).2.1 := by decide +kernel
theorem tyok_CharacterList : ∀ k, k < 8 → parseFieldDescriptor (T_CharacterList k).2.2.1 = some (ty_CharacterList k) := by decide +kernel
theorem hin_CharacterList : ∀ w ∈ u_ws "EventGraphText$CharacterList" T_CharacterList 8, w ∈ xG := by
  intro w hw
  obtain ⟨k, hk, rfl⟩ := List.mem_map.mp hw
  have hk := List.mem_range.mp hk
  match k, hk with
  | 0, _ => exact wd_69
  | 1, _ => exact wd_71
  | 2, _ => exact wd_73
  | 3, _ => exact wd_75
  | 4, _ => exact wd_77
  | 5, _ => exact wd_79
  | 6, _ => exact wd_81
  | 7, _ => exact wd_83
  | k + 8, h => exact absurd h (by omega)
def T_History : u_T := fun k => match k with
  | 0 => ("EventGraphText$History", "sites", "[I", true)
  | 1 => ("EventGraphText$History", "numbers", "[I", true)
  | 2 => ("EventGraphText$History", "indices", "[I", true)
  | 3 => ("EventGraphText$History", "characters", "[I", true)
  | 4 => ("EventGraphText$History", "parents", "[J", true)
  | 5 => ("EventGraphText$History", "ancestors", "[J", true)
  | 6 => ("EventGraphText$History", "slots", "[I", true)
  | 7 => ("EventGraphText$History", "made", "[I", true)
  | _ => ("EventGraphText$History", "count", "I", false)
def ty_History : Nat → FieldType := fun k => match k with
  | 0 => .array .int
  | 1 => .array .int
  | 2 => .array .int
  | 3 => .array .int
  | 4 => .array .long
  | 5 => .array .long
  | 6 => .array .int
  | 7 => .array .int
  | _ => .int
theorem nm_History : ∀ a, a < 9 → ∀ b, b < 9 → a ≠ b → (T_History a).2.1 ≠ (T_History b).2.1 := by decide +kernel
theorem tyok_History : ∀ k, k < 9 → parseFieldDescriptor (T_History k).2.2.1 = some (ty_History k) := by decide +kernel
theorem hin_History : ∀ w ∈ u_ws "EventGraphText$History" T_History 9, w ∈ xG := by
  intro w hw
  obtain ⟨k, hk, rfl⟩ := List.mem_map.mp hw
  have hk := List.mem_range.mp hk
  match k, hk with
  | 0, _ => exact wd_34
  | 1, _ => exact wd_36
  | 2, _ => exact wd_38
  | 3, _ => exact wd_40
  | 4, _ => exact wd_42
  | 5, _ => exact wd_44
  | 6, _ => exact wd_46
  | 7, _ => exact wd_48
  | 8, _ => exact wd_50
  | k + 9, h => exact absurd h (by omega)
def T_Line : u_T := fun k => match k with
  | 0 => ("EventGraphText$Line", "slots", "[I", true)
  | _ => ("EventGraphText$Line", "count", "I", false)
def ty_Line : Nat → FieldType := fun k => match k with
  | 0 => .array .int
  | _ => .int
theorem nm_Line : ∀ a, a < 2 → ∀ b, b < 2 → a ≠ b → (T_Line a).2.1 ≠ (T_Line b).2.1 := by decide +kernel
theorem tyok_Line : ∀ k, k < 2 → parseFieldDescriptor (T_Line k).2.2.1 = some (ty_Line k) := by decide +kernel
theorem hin_Line : ∀ w ∈ u_ws "EventGraphText$Line" T_Line 2, w ∈ xG := by
  intro w hw
  obtain ⟨k, hk, rfl⟩ := List.mem_map.mp hw
  have hk := List.mem_range.mp hk
  match k, hk with
  | 0, _ => exact wd_95
  | 1, _ => exact wd_97
  | k + 2, h => exact absurd h (by omega)
def T_Merge : u_T := fun k => match k with
  | 0 => ("EventGraphText$Merge", "operations", "[I", true)
  | 1 => ("EventGraphText$Merge", "applied", "I", false)
  | 2 => ("EventGraphText$Merge", "replayed", "I", false)
  | _ => ("EventGraphText$Merge", "moves", "I", false)
def ty_Merge : Nat → FieldType := fun k => match k with
  | 0 => .array .int
  | 1 => .int
  | 2 => .int
  | _ => .int
theorem nm_Merge : ∀ a, a < 4 → ∀ b, b < 4 → a ≠ b → (T_Merge a).2.1 ≠ (T_Merge b).2.1 := by decide +kernel
theorem tyok_Merge : ∀ k, k < 4 → parseFieldDescriptor (T_Merge k).2.2.1 = some (ty_Merge k) := by decide +kernel
theorem hin_Merge : ∀ w ∈ u_ws "EventGraphText$Merge" T_Merge 4, w ∈ xG := by
  intro w hw
  obtain ⟨k, hk, rfl⟩ := List.mem_map.mp hw
  have hk := List.mem_range.mp hk
  match k, hk with
  | 0, _ => exact wd_121
  | 1, _ => exact wd_123
  | 2, _ => exact wd_125
  | 3, _ => exact wd_127
  | k + 4, h => exact absurd h (by omega)
def T_Message : u_T := fun k => match k with
  | 0 => ("EventGraphText$Message", "octets", "LEventGraphText$OctetRow;", true)
  | 1 => ("EventGraphText$Message", "underWay", "Z", false)
  | 2 => ("EventGraphText$Message", "from", "I", false)
  | 3 => ("EventGraphText$Message", "to", "I", false)
  | _ => ("EventGraphText$Message", "carried", "J", false)
def ty_Message : Nat → FieldType := fun k => match k with
  | 0 => .object "EventGraphText$OctetRow"
  | 1 => .boolean
  | 2 => .int
  | 3 => .int
  | _ => .long
theorem nm_Message : ∀ a, a < 5 → ∀ b, b < 5 → a ≠ b → (T_Message a).2.1 ≠ (T_Message b).2.1 := by decide +kernel
theorem tyok_Message : ∀ k, k < 5 → parseFieldDescriptor (T_Message k).2.2.1 = some (ty_Message k) := by decide +kernel
theorem hin_Message : ∀ w ∈ u_ws "EventGraphText$Message" T_Message 5, w ∈ xG := by
  intro w hw
  obtain ⟨k, hk, rfl⟩ := List.mem_map.mp hw
  have hk := List.mem_range.mp hk
  match k, hk with
  | 0, _ => exact wd_173
  | 1, _ => exact wd_175
  | 2, _ => exact wd_177
  | 3, _ => exact wd_179
  | 4, _ => exact wd_181
  | k + 5, h => exact absurd h (by omega)
def T_OctetRow : u_T := fun k => match k with
  | 0 => ("EventGraphText$OctetRow", "row", "[I", true)
  | _ => ("EventGraphText$OctetRow", "count", "I", false)
def ty_OctetRow : Nat → FieldType := fun k => match k with
  | 0 => .array .int
  | _ => .int
theorem nm_OctetRow : ∀ a, a < 2 → ∀ b, b < 2 → a ≠ b → (T_OctetRow a).2.1 ≠ (T_OctetRow b).2.1 := by decide +kernel
theorem tyok_OctetRow : ∀ k, k < 2 → parseFieldDescriptor (T_OctetRow k).2.2.1 = some (ty_OctetRow k) := by decide +kernel
theorem hin_OctetRow : ∀ w ∈ u_ws "EventGraphText$OctetRow" T_OctetRow 2, w ∈ xG := by
  intro w hw
  obtain ⟨k, hk, rfl⟩ := List.mem_map.mp hw
  have hk := List.mem_range.mp hk
  match k, hk with
  | 0, _ => exact wd_158
  | 1, _ => exact wd_160
  | k + 2, h => exact absurd h (by omega)
def T_Site : u_T := fun k => match k with
  | 0 => ("EventGraphText$Site", "beliefs", "[J", true)
  | 1 => ("EventGraphText$Site", "merge", "LEventGraphText$Merge;", true)
  | _ => ("EventGraphText$Site", "graph", "J", false)
def ty_Site : Nat → FieldType := fun k => match k with
  | 0 => .array .long
  | 1 => .object "EventGraphText$Merge"
  | _ => .long
theorem nm_Site : ∀ a, a < 3 → ∀ b, b < 3 → a ≠ b → (T_Site a).2.1 ≠ (T_Site b).2.1 := by decide +kernel
theorem tyok_Site : ∀ k, k < 3 → parseFieldDescriptor (T_Site k).2.2.1 = some (ty_Site k) := by decide +kernel
theorem hin_Site : ∀ w ∈ u_ws "EventGraphText$Site" T_Site 3, w ∈ xG := by
  intro w hw
  obtain ⟨k, hk, rfl⟩ := List.mem_map.mp hw
  have hk := List.mem_range.mp hk
  match k, hk with
  | 0, _ => exact wd_136
  | 1, _ => exact wd_138
  | 2, _ => exact wd_140
  | k + 3, h => exact absurd h (by omega)
def T_Text : u_T := fun k => match k with
  | 0 => ("EventGraphText", "history", "LEventGraphText$History;", true)
  | 1 => ("EventGraphText", "characters", "LEventGraphText$CharacterList;", true)
  | 2 => ("EventGraphText", "line", "LEventGraphText$Line;", true)
  | 3 => ("EventGraphText", "sites", "[LEventGraphText$Site;", true)
  | _ => ("EventGraphText", "messages", "[LEventGraphText$Message;", true)
def ty_Text : Nat → FieldType := fun k => match k with
  | 0 => .object "EventGraphText$History"
  | 1 => .object "EventGraphText$CharacterList"
  | 2 => .object "EventGraphText$Line"
  | 3 => .array (.object "EventGraphText$Site")
  | _ => .array (.object "EventGraphText$Message")
theorem nm_Text : ∀ a, a < 5 → ∀ b, b < 5 → a ≠ b → (T_Text a).2.1 ≠ (T_Text b).2.1 := by decide +kernel
theorem tyok_Text : ∀ k, k < 5 → parseFieldDescriptor (T_Text k).2.2.1 = some (ty_Text k) := by decide +kernel
theorem hin_Text : ∀ w ∈ u_ws "EventGraphText" T_Text 5, w ∈ xG := by
  intro w hw
  obtain ⟨k, hk, rfl⟩ := List.mem_map.mp hw
  have hk := List.mem_range.mp hk
  match k, hk with
  | 0, _ => exact wd_189
  | 1, _ => exact wd_191
  | 2, _ => exact wd_193
  | 3, _ => exact wd_195
  | 4, _ => exact wd_197
  | k + 5, h => exact absurd h (by omega)
def T_Model : u_T := fun k => match k with
  | 0 => ("EventGraphTextModel", "made", "I", false)
  | 1 => ("EventGraphTextModel", "site", "[I", true)
  | 2 => ("EventGraphTextModel", "number", "[I", true)
  | 3 => ("EventGraphTextModel", "inserts", "[Z", true)
  | 4 => ("EventGraphTextModel", "index", "[I", true)
  | 5 => ("EventGraphTextModel", "letter", "[I", true)
  | 6 => ("EventGraphTextModel", "earlier", "[J", true)
  | 7 => ("EventGraphTextModel", "parents", "[J", true)
  | 8 => ("EventGraphTextModel", "place", "[I", true)
  | 9 => ("EventGraphTextModel", "right", "[Z", true)
  | 10 => ("EventGraphTextModel", "depth", "[I", true)
  | 11 => ("EventGraphTextModel", "row", "[I", true)
  | 12 => ("EventGraphTextModel", "chars", "I", false)
  | 13 => ("EventGraphTextModel", "graph", "[J", true)
  | 14 => ("EventGraphTextModel", "thought", "[J", true)
  | 15 => ("EventGraphTextModel", "load", "[J", true)
  | 16 => ("EventGraphTextModel", "sender", "[I", true)
  | 17 => ("EventGraphTextModel", "receiver", "[I", true)
  | 18 => ("EventGraphTextModel", "again", "[I", true)
  | 19 => ("EventGraphTextModel", "shifts", "[I", true)
  | 20 => ("EventGraphTextModel", "dones", "[I", true)
  | 21 => ("EventGraphTextModel", "did", "[I", true)
  | 22 => ("EventGraphTextModel", "turn", "[I", true)
  | 23 => ("EventGraphTextModel", "turns", "I", false)
  | 24 => ("EventGraphTextModel", "out", "[I", true)
  | _ => ("EventGraphTextModel", "size", "I", false)
def ty_Model : Nat → FieldType := fun k => match k with
  | 0 => .int
  | 1 => .array .int
  | 2 => .array .int
  | 3 => .array .boolean
  | 4 => .array .int
  | 5 => .array .int
  | 6 => .array .long
  | 7 => .array .long
  | 8 => .array .int
  | 9 => .array .boolean
  | 10 => .array .int
  | 11 => .array .int
  | 12 => .int
  | 13 => .array .long
  | 14 => .array .long
  | 15 => .array .long
  | 16 => .array .int
  | 17 => .array .int
  | 18 => .array .int
  | 19 => .array .int
  | 20 => .array .int
  | 21 => .array .int
  | 22 => .array .int
  | 23 => .int
  | 24 => .array .int
  | _ => .int
theorem nm_Model : ∀ a, a < 26 → ∀ b, b < 26 → a ≠ b → (T_Model a).2.1 ≠ (T_Model b).2.1 := by decide +kernel
theorem tyok_Model : ∀ k, k < 26 → parseFieldDescriptor (T_Model k).2.2.1 = some (ty_Model k) := by decide +kernel
theorem hin_Model : ∀ w ∈ u_ws "EventGraphTextModel" T_Model 26, w ∈ xG := by
  intro w hw
  obtain ⟨k, hk, rfl⟩ := List.mem_map.mp hw
  have hk := List.mem_range.mp hk
  match k, hk with
  | 0, _ => exact wd_584
  | 1, _ => exact wd_586
  | 2, _ => exact wd_588
  | 3, _ => exact wd_590
  | 4, _ => exact wd_592
  | 5, _ => exact wd_594
  | 6, _ => exact wd_596
  | 7, _ => exact wd_598
  | 8, _ => exact wd_600
  | 9, _ => exact wd_602
  | 10, _ => exact wd_604
  | 11, _ => exact wd_606
  | 12, _ => exact wd_608
  | 13, _ => exact wd_610
  | 14, _ => exact wd_612
  | 15, _ => exact wd_614
  | 16, _ => exact wd_616
  | 17, _ => exact wd_618
  | 18, _ => exact wd_620
  | 19, _ => exact wd_622
  | 20, _ => exact wd_624
  | 21, _ => exact wd_626
  | 22, _ => exact wd_628
  | 23, _ => exact wd_630
  | 24, _ => exact wd_632
  | 25, _ => exact wd_634
  | k + 26, h => exact absurd h (by omega)
abbrev xCl : List vw_C := [("EventGraphText$CharacterList", T_CharacterList, 8), ("EventGraphText$History", T_History, 9), ("EventGraphText$Line", T_Line, 2), ("EventGraphText$Merge", T_Merge, 4), ("EventGraphText$Message", T_Message, 5), ("EventGraphText$OctetRow", T_OctetRow, 2), ("EventGraphText$Site", T_Site, 3), ("EventGraphText", T_Text, 5), ("EventGraphTextModel", T_Model, 26)]
def xT (dT : Nat → ClassId) : List (ClassId × FieldType) := [(dT 0, .int), (dT 1, .long), (dT 2, .boolean), (dT 3, .object "EventGraphText$Site"), (dT 4, .object "EventGraphText$Message")]
abbrev y_Text_isSite : MethodName := ⟨"EventGraphText", "isSite", "(I)Z"⟩
abbrev b_Text_isSite : ByteArray := prog_1_method_23_code
theorem pd_Text_isSite : y_Text_isSite.cls = "EventGraphText" ∧ y_Text_isSite.cls ≠ "java/lang/invoke/MethodHandle" ∧ y_Text_isSite.cls ≠ "java/lang/invoke/VarHandle" ∧ (parseMethodDescriptor y_Text_isSite.desc).map (fun d => d.parameters.length) = some 1 := by decide +kernel
abbrev y_History_isFull : MethodName := ⟨"EventGraphText$History", "isFull", "()Z"⟩
abbrev b_History_isFull : ByteArray := prog_3_method_2_code
theorem pd_History_isFull : y_History_isFull.cls = "EventGraphText$History" ∧ y_History_isFull.cls ≠ "java/lang/invoke/MethodHandle" ∧ y_History_isFull.cls ≠ "java/lang/invoke/VarHandle" ∧ (parseMethodDescriptor y_History_isFull.desc).map (fun d => d.parameters.length) = some 0 := by decide +kernel
abbrev y_Text_bit : MethodName := ⟨"EventGraphText", "bit", "(I)J"⟩
abbrev b_Text_bit : ByteArray := prog_1_method_25_code
theorem pd_Text_bit : y_Text_bit.cls = "EventGraphText" ∧ y_Text_bit.cls ≠ "java/lang/invoke/MethodHandle" ∧ y_Text_bit.cls ≠ "java/lang/invoke/VarHandle" ∧ (parseMethodDescriptor y_Text_bit.desc).map (fun d => d.parameters.length) = some 1 := by decide +kernel
abbrev y_Text_has : MethodName := ⟨"EventGraphText", "has", "(JI)Z"⟩
abbrev b_Text_has : ByteArray := prog_1_method_26_code
theorem pd_Text_has : y_Text_has.cls = "EventGraphText" ∧ y_Text_has.cls ≠ "java/lang/invoke/MethodHandle" ∧ y_Text_has.cls ≠ "java/lang/invoke/VarHandle" ∧ (parseMethodDescriptor y_Text_has.desc).map (fun d => d.parameters.length) = some 2 := by decide +kernel
abbrev y_CharacterList_shownIn : MethodName := ⟨"EventGraphText$CharacterList", "shownIn", "(J)J"⟩
abbrev b_CharacterList_shownIn : ByteArray := prog_2_method_4_code
theorem pd_CharacterList_shownIn : y_CharacterList_shownIn.cls = "EventGraphText$CharacterList" ∧ y_CharacterList_shownIn.cls ≠ "java/lang/invoke/MethodHandle" ∧ y_CharacterList_shownIn.cls ≠ "java/lang/invoke/VarHandle" ∧ (parseMethodDescriptor y_CharacterList_shownIn.desc).map (fun d => d.parameters.length) = some 1 := by decide +kernel
abbrev y_Long_bitCount : MethodName := ⟨"java/lang/Long", "bitCount", "(J)I"⟩
abbrev b_Long_bitCount : ByteArray := prog_11_method_50_code
theorem pd_Long_bitCount : y_Long_bitCount.cls = "java/lang/Long" ∧ y_Long_bitCount.cls ≠ "java/lang/invoke/MethodHandle" ∧ y_Long_bitCount.cls ≠ "java/lang/invoke/VarHandle" ∧ (parseMethodDescriptor y_Long_bitCount.desc).map (fun d => d.parameters.length) = some 1 := by decide +kernel
abbrev y_CharacterList_shownAt : MethodName := ⟨"EventGraphText$CharacterList", "shownAt", "(JI)I"⟩
abbrev b_CharacterList_shownAt : ByteArray := prog_2_method_5_code
theorem pd_CharacterList_shownAt : y_CharacterList_shownAt.cls = "EventGraphText$CharacterList" ∧ y_CharacterList_shownAt.cls ≠ "java/lang/invoke/MethodHandle" ∧ y_CharacterList_shownAt.cls ≠ "java/lang/invoke/VarHandle" ∧ (parseMethodDescriptor y_CharacterList_shownAt.desc).map (fun d => d.parameters.length) = some 2 := by decide +kernel
abbrev y_History_parentsOfAll : MethodName := ⟨"EventGraphText$History", "parentsOfAll", "(J)J"⟩
abbrev b_History_parentsOfAll : ByteArray := prog_3_method_18_code
theorem pd_History_parentsOfAll : y_History_parentsOfAll.cls = "EventGraphText$History" ∧ y_History_parentsOfAll.cls ≠ "java/lang/invoke/MethodHandle" ∧ y_History_parentsOfAll.cls ≠ "java/lang/invoke/VarHandle" ∧ (parseMethodDescriptor y_History_parentsOfAll.desc).map (fun d => d.parameters.length) = some 1 := by decide +kernel
abbrev y_History_headsOf : MethodName := ⟨"EventGraphText$History", "headsOf", "(J)J"⟩
abbrev b_History_headsOf : ByteArray := prog_3_method_19_code
theorem pd_History_headsOf : y_History_headsOf.cls = "EventGraphText$History" ∧ y_History_headsOf.cls ≠ "java/lang/invoke/MethodHandle" ∧ y_History_headsOf.cls ≠ "java/lang/invoke/VarHandle" ∧ (parseMethodDescriptor y_History_headsOf.desc).map (fun d => d.parameters.length) = some 1 := by decide +kernel
abbrev y_History_record : MethodName := ⟨"EventGraphText$History", "record", "(IIIJ)I"⟩
abbrev b_History_record : ByteArray := prog_3_method_3_code
theorem pd_History_record : y_History_record.cls = "EventGraphText$History" ∧ y_History_record.cls ≠ "java/lang/invoke/MethodHandle" ∧ y_History_record.cls ≠ "java/lang/invoke/VarHandle" ∧ (parseMethodDescriptor y_History_record.desc).map (fun d => d.parameters.length) = some 4 := by decide +kernel
abbrev y_CharacterList_childrenOf : MethodName := ⟨"EventGraphText$CharacterList", "childrenOf", "(IZ)J"⟩
abbrev b_CharacterList_childrenOf : ByteArray := prog_2_method_8_code
theorem pd_CharacterList_childrenOf : y_CharacterList_childrenOf.cls = "EventGraphText$CharacterList" ∧ y_CharacterList_childrenOf.cls ≠ "java/lang/invoke/MethodHandle" ∧ y_CharacterList_childrenOf.cls ≠ "java/lang/invoke/VarHandle" ∧ (parseMethodDescriptor y_CharacterList_childrenOf.desc).map (fun d => d.parameters.length) = some 2 := by decide +kernel
abbrev y_CharacterList_nextBehind : MethodName := ⟨"EventGraphText$CharacterList", "nextBehind", "(IJ)I"⟩
abbrev b_CharacterList_nextBehind : ByteArray := prog_2_method_9_code
theorem pd_CharacterList_nextBehind : y_CharacterList_nextBehind.cls = "EventGraphText$CharacterList" ∧ y_CharacterList_nextBehind.cls ≠ "java/lang/invoke/MethodHandle" ∧ y_CharacterList_nextBehind.cls ≠ "java/lang/invoke/VarHandle" ∧ (parseMethodDescriptor y_CharacterList_nextBehind.desc).map (fun d => d.parameters.length) = some 2 := by decide +kernel
abbrev y_History_comesBefore : MethodName := ⟨"EventGraphText$History", "comesBefore", "(II)Z"⟩
abbrev b_History_comesBefore : ByteArray := prog_3_method_15_code
theorem pd_History_comesBefore : y_History_comesBefore.cls = "EventGraphText$History" ∧ y_History_comesBefore.cls ≠ "java/lang/invoke/MethodHandle" ∧ y_History_comesBefore.cls ≠ "java/lang/invoke/VarHandle" ∧ (parseMethodDescriptor y_History_comesBefore.desc).map (fun d => d.parameters.length) = some 2 := by decide +kernel
abbrev y_CharacterList_nearerSiblings : MethodName := ⟨"EventGraphText$CharacterList", "nearerSiblings", "(LEventGraphText$History;IIZ)J"⟩
abbrev b_CharacterList_nearerSiblings : ByteArray := prog_2_method_12_code
theorem pd_CharacterList_nearerSiblings : y_CharacterList_nearerSiblings.cls = "EventGraphText$CharacterList" ∧ y_CharacterList_nearerSiblings.cls ≠ "java/lang/invoke/MethodHandle" ∧ y_CharacterList_nearerSiblings.cls ≠ "java/lang/invoke/VarHandle" ∧ (parseMethodDescriptor y_CharacterList_nearerSiblings.desc).map (fun d => d.parameters.length) = some 4 := by decide +kernel
abbrev y_CharacterList_rightPosition : MethodName := ⟨"EventGraphText$CharacterList", "rightPosition", "(LEventGraphText$History;II)I"⟩
abbrev b_CharacterList_rightPosition : ByteArray := prog_2_method_11_code
theorem pd_CharacterList_rightPosition : y_CharacterList_rightPosition.cls = "EventGraphText$CharacterList" ∧ y_CharacterList_rightPosition.cls ≠ "java/lang/invoke/MethodHandle" ∧ y_CharacterList_rightPosition.cls ≠ "java/lang/invoke/VarHandle" ∧ (parseMethodDescriptor y_CharacterList_rightPosition.desc).map (fun d => d.parameters.length) = some 3 := by decide +kernel
abbrev y_CharacterList_leftPosition : MethodName := ⟨"EventGraphText$CharacterList", "leftPosition", "(LEventGraphText$History;II)I"⟩
abbrev b_CharacterList_leftPosition : ByteArray := prog_2_method_10_code
theorem pd_CharacterList_leftPosition : y_CharacterList_leftPosition.cls = "EventGraphText$CharacterList" ∧ y_CharacterList_leftPosition.cls ≠ "java/lang/invoke/MethodHandle" ∧ y_CharacterList_leftPosition.cls ≠ "java/lang/invoke/VarHandle" ∧ (parseMethodDescriptor y_CharacterList_leftPosition.desc).map (fun d => d.parameters.length) = some 3 := by decide +kernel
abbrev y_CharacterList_putBehind : MethodName := ⟨"EventGraphText$CharacterList", "putBehind", "(LEventGraphText$History;IIJ)V"⟩
abbrev b_CharacterList_putBehind : ByteArray := prog_2_method_7_code
theorem pd_CharacterList_putBehind : y_CharacterList_putBehind.cls = "EventGraphText$CharacterList" ∧ y_CharacterList_putBehind.cls ≠ "java/lang/invoke/MethodHandle" ∧ y_CharacterList_putBehind.cls ≠ "java/lang/invoke/VarHandle" ∧ (parseMethodDescriptor y_CharacterList_putBehind.desc).map (fun d => d.parameters.length) = some 4 := by decide +kernel
abbrev y_History_numberOf : MethodName := ⟨"EventGraphText$History", "numberOf", "(I)I"⟩
abbrev b_History_numberOf : ByteArray := prog_3_method_7_code
theorem pd_History_numberOf : y_History_numberOf.cls = "EventGraphText$History" ∧ y_History_numberOf.cls ≠ "java/lang/invoke/MethodHandle" ∧ y_History_numberOf.cls ≠ "java/lang/invoke/VarHandle" ∧ (parseMethodDescriptor y_History_numberOf.desc).map (fun d => d.parameters.length) = some 1 := by decide +kernel
abbrev y_Text_insert : MethodName := ⟨"EventGraphText", "insert", "(III)I"⟩
abbrev b_Text_insert : ByteArray := prog_1_method_2_code
theorem pd_Text_insert : y_Text_insert.cls = "EventGraphText" ∧ y_Text_insert.cls ≠ "java/lang/invoke/MethodHandle" ∧ y_Text_insert.cls ≠ "java/lang/invoke/VarHandle" ∧ (parseMethodDescriptor y_Text_insert.desc).map (fun d => d.parameters.length) = some 3 := by decide +kernel
abbrev y_CharacterList_hide : MethodName := ⟨"EventGraphText$CharacterList", "hide", "(II)V"⟩
abbrev b_CharacterList_hide : ByteArray := prog_2_method_2_code
theorem pd_CharacterList_hide : y_CharacterList_hide.cls = "EventGraphText$CharacterList" ∧ y_CharacterList_hide.cls ≠ "java/lang/invoke/MethodHandle" ∧ y_CharacterList_hide.cls ≠ "java/lang/invoke/VarHandle" ∧ (parseMethodDescriptor y_CharacterList_hide.desc).map (fun d => d.parameters.length) = some 2 := by decide +kernel
abbrev y_Text_delete : MethodName := ⟨"EventGraphText", "delete", "(II)I"⟩
abbrev b_Text_delete : ByteArray := prog_1_method_3_code
theorem pd_Text_delete : y_Text_delete.cls = "EventGraphText" ∧ y_Text_delete.cls ≠ "java/lang/invoke/MethodHandle" ∧ y_Text_delete.cls ≠ "java/lang/invoke/VarHandle" ∧ (parseMethodDescriptor y_Text_delete.desc).map (fun d => d.parameters.length) = some 2 := by decide +kernel
abbrev y_Text_length : MethodName := ⟨"EventGraphText", "length", "(I)I"⟩
abbrev b_Text_length : ByteArray := prog_1_method_4_code
theorem pd_Text_length : y_Text_length.cls = "EventGraphText" ∧ y_Text_length.cls ≠ "java/lang/invoke/MethodHandle" ∧ y_Text_length.cls ≠ "java/lang/invoke/VarHandle" ∧ (parseMethodDescriptor y_Text_length.desc).map (fun d => d.parameters.length) = some 1 := by decide +kernel
abbrev y_History_characterOf : MethodName := ⟨"EventGraphText$History", "characterOf", "(I)I"⟩
abbrev b_History_characterOf : ByteArray := prog_3_method_9_code
theorem pd_History_characterOf : y_History_characterOf.cls = "EventGraphText$History" ∧ y_History_characterOf.cls ≠ "java/lang/invoke/MethodHandle" ∧ y_History_characterOf.cls ≠ "java/lang/invoke/VarHandle" ∧ (parseMethodDescriptor y_History_characterOf.desc).map (fun d => d.parameters.length) = some 1 := by decide +kernel
abbrev y_Text_at : MethodName := ⟨"EventGraphText", "at", "(II)I"⟩
abbrev b_Text_at : ByteArray := prog_1_method_5_code
theorem pd_Text_at : y_Text_at.cls = "EventGraphText" ∧ y_Text_at.cls ≠ "java/lang/invoke/MethodHandle" ∧ y_Text_at.cls ≠ "java/lang/invoke/VarHandle" ∧ (parseMethodDescriptor y_Text_at.desc).map (fun d => d.parameters.length) = some 2 := by decide +kernel
abbrev y_Text_areTwoSites : MethodName := ⟨"EventGraphText", "areTwoSites", "(II)Z"⟩
abbrev b_Text_areTwoSites : ByteArray := prog_1_method_24_code
theorem pd_Text_areTwoSites : y_Text_areTwoSites.cls = "EventGraphText" ∧ y_Text_areTwoSites.cls ≠ "java/lang/invoke/MethodHandle" ∧ y_Text_areTwoSites.cls ≠ "java/lang/invoke/VarHandle" ∧ (parseMethodDescriptor y_Text_areTwoSites.desc).map (fun d => d.parameters.length) = some 2 := by decide +kernel
abbrev y_Text_freeNumber : MethodName := ⟨"EventGraphText", "freeNumber", "()I"⟩
abbrev b_Text_freeNumber : ByteArray := prog_1_method_22_code
theorem pd_Text_freeNumber : y_Text_freeNumber.cls = "EventGraphText" ∧ y_Text_freeNumber.cls ≠ "java/lang/invoke/MethodHandle" ∧ y_Text_freeNumber.cls ≠ "java/lang/invoke/VarHandle" ∧ (parseMethodDescriptor y_Text_freeNumber.desc).map (fun d => d.parameters.length) = some 0 := by decide +kernel
abbrev y_History_leastOf : MethodName := ⟨"EventGraphText$History", "leastOf", "(J)I"⟩
abbrev b_History_leastOf : ByteArray := prog_3_method_16_code
theorem pd_History_leastOf : y_History_leastOf.cls = "EventGraphText$History" ∧ y_History_leastOf.cls ≠ "java/lang/invoke/MethodHandle" ∧ y_History_leastOf.cls ≠ "java/lang/invoke/VarHandle" ∧ (parseMethodDescriptor y_History_leastOf.desc).map (fun d => d.parameters.length) = some 1 := by decide +kernel
abbrev y_History_nextOf : MethodName := ⟨"EventGraphText$History", "nextOf", "(JI)I"⟩
abbrev b_History_nextOf : ByteArray := prog_3_method_23_code
theorem pd_History_nextOf : y_History_nextOf.cls = "EventGraphText$History" ∧ y_History_nextOf.cls ≠ "java/lang/invoke/MethodHandle" ∧ y_History_nextOf.cls ≠ "java/lang/invoke/VarHandle" ∧ (parseMethodDescriptor y_History_nextOf.desc).map (fun d => d.parameters.length) = some 2 := by decide +kernel
abbrev y_Line_arrange : MethodName := ⟨"EventGraphText$Line", "arrange", "(LEventGraphText$History;J)V"⟩
abbrev b_Line_arrange : ByteArray := prog_4_method_2_code
theorem pd_Line_arrange : y_Line_arrange.cls = "EventGraphText$Line" ∧ y_Line_arrange.cls ≠ "java/lang/invoke/MethodHandle" ∧ y_Line_arrange.cls ≠ "java/lang/invoke/VarHandle" ∧ (parseMethodDescriptor y_Line_arrange.desc).map (fun d => d.parameters.length) = some 2 := by decide +kernel
abbrev y_Message_start : MethodName := ⟨"EventGraphText$Message", "start", "(IIJ)V"⟩
abbrev b_Message_start : ByteArray := prog_6_method_2_code
theorem pd_Message_start : y_Message_start.cls = "EventGraphText$Message" ∧ y_Message_start.cls ≠ "java/lang/invoke/MethodHandle" ∧ y_Message_start.cls ≠ "java/lang/invoke/VarHandle" ∧ (parseMethodDescriptor y_Message_start.desc).map (fun d => d.parameters.length) = some 3 := by decide +kernel
abbrev y_OctetRow_clear : MethodName := ⟨"EventGraphText$OctetRow", "clear", "()V"⟩
abbrev b_OctetRow_clear : ByteArray := prog_7_method_2_code
theorem pd_OctetRow_clear : y_OctetRow_clear.cls = "EventGraphText$OctetRow" ∧ y_OctetRow_clear.cls ≠ "java/lang/invoke/MethodHandle" ∧ y_OctetRow_clear.cls ≠ "java/lang/invoke/VarHandle" ∧ (parseMethodDescriptor y_OctetRow_clear.desc).map (fun d => d.parameters.length) = some 0 := by decide +kernel
abbrev y_Line_size : MethodName := ⟨"EventGraphText$Line", "size", "()I"⟩
abbrev b_Line_size : ByteArray := prog_4_method_3_code
theorem pd_Line_size : y_Line_size.cls = "EventGraphText$Line" ∧ y_Line_size.cls ≠ "java/lang/invoke/MethodHandle" ∧ y_Line_size.cls ≠ "java/lang/invoke/VarHandle" ∧ (parseMethodDescriptor y_Line_size.desc).map (fun d => d.parameters.length) = some 0 := by decide +kernel
abbrev y_OctetRow_add : MethodName := ⟨"EventGraphText$OctetRow", "add", "(I)V"⟩
abbrev b_OctetRow_add : ByteArray := prog_7_method_7_code
theorem pd_OctetRow_add : y_OctetRow_add.cls = "EventGraphText$OctetRow" ∧ y_OctetRow_add.cls ≠ "java/lang/invoke/MethodHandle" ∧ y_OctetRow_add.cls ≠ "java/lang/invoke/VarHandle" ∧ (parseMethodDescriptor y_OctetRow_add.desc).map (fun d => d.parameters.length) = some 1 := by decide +kernel
abbrev y_OctetRow_put : MethodName := ⟨"EventGraphText$OctetRow", "put", "(I)V"⟩
abbrev b_OctetRow_put : ByteArray := prog_7_method_5_code
theorem pd_OctetRow_put : y_OctetRow_put.cls = "EventGraphText$OctetRow" ∧ y_OctetRow_put.cls ≠ "java/lang/invoke/MethodHandle" ∧ y_OctetRow_put.cls ≠ "java/lang/invoke/VarHandle" ∧ (parseMethodDescriptor y_OctetRow_put.desc).map (fun d => d.parameters.length) = some 1 := by decide +kernel
abbrev y_Line_get : MethodName := ⟨"EventGraphText$Line", "get", "(I)I"⟩
abbrev b_Line_get : ByteArray := prog_4_method_4_code
theorem pd_Line_get : y_Line_get.cls = "EventGraphText$Line" ∧ y_Line_get.cls ≠ "java/lang/invoke/MethodHandle" ∧ y_Line_get.cls ≠ "java/lang/invoke/VarHandle" ∧ (parseMethodDescriptor y_Line_get.desc).map (fun d => d.parameters.length) = some 1 := by decide +kernel
abbrev y_History_siteOf : MethodName := ⟨"EventGraphText$History", "siteOf", "(I)I"⟩
abbrev b_History_siteOf : ByteArray := prog_3_method_6_code
theorem pd_History_siteOf : y_History_siteOf.cls = "EventGraphText$History" ∧ y_History_siteOf.cls ≠ "java/lang/invoke/MethodHandle" ∧ y_History_siteOf.cls ≠ "java/lang/invoke/VarHandle" ∧ (parseMethodDescriptor y_History_siteOf.desc).map (fun d => d.parameters.length) = some 1 := by decide +kernel
abbrev y_Message_writeSites : MethodName := ⟨"EventGraphText$Message", "writeSites", "(LEventGraphText$History;LEventGraphText$Line;)V"⟩
abbrev b_Message_writeSites : ByteArray := prog_6_method_4_code
theorem pd_Message_writeSites : y_Message_writeSites.cls = "EventGraphText$Message" ∧ y_Message_writeSites.cls ≠ "java/lang/invoke/MethodHandle" ∧ y_Message_writeSites.cls ≠ "java/lang/invoke/VarHandle" ∧ (parseMethodDescriptor y_Message_writeSites.desc).map (fun d => d.parameters.length) = some 2 := by decide +kernel
abbrev y_History_isInsert : MethodName := ⟨"EventGraphText$History", "isInsert", "(I)Z"⟩
abbrev b_History_isInsert : ByteArray := prog_3_method_10_code
theorem pd_History_isInsert : y_History_isInsert.cls = "EventGraphText$History" ∧ y_History_isInsert.cls ≠ "java/lang/invoke/MethodHandle" ∧ y_History_isInsert.cls ≠ "java/lang/invoke/VarHandle" ∧ (parseMethodDescriptor y_History_isInsert.desc).map (fun d => d.parameters.length) = some 1 := by decide +kernel
abbrev y_Message_writeKinds : MethodName := ⟨"EventGraphText$Message", "writeKinds", "(LEventGraphText$History;LEventGraphText$Line;)V"⟩
abbrev b_Message_writeKinds : ByteArray := prog_6_method_5_code
theorem pd_Message_writeKinds : y_Message_writeKinds.cls = "EventGraphText$Message" ∧ y_Message_writeKinds.cls ≠ "java/lang/invoke/MethodHandle" ∧ y_Message_writeKinds.cls ≠ "java/lang/invoke/VarHandle" ∧ (parseMethodDescriptor y_Message_writeKinds.desc).map (fun d => d.parameters.length) = some 2 := by decide +kernel
abbrev y_History_indexOf : MethodName := ⟨"EventGraphText$History", "indexOf", "(I)I"⟩
abbrev b_History_indexOf : ByteArray := prog_3_method_8_code
theorem pd_History_indexOf : y_History_indexOf.cls = "EventGraphText$History" ∧ y_History_indexOf.cls ≠ "java/lang/invoke/MethodHandle" ∧ y_History_indexOf.cls ≠ "java/lang/invoke/VarHandle" ∧ (parseMethodDescriptor y_History_indexOf.desc).map (fun d => d.parameters.length) = some 1 := by decide +kernel
abbrev y_OctetRow_putSigned : MethodName := ⟨"EventGraphText$OctetRow", "putSigned", "(I)V"⟩
abbrev b_OctetRow_putSigned : ByteArray := prog_7_method_6_code
theorem pd_OctetRow_putSigned : y_OctetRow_putSigned.cls = "EventGraphText$OctetRow" ∧ y_OctetRow_putSigned.cls ≠ "java/lang/invoke/MethodHandle" ∧ y_OctetRow_putSigned.cls ≠ "java/lang/invoke/VarHandle" ∧ (parseMethodDescriptor y_OctetRow_putSigned.desc).map (fun d => d.parameters.length) = some 1 := by decide +kernel
abbrev y_Message_writeIndices : MethodName := ⟨"EventGraphText$Message", "writeIndices", "(LEventGraphText$History;LEventGraphText$Line;)V"⟩
abbrev b_Message_writeIndices : ByteArray := prog_6_method_6_code
theorem pd_Message_writeIndices : y_Message_writeIndices.cls = "EventGraphText$Message" ∧ y_Message_writeIndices.cls ≠ "java/lang/invoke/MethodHandle" ∧ y_Message_writeIndices.cls ≠ "java/lang/invoke/VarHandle" ∧ (parseMethodDescriptor y_Message_writeIndices.desc).map (fun d => d.parameters.length) = some 2 := by decide +kernel
abbrev y_Message_writeCharacters : MethodName := ⟨"EventGraphText$Message", "writeCharacters", "(LEventGraphText$History;LEventGraphText$Line;)V"⟩
abbrev b_Message_writeCharacters : ByteArray := prog_6_method_7_code
theorem pd_Message_writeCharacters : y_Message_writeCharacters.cls = "EventGraphText$Message" ∧ y_Message_writeCharacters.cls ≠ "java/lang/invoke/MethodHandle" ∧ y_Message_writeCharacters.cls ≠ "java/lang/invoke/VarHandle" ∧ (parseMethodDescriptor y_Message_writeCharacters.desc).map (fun d => d.parameters.length) = some 2 := by decide +kernel
abbrev y_History_parentsOf : MethodName := ⟨"EventGraphText$History", "parentsOf", "(I)J"⟩
abbrev b_History_parentsOf : ByteArray := prog_3_method_11_code
theorem pd_History_parentsOf : y_History_parentsOf.cls = "EventGraphText$History" ∧ y_History_parentsOf.cls ≠ "java/lang/invoke/MethodHandle" ∧ y_History_parentsOf.cls ≠ "java/lang/invoke/VarHandle" ∧ (parseMethodDescriptor y_History_parentsOf.desc).map (fun d => d.parameters.length) = some 1 := by decide +kernel
abbrev y_History_codeOf : MethodName := ⟨"EventGraphText$History", "codeOf", "(I)I"⟩
abbrev b_History_codeOf : ByteArray := prog_3_method_13_code
theorem pd_History_codeOf : y_History_codeOf.cls = "EventGraphText$History" ∧ y_History_codeOf.cls ≠ "java/lang/invoke/MethodHandle" ∧ y_History_codeOf.cls ≠ "java/lang/invoke/VarHandle" ∧ (parseMethodDescriptor y_History_codeOf.desc).map (fun d => d.parameters.length) = some 1 := by decide +kernel
abbrev y_Message_writeParentList : MethodName := ⟨"EventGraphText$Message", "writeParentList", "(LEventGraphText$History;J)V"⟩
abbrev b_Message_writeParentList : ByteArray := prog_6_method_9_code
theorem pd_Message_writeParentList : y_Message_writeParentList.cls = "EventGraphText$Message" ∧ y_Message_writeParentList.cls ≠ "java/lang/invoke/MethodHandle" ∧ y_Message_writeParentList.cls ≠ "java/lang/invoke/VarHandle" ∧ (parseMethodDescriptor y_Message_writeParentList.desc).map (fun d => d.parameters.length) = some 2 := by decide +kernel
abbrev y_Message_writeParents : MethodName := ⟨"EventGraphText$Message", "writeParents", "(LEventGraphText$History;LEventGraphText$Line;)V"⟩
abbrev b_Message_writeParents : ByteArray := prog_6_method_8_code
theorem pd_Message_writeParents : y_Message_writeParents.cls = "EventGraphText$Message" ∧ y_Message_writeParents.cls ≠ "java/lang/invoke/MethodHandle" ∧ y_Message_writeParents.cls ≠ "java/lang/invoke/VarHandle" ∧ (parseMethodDescriptor y_Message_writeParents.desc).map (fun d => d.parameters.length) = some 2 := by decide +kernel
abbrev y_Message_write : MethodName := ⟨"EventGraphText$Message", "write", "(LEventGraphText$History;LEventGraphText$Line;)V"⟩
abbrev b_Message_write : ByteArray := prog_6_method_3_code
theorem pd_Message_write : y_Message_write.cls = "EventGraphText$Message" ∧ y_Message_write.cls ≠ "java/lang/invoke/MethodHandle" ∧ y_Message_write.cls ≠ "java/lang/invoke/VarHandle" ∧ (parseMethodDescriptor y_Message_write.desc).map (fun d => d.parameters.length) = some 2 := by decide +kernel
abbrev y_Text_send : MethodName := ⟨"EventGraphText", "send", "(II)I"⟩
abbrev b_Text_send : ByteArray := prog_1_method_6_code
theorem pd_Text_send : y_Text_send.cls = "EventGraphText" ∧ y_Text_send.cls ≠ "java/lang/invoke/MethodHandle" ∧ y_Text_send.cls ≠ "java/lang/invoke/VarHandle" ∧ (parseMethodDescriptor y_Text_send.desc).map (fun d => d.parameters.length) = some 2 := by decide +kernel
abbrev y_Text_isUnderWay : MethodName := ⟨"EventGraphText", "isUnderWay", "(I)Z"⟩
abbrev b_Text_isUnderWay : ByteArray := prog_1_method_21_code
theorem pd_Text_isUnderWay : y_Text_isUnderWay.cls = "EventGraphText" ∧ y_Text_isUnderWay.cls ≠ "java/lang/invoke/MethodHandle" ∧ y_Text_isUnderWay.cls ≠ "java/lang/invoke/VarHandle" ∧ (parseMethodDescriptor y_Text_isUnderWay.desc).map (fun d => d.parameters.length) = some 1 := by decide +kernel
abbrev y_History_withAncestors : MethodName := ⟨"EventGraphText$History", "withAncestors", "(J)J"⟩
abbrev b_History_withAncestors : ByteArray := prog_3_method_17_code
theorem pd_History_withAncestors : y_History_withAncestors.cls = "EventGraphText$History" ∧ y_History_withAncestors.cls ≠ "java/lang/invoke/MethodHandle" ∧ y_History_withAncestors.cls ≠ "java/lang/invoke/VarHandle" ∧ (parseMethodDescriptor y_History_withAncestors.desc).map (fun d => d.parameters.length) = some 1 := by decide +kernel
abbrev y_History_upTo : MethodName := ⟨"EventGraphText$History", "upTo", "(I)J"⟩
abbrev b_History_upTo : ByteArray := prog_3_method_14_code
theorem pd_History_upTo : y_History_upTo.cls = "EventGraphText$History" ∧ y_History_upTo.cls ≠ "java/lang/invoke/MethodHandle" ∧ y_History_upTo.cls ≠ "java/lang/invoke/VarHandle" ∧ (parseMethodDescriptor y_History_upTo.desc).map (fun d => d.parameters.length) = some 1 := by decide +kernel
abbrev y_History_descendantsOf : MethodName := ⟨"EventGraphText$History", "descendantsOf", "(IJ)J"⟩
abbrev b_History_descendantsOf : ByteArray := prog_3_method_20_code
theorem pd_History_descendantsOf : y_History_descendantsOf.cls = "EventGraphText$History" ∧ y_History_descendantsOf.cls ≠ "java/lang/invoke/MethodHandle" ∧ y_History_descendantsOf.cls ≠ "java/lang/invoke/VarHandle" ∧ (parseMethodDescriptor y_History_descendantsOf.desc).map (fun d => d.parameters.length) = some 2 := by decide +kernel
abbrev y_History_isCritical : MethodName := ⟨"EventGraphText$History", "isCritical", "(IJ)Z"⟩
abbrev b_History_isCritical : ByteArray := prog_3_method_21_code
theorem pd_History_isCritical : y_History_isCritical.cls = "EventGraphText$History" ∧ y_History_isCritical.cls ≠ "java/lang/invoke/MethodHandle" ∧ y_History_isCritical.cls ≠ "java/lang/invoke/VarHandle" ∧ (parseMethodDescriptor y_History_isCritical.desc).map (fun d => d.parameters.length) = some 2 := by decide +kernel
abbrev y_History_lastCritical : MethodName := ⟨"EventGraphText$History", "lastCritical", "(JJ)I"⟩
abbrev b_History_lastCritical : ByteArray := prog_3_method_22_code
theorem pd_History_lastCritical : y_History_lastCritical.cls = "EventGraphText$History" ∧ y_History_lastCritical.cls ≠ "java/lang/invoke/MethodHandle" ∧ y_History_lastCritical.cls ≠ "java/lang/invoke/VarHandle" ∧ (parseMethodDescriptor y_History_lastCritical.desc).map (fun d => d.parameters.length) = some 2 := by decide +kernel
abbrev y_History_ancestorsOf : MethodName := ⟨"EventGraphText$History", "ancestorsOf", "(I)J"⟩
abbrev b_History_ancestorsOf : ByteArray := prog_3_method_12_code
theorem pd_History_ancestorsOf : y_History_ancestorsOf.cls = "EventGraphText$History" ∧ y_History_ancestorsOf.cls ≠ "java/lang/invoke/MethodHandle" ∧ y_History_ancestorsOf.cls ≠ "java/lang/invoke/VarHandle" ∧ (parseMethodDescriptor y_History_ancestorsOf.desc).map (fun d => d.parameters.length) = some 1 := by decide +kernel
abbrev y_Merge_passThrough : MethodName := ⟨"EventGraphText$Merge", "passThrough", "(LEventGraphText$History;LEventGraphText$Line;J)J"⟩
abbrev b_Merge_passThrough : ByteArray := prog_5_method_3_code
theorem pd_Merge_passThrough : y_Merge_passThrough.cls = "EventGraphText$Merge" ∧ y_Merge_passThrough.cls ≠ "java/lang/invoke/MethodHandle" ∧ y_Merge_passThrough.cls ≠ "java/lang/invoke/VarHandle" ∧ (parseMethodDescriptor y_Merge_passThrough.desc).map (fun d => d.parameters.length) = some 3 := by decide +kernel
abbrev y_CharacterList_indexIn : MethodName := ⟨"EventGraphText$CharacterList", "indexIn", "(JI)I"⟩
abbrev b_CharacterList_indexIn : ByteArray := prog_2_method_6_code
theorem pd_CharacterList_indexIn : y_CharacterList_indexIn.cls = "EventGraphText$CharacterList" ∧ y_CharacterList_indexIn.cls ≠ "java/lang/invoke/MethodHandle" ∧ y_CharacterList_indexIn.cls ≠ "java/lang/invoke/VarHandle" ∧ (parseMethodDescriptor y_CharacterList_indexIn.desc).map (fun d => d.parameters.length) = some 2 := by decide +kernel
abbrev y_CharacterList_takenBy : MethodName := ⟨"EventGraphText$CharacterList", "takenBy", "(I)I"⟩
abbrev b_CharacterList_takenBy : ByteArray := prog_2_method_3_code
theorem pd_CharacterList_takenBy : y_CharacterList_takenBy.cls = "EventGraphText$CharacterList" ∧ y_CharacterList_takenBy.cls ≠ "java/lang/invoke/MethodHandle" ∧ y_CharacterList_takenBy.cls ≠ "java/lang/invoke/VarHandle" ∧ (parseMethodDescriptor y_CharacterList_takenBy.desc).map (fun d => d.parameters.length) = some 1 := by decide +kernel
abbrev y_Merge_removal : MethodName := ⟨"EventGraphText$Merge", "removal", "(LEventGraphText$CharacterList;JI)I"⟩
abbrev b_Merge_removal : ByteArray := prog_5_method_5_code
theorem pd_Merge_removal : y_Merge_removal.cls = "EventGraphText$Merge" ∧ y_Merge_removal.cls ≠ "java/lang/invoke/MethodHandle" ∧ y_Merge_removal.cls ≠ "java/lang/invoke/VarHandle" ∧ (parseMethodDescriptor y_Merge_removal.desc).map (fun d => d.parameters.length) = some 3 := by decide +kernel
abbrev y_Merge_applyAll : MethodName := ⟨"EventGraphText$Merge", "applyAll", "(LEventGraphText$History;LEventGraphText$CharacterList;LEventGraphText$Line;J)V"⟩
abbrev b_Merge_applyAll : ByteArray := prog_5_method_4_code
theorem pd_Merge_applyAll : y_Merge_applyAll.cls = "EventGraphText$Merge" ∧ y_Merge_applyAll.cls ≠ "java/lang/invoke/MethodHandle" ∧ y_Merge_applyAll.cls ≠ "java/lang/invoke/VarHandle" ∧ (parseMethodDescriptor y_Merge_applyAll.desc).map (fun d => d.parameters.length) = some 4 := by decide +kernel
abbrev y_Merge_perform : MethodName := ⟨"EventGraphText$Merge", "perform", "(LEventGraphText$History;LEventGraphText$CharacterList;LEventGraphText$Line;JJ)V"⟩
abbrev b_Merge_perform : ByteArray := prog_5_method_2_code
theorem pd_Merge_perform : y_Merge_perform.cls = "EventGraphText$Merge" ∧ y_Merge_perform.cls ≠ "java/lang/invoke/MethodHandle" ∧ y_Merge_perform.cls ≠ "java/lang/invoke/VarHandle" ∧ (parseMethodDescriptor y_Merge_perform.desc).map (fun d => d.parameters.length) = some 5 := by decide +kernel
abbrev y_Text_deliver : MethodName := ⟨"EventGraphText", "deliver", "(I)I"⟩
abbrev b_Text_deliver : ByteArray := prog_1_method_7_code
theorem pd_Text_deliver : y_Text_deliver.cls = "EventGraphText" ∧ y_Text_deliver.cls ≠ "java/lang/invoke/MethodHandle" ∧ y_Text_deliver.cls ≠ "java/lang/invoke/VarHandle" ∧ (parseMethodDescriptor y_Text_deliver.desc).map (fun d => d.parameters.length) = some 1 := by decide +kernel
abbrev y_Text_discard : MethodName := ⟨"EventGraphText", "discard", "(I)Z"⟩
abbrev b_Text_discard : ByteArray := prog_1_method_8_code
theorem pd_Text_discard : y_Text_discard.cls = "EventGraphText" ∧ y_Text_discard.cls ≠ "java/lang/invoke/MethodHandle" ∧ y_Text_discard.cls ≠ "java/lang/invoke/VarHandle" ∧ (parseMethodDescriptor y_Text_discard.desc).map (fun d => d.parameters.length) = some 1 := by decide +kernel
abbrev y_Text_hear : MethodName := ⟨"EventGraphText", "hear", "(II)I"⟩
abbrev b_Text_hear : ByteArray := prog_1_method_9_code
theorem pd_Text_hear : y_Text_hear.cls = "EventGraphText" ∧ y_Text_hear.cls ≠ "java/lang/invoke/MethodHandle" ∧ y_Text_hear.cls ≠ "java/lang/invoke/VarHandle" ∧ (parseMethodDescriptor y_Text_hear.desc).map (fun d => d.parameters.length) = some 2 := by decide +kernel
abbrev y_Text_believed : MethodName := ⟨"EventGraphText", "believed", "(II)I"⟩
abbrev b_Text_believed : ByteArray := prog_1_method_10_code
theorem pd_Text_believed : y_Text_believed.cls = "EventGraphText" ∧ y_Text_believed.cls ≠ "java/lang/invoke/MethodHandle" ∧ y_Text_believed.cls ≠ "java/lang/invoke/VarHandle" ∧ (parseMethodDescriptor y_Text_believed.desc).map (fun d => d.parameters.length) = some 2 := by decide +kernel
abbrev y_OctetRow_size : MethodName := ⟨"EventGraphText$OctetRow", "size", "()I"⟩
abbrev b_OctetRow_size : ByteArray := prog_7_method_3_code
theorem pd_OctetRow_size : y_OctetRow_size.cls = "EventGraphText$OctetRow" ∧ y_OctetRow_size.cls ≠ "java/lang/invoke/MethodHandle" ∧ y_OctetRow_size.cls ≠ "java/lang/invoke/VarHandle" ∧ (parseMethodDescriptor y_OctetRow_size.desc).map (fun d => d.parameters.length) = some 0 := by decide +kernel
abbrev y_Text_octets : MethodName := ⟨"EventGraphText", "octets", "(I)I"⟩
abbrev b_Text_octets : ByteArray := prog_1_method_11_code
theorem pd_Text_octets : y_Text_octets.cls = "EventGraphText" ∧ y_Text_octets.cls ≠ "java/lang/invoke/MethodHandle" ∧ y_Text_octets.cls ≠ "java/lang/invoke/VarHandle" ∧ (parseMethodDescriptor y_Text_octets.desc).map (fun d => d.parameters.length) = some 1 := by decide +kernel
abbrev y_OctetRow_get : MethodName := ⟨"EventGraphText$OctetRow", "get", "(I)I"⟩
abbrev b_OctetRow_get : ByteArray := prog_7_method_4_code
theorem pd_OctetRow_get : y_OctetRow_get.cls = "EventGraphText$OctetRow" ∧ y_OctetRow_get.cls ≠ "java/lang/invoke/MethodHandle" ∧ y_OctetRow_get.cls ≠ "java/lang/invoke/VarHandle" ∧ (parseMethodDescriptor y_OctetRow_get.desc).map (fun d => d.parameters.length) = some 1 := by decide +kernel
abbrev y_Text_octet : MethodName := ⟨"EventGraphText", "octet", "(II)I"⟩
abbrev b_Text_octet : ByteArray := prog_1_method_12_code
theorem pd_Text_octet : y_Text_octet.cls = "EventGraphText" ∧ y_Text_octet.cls ≠ "java/lang/invoke/MethodHandle" ∧ y_Text_octet.cls ≠ "java/lang/invoke/VarHandle" ∧ (parseMethodDescriptor y_Text_octet.desc).map (fun d => d.parameters.length) = some 2 := by decide +kernel
abbrev y_Text_events : MethodName := ⟨"EventGraphText", "events", "(I)I"⟩
abbrev b_Text_events : ByteArray := prog_1_method_13_code
theorem pd_Text_events : y_Text_events.cls = "EventGraphText" ∧ y_Text_events.cls ≠ "java/lang/invoke/MethodHandle" ∧ y_Text_events.cls ≠ "java/lang/invoke/VarHandle" ∧ (parseMethodDescriptor y_Text_events.desc).map (fun d => d.parameters.length) = some 1 := by decide +kernel
abbrev y_Text_heads : MethodName := ⟨"EventGraphText", "heads", "(I)I"⟩
abbrev b_Text_heads : ByteArray := prog_1_method_14_code
theorem pd_Text_heads : y_Text_heads.cls = "EventGraphText" ∧ y_Text_heads.cls ≠ "java/lang/invoke/MethodHandle" ∧ y_Text_heads.cls ≠ "java/lang/invoke/VarHandle" ∧ (parseMethodDescriptor y_Text_heads.desc).map (fun d => d.parameters.length) = some 1 := by decide +kernel
abbrev y_Text_head : MethodName := ⟨"EventGraphText", "head", "(II)I"⟩
abbrev b_Text_head : ByteArray := prog_1_method_15_code
theorem pd_Text_head : y_Text_head.cls = "EventGraphText" ∧ y_Text_head.cls ≠ "java/lang/invoke/MethodHandle" ∧ y_Text_head.cls ≠ "java/lang/invoke/VarHandle" ∧ (parseMethodDescriptor y_Text_head.desc).map (fun d => d.parameters.length) = some 2 := by decide +kernel
abbrev y_History_wasMade : MethodName := ⟨"EventGraphText$History", "wasMade", "(II)Z"⟩
abbrev b_History_wasMade : ByteArray := prog_3_method_4_code
theorem pd_History_wasMade : y_History_wasMade.cls = "EventGraphText$History" ∧ y_History_wasMade.cls ≠ "java/lang/invoke/MethodHandle" ∧ y_History_wasMade.cls ≠ "java/lang/invoke/VarHandle" ∧ (parseMethodDescriptor y_History_wasMade.desc).map (fun d => d.parameters.length) = some 2 := by decide +kernel
abbrev y_History_slotOf : MethodName := ⟨"EventGraphText$History", "slotOf", "(II)I"⟩
abbrev b_History_slotOf : ByteArray := prog_3_method_5_code
theorem pd_History_slotOf : y_History_slotOf.cls = "EventGraphText$History" ∧ y_History_slotOf.cls ≠ "java/lang/invoke/MethodHandle" ∧ y_History_slotOf.cls ≠ "java/lang/invoke/VarHandle" ∧ (parseMethodDescriptor y_History_slotOf.desc).map (fun d => d.parameters.length) = some 2 := by decide +kernel
abbrev y_Text_ancestor : MethodName := ⟨"EventGraphText", "ancestor", "(IIII)I"⟩
abbrev b_Text_ancestor : ByteArray := prog_1_method_16_code
theorem pd_Text_ancestor : y_Text_ancestor.cls = "EventGraphText" ∧ y_Text_ancestor.cls ≠ "java/lang/invoke/MethodHandle" ∧ y_Text_ancestor.cls ≠ "java/lang/invoke/VarHandle" ∧ (parseMethodDescriptor y_Text_ancestor.desc).map (fun d => d.parameters.length) = some 4 := by decide +kernel
abbrev y_Text_critical : MethodName := ⟨"EventGraphText", "critical", "(I)I"⟩
abbrev b_Text_critical : ByteArray := prog_1_method_17_code
theorem pd_Text_critical : y_Text_critical.cls = "EventGraphText" ∧ y_Text_critical.cls ≠ "java/lang/invoke/MethodHandle" ∧ y_Text_critical.cls ≠ "java/lang/invoke/VarHandle" ∧ (parseMethodDescriptor y_Text_critical.desc).map (fun d => d.parameters.length) = some 1 := by decide +kernel
abbrev y_Text_replayed : MethodName := ⟨"EventGraphText", "replayed", "(I)I"⟩
abbrev b_Text_replayed : ByteArray := prog_1_method_18_code
theorem pd_Text_replayed : y_Text_replayed.cls = "EventGraphText" ∧ y_Text_replayed.cls ≠ "java/lang/invoke/MethodHandle" ∧ y_Text_replayed.cls ≠ "java/lang/invoke/VarHandle" ∧ (parseMethodDescriptor y_Text_replayed.desc).map (fun d => d.parameters.length) = some 1 := by decide +kernel
abbrev y_Text_moves : MethodName := ⟨"EventGraphText", "moves", "(I)I"⟩
abbrev b_Text_moves : ByteArray := prog_1_method_19_code
theorem pd_Text_moves : y_Text_moves.cls = "EventGraphText" ∧ y_Text_moves.cls ≠ "java/lang/invoke/MethodHandle" ∧ y_Text_moves.cls ≠ "java/lang/invoke/VarHandle" ∧ (parseMethodDescriptor y_Text_moves.desc).map (fun d => d.parameters.length) = some 1 := by decide +kernel
abbrev y_Text_operation : MethodName := ⟨"EventGraphText", "operation", "(II)I"⟩
abbrev b_Text_operation : ByteArray := prog_1_method_20_code
theorem pd_Text_operation : y_Text_operation.cls = "EventGraphText" ∧ y_Text_operation.cls ≠ "java/lang/invoke/MethodHandle" ∧ y_Text_operation.cls ≠ "java/lang/invoke/VarHandle" ∧ (parseMethodDescriptor y_Text_operation.desc).map (fun d => d.parameters.length) = some 2 := by decide +kernel
abbrev y_Model_in : MethodName := ⟨"EventGraphTextModel", "in", "(JI)Z"⟩
abbrev b_Model_in : ByteArray := prog_10_method_2_code
theorem pd_Model_in : y_Model_in.cls = "EventGraphTextModel" ∧ y_Model_in.cls ≠ "java/lang/invoke/MethodHandle" ∧ y_Model_in.cls ≠ "java/lang/invoke/VarHandle" ∧ (parseMethodDescriptor y_Model_in.desc).map (fun d => d.parameters.length) = some 2 := by decide +kernel
abbrev y_Model_one : MethodName := ⟨"EventGraphTextModel", "one", "(I)J"⟩
abbrev b_Model_one : ByteArray := prog_10_method_3_code
theorem pd_Model_one : y_Model_one.cls = "EventGraphTextModel" ∧ y_Model_one.cls ≠ "java/lang/invoke/MethodHandle" ∧ y_Model_one.cls ≠ "java/lang/invoke/VarHandle" ∧ (parseMethodDescriptor y_Model_one.desc).map (fun d => d.parameters.length) = some 1 := by decide +kernel
abbrev y_Model_many : MethodName := ⟨"EventGraphTextModel", "many", "(J)I"⟩
abbrev b_Model_many : ByteArray := prog_10_method_4_code
theorem pd_Model_many : y_Model_many.cls = "EventGraphTextModel" ∧ y_Model_many.cls ≠ "java/lang/invoke/MethodHandle" ∧ y_Model_many.cls ≠ "java/lang/invoke/VarHandle" ∧ (parseMethodDescriptor y_Model_many.desc).map (fun d => d.parameters.length) = some 1 := by decide +kernel
abbrev y_Model_wrong : MethodName := ⟨"EventGraphTextModel", "wrong", "(I)Z"⟩
abbrev b_Model_wrong : ByteArray := prog_10_method_5_code
theorem pd_Model_wrong : y_Model_wrong.cls = "EventGraphTextModel" ∧ y_Model_wrong.cls ≠ "java/lang/invoke/MethodHandle" ∧ y_Model_wrong.cls ≠ "java/lang/invoke/VarHandle" ∧ (parseMethodDescriptor y_Model_wrong.desc).map (fun d => d.parameters.length) = some 1 := by decide +kernel
abbrev y_Model_wrongPair : MethodName := ⟨"EventGraphTextModel", "wrongPair", "(II)Z"⟩
abbrev b_Model_wrongPair : ByteArray := prog_10_method_6_code
theorem pd_Model_wrongPair : y_Model_wrongPair.cls = "EventGraphTextModel" ∧ y_Model_wrongPair.cls ≠ "java/lang/invoke/MethodHandle" ∧ y_Model_wrongPair.cls ≠ "java/lang/invoke/VarHandle" ∧ (parseMethodDescriptor y_Model_wrongPair.desc).map (fun d => d.parameters.length) = some 2 := by decide +kernel
abbrev y_Model_hidden : MethodName := ⟨"EventGraphTextModel", "hidden", "(J)J"⟩
abbrev b_Model_hidden : ByteArray := prog_10_method_7_code
theorem pd_Model_hidden : y_Model_hidden.cls = "EventGraphTextModel" ∧ y_Model_hidden.cls ≠ "java/lang/invoke/MethodHandle" ∧ y_Model_hidden.cls ≠ "java/lang/invoke/VarHandle" ∧ (parseMethodDescriptor y_Model_hidden.desc).map (fun d => d.parameters.length) = some 1 := by decide +kernel
abbrev y_Model_shownAt : MethodName := ⟨"EventGraphTextModel", "shownAt", "(JI)I"⟩
abbrev b_Model_shownAt : ByteArray := prog_10_method_8_code
theorem pd_Model_shownAt : y_Model_shownAt.cls = "EventGraphTextModel" ∧ y_Model_shownAt.cls ≠ "java/lang/invoke/MethodHandle" ∧ y_Model_shownAt.cls ≠ "java/lang/invoke/VarHandle" ∧ (parseMethodDescriptor y_Model_shownAt.desc).map (fun d => d.parameters.length) = some 2 := by decide +kernel
abbrev y_Model_shownBefore : MethodName := ⟨"EventGraphTextModel", "shownBefore", "(JI)I"⟩
abbrev b_Model_shownBefore : ByteArray := prog_10_method_9_code
theorem pd_Model_shownBefore : y_Model_shownBefore.cls = "EventGraphTextModel" ∧ y_Model_shownBefore.cls ≠ "java/lang/invoke/MethodHandle" ∧ y_Model_shownBefore.cls ≠ "java/lang/invoke/VarHandle" ∧ (parseMethodDescriptor y_Model_shownBefore.desc).map (fun d => d.parameters.length) = some 2 := by decide +kernel
abbrev y_Model_behind : MethodName := ⟨"EventGraphTextModel", "behind", "(JI)I"⟩
abbrev b_Model_behind : ByteArray := prog_10_method_10_code
theorem pd_Model_behind : y_Model_behind.cls = "EventGraphTextModel" ∧ y_Model_behind.cls ≠ "java/lang/invoke/MethodHandle" ∧ y_Model_behind.cls ≠ "java/lang/invoke/VarHandle" ∧ (parseMethodDescriptor y_Model_behind.desc).map (fun d => d.parameters.length) = some 2 := by decide +kernel
abbrev y_Model_lower : MethodName := ⟨"EventGraphTextModel", "lower", "(II)Z"⟩
abbrev b_Model_lower : ByteArray := prog_10_method_11_code
theorem pd_Model_lower : y_Model_lower.cls = "EventGraphTextModel" ∧ y_Model_lower.cls ≠ "java/lang/invoke/MethodHandle" ∧ y_Model_lower.cls ≠ "java/lang/invoke/VarHandle" ∧ (parseMethodDescriptor y_Model_lower.desc).map (fun d => d.parameters.length) = some 2 := by decide +kernel
abbrev y_Model_stands : MethodName := ⟨"EventGraphTextModel", "stands", "(II)Z"⟩
abbrev b_Model_stands : ByteArray := prog_10_method_12_code
theorem pd_Model_stands : y_Model_stands.cls = "EventGraphTextModel" ∧ y_Model_stands.cls ≠ "java/lang/invoke/MethodHandle" ∧ y_Model_stands.cls ≠ "java/lang/invoke/VarHandle" ∧ (parseMethodDescriptor y_Model_stands.desc).map (fun d => d.parameters.length) = some 2 := by decide +kernel
abbrev y_Model_intoRow : MethodName := ⟨"EventGraphTextModel", "intoRow", "(I)V"⟩
abbrev b_Model_intoRow : ByteArray := prog_10_method_13_code
theorem pd_Model_intoRow : y_Model_intoRow.cls = "EventGraphTextModel" ∧ y_Model_intoRow.cls ≠ "java/lang/invoke/MethodHandle" ∧ y_Model_intoRow.cls ≠ "java/lang/invoke/VarHandle" ∧ (parseMethodDescriptor y_Model_intoRow.desc).map (fun d => d.parameters.length) = some 1 := by decide +kernel
abbrev y_Model_tips : MethodName := ⟨"EventGraphTextModel", "tips", "(J)J"⟩
abbrev b_Model_tips : ByteArray := prog_10_method_14_code
theorem pd_Model_tips : y_Model_tips.cls = "EventGraphTextModel" ∧ y_Model_tips.cls ≠ "java/lang/invoke/MethodHandle" ∧ y_Model_tips.cls ≠ "java/lang/invoke/VarHandle" ∧ (parseMethodDescriptor y_Model_tips.desc).map (fun d => d.parameters.length) = some 1 := by decide +kernel
abbrev y_Model_event : MethodName := ⟨"EventGraphTextModel", "event", "(IZI)I"⟩
abbrev b_Model_event : ByteArray := prog_10_method_15_code
theorem pd_Model_event : y_Model_event.cls = "EventGraphTextModel" ∧ y_Model_event.cls ≠ "java/lang/invoke/MethodHandle" ∧ y_Model_event.cls ≠ "java/lang/invoke/VarHandle" ∧ (parseMethodDescriptor y_Model_event.desc).map (fun d => d.parameters.length) = some 3 := by decide +kernel
abbrev y_Model_length : MethodName := ⟨"EventGraphTextModel", "length", "(I)I"⟩
abbrev b_Model_length : ByteArray := prog_10_method_18_code
theorem pd_Model_length : y_Model_length.cls = "EventGraphTextModel" ∧ y_Model_length.cls ≠ "java/lang/invoke/MethodHandle" ∧ y_Model_length.cls ≠ "java/lang/invoke/VarHandle" ∧ (parseMethodDescriptor y_Model_length.desc).map (fun d => d.parameters.length) = some 1 := by decide +kernel
abbrev y_Model_insert : MethodName := ⟨"EventGraphTextModel", "insert", "(III)I"⟩
abbrev b_Model_insert : ByteArray := prog_10_method_16_code
theorem pd_Model_insert : y_Model_insert.cls = "EventGraphTextModel" ∧ y_Model_insert.cls ≠ "java/lang/invoke/MethodHandle" ∧ y_Model_insert.cls ≠ "java/lang/invoke/VarHandle" ∧ (parseMethodDescriptor y_Model_insert.desc).map (fun d => d.parameters.length) = some 3 := by decide +kernel
abbrev y_Model_delete : MethodName := ⟨"EventGraphTextModel", "delete", "(II)I"⟩
abbrev b_Model_delete : ByteArray := prog_10_method_17_code
theorem pd_Model_delete : y_Model_delete.cls = "EventGraphTextModel" ∧ y_Model_delete.cls ≠ "java/lang/invoke/MethodHandle" ∧ y_Model_delete.cls ≠ "java/lang/invoke/VarHandle" ∧ (parseMethodDescriptor y_Model_delete.desc).map (fun d => d.parameters.length) = some 2 := by decide +kernel
abbrev y_Model_at : MethodName := ⟨"EventGraphTextModel", "at", "(II)I"⟩
abbrev b_Model_at : ByteArray := prog_10_method_19_code
theorem pd_Model_at : y_Model_at.cls = "EventGraphTextModel" ∧ y_Model_at.cls ≠ "java/lang/invoke/MethodHandle" ∧ y_Model_at.cls ≠ "java/lang/invoke/VarHandle" ∧ (parseMethodDescriptor y_Model_at.desc).map (fun d => d.parameters.length) = some 2 := by decide +kernel
abbrev y_Model_can : MethodName := ⟨"EventGraphTextModel", "can", "(JJI)Z"⟩
abbrev b_Model_can : ByteArray := prog_10_method_20_code
theorem pd_Model_can : y_Model_can.cls = "EventGraphTextModel" ∧ y_Model_can.cls ≠ "java/lang/invoke/MethodHandle" ∧ y_Model_can.cls ≠ "java/lang/invoke/VarHandle" ∧ (parseMethodDescriptor y_Model_can.desc).map (fun d => d.parameters.length) = some 3 := by decide +kernel
abbrev y_Model_nextOf : MethodName := ⟨"EventGraphTextModel", "nextOf", "(JJI)I"⟩
abbrev b_Model_nextOf : ByteArray := prog_10_method_21_code
theorem pd_Model_nextOf : y_Model_nextOf.cls = "EventGraphTextModel" ∧ y_Model_nextOf.cls ≠ "java/lang/invoke/MethodHandle" ∧ y_Model_nextOf.cls ≠ "java/lang/invoke/VarHandle" ∧ (parseMethodDescriptor y_Model_nextOf.desc).map (fun d => d.parameters.length) = some 3 := by decide +kernel
abbrev y_Model_order : MethodName := ⟨"EventGraphTextModel", "order", "(J)V"⟩
abbrev b_Model_order : ByteArray := prog_10_method_22_code
theorem pd_Model_order : y_Model_order.cls = "EventGraphTextModel" ∧ y_Model_order.cls ≠ "java/lang/invoke/MethodHandle" ∧ y_Model_order.cls ≠ "java/lang/invoke/VarHandle" ∧ (parseMethodDescriptor y_Model_order.desc).map (fun d => d.parameters.length) = some 1 := by decide +kernel
abbrev y_Model_send : MethodName := ⟨"EventGraphTextModel", "send", "(II)I"⟩
abbrev b_Model_send : ByteArray := prog_10_method_23_code
theorem pd_Model_send : y_Model_send.cls = "EventGraphTextModel" ∧ y_Model_send.cls ≠ "java/lang/invoke/MethodHandle" ∧ y_Model_send.cls ≠ "java/lang/invoke/VarHandle" ∧ (parseMethodDescriptor y_Model_send.desc).map (fun d => d.parameters.length) = some 2 := by decide +kernel
abbrev y_Model_none : MethodName := ⟨"EventGraphTextModel", "none", "(I)Z"⟩
abbrev b_Model_none : ByteArray := prog_10_method_24_code
theorem pd_Model_none : y_Model_none.cls = "EventGraphTextModel" ∧ y_Model_none.cls ≠ "java/lang/invoke/MethodHandle" ∧ y_Model_none.cls ≠ "java/lang/invoke/VarHandle" ∧ (parseMethodDescriptor y_Model_none.desc).map (fun d => d.parameters.length) = some 1 := by decide +kernel
abbrev y_Model_discard : MethodName := ⟨"EventGraphTextModel", "discard", "(I)Z"⟩
abbrev b_Model_discard : ByteArray := prog_10_method_25_code
theorem pd_Model_discard : y_Model_discard.cls = "EventGraphTextModel" ∧ y_Model_discard.cls ≠ "java/lang/invoke/MethodHandle" ∧ y_Model_discard.cls ≠ "java/lang/invoke/VarHandle" ∧ (parseMethodDescriptor y_Model_discard.desc).map (fun d => d.parameters.length) = some 1 := by decide +kernel
abbrev y_Model_whole : MethodName := ⟨"EventGraphTextModel", "whole", "(J)J"⟩
abbrev b_Model_whole : ByteArray := prog_10_method_26_code
theorem pd_Model_whole : y_Model_whole.cls = "EventGraphTextModel" ∧ y_Model_whole.cls ≠ "java/lang/invoke/MethodHandle" ∧ y_Model_whole.cls ≠ "java/lang/invoke/VarHandle" ∧ (parseMethodDescriptor y_Model_whole.desc).map (fun d => d.parameters.length) = some 1 := by decide +kernel
abbrev y_Model_believed : MethodName := ⟨"EventGraphTextModel", "believed", "(II)I"⟩
abbrev b_Model_believed : ByteArray := prog_10_method_28_code
theorem pd_Model_believed : y_Model_believed.cls = "EventGraphTextModel" ∧ y_Model_believed.cls ≠ "java/lang/invoke/MethodHandle" ∧ y_Model_believed.cls ≠ "java/lang/invoke/VarHandle" ∧ (parseMethodDescriptor y_Model_believed.desc).map (fun d => d.parameters.length) = some 2 := by decide +kernel
abbrev y_Model_hear : MethodName := ⟨"EventGraphTextModel", "hear", "(II)I"⟩
abbrev b_Model_hear : ByteArray := prog_10_method_27_code
theorem pd_Model_hear : y_Model_hear.cls = "EventGraphTextModel" ∧ y_Model_hear.cls ≠ "java/lang/invoke/MethodHandle" ∧ y_Model_hear.cls ≠ "java/lang/invoke/VarHandle" ∧ (parseMethodDescriptor y_Model_hear.desc).map (fun d => d.parameters.length) = some 2 := by decide +kernel
abbrev y_Model_isCritical : MethodName := ⟨"EventGraphTextModel", "isCritical", "(JI)Z"⟩
abbrev b_Model_isCritical : ByteArray := prog_10_method_30_code
theorem pd_Model_isCritical : y_Model_isCritical.cls = "EventGraphTextModel" ∧ y_Model_isCritical.cls ≠ "java/lang/invoke/MethodHandle" ∧ y_Model_isCritical.cls ≠ "java/lang/invoke/VarHandle" ∧ (parseMethodDescriptor y_Model_isCritical.desc).map (fun d => d.parameters.length) = some 2 := by decide +kernel
abbrev y_Model_top : MethodName := ⟨"EventGraphTextModel", "top", "(JJ)I"⟩
abbrev b_Model_top : ByteArray := prog_10_method_31_code
theorem pd_Model_top : y_Model_top.cls = "EventGraphTextModel" ∧ y_Model_top.cls ≠ "java/lang/invoke/MethodHandle" ∧ y_Model_top.cls ≠ "java/lang/invoke/VarHandle" ∧ (parseMethodDescriptor y_Model_top.desc).map (fun d => d.parameters.length) = some 2 := by decide +kernel
abbrev y_Model_effect : MethodName := ⟨"EventGraphTextModel", "effect", "(JI)I"⟩
abbrev b_Model_effect : ByteArray := prog_10_method_33_code
theorem pd_Model_effect : y_Model_effect.cls = "EventGraphTextModel" ∧ y_Model_effect.cls ≠ "java/lang/invoke/MethodHandle" ∧ y_Model_effect.cls ≠ "java/lang/invoke/VarHandle" ∧ (parseMethodDescriptor y_Model_effect.desc).map (fun d => d.parameters.length) = some 2 := by decide +kernel
abbrev y_Model_merge : MethodName := ⟨"EventGraphTextModel", "merge", "(IJ)V"⟩
abbrev b_Model_merge : ByteArray := prog_10_method_32_code
theorem pd_Model_merge : y_Model_merge.cls = "EventGraphTextModel" ∧ y_Model_merge.cls ≠ "java/lang/invoke/MethodHandle" ∧ y_Model_merge.cls ≠ "java/lang/invoke/VarHandle" ∧ (parseMethodDescriptor y_Model_merge.desc).map (fun d => d.parameters.length) = some 2 := by decide +kernel
abbrev y_Model_deliver : MethodName := ⟨"EventGraphTextModel", "deliver", "(I)I"⟩
abbrev b_Model_deliver : ByteArray := prog_10_method_29_code
theorem pd_Model_deliver : y_Model_deliver.cls = "EventGraphTextModel" ∧ y_Model_deliver.cls ≠ "java/lang/invoke/MethodHandle" ∧ y_Model_deliver.cls ≠ "java/lang/invoke/VarHandle" ∧ (parseMethodDescriptor y_Model_deliver.desc).map (fun d => d.parameters.length) = some 1 := by decide +kernel
abbrev y_Model_put : MethodName := ⟨"EventGraphTextModel", "put", "(I)V"⟩
abbrev b_Model_put : ByteArray := prog_10_method_34_code
theorem pd_Model_put : y_Model_put.cls = "EventGraphTextModel" ∧ y_Model_put.cls ≠ "java/lang/invoke/MethodHandle" ∧ y_Model_put.cls ≠ "java/lang/invoke/VarHandle" ∧ (parseMethodDescriptor y_Model_put.desc).map (fun d => d.parameters.length) = some 1 := by decide +kernel
abbrev y_Model_putSigned : MethodName := ⟨"EventGraphTextModel", "putSigned", "(I)V"⟩
abbrev b_Model_putSigned : ByteArray := prog_10_method_35_code
theorem pd_Model_putSigned : y_Model_putSigned.cls = "EventGraphTextModel" ∧ y_Model_putSigned.cls ≠ "java/lang/invoke/MethodHandle" ∧ y_Model_putSigned.cls ≠ "java/lang/invoke/VarHandle" ∧ (parseMethodDescriptor y_Model_putSigned.desc).map (fun d => d.parameters.length) = some 1 := by decide +kernel
abbrev y_Model_putRuns : MethodName := ⟨"EventGraphTextModel", "putRuns", "()V"⟩
abbrev b_Model_putRuns : ByteArray := prog_10_method_36_code
theorem pd_Model_putRuns : y_Model_putRuns.cls = "EventGraphTextModel" ∧ y_Model_putRuns.cls ≠ "java/lang/invoke/MethodHandle" ∧ y_Model_putRuns.cls ≠ "java/lang/invoke/VarHandle" ∧ (parseMethodDescriptor y_Model_putRuns.desc).map (fun d => d.parameters.length) = some 0 := by decide +kernel
abbrev y_Model_putParents : MethodName := ⟨"EventGraphTextModel", "putParents", "(I)V"⟩
abbrev b_Model_putParents : ByteArray := prog_10_method_37_code
theorem pd_Model_putParents : y_Model_putParents.cls = "EventGraphTextModel" ∧ y_Model_putParents.cls ≠ "java/lang/invoke/MethodHandle" ∧ y_Model_putParents.cls ≠ "java/lang/invoke/VarHandle" ∧ (parseMethodDescriptor y_Model_putParents.desc).map (fun d => d.parameters.length) = some 1 := by decide +kernel
abbrev y_Model_write : MethodName := ⟨"EventGraphTextModel", "write", "(I)V"⟩
abbrev b_Model_write : ByteArray := prog_10_method_38_code
theorem pd_Model_write : y_Model_write.cls = "EventGraphTextModel" ∧ y_Model_write.cls ≠ "java/lang/invoke/MethodHandle" ∧ y_Model_write.cls ≠ "java/lang/invoke/VarHandle" ∧ (parseMethodDescriptor y_Model_write.desc).map (fun d => d.parameters.length) = some 1 := by decide +kernel
abbrev y_Model_octets : MethodName := ⟨"EventGraphTextModel", "octets", "(I)I"⟩
abbrev b_Model_octets : ByteArray := prog_10_method_39_code
theorem pd_Model_octets : y_Model_octets.cls = "EventGraphTextModel" ∧ y_Model_octets.cls ≠ "java/lang/invoke/MethodHandle" ∧ y_Model_octets.cls ≠ "java/lang/invoke/VarHandle" ∧ (parseMethodDescriptor y_Model_octets.desc).map (fun d => d.parameters.length) = some 1 := by decide +kernel
abbrev y_Model_octet : MethodName := ⟨"EventGraphTextModel", "octet", "(II)I"⟩
abbrev b_Model_octet : ByteArray := prog_10_method_40_code
theorem pd_Model_octet : y_Model_octet.cls = "EventGraphTextModel" ∧ y_Model_octet.cls ≠ "java/lang/invoke/MethodHandle" ∧ y_Model_octet.cls ≠ "java/lang/invoke/VarHandle" ∧ (parseMethodDescriptor y_Model_octet.desc).map (fun d => d.parameters.length) = some 2 := by decide +kernel
abbrev y_Model_events : MethodName := ⟨"EventGraphTextModel", "events", "(I)I"⟩
abbrev b_Model_events : ByteArray := prog_10_method_41_code
theorem pd_Model_events : y_Model_events.cls = "EventGraphTextModel" ∧ y_Model_events.cls ≠ "java/lang/invoke/MethodHandle" ∧ y_Model_events.cls ≠ "java/lang/invoke/VarHandle" ∧ (parseMethodDescriptor y_Model_events.desc).map (fun d => d.parameters.length) = some 1 := by decide +kernel
abbrev y_Model_heads : MethodName := ⟨"EventGraphTextModel", "heads", "(I)I"⟩
abbrev b_Model_heads : ByteArray := prog_10_method_42_code
theorem pd_Model_heads : y_Model_heads.cls = "EventGraphTextModel" ∧ y_Model_heads.cls ≠ "java/lang/invoke/MethodHandle" ∧ y_Model_heads.cls ≠ "java/lang/invoke/VarHandle" ∧ (parseMethodDescriptor y_Model_heads.desc).map (fun d => d.parameters.length) = some 1 := by decide +kernel
abbrev y_Model_head : MethodName := ⟨"EventGraphTextModel", "head", "(II)I"⟩
abbrev b_Model_head : ByteArray := prog_10_method_43_code
theorem pd_Model_head : y_Model_head.cls = "EventGraphTextModel" ∧ y_Model_head.cls ≠ "java/lang/invoke/MethodHandle" ∧ y_Model_head.cls ≠ "java/lang/invoke/VarHandle" ∧ (parseMethodDescriptor y_Model_head.desc).map (fun d => d.parameters.length) = some 2 := by decide +kernel
abbrev y_Model_find : MethodName := ⟨"EventGraphTextModel", "find", "(II)I"⟩
abbrev b_Model_find : ByteArray := prog_10_method_44_code
theorem pd_Model_find : y_Model_find.cls = "EventGraphTextModel" ∧ y_Model_find.cls ≠ "java/lang/invoke/MethodHandle" ∧ y_Model_find.cls ≠ "java/lang/invoke/VarHandle" ∧ (parseMethodDescriptor y_Model_find.desc).map (fun d => d.parameters.length) = some 2 := by decide +kernel
abbrev y_Model_ancestor : MethodName := ⟨"EventGraphTextModel", "ancestor", "(IIII)I"⟩
abbrev b_Model_ancestor : ByteArray := prog_10_method_45_code
theorem pd_Model_ancestor : y_Model_ancestor.cls = "EventGraphTextModel" ∧ y_Model_ancestor.cls ≠ "java/lang/invoke/MethodHandle" ∧ y_Model_ancestor.cls ≠ "java/lang/invoke/VarHandle" ∧ (parseMethodDescriptor y_Model_ancestor.desc).map (fun d => d.parameters.length) = some 4 := by decide +kernel
abbrev y_Model_critical : MethodName := ⟨"EventGraphTextModel", "critical", "(I)I"⟩
abbrev b_Model_critical : ByteArray := prog_10_method_46_code
theorem pd_Model_critical : y_Model_critical.cls = "EventGraphTextModel" ∧ y_Model_critical.cls ≠ "java/lang/invoke/MethodHandle" ∧ y_Model_critical.cls ≠ "java/lang/invoke/VarHandle" ∧ (parseMethodDescriptor y_Model_critical.desc).map (fun d => d.parameters.length) = some 1 := by decide +kernel
abbrev y_Model_replayed : MethodName := ⟨"EventGraphTextModel", "replayed", "(I)I"⟩
abbrev b_Model_replayed : ByteArray := prog_10_method_47_code
theorem pd_Model_replayed : y_Model_replayed.cls = "EventGraphTextModel" ∧ y_Model_replayed.cls ≠ "java/lang/invoke/MethodHandle" ∧ y_Model_replayed.cls ≠ "java/lang/invoke/VarHandle" ∧ (parseMethodDescriptor y_Model_replayed.desc).map (fun d => d.parameters.length) = some 1 := by decide +kernel
abbrev y_Model_moves : MethodName := ⟨"EventGraphTextModel", "moves", "(I)I"⟩
abbrev b_Model_moves : ByteArray := prog_10_method_48_code
theorem pd_Model_moves : y_Model_moves.cls = "EventGraphTextModel" ∧ y_Model_moves.cls ≠ "java/lang/invoke/MethodHandle" ∧ y_Model_moves.cls ≠ "java/lang/invoke/VarHandle" ∧ (parseMethodDescriptor y_Model_moves.desc).map (fun d => d.parameters.length) = some 1 := by decide +kernel
abbrev y_Model_operation : MethodName := ⟨"EventGraphTextModel", "operation", "(II)I"⟩
abbrev b_Model_operation : ByteArray := prog_10_method_49_code
theorem pd_Model_operation : y_Model_operation.cls = "EventGraphTextModel" ∧ y_Model_operation.cls ≠ "java/lang/invoke/MethodHandle" ∧ y_Model_operation.cls ≠ "java/lang/invoke/VarHandle" ∧ (parseMethodDescriptor y_Model_operation.desc).map (fun d => d.parameters.length) = some 2 := by decide +kernel
abbrev y_Text_init : MethodName := ⟨"EventGraphText", "<init>", "()V"⟩
abbrev b_Text_init : ByteArray := prog_1_method_1_code
theorem pd_Text_init : y_Text_init.cls = "EventGraphText" ∧ y_Text_init.cls ≠ "java/lang/invoke/MethodHandle" ∧ y_Text_init.cls ≠ "java/lang/invoke/VarHandle" ∧ (parseMethodDescriptor y_Text_init.desc).map (fun d => d.parameters.length) = some 0 := by decide +kernel
abbrev y_Model_init : MethodName := ⟨"EventGraphTextModel", "<init>", "()V"⟩
abbrev b_Model_init : ByteArray := prog_10_method_1_code
theorem pd_Model_init : y_Model_init.cls = "EventGraphTextModel" ∧ y_Model_init.cls ≠ "java/lang/invoke/MethodHandle" ∧ y_Model_init.cls ≠ "java/lang/invoke/VarHandle" ∧ (parseMethodDescriptor y_Model_init.desc).map (fun d => d.parameters.length) = some 0 := by decide +kernel
abbrev y_CharacterList_init : MethodName := ⟨"EventGraphText$CharacterList", "<init>", "()V"⟩
abbrev b_CharacterList_init : ByteArray := prog_2_method_1_code
theorem pd_CharacterList_init : y_CharacterList_init.cls = "EventGraphText$CharacterList" ∧ y_CharacterList_init.cls ≠ "java/lang/invoke/MethodHandle" ∧ y_CharacterList_init.cls ≠ "java/lang/invoke/VarHandle" ∧ (parseMethodDescriptor y_CharacterList_init.desc).map (fun d => d.parameters.length) = some 0 := by decide +kernel
abbrev y_History_init : MethodName := ⟨"EventGraphText$History", "<init>", "()V"⟩
abbrev b_History_init : ByteArray := prog_3_method_1_code
theorem pd_History_init : y_History_init.cls = "EventGraphText$History" ∧ y_History_init.cls ≠ "java/lang/invoke/MethodHandle" ∧ y_History_init.cls ≠ "java/lang/invoke/VarHandle" ∧ (parseMethodDescriptor y_History_init.desc).map (fun d => d.parameters.length) = some 0 := by decide +kernel
abbrev y_Line_init : MethodName := ⟨"EventGraphText$Line", "<init>", "()V"⟩
abbrev b_Line_init : ByteArray := prog_4_method_1_code
theorem pd_Line_init : y_Line_init.cls = "EventGraphText$Line" ∧ y_Line_init.cls ≠ "java/lang/invoke/MethodHandle" ∧ y_Line_init.cls ≠ "java/lang/invoke/VarHandle" ∧ (parseMethodDescriptor y_Line_init.desc).map (fun d => d.parameters.length) = some 0 := by decide +kernel
abbrev y_Merge_init : MethodName := ⟨"EventGraphText$Merge", "<init>", "()V"⟩
abbrev b_Merge_init : ByteArray := prog_5_method_1_code
theorem pd_Merge_init : y_Merge_init.cls = "EventGraphText$Merge" ∧ y_Merge_init.cls ≠ "java/lang/invoke/MethodHandle" ∧ y_Merge_init.cls ≠ "java/lang/invoke/VarHandle" ∧ (parseMethodDescriptor y_Merge_init.desc).map (fun d => d.parameters.length) = some 0 := by decide +kernel
abbrev y_Message_init : MethodName := ⟨"EventGraphText$Message", "<init>", "()V"⟩
abbrev b_Message_init : ByteArray := prog_6_method_1_code
theorem pd_Message_init : y_Message_init.cls = "EventGraphText$Message" ∧ y_Message_init.cls ≠ "java/lang/invoke/MethodHandle" ∧ y_Message_init.cls ≠ "java/lang/invoke/VarHandle" ∧ (parseMethodDescriptor y_Message_init.desc).map (fun d => d.parameters.length) = some 0 := by decide +kernel
abbrev y_OctetRow_init : MethodName := ⟨"EventGraphText$OctetRow", "<init>", "()V"⟩
abbrev b_OctetRow_init : ByteArray := prog_7_method_1_code
theorem pd_OctetRow_init : y_OctetRow_init.cls = "EventGraphText$OctetRow" ∧ y_OctetRow_init.cls ≠ "java/lang/invoke/MethodHandle" ∧ y_OctetRow_init.cls ≠ "java/lang/invoke/VarHandle" ∧ (parseMethodDescriptor y_OctetRow_init.desc).map (fun d => d.parameters.length) = some 0 := by decide +kernel
abbrev y_Site_init : MethodName := ⟨"EventGraphText$Site", "<init>", "()V"⟩
abbrev b_Site_init : ByteArray := prog_8_method_1_code
theorem pd_Site_init : y_Site_init.cls = "EventGraphText$Site" ∧ y_Site_init.cls ≠ "java/lang/invoke/MethodHandle" ∧ y_Site_init.cls ≠ "java/lang/invoke/VarHandle" ∧ (parseMethodDescriptor y_Site_init.desc).map (fun d => d.parameters.length) = some 0 := by decide +kernel
