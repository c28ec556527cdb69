/-! names: out of the printed names -/
def RX0 : String := "Highkey$Cursor"
def TX0 : u_T := fun k => match k with
  | 0 => ("Highkey$Cursor", "openedIn", "I", true)
  | 1 => ("Highkey$Cursor", "leaf", "LHighkey$Page;", false)
  | 2 => ("Highkey$Cursor", "lastKey", "I", false)
  | _ => ("Highkey$Cursor", "closed", "Z", false)
def tyX0 : Nat → FieldType := fun k => match k with
  | 0 => .int
  | 1 => .object "Highkey$Page"
  | 2 => .int
  | _ => .boolean
abbrev wsX00 : List Cond := u_ws RX0 TX0 4
theorem nmX0 : ∀ a, a < 4 → ∀ b, b < 4 → a ≠ b → (TX0 a).2.1 ≠ (TX0 b).2.1 := by decide +kernel
theorem tyX0_ok : ∀ k, k < 4 → parseFieldDescriptor (TX0 k).2.2.1 = some (tyX0 k) := by decide +kernel
abbrev cX0_init : ByteArray := prog_2_method_1_code
def yX0_init : MethodName := ⟨RX0, "<init>", "(LHighkey$Page;II)V"⟩
abbrev cX0_walk : ByteArray := prog_2_method_2_code
def yX0_walk : MethodName := ⟨RX0, "walk", "()I"⟩
def RX1 : String := "Highkey$Page"
def TX1 : u_T := fun k => match k with
  | 0 => ("Highkey$Page", "number", "I", true)
  | 1 => ("Highkey$Page", "level", "I", true)
  | 2 => ("Highkey$Page", "low", "I", true)
  | 3 => ("Highkey$Page", "keys", "[I", true)
  | 4 => ("Highkey$Page", "values", "[I", true)
  | 5 => ("Highkey$Page", "children", "[LHighkey$Page;", true)
  | 6 => ("Highkey$Page", "size", "I", false)
  | 7 => ("Highkey$Page", "high", "I", false)
  | 8 => ("Highkey$Page", "right", "LHighkey$Page;", false)
  | 9 => ("Highkey$Page", "dead", "Z", false)
  | _ => ("Highkey$Page", "takenOutIn", "I", false)
def tyX1 : Nat → FieldType := fun k => match k with
  | 0 => .int
  | 1 => .int
  | 2 => .int
  | 3 => .array .int
  | 4 => .array .int
  | 5 => .array (.object "Highkey$Page")
  | 6 => .int
  | 7 => .int
  | 8 => .object "Highkey$Page"
  | 9 => .boolean
  | _ => .int
abbrev wsX10 : List Cond := u_ws RX1 TX1 11
theorem nmX1 : ∀ a, a < 11 → ∀ b, b < 11 → a ≠ b → (TX1 a).2.1 ≠ (TX1 b).2.1 := by decide +kernel
theorem tyX1_ok : ∀ k, k < 11 → parseFieldDescriptor (TX1 k).2.2.1 = some (tyX1 k) := by decide +kernel
abbrev cX1_init : ByteArray := prog_3_method_1_code
def yX1_init : MethodName := ⟨RX1, "<init>", "(IIII)V"⟩
abbrev cX1_has : ByteArray := prog_3_method_2_code
def yX1_has : MethodName := ⟨RX1, "has", "(I)Z"⟩
abbrev cX1_keyIn : ByteArray := prog_3_method_3_code
def yX1_keyIn : MethodName := ⟨RX1, "keyIn", "(I)I"⟩
abbrev cX1_valueIn : ByteArray := prog_3_method_4_code
def yX1_valueIn : MethodName := ⟨RX1, "valueIn", "(I)I"⟩
abbrev cX1_pageIn : ByteArray := prog_3_method_5_code
def yX1_pageIn : MethodName := ⟨RX1, "pageIn", "(I)LHighkey$Page;"⟩
abbrev cX1_countLess : ByteArray := prog_3_method_6_code
def yX1_countLess : MethodName := ⟨RX1, "countLess", "(I)I"⟩
abbrev cX1_placeOf : ByteArray := prog_3_method_7_code
def yX1_placeOf : MethodName := ⟨RX1, "placeOf", "(I)I"⟩
abbrev cX1_leastKeyAbove : ByteArray := prog_3_method_8_code
def yX1_leastKeyAbove : MethodName := ⟨RX1, "leastKeyAbove", "(I)I"⟩
abbrev cX1_onward : ByteArray := prog_3_method_9_code
def yX1_onward : MethodName := ⟨RX1, "onward", "(II)LHighkey$Page;"⟩
abbrev cX1_changeValue : ByteArray := prog_3_method_10_code
def yX1_changeValue : MethodName := ⟨RX1, "changeValue", "(II)I"⟩
abbrev cX1_insert : ByteArray := prog_3_method_11_code
def yX1_insert : MethodName := ⟨RX1, "insert", "(IILHighkey$Page;)V"⟩
abbrev cX1_removeFrom : ByteArray := prog_3_method_12_code
def yX1_removeFrom : MethodName := ⟨RX1, "removeFrom", "(I)V"⟩
abbrev cX1_copy : ByteArray := prog_3_method_13_code
def yX1_copy : MethodName := ⟨RX1, "copy", "(II)V"⟩
abbrev cX1_split : ByteArray := prog_3_method_14_code
def yX1_split : MethodName := ⟨RX1, "split", "(I)LHighkey$Page;"⟩
abbrev cX1_placeOfEmptyLeaf : ByteArray := prog_3_method_15_code
def yX1_placeOfEmptyLeaf : MethodName := ⟨RX1, "placeOfEmptyLeaf", "()I"⟩
def RX2 : String := "Highkey"
def TX2 : u_T := fun k => match k with
  | 0 => ("Highkey", "pageByNumber", "[LHighkey$Page;", true)
  | 1 => ("Highkey", "splitsToPost", "Ljava/util/ArrayList;", true)
  | 2 => ("Highkey", "cursorByNumber", "[LHighkey$Cursor;", true)
  | 3 => ("Highkey", "firstLeaf", "LHighkey$Page;", true)
  | 4 => ("Highkey", "rootPage", "LHighkey$Page;", false)
  | 5 => ("Highkey", "keyCount", "I", false)
  | 6 => ("Highkey", "epochNow", "I", false)
  | _ => ("Highkey", "cursorsOpened", "I", false)
def tyX2 : Nat → FieldType := fun k => match k with
  | 0 => .array (.object "Highkey$Page")
  | 1 => .object "java/util/ArrayList"
  | 2 => .array (.object "Highkey$Cursor")
  | 3 => .object "Highkey$Page"
  | 4 => .object "Highkey$Page"
  | 5 => .int
  | 6 => .int
  | _ => .int
abbrev wsX20 : List Cond := u_ws RX2 TX2 8
theorem nmX2 : ∀ a, a < 8 → ∀ b, b < 8 → a ≠ b → (TX2 a).2.1 ≠ (TX2 b).2.1 := by decide +kernel
theorem tyX2_ok : ∀ k, k < 8 → parseFieldDescriptor (TX2 k).2.2.1 = some (tyX2 k) := by decide +kernel
abbrev cX2_init : ByteArray := prog_1_method_1_code
def yX2_init : MethodName := ⟨RX2, "<init>", "()V"⟩
abbrev cX2_put : ByteArray := prog_1_method_2_code
def yX2_put : MethodName := ⟨RX2, "put", "(II)I"⟩
abbrev cX2_take : ByteArray := prog_1_method_3_code
def yX2_take : MethodName := ⟨RX2, "take", "(I)I"⟩
abbrev cX2_get : ByteArray := prog_1_method_4_code
def yX2_get : MethodName := ⟨RX2, "get", "(I)I"⟩
abbrev cX2_getByLeaves : ByteArray := prog_1_method_5_code
def yX2_getByLeaves : MethodName := ⟨RX2, "getByLeaves", "(I)I"⟩
abbrev cX2_keys : ByteArray := prog_1_method_6_code
def yX2_keys : MethodName := ⟨RX2, "keys", "()I"⟩
abbrev cX2_waiting : ByteArray := prog_1_method_7_code
def yX2_waiting : MethodName := ⟨RX2, "waiting", "()I"⟩
abbrev cX2_post : ByteArray := prog_1_method_8_code
def yX2_post : MethodName := ⟨RX2, "post", "()I"⟩
abbrev cX2_postAll : ByteArray := prog_1_method_9_code
def yX2_postAll : MethodName := ⟨RX2, "postAll", "()I"⟩
abbrev cX2_takeOut : ByteArray := prog_1_method_10_code
def yX2_takeOut : MethodName := ⟨RX2, "takeOut", "()I"⟩
abbrev cX2_recycle : ByteArray := prog_1_method_11_code
def yX2_recycle : MethodName := ⟨RX2, "recycle", "()I"⟩
abbrev cX2_dead : ByteArray := prog_1_method_12_code
def yX2_dead : MethodName := ⟨RX2, "dead", "()I"⟩
abbrev cX2_epoch : ByteArray := prog_1_method_13_code
def yX2_epoch : MethodName := ⟨RX2, "epoch", "()I"⟩
abbrev cX2_pages : ByteArray := prog_1_method_14_code
def yX2_pages : MethodName := ⟨RX2, "pages", "()I"⟩
abbrev cX2_root : ByteArray := prog_1_method_15_code
def yX2_root : MethodName := ⟨RX2, "root", "()I"⟩
abbrev cX2_level : ByteArray := prog_1_method_16_code
def yX2_level : MethodName := ⟨RX2, "level", "(I)I"⟩
abbrev cX2_size : ByteArray := prog_1_method_17_code
def yX2_size : MethodName := ⟨RX2, "size", "(I)I"⟩
abbrev cX2_keyAt : ByteArray := prog_1_method_18_code
def yX2_keyAt : MethodName := ⟨RX2, "keyAt", "(II)I"⟩
abbrev cX2_below : ByteArray := prog_1_method_19_code
def yX2_below : MethodName := ⟨RX2, "below", "(II)I"⟩
abbrev cX2_high : ByteArray := prog_1_method_20_code
def yX2_high : MethodName := ⟨RX2, "high", "(I)I"⟩
abbrev cX2_right : ByteArray := prog_1_method_21_code
def yX2_right : MethodName := ⟨RX2, "right", "(I)I"⟩
abbrev cX2_links : ByteArray := prog_1_method_22_code
def yX2_links : MethodName := ⟨RX2, "links", "(I)I"⟩
abbrev cX2_open : ByteArray := prog_1_method_23_code
def yX2_open : MethodName := ⟨RX2, "open", "(I)I"⟩
abbrev cX2_next : ByteArray := prog_1_method_24_code
def yX2_next : MethodName := ⟨RX2, "next", "(I)I"⟩
abbrev cX2_close : ByteArray := prog_1_method_26_code
def yX2_close : MethodName := ⟨RX2, "close", "(I)I"⟩
abbrev cX2_checkKey : ByteArray := prog_1_method_27_code
def yX2_checkKey : MethodName := ⟨RX2, "checkKey", "(I)V"⟩
abbrev cX2_checkValue : ByteArray := prog_1_method_28_code
def yX2_checkValue : MethodName := ⟨RX2, "checkValue", "(I)V"⟩
abbrev cX2_checkPlace : ByteArray := prog_1_method_29_code
def yX2_checkPlace : MethodName := ⟨RX2, "checkPlace", "(I)V"⟩
abbrev cX2_pageOf : ByteArray := prog_1_method_30_code
def yX2_pageOf : MethodName := ⟨RX2, "pageOf", "(I)LHighkey$Page;"⟩
abbrev cX2_cursorOf : ByteArray := prog_1_method_31_code
def yX2_cursorOf : MethodName := ⟨RX2, "cursorOf", "(I)LHighkey$Cursor;"⟩
abbrev cX2_numberOf : ByteArray := prog_1_method_32_code
def yX2_numberOf : MethodName := ⟨RX2, "numberOf", "(LHighkey$Page;)I"⟩
abbrev cX2_goDown : ByteArray := prog_1_method_33_code
def yX2_goDown : MethodName := ⟨RX2, "goDown", "(II)LHighkey$Page;"⟩
abbrev cX2_lowestFreeNumber : ByteArray := prog_1_method_34_code
def yX2_lowestFreeNumber : MethodName := ⟨RX2, "lowestFreeNumber", "()I"⟩
abbrev cX2_addTo : ByteArray := prog_1_method_35_code
def yX2_addTo : MethodName := ⟨RX2, "addTo", "(LHighkey$Page;IILHighkey$Page;)Z"⟩
abbrev cX2_postLongestWaiting : ByteArray := prog_1_method_36_code
def yX2_postLongestWaiting : MethodName := ⟨RX2, "postLongestWaiting", "()V"⟩
abbrev cX2_growRoot : ByteArray := prog_1_method_37_code
def yX2_growRoot : MethodName := ⟨RX2, "growRoot", "(LHighkey$Page;)V"⟩
abbrev cX2_unlink : ByteArray := prog_1_method_38_code
def yX2_unlink : MethodName := ⟨RX2, "unlink", "(LHighkey$Page;)V"⟩
abbrev cX2_allOpenedAfter : ByteArray := prog_1_method_39_code
def yX2_allOpenedAfter : MethodName := ⟨RX2, "allOpenedAfter", "(I)Z"⟩
def RX3 : String := "HighkeyModel"
def TX3 : u_T := fun k => match k with
  | _ => ("", "", "", false)
def tyX3 : Nat → FieldType := fun k => match k with
  | _ => .int
abbrev wsX30 : List Cond := u_ws RX3 TX3 0
theorem nmX3 : ∀ a, a < 0 → ∀ b, b < 0 → a ≠ b → (TX3 a).2.1 ≠ (TX3 b).2.1 := by decide +kernel
theorem tyX3_ok : ∀ k, k < 0 → parseFieldDescriptor (TX3 k).2.2.1 = some (tyX3 k) := by decide +kernel
def RJx145de : String := "java/io/Serializable"
def TJx145de : u_T := fun k => match k with
  | _ => ("", "", "", false)
def tyJx145de : Nat → FieldType := fun k => match k with
  | _ => .int
abbrev wsJx145de0 : List Cond := u_ws RJx145de TJx145de 0
theorem nmJx145de : ∀ a, a < 0 → ∀ b, b < 0 → a ≠ b → (TJx145de a).2.1 ≠ (TJx145de b).2.1 := by decide +kernel
theorem tyJx145de_ok : ∀ k, k < 0 → parseFieldDescriptor (TJx145de k).2.2.1 = some (tyJx145de k) := by decide +kernel
def RJx8e188 : String := "java/lang/Cloneable"
def TJx8e188 : u_T := fun k => match k with
  | _ => ("", "", "", false)
def tyJx8e188 : Nat → FieldType := fun k => match k with
  | _ => .int
abbrev wsJx8e1880 : List Cond := u_ws RJx8e188 TJx8e188 0
theorem nmJx8e188 : ∀ a, a < 0 → ∀ b, b < 0 → a ≠ b → (TJx8e188 a).2.1 ≠ (TJx8e188 b).2.1 := by decide +kernel
theorem tyJx8e188_ok : ∀ k, k < 0 → parseFieldDescriptor (TJx8e188 k).2.2.1 = some (tyJx8e188 k) := by decide +kernel
def RJxab1ab : String := "java/lang/Iterable"
def TJxab1ab : u_T := fun k => match k with
  | _ => ("", "", "", false)
def tyJxab1ab : Nat → FieldType := fun k => match k with
  | _ => .int
abbrev wsJxab1ab0 : List Cond := u_ws RJxab1ab TJxab1ab 0
theorem nmJxab1ab : ∀ a, a < 0 → ∀ b, b < 0 → a ≠ b → (TJxab1ab a).2.1 ≠ (TJxab1ab b).2.1 := by decide +kernel
theorem tyJxab1ab_ok : ∀ k, k < 0 → parseFieldDescriptor (TJxab1ab k).2.2.1 = some (tyJxab1ab k) := by decide +kernel
def RJ9 : String := "java/lang/Math"
def TJ9 : u_T := fun k => match k with
  | _ => ("", "", "", false)
def tyJ9 : Nat → FieldType := fun k => match k with
  | _ => .int
abbrev wsJ90 : List Cond := u_ws RJ9 TJ9 0
theorem nmJ9 : ∀ a, a < 0 → ∀ b, b < 0 → a ≠ b → (TJ9 a).2.1 ≠ (TJ9 b).2.1 := by decide +kernel
theorem tyJ9_ok : ∀ k, k < 0 → parseFieldDescriptor (TJ9 k).2.2.1 = some (tyJ9 k) := by decide +kernel
abbrev cJ9_max_7cf53 : ByteArray := prog_13_method_65_code
def yJ9_max_7cf53 : MethodName := ⟨RJ9, "max", "(II)I"⟩
abbrev cJ9_min_7cf53 : ByteArray := prog_13_method_69_code
def yJ9_min_7cf53 : MethodName := ⟨RJ9, "min", "(II)I"⟩
def RJ0 : String := "java/lang/String"
def TJ0 : u_T := fun k => match k with
  | _ => ("", "", "", false)
def tyJ0 : Nat → FieldType := fun k => match k with
  | _ => .int
abbrev wsJ00 : List Cond := u_ws RJ0 TJ0 0
theorem nmJ0 : ∀ a, a < 0 → ∀ b, b < 0 → a ≠ b → (TJ0 a).2.1 ≠ (TJ0 b).2.1 := by decide +kernel
theorem tyJ0_ok : ∀ k, k < 0 → parseFieldDescriptor (TJ0 k).2.2.1 = some (tyJ0 k) := by decide +kernel
def RJ10 : String := "java/lang/System"
def TJ10 : u_T := fun k => match k with
  | _ => ("", "", "", false)
def tyJ10 : Nat → FieldType := fun k => match k with
  | _ => .int
abbrev wsJ100 : List Cond := u_ws RJ10 TJ10 0
theorem nmJ10 : ∀ a, a < 0 → ∀ b, b < 0 → a ≠ b → (TJ10 a).2.1 ≠ (TJ10 b).2.1 := by decide +kernel
theorem tyJ10_ok : ∀ k, k < 0 → parseFieldDescriptor (TJ10 k).2.2.1 = some (tyJ10 k) := by decide +kernel
def RJxa1e45 : String := "java/util/AbstractCollection"
def TJxa1e45 : u_T := fun k => match k with
  | _ => ("", "", "", false)
def tyJxa1e45 : Nat → FieldType := fun k => match k with
  | _ => .int
abbrev wsJxa1e450 : List Cond := u_ws RJxa1e45 TJxa1e45 0
theorem nmJxa1e45 : ∀ a, a < 0 → ∀ b, b < 0 → a ≠ b → (TJxa1e45 a).2.1 ≠ (TJxa1e45 b).2.1 := by decide +kernel
theorem tyJxa1e45_ok : ∀ k, k < 0 → parseFieldDescriptor (TJxa1e45 k).2.2.1 = some (tyJxa1e45 k) := by decide +kernel
abbrev cJxa1e45_init_da8c8 : ByteArray := prog_18_method_1_code
def yJxa1e45_init_da8c8 : MethodName := ⟨RJxa1e45, "<init>", "()V"⟩
def RJxc12de : String := "java/util/AbstractList"
def TJxc12de : u_T := fun k => match k with
  | _ => ("", "", "", false)
def tyJxc12de : Nat → FieldType := fun k => match k with
  | _ => .int
abbrev wsJxc12de0 : List Cond := u_ws RJxc12de TJxc12de 0
theorem nmJxc12de : ∀ a, a < 0 → ∀ b, b < 0 → a ≠ b → (TJxc12de a).2.1 ≠ (TJxc12de b).2.1 := by decide +kernel
theorem tyJxc12de_ok : ∀ k, k < 0 → parseFieldDescriptor (TJxc12de k).2.2.1 = some (tyJxc12de k) := by decide +kernel
abbrev cJxc12de_init_da8c8 : ByteArray := prog_19_method_1_code
def yJxc12de_init_da8c8 : MethodName := ⟨RJxc12de, "<init>", "()V"⟩
def RJx4a65c : String := "java/util/ArrayList"
def TJx4a65c : u_T := fun k => match k with
  | 0 => ("java/util/AbstractList", "modCount", "I", false)
  | 1 => ("java/util/ArrayList", "elementData", "[Ljava/lang/Object;", false)
  | _ => ("java/util/ArrayList", "size", "I", false)
def tyJx4a65c : Nat → FieldType := fun k => match k with
  | 0 => .int
  | 1 => .array (.object "java/lang/Object")
  | _ => .int
abbrev wsJx4a65c0 : List Cond := u_ws RJx4a65c TJx4a65c 3
theorem nmJx4a65c : ∀ a, a < 3 → ∀ b, b < 3 → a ≠ b → (TJx4a65c a).2.1 ≠ (TJx4a65c b).2.1 := by decide +kernel
theorem tyJx4a65c_ok : ∀ k, k < 3 → parseFieldDescriptor (TJx4a65c k).2.2.1 = some (tyJx4a65c k) := by decide +kernel
abbrev cJx4a65c_init_da8c8 : ByteArray := prog_20_method_2_code
def yJx4a65c_init_da8c8 : MethodName := ⟨RJx4a65c, "<init>", "()V"⟩
abbrev cJx4a65c_grow_92f84 : ByteArray := prog_20_method_6_code
def yJx4a65c_grow_92f84 : MethodName := ⟨RJx4a65c, "grow", "(I)[Ljava/lang/Object;"⟩
abbrev cJx4a65c_grow_d5877 : ByteArray := prog_20_method_7_code
def yJx4a65c_grow_d5877 : MethodName := ⟨RJx4a65c, "grow", "()[Ljava/lang/Object;"⟩
abbrev cJx4a65c_size_8abf5 : ByteArray := prog_20_method_8_code
def yJx4a65c_size_8abf5 : MethodName := ⟨RJx4a65c, "size", "()I"⟩
abbrev cJx4a65c_isEmpty_aae02 : ByteArray := prog_20_method_9_code
def yJx4a65c_isEmpty_aae02 : MethodName := ⟨RJx4a65c, "isEmpty", "()Z"⟩
abbrev cJx4a65c_add_72be8 : ByteArray := prog_20_method_24_code
def yJx4a65c_add_72be8 : MethodName := ⟨RJx4a65c, "add", "(Ljava/lang/Object;[Ljava/lang/Object;I)V"⟩
abbrev cJx4a65c_add_9ea2d : ByteArray := prog_20_method_25_code
def yJx4a65c_add_9ea2d : MethodName := ⟨RJx4a65c, "add", "(Ljava/lang/Object;)Z"⟩
abbrev cJx4a65c_remove_915e3 : ByteArray := prog_20_method_29_code
def yJx4a65c_remove_915e3 : MethodName := ⟨RJx4a65c, "remove", "(I)Ljava/lang/Object;"⟩
abbrev cJx4a65c_fastRemove_b59b0 : ByteArray := prog_20_method_39_code
def yJx4a65c_fastRemove_b59b0 : MethodName := ⟨RJx4a65c, "fastRemove", "([Ljava/lang/Object;I)V"⟩
def RJ7 : String := "java/util/Arrays"
def TJ7 : u_T := fun k => match k with
  | _ => ("", "", "", false)
def tyJ7 : Nat → FieldType := fun k => match k with
  | _ => .int
abbrev wsJ70 : List Cond := u_ws RJ7 TJ7 0
theorem nmJ7 : ∀ a, a < 0 → ∀ b, b < 0 → a ≠ b → (TJ7 a).2.1 ≠ (TJ7 b).2.1 := by decide +kernel
theorem tyJ7_ok : ∀ k, k < 0 → parseFieldDescriptor (TJ7 k).2.2.1 = some (tyJ7 k) := by decide +kernel
abbrev cJ7_copyOf_1904c : ByteArray := prog_21_method_119_code
def yJ7_copyOf_1904c : MethodName := ⟨RJ7, "copyOf", "([Ljava/lang/Object;I)[Ljava/lang/Object;"⟩
abbrev cJ7_copyOf_6403c : ByteArray := prog_21_method_120_code
def yJ7_copyOf_6403c : MethodName := ⟨RJ7, "copyOf", "([Ljava/lang/Object;ILjava/lang/Class;)[Ljava/lang/Object;"⟩
def RJx5ef63 : String := "java/util/Collection"
def TJx5ef63 : u_T := fun k => match k with
  | _ => ("", "", "", false)
def tyJx5ef63 : Nat → FieldType := fun k => match k with
  | _ => .int
abbrev wsJx5ef630 : List Cond := u_ws RJx5ef63 TJx5ef63 0
theorem nmJx5ef63 : ∀ a, a < 0 → ∀ b, b < 0 → a ≠ b → (TJx5ef63 a).2.1 ≠ (TJx5ef63 b).2.1 := by decide +kernel
theorem tyJx5ef63_ok : ∀ k, k < 0 → parseFieldDescriptor (TJx5ef63 k).2.2.1 = some (tyJx5ef63 k) := by decide +kernel
def RJxbd725 : String := "java/util/List"
def TJxbd725 : u_T := fun k => match k with
  | _ => ("", "", "", false)
def tyJxbd725 : Nat → FieldType := fun k => match k with
  | _ => .int
abbrev wsJxbd7250 : List Cond := u_ws RJxbd725 TJxbd725 0
theorem nmJxbd725 : ∀ a, a < 0 → ∀ b, b < 0 → a ≠ b → (TJxbd725 a).2.1 ≠ (TJxbd725 b).2.1 := by decide +kernel
theorem tyJxbd725_ok : ∀ k, k < 0 → parseFieldDescriptor (TJxbd725 k).2.2.1 = some (tyJxbd725 k) := by decide +kernel
def RJ15 : String := "java/util/Objects"
def TJ15 : u_T := fun k => match k with
  | _ => ("", "", "", false)
def tyJ15 : Nat → FieldType := fun k => match k with
  | _ => .int
abbrev wsJ150 : List Cond := u_ws RJ15 TJ15 0
theorem nmJ15 : ∀ a, a < 0 → ∀ b, b < 0 → a ≠ b → (TJ15 a).2.1 ≠ (TJ15 b).2.1 := by decide +kernel
theorem tyJ15_ok : ∀ k, k < 0 → parseFieldDescriptor (TJ15 k).2.2.1 = some (tyJ15 k) := by decide +kernel
abbrev cJ15_checkIndex_7cf53 : ByteArray := prog_24_method_17_code
def yJ15_checkIndex_7cf53 : MethodName := ⟨RJ15, "checkIndex", "(II)I"⟩
def RJxf0a74 : String := "java/util/RandomAccess"
def TJxf0a74 : u_T := fun k => match k with
  | _ => ("", "", "", false)
def tyJxf0a74 : Nat → FieldType := fun k => match k with
  | _ => .int
abbrev wsJxf0a740 : List Cond := u_ws RJxf0a74 TJxf0a74 0
theorem nmJxf0a74 : ∀ a, a < 0 → ∀ b, b < 0 → a ≠ b → (TJxf0a74 a).2.1 ≠ (TJxf0a74 b).2.1 := by decide +kernel
theorem tyJxf0a74_ok : ∀ k, k < 0 → parseFieldDescriptor (TJxf0a74 k).2.2.1 = some (tyJxf0a74 k) := by decide +kernel
def RJxa66e6 : String := "java/util/SequencedCollection"
def TJxa66e6 : u_T := fun k => match k with
  | _ => ("", "", "", false)
def tyJxa66e6 : Nat → FieldType := fun k => match k with
  | _ => .int
abbrev wsJxa66e60 : List Cond := u_ws RJxa66e6 TJxa66e6 0
theorem nmJxa66e6 : ∀ a, a < 0 → ∀ b, b < 0 → a ≠ b → (TJxa66e6 a).2.1 ≠ (TJxa66e6 b).2.1 := by decide +kernel
theorem tyJxa66e6_ok : ∀ k, k < 0 → parseFieldDescriptor (TJxa66e6 k).2.2.1 = some (tyJxa66e6 k) := by decide +kernel
def RJ8 : String := "jdk/internal/util/ArraysSupport"
def TJ8 : u_T := fun k => match k with
  | _ => ("", "", "", false)
def tyJ8 : Nat → FieldType := fun k => match k with
  | _ => .int
abbrev wsJ80 : List Cond := u_ws RJ8 TJ8 0
theorem nmJ8 : ∀ a, a < 0 → ∀ b, b < 0 → a ≠ b → (TJ8 a).2.1 ≠ (TJ8 b).2.1 := by decide +kernel
theorem tyJ8_ok : ∀ k, k < 0 → parseFieldDescriptor (TJ8 k).2.2.1 = some (tyJ8 k) := by decide +kernel
abbrev cJ8_newLength_cabcc : ByteArray := prog_27_method_27_code
def yJ8_newLength_cabcc : MethodName := ⟨RJ8, "newLength", "(III)I"⟩
abbrev cJ8_hugeLength_7cf53 : ByteArray := prog_27_method_28_code
def yJ8_hugeLength_7cf53 : MethodName := ⟨RJ8, "hugeLength", "(II)I"⟩
def RJ3 : String := "jdk/internal/util/Preconditions"
def TJ3 : u_T := fun k => match k with
  | _ => ("", "", "", false)
def tyJ3 : Nat → FieldType := fun k => match k with
  | _ => .int
abbrev wsJ30 : List Cond := u_ws RJ3 TJ3 0
theorem nmJ3 : ∀ a, a < 0 → ∀ b, b < 0 → a ≠ b → (TJ3 a).2.1 ≠ (TJ3 b).2.1 := by decide +kernel
theorem tyJ3_ok : ∀ k, k < 0 → parseFieldDescriptor (TJ3 k).2.2.1 = some (tyJ3 k) := by decide +kernel
abbrev cJ3_checkIndex_8e157 : ByteArray := prog_28_method_11_code
def yJ3_checkIndex_8e157 : MethodName := ⟨RJ3, "checkIndex", "(IILjava/util/function/BiFunction;)I"⟩
def RL : String := "HighkeyLaw"
abbrev cL_cell : ByteArray := method_2_code
def yL_cell : MethodName := ⟨RL, "cell", "([II)I"⟩
abbrev cL_low : ByteArray := method_3_code
def yL_low : MethodName := ⟨RL, "low", "(II)I"⟩
abbrev cL_does : ByteArray := method_4_code
def yL_does : MethodName := ⟨RL, "does", "(LHighkey;III)I"⟩
abbrev cL_level : ByteArray := method_5_code
def yL_level : MethodName := ⟨RL, "level", "(LHighkey;I)I"⟩
abbrev cL_act : ByteArray := method_6_code
def yL_act : MethodName := ⟨RL, "act", "(LHighkey;I)I"⟩
abbrev cL_areAlike : ByteArray := method_7_code
def yL_areAlike : MethodName := ⟨RL, "areAlike", "(LHighkey;LHighkey;)Z"⟩
abbrev cL_along : ByteArray := method_8_code
def yL_along : MethodName := ⟨RL, "along", "(LHighkey;I)I"⟩
abbrev cL_areLevelsSo : ByteArray := method_9_code
def yL_areLevelsSo : MethodName := ⟨RL, "areLevelsSo", "(LHighkey;)Z"⟩
abbrev cL_isPutSo : ByteArray := method_10_code
def yL_isPutSo : MethodName := ⟨RL, "isPutSo", "(LHighkey;LHighkey;II)Z"⟩
abbrev cL_law : ByteArray := code
def yL_law : MethodName := ⟨RL, "law", "([I)Z"⟩
abbrev vwCl : List vw_C := [(RJx4a65c, TJx4a65c, 3), (RX0, TX0, 4), (RX1, TX1, 11), (RX2, TX2, 8)]
