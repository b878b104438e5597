/-- the words that any method may stand on: the tables' words that a call leaves as they are -/
def wsL_law : List Cond := lw_tbl.filter goodWord
theorem zw_mem {w : Cond} (h : w ∈ lw_tbl) (g : goodWord w = true) : w ∈ wsL_law := List.mem_filter.mpr ⟨h, g⟩
def z_isNest : Cond → Bool
  | .fieldLinkNest .. => true
  | .methodLinkNest .. => true
  | _ => false
/-- the tables' words of a nest mate's private members -/
def zNst : List Cond := tables_1.filter z_isNest
theorem wsL_law_in : ∀ w ∈ wsL_law, w ∈ lw_tbl := fun _ h => (List.mem_filter.mp h).1
theorem zn_1 {w : Cond} (h : w ∈ tables_1_1) (g : z_isNest w = true) : w ∈ zNst := List.mem_filter.mpr ⟨List.mem_append_left _ h, g⟩
theorem zt_1 {w : Cond} (h : w ∈ tables_1_1) (g : goodWord w = true) : w ∈ wsL_law := zw_mem (List.mem_append_right _ (List.mem_append_left _ h)) g
theorem zn_2 {w : Cond} (h : w ∈ tables_1_2) (g : z_isNest w = true) : w ∈ zNst := List.mem_filter.mpr ⟨List.mem_append_right _ (List.mem_append_left _ h), g⟩
theorem zt_2 {w : Cond} (h : w ∈ tables_1_2) (g : goodWord w = true) : w ∈ wsL_law := zw_mem (List.mem_append_right _ (List.mem_append_right _ (List.mem_append_left _ h))) g
theorem zn_3 {w : Cond} (h : w ∈ tables_1_3) (g : z_isNest w = true) : w ∈ zNst := List.mem_filter.mpr ⟨List.mem_append_right _ (List.mem_append_right _ (List.mem_append_left _ h)), g⟩
theorem zt_3 {w : Cond} (h : w ∈ tables_1_3) (g : goodWord w = true) : w ∈ wsL_law := zw_mem (List.mem_append_right _ (List.mem_append_right _ (List.mem_append_right _ (List.mem_append_left _ h)))) g
theorem zn_4 {w : Cond} (h : w ∈ tables_1_4) (g : z_isNest w = true) : w ∈ zNst := List.mem_filter.mpr ⟨List.mem_append_right _ (List.mem_append_right _ (List.mem_append_right _ (List.mem_append_left _ h))), g⟩
theorem zt_4 {w : Cond} (h : w ∈ tables_1_4) (g : goodWord w = true) : w ∈ wsL_law := zw_mem (List.mem_append_right _ (List.mem_append_right _ (List.mem_append_right _ (List.mem_append_right _ (List.mem_append_left _ h))))) g
theorem zn_5 {w : Cond} (h : w ∈ tables_1_5) (g : z_isNest w = true) : w ∈ zNst := List.mem_filter.mpr ⟨List.mem_append_right _ (List.mem_append_right _ (List.mem_append_right _ (List.mem_append_right _ (List.mem_append_left _ h)))), g⟩
theorem zt_5 {w : Cond} (h : w ∈ tables_1_5) (g : goodWord w = true) : w ∈ wsL_law := zw_mem (List.mem_append_right _ (List.mem_append_right _ (List.mem_append_right _ (List.mem_append_right _ (List.mem_append_right _ (List.mem_append_left _ h)))))) g
theorem zn_6 {w : Cond} (h : w ∈ tables_1_6) (g : z_isNest w = true) : w ∈ zNst := List.mem_filter.mpr ⟨List.mem_append_right _ (List.mem_append_right _ (List.mem_append_right _ (List.mem_append_right _ (List.mem_append_right _ (h))))), g⟩
theorem zt_6 {w : Cond} (h : w ∈ tables_1_6) (g : goodWord w = true) : w ∈ wsL_law := zw_mem (List.mem_append_right _ (List.mem_append_right _ (List.mem_append_right _ (List.mem_append_right _ (List.mem_append_right _ (List.mem_append_right _ (h))))))) g
theorem zw_0 : (Jvm.Cond.initialized "PocketHoleLaw") ∈ wsL_law := zt_1 (List.mem_of_getElem? (i := 0) rfl) rfl
theorem zw_1 : (Jvm.Cond.initialized "PocketHole") ∈ wsL_law := zt_1 (List.mem_of_getElem? (i := 1) rfl) rfl
theorem zw_2 : (Jvm.Cond.initialized "PocketHole$Coat") ∈ wsL_law := zt_1 (List.mem_of_getElem? (i := 2) rfl) rfl
theorem zw_3 : (Jvm.Cond.initialized "PocketHole$Coin") ∈ wsL_law := zt_1 (List.mem_of_getElem? (i := 3) rfl) rfl
theorem zw_4 : (Jvm.Cond.initialized "PocketHole$Tape") ∈ wsL_law := zt_1 (List.mem_of_getElem? (i := 4) rfl) rfl
theorem zw_5 : (Jvm.Cond.initialized "PocketHole$Sheet") ∈ wsL_law := zt_1 (List.mem_of_getElem? (i := 5) rfl) rfl
theorem zw_6 : (Jvm.Cond.initialized "PocketHoleModel") ∈ wsL_law := zt_1 (List.mem_of_getElem? (i := 6) rfl) rfl
theorem zw_7 : (Jvm.Cond.initialized "java/lang/Math") ∈ wsL_law := zt_1 (List.mem_of_getElem? (i := 7) rfl) rfl
theorem zw_8 : (Jvm.Cond.initialized "java/lang/Integer") ∈ wsL_law := zt_1 (List.mem_of_getElem? (i := 8) rfl) rfl
theorem zw_9 : (Jvm.Cond.initialized "java/lang/System") ∈ wsL_law := zt_1 (List.mem_of_getElem? (i := 9) rfl) rfl
theorem zw_10 : (Jvm.Cond.initialized "java/lang/Long") ∈ wsL_law := zt_1 (List.mem_of_getElem? (i := 10) rfl) rfl
theorem zw_11 : (Jvm.Cond.initialized "java/lang/String") ∈ wsL_law := zt_1 (List.mem_of_getElem? (i := 11) rfl) rfl
theorem zw_12 : (Jvm.Cond.initialized "java/lang/StringLatin1") ∈ wsL_law := zt_1 (List.mem_of_getElem? (i := 12) rfl) rfl
theorem zw_13 : (Jvm.Cond.initialized "jdk/internal/util/Preconditions") ∈ wsL_law := zt_1 (List.mem_of_getElem? (i := 13) rfl) rfl
theorem zw_14 : (Jvm.Cond.initialized "java/lang/StringUTF16") ∈ wsL_law := zt_1 (List.mem_of_getElem? (i := 14) rfl) rfl
theorem zw_15 : (Jvm.Cond.classLink "PocketHoleLaw" (7 : Nat) "PocketHole") ∈ wsL_law := zt_1 (List.mem_of_getElem? (i := 15) rfl) rfl
theorem zw_16 : (Jvm.Cond.instantiable "PocketHole" (9 : Nat)) ∈ wsL_law := zt_1 (List.mem_of_getElem? (i := 16) rfl) rfl
theorem zw_17 : (Jvm.Cond.methodLink "PocketHoleLaw" (9 : Nat) ({ cls := "PocketHole", name := "<init>", desc := "()V" } : Jvm.MethodName)) ∈ wsL_law := zt_1 (List.mem_of_getElem? (i := 17) rfl) rfl
theorem zw_18 : (Jvm.Cond.instanceMethod ({ cls := "PocketHole", name := "<init>", desc := "()V" } : Jvm.MethodName)) ∈ wsL_law := zt_1 (List.mem_of_getElem? (i := 18) rfl) rfl
theorem zw_19 : (Jvm.Cond.code ({ cls := "PocketHole", name := "<init>", desc := "()V" } : Jvm.MethodName) prog_1_method_1_code (2 : Nat) (Option.none : Option Jvm.ClassFile.FieldType)) ∈ wsL_law := zt_1 (List.mem_of_getElem? (i := 19) rfl) rfl
theorem zw_20 : (Jvm.Cond.methodLink "PocketHole" (1 : Nat) ({ cls := "java/lang/Object", name := "<init>", desc := "()V" } : Jvm.MethodName)) ∈ wsL_law := zt_1 (List.mem_of_getElem? (i := 20) rfl) rfl
theorem zw_21 : (Jvm.Cond.instanceMethod ({ cls := "java/lang/Object", name := "<init>", desc := "()V" } : Jvm.MethodName)) ∈ wsL_law := zt_1 (List.mem_of_getElem? (i := 21) rfl) rfl
theorem zw_22 : (Jvm.Cond.code ({ cls := "java/lang/Object", name := "<init>", desc := "()V" } : Jvm.MethodName) object_method_1_code (1 : Nat) (Option.none : Option Jvm.ClassFile.FieldType)) ∈ wsL_law := zt_1 (List.mem_of_getElem? (i := 22) rfl) rfl
theorem zw_23 : (Jvm.Cond.classLink "PocketHole" (7 : Nat) "PocketHole$Coat") ∈ wsL_law := zt_1 (List.mem_of_getElem? (i := 23) rfl) rfl
theorem zw_24 : (Jvm.Cond.instantiable "PocketHole$Coat" (8 : Nat)) ∈ wsL_law := zt_1 (List.mem_of_getElem? (i := 24) rfl) rfl
theorem zw_25 : (Jvm.Cond.methodLink "PocketHole" (9 : Nat) ({ cls := "PocketHole$Coat", name := "<init>", desc := "()V" } : Jvm.MethodName)) ∈ wsL_law := zt_1 (List.mem_of_getElem? (i := 25) rfl) rfl
theorem zw_26 : (Jvm.Cond.instanceMethod ({ cls := "PocketHole$Coat", name := "<init>", desc := "()V" } : Jvm.MethodName)) ∈ wsL_law := zt_1 (List.mem_of_getElem? (i := 26) rfl) rfl
theorem zw_27 : (Jvm.Cond.code ({ cls := "PocketHole$Coat", name := "<init>", desc := "()V" } : Jvm.MethodName) prog_2_method_1_code (2 : Nat) (Option.none : Option Jvm.ClassFile.FieldType)) ∈ wsL_law := zt_1 (List.mem_of_getElem? (i := 27) rfl) rfl
theorem zw_28 : (Jvm.Cond.methodLink "PocketHole$Coat" (3 : Nat) ({ cls := "java/lang/Object", name := "<init>", desc := "()V" } : Jvm.MethodName)) ∈ wsL_law := zt_1 (List.mem_of_getElem? (i := 28) rfl) rfl
theorem zw_29 : (Jvm.Cond.classLink "PocketHole$Coat" (30 : Nat) "PocketHole$Coin") ∈ wsL_law := zt_1 (List.mem_of_getElem? (i := 29) rfl) rfl
theorem zw_30 : (Jvm.Cond.instantiable "PocketHole$Coin" (8 : Nat)) ∈ wsL_law := zt_1 (List.mem_of_getElem? (i := 31) rfl) rfl
theorem zw_31 : (Jvm.Cond.methodLinkNest "PocketHole$Coat" (40 : Nat) ({ cls := "PocketHole$Coin", name := "<init>", desc := "()V" } : Jvm.MethodName) "PocketHole") ∈ zNst := zn_1 (List.mem_of_getElem? (i := 32) rfl) rfl
theorem zw_32 : (Jvm.Cond.instanceMethod ({ cls := "PocketHole$Coin", name := "<init>", desc := "()V" } : Jvm.MethodName)) ∈ wsL_law := zt_1 (List.mem_of_getElem? (i := 33) rfl) rfl
theorem zw_33 : (Jvm.Cond.code ({ cls := "PocketHole$Coin", name := "<init>", desc := "()V" } : Jvm.MethodName) prog_3_method_1_code (1 : Nat) (Option.none : Option Jvm.ClassFile.FieldType)) ∈ wsL_law := zt_1 (List.mem_of_getElem? (i := 34) rfl) rfl
theorem zw_34 : (Jvm.Cond.methodLink "PocketHole$Coin" (3 : Nat) ({ cls := "java/lang/Object", name := "<init>", desc := "()V" } : Jvm.MethodName)) ∈ wsL_law := zt_1 (List.mem_of_getElem? (i := 35) rfl) rfl
theorem zw_35 : (Jvm.Cond.fieldLink "PocketHole$Coin" (9 : Nat) "PocketHole$Coin" "kind" "I") ∈ wsL_law := zt_1 (List.mem_of_getElem? (i := 36) rfl) rfl
theorem zw_36 : (Jvm.Cond.fieldLinkNest "PocketHole" (170 : Nat) "PocketHole$Coin" "kind" "I" "PocketHole") ∈ zNst := zn_1 (List.mem_of_getElem? (i := 37) rfl) rfl
theorem zw_37 : (Jvm.Cond.fieldLinkNest "PocketHole$Coat" (116 : Nat) "PocketHole$Coin" "kind" "I" "PocketHole") ∈ zNst := zn_1 (List.mem_of_getElem? (i := 38) rfl) rfl
theorem zw_38 : (Jvm.Cond.fieldLink "PocketHole$Coin" (15 : Nat) "PocketHole$Coin" "size" "I") ∈ wsL_law := zt_1 (List.mem_of_getElem? (i := 39) rfl) rfl
theorem zw_39 : (Jvm.Cond.fieldLinkNest "PocketHole" (252 : Nat) "PocketHole$Coin" "size" "I" "PocketHole") ∈ zNst := zn_1 (List.mem_of_getElem? (i := 40) rfl) rfl
theorem zw_40 : (Jvm.Cond.fieldLink "PocketHole$Coin" (18 : Nat) "PocketHole$Coin" "weight" "I") ∈ wsL_law := zt_1 (List.mem_of_getElem? (i := 41) rfl) rfl
theorem zw_41 : (Jvm.Cond.fieldLinkNest "PocketHole$Coat" (75 : Nat) "PocketHole$Coin" "weight" "I" "PocketHole") ∈ zNst := zn_1 (List.mem_of_getElem? (i := 42) rfl) rfl
theorem zw_42 : (Jvm.Cond.fieldLink "PocketHole$Coin" (21 : Nat) "PocketHole$Coin" "pence" "I") ∈ wsL_law := zt_1 (List.mem_of_getElem? (i := 43) rfl) rfl
theorem zw_43 : (Jvm.Cond.fieldLinkNest "PocketHole$Coat" (65 : Nat) "PocketHole$Coin" "pence" "I" "PocketHole") ∈ zNst := zn_1 (List.mem_of_getElem? (i := 44) rfl) rfl
theorem zw_44 : (Jvm.Cond.fieldLinkNest "PocketHole" (182 : Nat) "PocketHole$Coin" "pence" "I" "PocketHole") ∈ zNst := zn_1 (List.mem_of_getElem? (i := 45) rfl) rfl
theorem zw_45 : (Jvm.Cond.fieldLink "PocketHole$Coin" (28 : Nat) "PocketHole$Coin" "place" "I") ∈ wsL_law := zt_1 (List.mem_of_getElem? (i := 46) rfl) rfl
theorem zw_46 : (Jvm.Cond.fieldLinkNest "PocketHole" (95 : Nat) "PocketHole$Coin" "place" "I" "PocketHole") ∈ zNst := zn_1 (List.mem_of_getElem? (i := 47) rfl) rfl
theorem zw_47 : (Jvm.Cond.fieldLinkNest "PocketHole$Coat" (59 : Nat) "PocketHole$Coin" "place" "I" "PocketHole") ∈ zNst := zn_1 (List.mem_of_getElem? (i := 48) rfl) rfl
theorem zw_48 : (Jvm.Cond.fieldLink "PocketHole$Coin" (31 : Nat) "PocketHole$Coin" "near" "I") ∈ wsL_law := zt_1 (List.mem_of_getElem? (i := 49) rfl) rfl
theorem zw_49 : (Jvm.Cond.fieldLinkNest "PocketHole$Coat" (101 : Nat) "PocketHole$Coin" "near" "I" "PocketHole") ∈ zNst := zn_1 (List.mem_of_getElem? (i := 50) rfl) rfl
theorem zw_50 : (Jvm.Cond.fieldLink "PocketHole$Coin" (34 : Nat) "PocketHole$Coin" "cell" "I") ∈ wsL_law := zt_1 (List.mem_of_getElem? (i := 51) rfl) rfl
theorem zw_51 : (Jvm.Cond.fieldLinkNest "PocketHole$Coat" (78 : Nat) "PocketHole$Coin" "cell" "I" "PocketHole") ∈ zNst := zn_1 (List.mem_of_getElem? (i := 52) rfl) rfl
theorem zw_52 : (Jvm.Cond.fieldLinkNest "PocketHole" (155 : Nat) "PocketHole$Coin" "cell" "I" "PocketHole") ∈ zNst := zn_1 (List.mem_of_getElem? (i := 53) rfl) rfl
theorem zw_53 : (Jvm.Cond.fieldLink "PocketHole$Coin" (37 : Nat) "PocketHole$Coin" "fall" "I") ∈ wsL_law := zt_1 (List.mem_of_getElem? (i := 54) rfl) rfl
theorem zw_54 : (Jvm.Cond.fieldLinkNest "PocketHole$Coat" (85 : Nat) "PocketHole$Coin" "fall" "I" "PocketHole") ∈ zNst := zn_1 (List.mem_of_getElem? (i := 55) rfl) rfl
theorem zw_55 : (Jvm.Cond.lays "PocketHole$Coin" "PocketHole$Coin" "kind" "I") ∈ wsL_law := zt_1 (List.mem_of_getElem? (i := 56) rfl) rfl
theorem zw_56 : (Jvm.Cond.lays "PocketHole$Coin" "PocketHole$Coin" "size" "I") ∈ wsL_law := zt_1 (List.mem_of_getElem? (i := 58) rfl) rfl
theorem zw_57 : (Jvm.Cond.lays "PocketHole$Coin" "PocketHole$Coin" "weight" "I") ∈ wsL_law := zt_1 (List.mem_of_getElem? (i := 60) rfl) rfl
theorem zw_58 : (Jvm.Cond.lays "PocketHole$Coin" "PocketHole$Coin" "pence" "I") ∈ wsL_law := zt_1 (List.mem_of_getElem? (i := 62) rfl) rfl
theorem zw_59 : (Jvm.Cond.lays "PocketHole$Coin" "PocketHole$Coin" "place" "I") ∈ wsL_law := zt_1 (List.mem_of_getElem? (i := 64) rfl) rfl
theorem zw_60 : (Jvm.Cond.lays "PocketHole$Coin" "PocketHole$Coin" "near" "I") ∈ wsL_law := zt_1 (List.mem_of_getElem? (i := 66) rfl) rfl
theorem zw_61 : (Jvm.Cond.lays "PocketHole$Coin" "PocketHole$Coin" "cell" "I") ∈ wsL_law := zt_1 (List.mem_of_getElem? (i := 68) rfl) rfl
theorem zw_62 : (Jvm.Cond.lays "PocketHole$Coin" "PocketHole$Coin" "fall" "I") ∈ wsL_law := zt_1 (List.mem_of_getElem? (i := 70) rfl) rfl
theorem zw_63 : (Jvm.Cond.arrayClass Jvm.ClassFile.FieldType.int) ∈ wsL_law := zt_1 (List.mem_of_getElem? (i := 73) rfl) rfl
theorem zw_64 : (Jvm.Cond.fieldLink "PocketHole$Coat" (9 : Nat) "PocketHole$Coat" "hole" "I") ∈ wsL_law := zt_1 (List.mem_of_getElem? (i := 74) rfl) rfl
theorem zw_65 : (Jvm.Cond.fieldLinkNest "PocketHole" (75 : Nat) "PocketHole$Coat" "hole" "I" "PocketHole") ∈ zNst := zn_1 (List.mem_of_getElem? (i := 75) rfl) rfl
theorem zw_66 : (Jvm.Cond.fieldLinkNest "PocketHole$Tape" (56 : Nat) "PocketHole$Coat" "hole" "I" "PocketHole") ∈ zNst := zn_1 (List.mem_of_getElem? (i := 76) rfl) rfl
theorem zw_67 : (Jvm.Cond.fieldLink "PocketHole$Coat" (15 : Nat) "PocketHole$Coat" "gap" "I") ∈ wsL_law := zt_1 (List.mem_of_getElem? (i := 77) rfl) rfl
theorem zw_68 : (Jvm.Cond.fieldLinkNest "PocketHole$Tape" (62 : Nat) "PocketHole$Coat" "gap" "I" "PocketHole") ∈ zNst := zn_1 (List.mem_of_getElem? (i := 78) rfl) rfl
theorem zw_69 : (Jvm.Cond.fieldLinkNest "PocketHole" (102 : Nat) "PocketHole$Coat" "gap" "I" "PocketHole") ∈ zNst := zn_1 (List.mem_of_getElem? (i := 79) rfl) rfl
theorem zw_70 : (Jvm.Cond.fieldLink "PocketHole$Coat" (18 : Nat) "PocketHole$Coat" "at" "I") ∈ wsL_law := zt_1 (List.mem_of_getElem? (i := 80) rfl) rfl
theorem zw_71 : (Jvm.Cond.fieldLinkNest "PocketHole$Tape" (64 : Nat) "PocketHole$Coat" "at" "I" "PocketHole") ∈ zNst := zn_1 (List.mem_of_getElem? (i := 81) rfl) rfl
theorem zw_72 : (Jvm.Cond.fieldLinkNest "PocketHole" (105 : Nat) "PocketHole$Coat" "at" "I" "PocketHole") ∈ zNst := zn_1 (List.mem_of_getElem? (i := 82) rfl) rfl
theorem zw_73 : (Jvm.Cond.fieldLink "PocketHole$Coat" (21 : Nat) "PocketHole$Coat" "step" "I") ∈ wsL_law := zt_1 (List.mem_of_getElem? (i := 83) rfl) rfl
theorem zw_74 : (Jvm.Cond.fieldLinkNest "PocketHole" (125 : Nat) "PocketHole$Coat" "step" "I" "PocketHole") ∈ zNst := zn_1 (List.mem_of_getElem? (i := 84) rfl) rfl
theorem zw_75 : (Jvm.Cond.fieldLink "PocketHole$Coat" (24 : Nat) "PocketHole$Coat" "z" "I") ∈ wsL_law := zt_1 (List.mem_of_getElem? (i := 85) rfl) rfl
theorem zw_76 : (Jvm.Cond.fieldLinkNest "PocketHole" (207 : Nat) "PocketHole$Coat" "z" "I" "PocketHole") ∈ zNst := zn_1 (List.mem_of_getElem? (i := 86) rfl) rfl
theorem zw_77 : (Jvm.Cond.fieldLink "PocketHole$Coat" (27 : Nat) "PocketHole$Coat" "coins" "I") ∈ wsL_law := zt_1 (List.mem_of_getElem? (i := 87) rfl) rfl
theorem zw_78 : (Jvm.Cond.fieldLinkNest "PocketHole" (59 : Nat) "PocketHole$Coat" "coins" "I" "PocketHole") ∈ zNst := zn_1 (List.mem_of_getElem? (i := 88) rfl) rfl
theorem zw_79 : (Jvm.Cond.fieldLinkNest "PocketHole$Tape" (70 : Nat) "PocketHole$Coat" "coins" "I" "PocketHole") ∈ zNst := zn_1 (List.mem_of_getElem? (i := 89) rfl) rfl
theorem zw_80 : (Jvm.Cond.fieldLink "PocketHole$Coat" (32 : Nat) "PocketHole$Coat" "row" "[LPocketHole$Coin;") ∈ wsL_law := zt_1 (List.mem_of_getElem? (i := 90) rfl) rfl
theorem zw_81 : (Jvm.Cond.fieldLinkNest "PocketHole" (71 : Nat) "PocketHole$Coat" "row" "[LPocketHole$Coin;" "PocketHole") ∈ zNst := zn_1 (List.mem_of_getElem? (i := 91) rfl) rfl
theorem zw_82 : (Jvm.Cond.fieldLink "PocketHole$Coat" (36 : Nat) "PocketHole$Coat" "spots" "[I") ∈ wsL_law := zt_1 (List.mem_of_getElem? (i := 92) rfl) rfl
theorem zw_83 : (Jvm.Cond.fieldLinkNest "PocketHole" (220 : Nat) "PocketHole$Coat" "spots" "[I" "PocketHole") ∈ zNst := zn_1 (List.mem_of_getElem? (i := 93) rfl) rfl
theorem zw_84 : (Jvm.Cond.lays "PocketHole$Coat" "PocketHole$Coat" "hole" "I") ∈ wsL_law := zt_1 (List.mem_of_getElem? (i := 94) rfl) rfl
theorem zw_85 : (Jvm.Cond.lays "PocketHole$Coat" "PocketHole$Coat" "gap" "I") ∈ wsL_law := zt_1 (List.mem_of_getElem? (i := 96) rfl) rfl
theorem zw_86 : (Jvm.Cond.lays "PocketHole$Coat" "PocketHole$Coat" "at" "I") ∈ wsL_law := zt_1 (List.mem_of_getElem? (i := 98) rfl) rfl
theorem zw_87 : (Jvm.Cond.lays "PocketHole$Coat" "PocketHole$Coat" "step" "I") ∈ wsL_law := zt_1 (List.mem_of_getElem? (i := 100) rfl) rfl
theorem zw_88 : (Jvm.Cond.lays "PocketHole$Coat" "PocketHole$Coat" "z" "I") ∈ wsL_law := zt_1 (List.mem_of_getElem? (i := 102) rfl) rfl
theorem zw_89 : (Jvm.Cond.lays "PocketHole$Coat" "PocketHole$Coat" "coins" "I") ∈ wsL_law := zt_1 (List.mem_of_getElem? (i := 104) rfl) rfl
theorem zw_90 : (Jvm.Cond.laysFinal "PocketHole$Coat" "PocketHole$Coat" "row" "[LPocketHole$Coin;") ∈ wsL_law := zt_1 (List.mem_of_getElem? (i := 106) rfl) rfl
theorem zw_91 : (Jvm.Cond.laysFinal "PocketHole$Coat" "PocketHole$Coat" "spots" "[I") ∈ wsL_law := zt_1 (List.mem_of_getElem? (i := 108) rfl) rfl
theorem zw_92 : (Jvm.Cond.classLink "PocketHole" (26 : Nat) "PocketHole$Tape") ∈ wsL_law := zt_1 (List.mem_of_getElem? (i := 111) rfl) rfl
theorem zw_93 : (Jvm.Cond.instantiable "PocketHole$Tape" (6 : Nat)) ∈ wsL_law := zt_1 (List.mem_of_getElem? (i := 112) rfl) rfl
theorem zw_94 : (Jvm.Cond.methodLinkNest "PocketHole" (28 : Nat) ({ cls := "PocketHole$Tape", name := "<init>", desc := "()V" } : Jvm.MethodName) "PocketHole") ∈ zNst := zn_1 (List.mem_of_getElem? (i := 113) rfl) rfl
theorem zw_95 : (Jvm.Cond.instanceMethod ({ cls := "PocketHole$Tape", name := "<init>", desc := "()V" } : Jvm.MethodName)) ∈ wsL_law := zt_1 (List.mem_of_getElem? (i := 114) rfl) rfl
theorem zw_96 : (Jvm.Cond.code ({ cls := "PocketHole$Tape", name := "<init>", desc := "()V" } : Jvm.MethodName) prog_5_method_1_code (1 : Nat) (Option.none : Option Jvm.ClassFile.FieldType)) ∈ wsL_law := zt_1 (List.mem_of_getElem? (i := 115) rfl) rfl
theorem zw_97 : (Jvm.Cond.methodLink "PocketHole$Tape" (3 : Nat) ({ cls := "java/lang/Object", name := "<init>", desc := "()V" } : Jvm.MethodName)) ∈ wsL_law := zt_1 (List.mem_of_getElem? (i := 116) rfl) rfl
theorem zw_98 : (Jvm.Cond.fieldLink "PocketHole$Tape" (9 : Nat) "PocketHole$Tape" "bytes" "[I") ∈ wsL_law := zt_1 (List.mem_of_getElem? (i := 117) rfl) rfl
theorem zw_99 : (Jvm.Cond.fieldLink "PocketHole$Tape" (15 : Nat) "PocketHole$Tape" "length" "I") ∈ wsL_law := zt_1 (List.mem_of_getElem? (i := 118) rfl) rfl
theorem zw_100 : (Jvm.Cond.fieldLinkNest "PocketHole" (210 : Nat) "PocketHole$Tape" "length" "I" "PocketHole") ∈ zNst := zn_1 (List.mem_of_getElem? (i := 119) rfl) rfl
theorem zw_101 : (Jvm.Cond.fieldLink "PocketHole$Tape" (19 : Nat) "PocketHole$Tape" "begin" "I") ∈ wsL_law := zt_1 (List.mem_of_getElem? (i := 120) rfl) rfl
theorem zw_102 : (Jvm.Cond.fieldLink "PocketHole$Tape" (22 : Nat) "PocketHole$Tape" "end" "I") ∈ wsL_law := zt_1 (List.mem_of_getElem? (i := 121) rfl) rfl
theorem zw_103 : (Jvm.Cond.fieldLink "PocketHole$Tape" (25 : Nat) "PocketHole$Tape" "sort" "I") ∈ wsL_law := zt_1 (List.mem_of_getElem? (i := 122) rfl) rfl
theorem zw_104 : (Jvm.Cond.fieldLink "PocketHole$Tape" (28 : Nat) "PocketHole$Tape" "value" "I") ∈ wsL_law := zt_1 (List.mem_of_getElem? (i := 123) rfl) rfl
theorem zw_105 : (Jvm.Cond.laysFinal "PocketHole$Tape" "PocketHole$Tape" "bytes" "[I") ∈ wsL_law := zt_1 (List.mem_of_getElem? (i := 124) rfl) rfl
theorem zw_106 : (Jvm.Cond.lays "PocketHole$Tape" "PocketHole$Tape" "length" "I") ∈ wsL_law := zt_1 (List.mem_of_getElem? (i := 126) rfl) rfl
theorem zw_107 : (Jvm.Cond.lays "PocketHole$Tape" "PocketHole$Tape" "begin" "I") ∈ wsL_law := zt_1 (List.mem_of_getElem? (i := 128) rfl) rfl
theorem zw_108 : (Jvm.Cond.lays "PocketHole$Tape" "PocketHole$Tape" "end" "I") ∈ wsL_law := zt_1 (List.mem_of_getElem? (i := 130) rfl) rfl
theorem zw_109 : (Jvm.Cond.lays "PocketHole$Tape" "PocketHole$Tape" "sort" "I") ∈ wsL_law := zt_1 (List.mem_of_getElem? (i := 132) rfl) rfl
theorem zw_110 : (Jvm.Cond.lays "PocketHole$Tape" "PocketHole$Tape" "value" "I") ∈ wsL_law := zt_1 (List.mem_of_getElem? (i := 134) rfl) rfl
theorem zw_111 : (Jvm.Cond.classLink "PocketHole" (33 : Nat) "PocketHole$Sheet") ∈ wsL_law := zt_1 (List.mem_of_getElem? (i := 137) rfl) rfl
theorem zw_112 : (Jvm.Cond.instantiable "PocketHole$Sheet" (3 : Nat)) ∈ wsL_law := zt_1 (List.mem_of_getElem? (i := 139) rfl) rfl
theorem zw_113 : (Jvm.Cond.methodLinkNest "PocketHole" (50 : Nat) ({ cls := "PocketHole$Sheet", name := "<init>", desc := "()V" } : Jvm.MethodName) "PocketHole") ∈ zNst := zn_1 (List.mem_of_getElem? (i := 140) rfl) rfl
theorem zw_114 : (Jvm.Cond.instanceMethod ({ cls := "PocketHole$Sheet", name := "<init>", desc := "()V" } : Jvm.MethodName)) ∈ wsL_law := zt_1 (List.mem_of_getElem? (i := 141) rfl) rfl
theorem zw_115 : (Jvm.Cond.code ({ cls := "PocketHole$Sheet", name := "<init>", desc := "()V" } : Jvm.MethodName) prog_4_method_1_code (1 : Nat) (Option.none : Option Jvm.ClassFile.FieldType)) ∈ wsL_law := zt_1 (List.mem_of_getElem? (i := 142) rfl) rfl
theorem zw_116 : (Jvm.Cond.methodLink "PocketHole$Sheet" (3 : Nat) ({ cls := "java/lang/Object", name := "<init>", desc := "()V" } : Jvm.MethodName)) ∈ wsL_law := zt_1 (List.mem_of_getElem? (i := 143) rfl) rfl
theorem zw_117 : (Jvm.Cond.fieldLink "PocketHole$Sheet" (9 : Nat) "PocketHole$Sheet" "bits" "I") ∈ wsL_law := zt_1 (List.mem_of_getElem? (i := 144) rfl) rfl
theorem zw_118 : (Jvm.Cond.fieldLinkNest "PocketHole" (237 : Nat) "PocketHole$Sheet" "bits" "I" "PocketHole") ∈ zNst := zn_1 (List.mem_of_getElem? (i := 145) rfl) rfl
theorem zw_119 : (Jvm.Cond.fieldLink "PocketHole$Sheet" (15 : Nat) "PocketHole$Sheet" "length" "I") ∈ wsL_law := zt_1 (List.mem_of_getElem? (i := 146) rfl) rfl
theorem zw_120 : (Jvm.Cond.fieldLinkNest "PocketHole" (232 : Nat) "PocketHole$Sheet" "length" "I" "PocketHole") ∈ zNst := zn_1 (List.mem_of_getElem? (i := 147) rfl) rfl
theorem zw_121 : (Jvm.Cond.fieldLink "PocketHole$Sheet" (18 : Nat) "PocketHole$Sheet" "numbers" "[I") ∈ wsL_law := zt_1 (List.mem_of_getElem? (i := 148) rfl) rfl
theorem zw_122 : (Jvm.Cond.fieldLinkNest "PocketHole" (243 : Nat) "PocketHole$Sheet" "numbers" "[I" "PocketHole") ∈ zNst := zn_1 (List.mem_of_getElem? (i := 149) rfl) rfl
theorem zw_123 : (Jvm.Cond.lays "PocketHole$Sheet" "PocketHole$Sheet" "bits" "I") ∈ wsL_law := zt_1 (List.mem_of_getElem? (i := 150) rfl) rfl
theorem zw_124 : (Jvm.Cond.lays "PocketHole$Sheet" "PocketHole$Sheet" "length" "I") ∈ wsL_law := zt_1 (List.mem_of_getElem? (i := 152) rfl) rfl
theorem zw_125 : (Jvm.Cond.laysFinal "PocketHole$Sheet" "PocketHole$Sheet" "numbers" "[I") ∈ wsL_law := zt_1 (List.mem_of_getElem? (i := 154) rfl) rfl
theorem zw_126 : (Jvm.Cond.arrayClass Jvm.ClassFile.FieldType.long) ∈ wsL_law := zt_1 (List.mem_of_getElem? (i := 157) rfl) rfl
theorem zw_127 : (Jvm.Cond.fieldLink "PocketHole" (10 : Nat) "PocketHole" "coat" "LPocketHole$Coat;") ∈ wsL_law := zt_1 (List.mem_of_getElem? (i := 158) rfl) rfl
theorem zw_128 : (Jvm.Cond.fieldLink "PocketHole" (16 : Nat) "PocketHole" "trial" "LPocketHole$Coat;") ∈ wsL_law := zt_1 (List.mem_of_getElem? (i := 159) rfl) rfl
theorem zw_129 : (Jvm.Cond.fieldLink "PocketHole" (19 : Nat) "PocketHole" "kept" "LPocketHole$Coat;") ∈ wsL_law := zt_1 (List.mem_of_getElem? (i := 160) rfl) rfl
theorem zw_130 : (Jvm.Cond.fieldLink "PocketHole" (22 : Nat) "PocketHole" "isKept" "Z") ∈ wsL_law := zt_1 (List.mem_of_getElem? (i := 161) rfl) rfl
theorem zw_131 : (Jvm.Cond.fieldLink "PocketHole" (29 : Nat) "PocketHole" "tape" "LPocketHole$Tape;") ∈ wsL_law := zt_1 (List.mem_of_getElem? (i := 162) rfl) rfl
theorem zw_132 : (Jvm.Cond.fieldLink "PocketHole" (35 : Nat) "PocketHole" "sheets" "[LPocketHole$Sheet;") ∈ wsL_law := zt_1 (List.mem_of_getElem? (i := 163) rfl) rfl
theorem zw_133 : (Jvm.Cond.fieldLink "PocketHole" (39 : Nat) "PocketHole" "findingsTold" "[I") ∈ wsL_law := zt_1 (List.mem_of_getElem? (i := 164) rfl) rfl
theorem zw_134 : (Jvm.Cond.fieldLink "PocketHole" (43 : Nat) "PocketHole" "sumMarks" "[J") ∈ wsL_law := zt_1 (List.mem_of_getElem? (i := 165) rfl) rfl
theorem zw_135 : (Jvm.Cond.fieldLink "PocketHole" (47 : Nat) "PocketHole" "wayPence" "[I") ∈ wsL_law := zt_1 (List.mem_of_getElem? (i := 166) rfl) rfl
theorem zw_136 : (Jvm.Cond.laysFinal "PocketHole" "PocketHole" "coat" "LPocketHole$Coat;") ∈ wsL_law := zt_1 (List.mem_of_getElem? (i := 167) rfl) rfl
theorem zw_137 : (Jvm.Cond.laysFinal "PocketHole" "PocketHole" "trial" "LPocketHole$Coat;") ∈ wsL_law := zt_1 (List.mem_of_getElem? (i := 169) rfl) rfl
theorem zw_138 : (Jvm.Cond.laysFinal "PocketHole" "PocketHole" "kept" "LPocketHole$Coat;") ∈ wsL_law := zt_1 (List.mem_of_getElem? (i := 171) rfl) rfl
theorem zw_139 : (Jvm.Cond.lays "PocketHole" "PocketHole" "isKept" "Z") ∈ wsL_law := zt_1 (List.mem_of_getElem? (i := 173) rfl) rfl
theorem zw_140 : (Jvm.Cond.laysFinal "PocketHole" "PocketHole" "tape" "LPocketHole$Tape;") ∈ wsL_law := zt_1 (List.mem_of_getElem? (i := 175) rfl) rfl
theorem zw_141 : (Jvm.Cond.laysFinal "PocketHole" "PocketHole" "sheets" "[LPocketHole$Sheet;") ∈ wsL_law := zt_1 (List.mem_of_getElem? (i := 177) rfl) rfl
theorem zw_142 : (Jvm.Cond.laysFinal "PocketHole" "PocketHole" "findingsTold" "[I") ∈ wsL_law := zt_1 (List.mem_of_getElem? (i := 179) rfl) rfl
theorem zw_143 : (Jvm.Cond.laysFinal "PocketHole" "PocketHole" "sumMarks" "[J") ∈ wsL_law := zt_1 (List.mem_of_getElem? (i := 181) rfl) rfl
theorem zw_144 : (Jvm.Cond.laysFinal "PocketHole" "PocketHole" "wayPence" "[I") ∈ wsL_law := zt_1 (List.mem_of_getElem? (i := 183) rfl) rfl
theorem zw_145 : (Jvm.Cond.methodLink "PocketHoleLaw" (13 : Nat) ({ cls := "PocketHole", name := "coin", desc := "(I)I" } : Jvm.MethodName)) ∈ wsL_law := zt_1 (List.mem_of_getElem? (i := 186) rfl) rfl
theorem zw_146 : (Jvm.Cond.instanceMethod ({ cls := "PocketHole", name := "coin", desc := "(I)I" } : Jvm.MethodName)) ∈ wsL_law := zt_1 (List.mem_of_getElem? (i := 187) rfl) rfl
theorem zw_147 : (Jvm.Cond.selects "PocketHole" ({ cls := "PocketHole", name := "coin", desc := "(I)I" } : Jvm.MethodName) ({ cls := "PocketHole", name := "coin", desc := "(I)I" } : Jvm.MethodName)) ∈ wsL_law := zt_1 (List.mem_of_getElem? (i := 188) rfl) rfl
theorem zw_148 : (Jvm.Cond.code ({ cls := "PocketHole", name := "coin", desc := "(I)I" } : Jvm.MethodName) prog_1_method_2_code (2 : Nat) (Option.some Jvm.ClassFile.FieldType.int)) ∈ wsL_law := zt_1 (List.mem_of_getElem? (i := 189) rfl) rfl
theorem zw_149 : (Jvm.Cond.methodLink "PocketHole" (51 : Nat) ({ cls := "PocketHole", name := "isWithin", desc := "(III)Z" } : Jvm.MethodName)) ∈ wsL_law := zt_1 (List.mem_of_getElem? (i := 190) rfl) rfl
theorem zw_150 : (Jvm.Cond.static ({ cls := "PocketHole", name := "isWithin", desc := "(III)Z" } : Jvm.MethodName)) ∈ wsL_law := zt_1 (List.mem_of_getElem? (i := 191) rfl) rfl
theorem zw_151 : (Jvm.Cond.code ({ cls := "PocketHole", name := "isWithin", desc := "(III)Z" } : Jvm.MethodName) prog_1_method_53_code (3 : Nat) (Option.some Jvm.ClassFile.FieldType.boolean)) ∈ wsL_law := zt_1 (List.mem_of_getElem? (i := 192) rfl) rfl
theorem zw_152 : (Jvm.Cond.methodLink "PocketHole" (55 : Nat) ({ cls := "PocketHole", name := "finding", desc := "(I)I" } : Jvm.MethodName)) ∈ wsL_law := zt_1 (List.mem_of_getElem? (i := 193) rfl) rfl
theorem zw_153 : (Jvm.Cond.instanceMethod ({ cls := "PocketHole", name := "finding", desc := "(I)I" } : Jvm.MethodName)) ∈ wsL_law := zt_1 (List.mem_of_getElem? (i := 195) rfl) rfl
theorem zw_154 : (Jvm.Cond.code ({ cls := "PocketHole", name := "finding", desc := "(I)I" } : Jvm.MethodName) prog_1_method_52_code (2 : Nat) (Option.some Jvm.ClassFile.FieldType.int)) ∈ wsL_law := zt_1 (List.mem_of_getElem? (i := 196) rfl) rfl
theorem zw_155 : (Jvm.Cond.constant "PocketHole" (258 : Nat) (-1000001 : Int32)) ∈ wsL_law := zt_1 (List.mem_of_getElem? (i := 197) rfl) rfl
theorem zw_156 : (Jvm.Cond.methodLink "PocketHole" (63 : Nat) ({ cls := "PocketHole$Coat", name := "newCoin", desc := "(I)LPocketHole$Coin;" } : Jvm.MethodName)) ∈ wsL_law := zt_1 (List.mem_of_getElem? (i := 198) rfl) rfl
theorem zw_157 : (Jvm.Cond.instanceMethod ({ cls := "PocketHole$Coat", name := "newCoin", desc := "(I)LPocketHole$Coin;" } : Jvm.MethodName)) ∈ wsL_law := zt_1 (List.mem_of_getElem? (i := 199) rfl) rfl
theorem zw_158 : (Jvm.Cond.selects "PocketHole$Coat" ({ cls := "PocketHole$Coat", name := "newCoin", desc := "(I)LPocketHole$Coin;" } : Jvm.MethodName) ({ cls := "PocketHole$Coat", name := "newCoin", desc := "(I)LPocketHole$Coin;" } : Jvm.MethodName)) ∈ wsL_law := zt_1 (List.mem_of_getElem? (i := 200) rfl) rfl
theorem zw_159 : (Jvm.Cond.code ({ cls := "PocketHole$Coat", name := "newCoin", desc := "(I)LPocketHole$Coin;" } : Jvm.MethodName) prog_2_method_3_code (3 : Nat) (Option.some (Jvm.ClassFile.FieldType.object "PocketHole$Coin"))) ∈ wsL_law := zt_1 (List.mem_of_getElem? (i := 201) rfl) rfl
theorem zw_160 : (Jvm.Cond.methodLink "PocketHole$Coat" (51 : Nat) ({ cls := "PocketHole$Coin", name := "renew", desc := "(I)V" } : Jvm.MethodName)) ∈ wsL_law := zt_1 (List.mem_of_getElem? (i := 202) rfl) rfl
theorem zw_161 : (Jvm.Cond.instanceMethod ({ cls := "PocketHole$Coin", name := "renew", desc := "(I)V" } : Jvm.MethodName)) ∈ wsL_law := zt_1 (List.mem_of_getElem? (i := 203) rfl) rfl
theorem zw_162 : (Jvm.Cond.selects "PocketHole$Coin" ({ cls := "PocketHole$Coin", name := "renew", desc := "(I)V" } : Jvm.MethodName) ({ cls := "PocketHole$Coin", name := "renew", desc := "(I)V" } : Jvm.MethodName)) ∈ wsL_law := zt_1 (List.mem_of_getElem? (i := 204) rfl) rfl
theorem zw_163 : (Jvm.Cond.code ({ cls := "PocketHole$Coin", name := "renew", desc := "(I)V" } : Jvm.MethodName) prog_3_method_2_code (2 : Nat) (Option.none : Option Jvm.ClassFile.FieldType)) ∈ wsL_law := zt_1 (List.mem_of_getElem? (i := 205) rfl) rfl
theorem zw_164 : (Jvm.Cond.methodLink "PocketHole$Coin" (24 : Nat) ({ cls := "PocketHole$Coin", name := "moveTo", desc := "(I)V" } : Jvm.MethodName)) ∈ wsL_law := zt_1 (List.mem_of_getElem? (i := 206) rfl) rfl
theorem zw_165 : (Jvm.Cond.instanceMethod ({ cls := "PocketHole$Coin", name := "moveTo", desc := "(I)V" } : Jvm.MethodName)) ∈ wsL_law := zt_1 (List.mem_of_getElem? (i := 207) rfl) rfl
theorem zw_166 : (Jvm.Cond.selects "PocketHole$Coin" ({ cls := "PocketHole$Coin", name := "moveTo", desc := "(I)V" } : Jvm.MethodName) ({ cls := "PocketHole$Coin", name := "moveTo", desc := "(I)V" } : Jvm.MethodName)) ∈ wsL_law := zt_1 (List.mem_of_getElem? (i := 208) rfl) rfl
theorem zw_167 : (Jvm.Cond.code ({ cls := "PocketHole$Coin", name := "moveTo", desc := "(I)V" } : Jvm.MethodName) prog_3_method_4_code (2 : Nat) (Option.none : Option Jvm.ClassFile.FieldType)) ∈ wsL_law := zt_1 (List.mem_of_getElem? (i := 209) rfl) rfl
theorem zw_168 : (Jvm.Cond.methodLink "PocketHoleLaw" (18 : Nat) ({ cls := "PocketHole", name := "of", desc := "(II)I" } : Jvm.MethodName)) ∈ wsL_law := zt_1 (List.mem_of_getElem? (i := 210) rfl) rfl
theorem zw_169 : (Jvm.Cond.instanceMethod ({ cls := "PocketHole", name := "of", desc := "(II)I" } : Jvm.MethodName)) ∈ wsL_law := zt_1 (List.mem_of_getElem? (i := 211) rfl) rfl
theorem zw_170 : (Jvm.Cond.selects "PocketHole" ({ cls := "PocketHole", name := "of", desc := "(II)I" } : Jvm.MethodName) ({ cls := "PocketHole", name := "of", desc := "(II)I" } : Jvm.MethodName)) ∈ wsL_law := zt_1 (List.mem_of_getElem? (i := 212) rfl) rfl
theorem zw_171 : (Jvm.Cond.code ({ cls := "PocketHole", name := "of", desc := "(II)I" } : Jvm.MethodName) prog_1_method_3_code (3 : Nat) (Option.some Jvm.ClassFile.FieldType.int)) ∈ wsL_law := zt_1 (List.mem_of_getElem? (i := 213) rfl) rfl
theorem zw_172 : (Jvm.Cond.methodLink "PocketHole" (67 : Nat) ({ cls := "PocketHole$Coat", name := "has", desc := "(I)Z" } : Jvm.MethodName)) ∈ wsL_law := zt_1 (List.mem_of_getElem? (i := 214) rfl) rfl
theorem zw_173 : (Jvm.Cond.instanceMethod ({ cls := "PocketHole$Coat", name := "has", desc := "(I)Z" } : Jvm.MethodName)) ∈ wsL_law := zt_1 (List.mem_of_getElem? (i := 215) rfl) rfl
theorem zw_174 : (Jvm.Cond.selects "PocketHole$Coat" ({ cls := "PocketHole$Coat", name := "has", desc := "(I)Z" } : Jvm.MethodName) ({ cls := "PocketHole$Coat", name := "has", desc := "(I)Z" } : Jvm.MethodName)) ∈ wsL_law := zt_1 (List.mem_of_getElem? (i := 216) rfl) rfl
theorem zw_175 : (Jvm.Cond.code ({ cls := "PocketHole$Coat", name := "has", desc := "(I)Z" } : Jvm.MethodName) prog_2_method_4_code (2 : Nat) (Option.some Jvm.ClassFile.FieldType.boolean)) ∈ wsL_law := zt_1 (List.mem_of_getElem? (i := 217) rfl) rfl
theorem zw_176 : (Jvm.Cond.methodLink "PocketHole" (78 : Nat) ({ cls := "PocketHole$Coin", name := "told", desc := "(II)I" } : Jvm.MethodName)) ∈ wsL_law := zt_1 (List.mem_of_getElem? (i := 218) rfl) rfl
theorem zw_177 : (Jvm.Cond.instanceMethod ({ cls := "PocketHole$Coin", name := "told", desc := "(II)I" } : Jvm.MethodName)) ∈ wsL_law := zt_1 (List.mem_of_getElem? (i := 219) rfl) rfl
theorem zw_178 : (Jvm.Cond.selects "PocketHole$Coin" ({ cls := "PocketHole$Coin", name := "told", desc := "(II)I" } : Jvm.MethodName) ({ cls := "PocketHole$Coin", name := "told", desc := "(II)I" } : Jvm.MethodName)) ∈ wsL_law := zt_1 (List.mem_of_getElem? (i := 220) rfl) rfl
theorem zw_179 : (Jvm.Cond.code ({ cls := "PocketHole$Coin", name := "told", desc := "(II)I" } : Jvm.MethodName) prog_3_method_9_code (3 : Nat) (Option.some Jvm.ClassFile.FieldType.int)) ∈ wsL_law := zt_1 (List.mem_of_getElem? (i := 221) rfl) rfl
theorem zw_180 : (Jvm.Cond.methodLink "PocketHole$Coin" (40 : Nat) ({ cls := "PocketHole$Coin", name := "thickness", desc := "()I" } : Jvm.MethodName)) ∈ wsL_law := zt_1 (List.mem_of_getElem? (i := 222) rfl) rfl
theorem zw_181 : (Jvm.Cond.instanceMethod ({ cls := "PocketHole$Coin", name := "thickness", desc := "()I" } : Jvm.MethodName)) ∈ wsL_law := zt_1 (List.mem_of_getElem? (i := 223) rfl) rfl
theorem zw_182 : (Jvm.Cond.selects "PocketHole$Coin" ({ cls := "PocketHole$Coin", name := "thickness", desc := "()I" } : Jvm.MethodName) ({ cls := "PocketHole$Coin", name := "thickness", desc := "()I" } : Jvm.MethodName)) ∈ wsL_law := zt_1 (List.mem_of_getElem? (i := 224) rfl) rfl
theorem zw_183 : (Jvm.Cond.code ({ cls := "PocketHole$Coin", name := "thickness", desc := "()I" } : Jvm.MethodName) prog_3_method_6_code (1 : Nat) (Option.some Jvm.ClassFile.FieldType.int)) ∈ wsL_law := zt_1 (List.mem_of_getElem? (i := 225) rfl) rfl
theorem zw_184 : (Jvm.Cond.methodLink "PocketHole$Coin" (44 : Nat) ({ cls := "PocketHole$Coin", name := "pace", desc := "()I" } : Jvm.MethodName)) ∈ wsL_law := zt_1 (List.mem_of_getElem? (i := 226) rfl) rfl
theorem zw_185 : (Jvm.Cond.instanceMethod ({ cls := "PocketHole$Coin", name := "pace", desc := "()I" } : Jvm.MethodName)) ∈ wsL_law := zt_1 (List.mem_of_getElem? (i := 227) rfl) rfl
theorem zw_186 : (Jvm.Cond.selects "PocketHole$Coin" ({ cls := "PocketHole$Coin", name := "pace", desc := "()I" } : Jvm.MethodName) ({ cls := "PocketHole$Coin", name := "pace", desc := "()I" } : Jvm.MethodName)) ∈ wsL_law := zt_1 (List.mem_of_getElem? (i := 228) rfl) rfl
theorem zw_187 : (Jvm.Cond.code ({ cls := "PocketHole$Coin", name := "pace", desc := "()I" } : Jvm.MethodName) prog_3_method_7_code (1 : Nat) (Option.some Jvm.ClassFile.FieldType.int)) ∈ wsL_law := zt_1 (List.mem_of_getElem? (i := 229) rfl) rfl
theorem zw_188 : (Jvm.Cond.methodLink "PocketHole$Coin" (47 : Nat) ({ cls := "PocketHole$Coin", name := "wear", desc := "(I)I" } : Jvm.MethodName)) ∈ wsL_law := zt_1 (List.mem_of_getElem? (i := 230) rfl) rfl
theorem zw_189 : (Jvm.Cond.instanceMethod ({ cls := "PocketHole$Coin", name := "wear", desc := "(I)I" } : Jvm.MethodName)) ∈ wsL_law := zt_1 (List.mem_of_getElem? (i := 231) rfl) rfl
theorem zw_190 : (Jvm.Cond.selects "PocketHole$Coin" ({ cls := "PocketHole$Coin", name := "wear", desc := "(I)I" } : Jvm.MethodName) ({ cls := "PocketHole$Coin", name := "wear", desc := "(I)I" } : Jvm.MethodName)) ∈ wsL_law := zt_1 (List.mem_of_getElem? (i := 232) rfl) rfl
theorem zw_191 : (Jvm.Cond.code ({ cls := "PocketHole$Coin", name := "wear", desc := "(I)I" } : Jvm.MethodName) prog_3_method_8_code (3 : Nat) (Option.some Jvm.ClassFile.FieldType.int)) ∈ wsL_law := zt_1 (List.mem_of_getElem? (i := 233) rfl) rfl
theorem zw_192 : (Jvm.Cond.methodLink "PocketHoleLaw" (23 : Nat) ({ cls := "PocketHole", name := "change", desc := "(III)I" } : Jvm.MethodName)) ∈ wsL_law := zt_1 (List.mem_of_getElem? (i := 234) rfl) rfl
theorem zw_193 : (Jvm.Cond.instanceMethod ({ cls := "PocketHole", name := "change", desc := "(III)I" } : Jvm.MethodName)) ∈ wsL_law := zt_1 (List.mem_of_getElem? (i := 235) rfl) rfl
theorem zw_194 : (Jvm.Cond.selects "PocketHole" ({ cls := "PocketHole", name := "change", desc := "(III)I" } : Jvm.MethodName) ({ cls := "PocketHole", name := "change", desc := "(III)I" } : Jvm.MethodName)) ∈ wsL_law := zt_1 (List.mem_of_getElem? (i := 236) rfl) rfl
theorem zw_195 : (Jvm.Cond.code ({ cls := "PocketHole", name := "change", desc := "(III)I" } : Jvm.MethodName) prog_1_method_4_code (6 : Nat) (Option.some Jvm.ClassFile.FieldType.int)) ∈ wsL_law := zt_1 (List.mem_of_getElem? (i := 237) rfl) rfl
theorem zw_196 : (Jvm.Cond.methodLink "PocketHole" (84 : Nat) ({ cls := "PocketHole", name := "mayBecome", desc := "(II)Z" } : Jvm.MethodName)) ∈ wsL_law := zt_1 (List.mem_of_getElem? (i := 238) rfl) rfl
theorem zw_197 : (Jvm.Cond.static ({ cls := "PocketHole", name := "mayBecome", desc := "(II)Z" } : Jvm.MethodName)) ∈ wsL_law := zt_1 (List.mem_of_getElem? (i := 239) rfl) rfl
theorem zw_198 : (Jvm.Cond.code ({ cls := "PocketHole", name := "mayBecome", desc := "(II)Z" } : Jvm.MethodName) prog_1_method_56_code (2 : Nat) (Option.some Jvm.ClassFile.FieldType.boolean)) ∈ wsL_law := zt_2 (List.mem_of_getElem? (i := 0) rfl) rfl
theorem zw_199 : (Jvm.Cond.methodLink "PocketHole" (88 : Nat) ({ cls := "PocketHole$Coin", name := "set", desc := "(II)V" } : Jvm.MethodName)) ∈ wsL_law := zt_2 (List.mem_of_getElem? (i := 1) rfl) rfl
theorem zw_200 : (Jvm.Cond.instanceMethod ({ cls := "PocketHole$Coin", name := "set", desc := "(II)V" } : Jvm.MethodName)) ∈ wsL_law := zt_2 (List.mem_of_getElem? (i := 2) rfl) rfl
theorem zw_201 : (Jvm.Cond.selects "PocketHole$Coin" ({ cls := "PocketHole$Coin", name := "set", desc := "(II)V" } : Jvm.MethodName) ({ cls := "PocketHole$Coin", name := "set", desc := "(II)V" } : Jvm.MethodName)) ∈ wsL_law := zt_2 (List.mem_of_getElem? (i := 3) rfl) rfl
theorem zw_202 : (Jvm.Cond.code ({ cls := "PocketHole$Coin", name := "set", desc := "(II)V" } : Jvm.MethodName) prog_3_method_10_code (3 : Nat) (Option.none : Option Jvm.ClassFile.FieldType)) ∈ wsL_law := zt_2 (List.mem_of_getElem? (i := 4) rfl) rfl
theorem zw_203 : (Jvm.Cond.methodLink "PocketHoleLaw" (28 : Nat) ({ cls := "PocketHole", name := "put", desc := "(II)I" } : Jvm.MethodName)) ∈ wsL_law := zt_2 (List.mem_of_getElem? (i := 5) rfl) rfl
theorem zw_204 : (Jvm.Cond.instanceMethod ({ cls := "PocketHole", name := "put", desc := "(II)I" } : Jvm.MethodName)) ∈ wsL_law := zt_2 (List.mem_of_getElem? (i := 6) rfl) rfl
theorem zw_205 : (Jvm.Cond.selects "PocketHole" ({ cls := "PocketHole", name := "put", desc := "(II)I" } : Jvm.MethodName) ({ cls := "PocketHole", name := "put", desc := "(II)I" } : Jvm.MethodName)) ∈ wsL_law := zt_2 (List.mem_of_getElem? (i := 7) rfl) rfl
theorem zw_206 : (Jvm.Cond.code ({ cls := "PocketHole", name := "put", desc := "(II)I" } : Jvm.MethodName) prog_1_method_5_code (4 : Nat) (Option.some Jvm.ClassFile.FieldType.int)) ∈ wsL_law := zt_2 (List.mem_of_getElem? (i := 8) rfl) rfl
theorem zw_207 : (Jvm.Cond.methodLink "PocketHole" (92 : Nat) ({ cls := "PocketHole", name := "isPlace", desc := "(I)Z" } : Jvm.MethodName)) ∈ wsL_law := zt_2 (List.mem_of_getElem? (i := 9) rfl) rfl
theorem zw_208 : (Jvm.Cond.static ({ cls := "PocketHole", name := "isPlace", desc := "(I)Z" } : Jvm.MethodName)) ∈ wsL_law := zt_2 (List.mem_of_getElem? (i := 10) rfl) rfl
theorem zw_209 : (Jvm.Cond.code ({ cls := "PocketHole", name := "isPlace", desc := "(I)Z" } : Jvm.MethodName) prog_1_method_54_code (1 : Nat) (Option.some Jvm.ClassFile.FieldType.boolean)) ∈ wsL_law := zt_2 (List.mem_of_getElem? (i := 11) rfl) rfl
theorem zw_210 : (Jvm.Cond.methodLink "PocketHole" (98 : Nat) ({ cls := "PocketHole$Coin", name := "moveTo", desc := "(I)V" } : Jvm.MethodName)) ∈ wsL_law := zt_2 (List.mem_of_getElem? (i := 12) rfl) rfl
theorem zw_211 : (Jvm.Cond.methodLink "PocketHoleLaw" (32 : Nat) ({ cls := "PocketHole", name := "rule", desc := "(II)I" } : Jvm.MethodName)) ∈ wsL_law := zt_2 (List.mem_of_getElem? (i := 13) rfl) rfl
theorem zw_212 : (Jvm.Cond.instanceMethod ({ cls := "PocketHole", name := "rule", desc := "(II)I" } : Jvm.MethodName)) ∈ wsL_law := zt_2 (List.mem_of_getElem? (i := 14) rfl) rfl
theorem zw_213 : (Jvm.Cond.selects "PocketHole" ({ cls := "PocketHole", name := "rule", desc := "(II)I" } : Jvm.MethodName) ({ cls := "PocketHole", name := "rule", desc := "(II)I" } : Jvm.MethodName)) ∈ wsL_law := zt_2 (List.mem_of_getElem? (i := 15) rfl) rfl
theorem zw_214 : (Jvm.Cond.code ({ cls := "PocketHole", name := "rule", desc := "(II)I" } : Jvm.MethodName) prog_1_method_6_code (4 : Nat) (Option.some Jvm.ClassFile.FieldType.int)) ∈ wsL_law := zt_2 (List.mem_of_getElem? (i := 16) rfl) rfl
theorem zw_215 : (Jvm.Cond.methodLink "PocketHoleLaw" (36 : Nat) ({ cls := "PocketHole", name := "sew", desc := "()I" } : Jvm.MethodName)) ∈ wsL_law := zt_2 (List.mem_of_getElem? (i := 17) rfl) rfl
theorem zw_216 : (Jvm.Cond.instanceMethod ({ cls := "PocketHole", name := "sew", desc := "()I" } : Jvm.MethodName)) ∈ wsL_law := zt_2 (List.mem_of_getElem? (i := 18) rfl) rfl
theorem zw_217 : (Jvm.Cond.selects "PocketHole" ({ cls := "PocketHole", name := "sew", desc := "()I" } : Jvm.MethodName) ({ cls := "PocketHole", name := "sew", desc := "()I" } : Jvm.MethodName)) ∈ wsL_law := zt_2 (List.mem_of_getElem? (i := 19) rfl) rfl
theorem zw_218 : (Jvm.Cond.code ({ cls := "PocketHole", name := "sew", desc := "()I" } : Jvm.MethodName) prog_1_method_7_code (2 : Nat) (Option.some Jvm.ClassFile.FieldType.int)) ∈ wsL_law := zt_2 (List.mem_of_getElem? (i := 20) rfl) rfl
theorem zw_219 : (Jvm.Cond.methodLink "PocketHoleLaw" (41 : Nat) ({ cls := "PocketHole", name := "lie", desc := "(I)I" } : Jvm.MethodName)) ∈ wsL_law := zt_2 (List.mem_of_getElem? (i := 21) rfl) rfl
theorem zw_220 : (Jvm.Cond.instanceMethod ({ cls := "PocketHole", name := "lie", desc := "(I)I" } : Jvm.MethodName)) ∈ wsL_law := zt_2 (List.mem_of_getElem? (i := 22) rfl) rfl
theorem zw_221 : (Jvm.Cond.selects "PocketHole" ({ cls := "PocketHole", name := "lie", desc := "(I)I" } : Jvm.MethodName) ({ cls := "PocketHole", name := "lie", desc := "(I)I" } : Jvm.MethodName)) ∈ wsL_law := zt_2 (List.mem_of_getElem? (i := 23) rfl) rfl
theorem zw_222 : (Jvm.Cond.code ({ cls := "PocketHole", name := "lie", desc := "(I)I" } : Jvm.MethodName) prog_1_method_8_code (2 : Nat) (Option.some Jvm.ClassFile.FieldType.int)) ∈ wsL_law := zt_2 (List.mem_of_getElem? (i := 24) rfl) rfl
theorem zw_223 : (Jvm.Cond.methodLink "PocketHole" (108 : Nat) ({ cls := "PocketHole$Coat", name := "in", desc := "(I)I" } : Jvm.MethodName)) ∈ wsL_law := zt_2 (List.mem_of_getElem? (i := 25) rfl) rfl
theorem zw_224 : (Jvm.Cond.instanceMethod ({ cls := "PocketHole$Coat", name := "in", desc := "(I)I" } : Jvm.MethodName)) ∈ wsL_law := zt_2 (List.mem_of_getElem? (i := 26) rfl) rfl
theorem zw_225 : (Jvm.Cond.selects "PocketHole$Coat" ({ cls := "PocketHole$Coat", name := "in", desc := "(I)I" } : Jvm.MethodName) ({ cls := "PocketHole$Coat", name := "in", desc := "(I)I" } : Jvm.MethodName)) ∈ wsL_law := zt_2 (List.mem_of_getElem? (i := 27) rfl) rfl
theorem zw_226 : (Jvm.Cond.code ({ cls := "PocketHole$Coat", name := "in", desc := "(I)I" } : Jvm.MethodName) prog_2_method_7_code (4 : Nat) (Option.some Jvm.ClassFile.FieldType.int)) ∈ wsL_law := zt_2 (List.mem_of_getElem? (i := 28) rfl) rfl
theorem zw_227 : (Jvm.Cond.methodLink "PocketHoleLaw" (45 : Nat) ({ cls := "PocketHole", name := "pence", desc := "(I)I" } : Jvm.MethodName)) ∈ wsL_law := zt_2 (List.mem_of_getElem? (i := 29) rfl) rfl
theorem zw_228 : (Jvm.Cond.instanceMethod ({ cls := "PocketHole", name := "pence", desc := "(I)I" } : Jvm.MethodName)) ∈ wsL_law := zt_2 (List.mem_of_getElem? (i := 30) rfl) rfl
theorem zw_229 : (Jvm.Cond.selects "PocketHole" ({ cls := "PocketHole", name := "pence", desc := "(I)I" } : Jvm.MethodName) ({ cls := "PocketHole", name := "pence", desc := "(I)I" } : Jvm.MethodName)) ∈ wsL_law := zt_2 (List.mem_of_getElem? (i := 31) rfl) rfl
theorem zw_230 : (Jvm.Cond.code ({ cls := "PocketHole", name := "pence", desc := "(I)I" } : Jvm.MethodName) prog_1_method_9_code (2 : Nat) (Option.some Jvm.ClassFile.FieldType.int)) ∈ wsL_law := zt_2 (List.mem_of_getElem? (i := 32) rfl) rfl
theorem zw_231 : (Jvm.Cond.methodLink "PocketHole" (111 : Nat) ({ cls := "PocketHole$Coat", name := "penceIn", desc := "(I)I" } : Jvm.MethodName)) ∈ wsL_law := zt_2 (List.mem_of_getElem? (i := 33) rfl) rfl
theorem zw_232 : (Jvm.Cond.instanceMethod ({ cls := "PocketHole$Coat", name := "penceIn", desc := "(I)I" } : Jvm.MethodName)) ∈ wsL_law := zt_2 (List.mem_of_getElem? (i := 34) rfl) rfl
theorem zw_233 : (Jvm.Cond.selects "PocketHole$Coat" ({ cls := "PocketHole$Coat", name := "penceIn", desc := "(I)I" } : Jvm.MethodName) ({ cls := "PocketHole$Coat", name := "penceIn", desc := "(I)I" } : Jvm.MethodName)) ∈ wsL_law := zt_2 (List.mem_of_getElem? (i := 35) rfl) rfl
theorem zw_234 : (Jvm.Cond.code ({ cls := "PocketHole$Coat", name := "penceIn", desc := "(I)I" } : Jvm.MethodName) prog_2_method_10_code (2 : Nat) (Option.some Jvm.ClassFile.FieldType.int)) ∈ wsL_law := zt_2 (List.mem_of_getElem? (i := 36) rfl) rfl
theorem zw_235 : (Jvm.Cond.methodLink "PocketHole$Coat" (68 : Nat) ({ cls := "PocketHole$Coat", name := "in", desc := "(I)I" } : Jvm.MethodName)) ∈ wsL_law := zt_2 (List.mem_of_getElem? (i := 37) rfl) rfl
theorem zw_236 : (Jvm.Cond.methodLink "PocketHole$Coat" (72 : Nat) ({ cls := "PocketHole$Coat", name := "penceOf", desc := "(I)I" } : Jvm.MethodName)) ∈ wsL_law := zt_2 (List.mem_of_getElem? (i := 38) rfl) rfl
theorem zw_237 : (Jvm.Cond.instanceMethod ({ cls := "PocketHole$Coat", name := "penceOf", desc := "(I)I" } : Jvm.MethodName)) ∈ wsL_law := zt_2 (List.mem_of_getElem? (i := 39) rfl) rfl
theorem zw_238 : (Jvm.Cond.selects "PocketHole$Coat" ({ cls := "PocketHole$Coat", name := "penceOf", desc := "(I)I" } : Jvm.MethodName) ({ cls := "PocketHole$Coat", name := "penceOf", desc := "(I)I" } : Jvm.MethodName)) ∈ wsL_law := zt_2 (List.mem_of_getElem? (i := 40) rfl) rfl
theorem zw_239 : (Jvm.Cond.code ({ cls := "PocketHole$Coat", name := "penceOf", desc := "(I)I" } : Jvm.MethodName) prog_2_method_9_code (4 : Nat) (Option.some Jvm.ClassFile.FieldType.int)) ∈ wsL_law := zt_2 (List.mem_of_getElem? (i := 41) rfl) rfl
theorem zw_240 : (Jvm.Cond.methodLink "PocketHoleLaw" (49 : Nat) ({ cls := "PocketHole", name := "steps", desc := "(I)I" } : Jvm.MethodName)) ∈ wsL_law := zt_2 (List.mem_of_getElem? (i := 42) rfl) rfl
theorem zw_241 : (Jvm.Cond.instanceMethod ({ cls := "PocketHole", name := "steps", desc := "(I)I" } : Jvm.MethodName)) ∈ wsL_law := zt_2 (List.mem_of_getElem? (i := 43) rfl) rfl
theorem zw_242 : (Jvm.Cond.selects "PocketHole" ({ cls := "PocketHole", name := "steps", desc := "(I)I" } : Jvm.MethodName) ({ cls := "PocketHole", name := "steps", desc := "(I)I" } : Jvm.MethodName)) ∈ wsL_law := zt_2 (List.mem_of_getElem? (i := 44) rfl) rfl
theorem zw_243 : (Jvm.Cond.code ({ cls := "PocketHole", name := "steps", desc := "(I)I" } : Jvm.MethodName) prog_1_method_10_code (3 : Nat) (Option.some Jvm.ClassFile.FieldType.int)) ∈ wsL_law := zt_2 (List.mem_of_getElem? (i := 45) rfl) rfl
theorem zw_244 : (Jvm.Cond.methodLink "PocketHole" (114 : Nat) ({ cls := "PocketHole", name := "isTooFar", desc := "(I)Z" } : Jvm.MethodName)) ∈ wsL_law := zt_2 (List.mem_of_getElem? (i := 46) rfl) rfl
theorem zw_245 : (Jvm.Cond.instanceMethod ({ cls := "PocketHole", name := "isTooFar", desc := "(I)Z" } : Jvm.MethodName)) ∈ wsL_law := zt_2 (List.mem_of_getElem? (i := 48) rfl) rfl
theorem zw_246 : (Jvm.Cond.code ({ cls := "PocketHole", name := "isTooFar", desc := "(I)Z" } : Jvm.MethodName) prog_1_method_58_code (2 : Nat) (Option.some Jvm.ClassFile.FieldType.boolean)) ∈ wsL_law := zt_2 (List.mem_of_getElem? (i := 49) rfl) rfl
theorem zw_247 : (Jvm.Cond.methodLink "PocketHole" (117 : Nat) ({ cls := "PocketHole$Coat", name := "go", desc := "(I)V" } : Jvm.MethodName)) ∈ wsL_law := zt_2 (List.mem_of_getElem? (i := 50) rfl) rfl
theorem zw_248 : (Jvm.Cond.instanceMethod ({ cls := "PocketHole$Coat", name := "go", desc := "(I)V" } : Jvm.MethodName)) ∈ wsL_law := zt_2 (List.mem_of_getElem? (i := 51) rfl) rfl
theorem zw_249 : (Jvm.Cond.selects "PocketHole$Coat" ({ cls := "PocketHole$Coat", name := "go", desc := "(I)V" } : Jvm.MethodName) ({ cls := "PocketHole$Coat", name := "go", desc := "(I)V" } : Jvm.MethodName)) ∈ wsL_law := zt_2 (List.mem_of_getElem? (i := 52) rfl) rfl
theorem zw_250 : (Jvm.Cond.code ({ cls := "PocketHole$Coat", name := "go", desc := "(I)V" } : Jvm.MethodName) prog_2_method_19_code (5 : Nat) (Option.none : Option Jvm.ClassFile.FieldType)) ∈ wsL_law := zt_2 (List.mem_of_getElem? (i := 53) rfl) rfl
theorem zw_251 : (Jvm.Cond.methodLink "PocketHole$Coat" (89 : Nat) ({ cls := "PocketHole$Coat", name := "goPocket", desc := "()Z" } : Jvm.MethodName)) ∈ wsL_law := zt_2 (List.mem_of_getElem? (i := 54) rfl) rfl
theorem zw_252 : (Jvm.Cond.instanceMethod ({ cls := "PocketHole$Coat", name := "goPocket", desc := "()Z" } : Jvm.MethodName)) ∈ wsL_law := zt_2 (List.mem_of_getElem? (i := 55) rfl) rfl
theorem zw_253 : (Jvm.Cond.selects "PocketHole$Coat" ({ cls := "PocketHole$Coat", name := "goPocket", desc := "()Z" } : Jvm.MethodName) ({ cls := "PocketHole$Coat", name := "goPocket", desc := "()Z" } : Jvm.MethodName)) ∈ wsL_law := zt_2 (List.mem_of_getElem? (i := 56) rfl) rfl
theorem zw_254 : (Jvm.Cond.code ({ cls := "PocketHole$Coat", name := "goPocket", desc := "()Z" } : Jvm.MethodName) prog_2_method_20_code (3 : Nat) (Option.some Jvm.ClassFile.FieldType.boolean)) ∈ wsL_law := zt_2 (List.mem_of_getElem? (i := 57) rfl) rfl
theorem zw_255 : (Jvm.Cond.methodLink "PocketHole$Coat" (97 : Nat) ({ cls := "PocketHole$Coat", name := "stirOne", desc := "(LPocketHole$Coin;)Z" } : Jvm.MethodName)) ∈ wsL_law := zt_2 (List.mem_of_getElem? (i := 58) rfl) rfl
theorem zw_256 : (Jvm.Cond.instanceMethod ({ cls := "PocketHole$Coat", name := "stirOne", desc := "(LPocketHole$Coin;)Z" } : Jvm.MethodName)) ∈ wsL_law := zt_2 (List.mem_of_getElem? (i := 60) rfl) rfl
theorem zw_257 : (Jvm.Cond.code ({ cls := "PocketHole$Coat", name := "stirOne", desc := "(LPocketHole$Coin;)Z" } : Jvm.MethodName) prog_2_method_21_code (4 : Nat) (Option.some Jvm.ClassFile.FieldType.boolean)) ∈ wsL_law := zt_2 (List.mem_of_getElem? (i := 61) rfl) rfl
theorem zw_258 : (Jvm.Cond.methodLink "PocketHole$Coat" (104 : Nat) ({ cls := "PocketHole$Coin", name := "pace", desc := "()I" } : Jvm.MethodName)) ∈ wsL_law := zt_2 (List.mem_of_getElem? (i := 62) rfl) rfl
theorem zw_259 : (Jvm.Cond.methodLink "PocketHole$Coat" (107 : Nat) ({ cls := "java/lang/Math", name := "min", desc := "(II)I" } : Jvm.MethodName)) ∈ wsL_law := zt_2 (List.mem_of_getElem? (i := 63) rfl) rfl
theorem zw_260 : (Jvm.Cond.static ({ cls := "java/lang/Math", name := "min", desc := "(II)I" } : Jvm.MethodName)) ∈ wsL_law := zt_2 (List.mem_of_getElem? (i := 64) rfl) rfl
theorem zw_261 : (Jvm.Cond.code ({ cls := "java/lang/Math", name := "min", desc := "(II)I" } : Jvm.MethodName) prog_10_method_69_code (2 : Nat) (Option.some Jvm.ClassFile.FieldType.int)) ∈ wsL_law := zt_2 (List.mem_of_getElem? (i := 65) rfl) rfl
theorem zw_262 : (Jvm.Cond.methodLink "PocketHole$Coat" (62 : Nat) ({ cls := "PocketHole$Coin", name := "thickness", desc := "()I" } : Jvm.MethodName)) ∈ wsL_law := zt_2 (List.mem_of_getElem? (i := 66) rfl) rfl
theorem zw_263 : (Jvm.Cond.methodLink "PocketHole$Coat" (113 : Nat) ({ cls := "PocketHole$Coin", name := "wear", desc := "(I)I" } : Jvm.MethodName)) ∈ wsL_law := zt_2 (List.mem_of_getElem? (i := 67) rfl) rfl
theorem zw_264 : (Jvm.Cond.methodLink "PocketHole$Coat" (93 : Nat) ({ cls := "PocketHole$Coat", name := "goLining", desc := "(II)V" } : Jvm.MethodName)) ∈ wsL_law := zt_2 (List.mem_of_getElem? (i := 68) rfl) rfl
theorem zw_265 : (Jvm.Cond.instanceMethod ({ cls := "PocketHole$Coat", name := "goLining", desc := "(II)V" } : Jvm.MethodName)) ∈ wsL_law := zt_2 (List.mem_of_getElem? (i := 70) rfl) rfl
theorem zw_266 : (Jvm.Cond.code ({ cls := "PocketHole$Coat", name := "goLining", desc := "(II)V" } : Jvm.MethodName) prog_2_method_22_code (5 : Nat) (Option.none : Option Jvm.ClassFile.FieldType)) ∈ wsL_law := zt_2 (List.mem_of_getElem? (i := 71) rfl) rfl
theorem zw_267 : (Jvm.Cond.methodLink "PocketHole$Coat" (119 : Nat) ({ cls := "PocketHole$Coat", name := "clinksNow", desc := "(I)Z" } : Jvm.MethodName)) ∈ wsL_law := zt_2 (List.mem_of_getElem? (i := 72) rfl) rfl
theorem zw_268 : (Jvm.Cond.instanceMethod ({ cls := "PocketHole$Coat", name := "clinksNow", desc := "(I)Z" } : Jvm.MethodName)) ∈ wsL_law := zt_2 (List.mem_of_getElem? (i := 73) rfl) rfl
theorem zw_269 : (Jvm.Cond.selects "PocketHole$Coat" ({ cls := "PocketHole$Coat", name := "clinksNow", desc := "(I)Z" } : Jvm.MethodName) ({ cls := "PocketHole$Coat", name := "clinksNow", desc := "(I)Z" } : Jvm.MethodName)) ∈ wsL_law := zt_2 (List.mem_of_getElem? (i := 74) rfl) rfl
theorem zw_270 : (Jvm.Cond.code ({ cls := "PocketHole$Coat", name := "clinksNow", desc := "(I)Z" } : Jvm.MethodName) prog_2_method_14_code (3 : Nat) (Option.some Jvm.ClassFile.FieldType.boolean)) ∈ wsL_law := zt_2 (List.mem_of_getElem? (i := 75) rfl) rfl
theorem zw_271 : (Jvm.Cond.methodLink "PocketHole$Coat" (81 : Nat) ({ cls := "PocketHole$Coat", name := "clink", desc := "(II)Z" } : Jvm.MethodName)) ∈ wsL_law := zt_2 (List.mem_of_getElem? (i := 76) rfl) rfl
theorem zw_272 : (Jvm.Cond.instanceMethod ({ cls := "PocketHole$Coat", name := "clink", desc := "(II)Z" } : Jvm.MethodName)) ∈ wsL_law := zt_2 (List.mem_of_getElem? (i := 77) rfl) rfl
theorem zw_273 : (Jvm.Cond.selects "PocketHole$Coat" ({ cls := "PocketHole$Coat", name := "clink", desc := "(II)Z" } : Jvm.MethodName) ({ cls := "PocketHole$Coat", name := "clink", desc := "(II)Z" } : Jvm.MethodName)) ∈ wsL_law := zt_2 (List.mem_of_getElem? (i := 78) rfl) rfl
theorem zw_274 : (Jvm.Cond.code ({ cls := "PocketHole$Coat", name := "clink", desc := "(II)Z" } : Jvm.MethodName) prog_2_method_12_code (3 : Nat) (Option.some Jvm.ClassFile.FieldType.boolean)) ∈ wsL_law := zt_2 (List.mem_of_getElem? (i := 79) rfl) rfl
theorem zw_275 : (Jvm.Cond.methodLink "PocketHole" (120 : Nat) ({ cls := "java/lang/Integer", name := "bitCount", desc := "(I)I" } : Jvm.MethodName)) ∈ wsL_law := zt_2 (List.mem_of_getElem? (i := 80) rfl) rfl
theorem zw_276 : (Jvm.Cond.static ({ cls := "java/lang/Integer", name := "bitCount", desc := "(I)I" } : Jvm.MethodName)) ∈ wsL_law := zt_2 (List.mem_of_getElem? (i := 81) rfl) rfl
theorem zw_277 : (Jvm.Cond.code ({ cls := "java/lang/Integer", name := "bitCount", desc := "(I)I" } : Jvm.MethodName) prog_8_method_49_code (1 : Nat) (Option.some Jvm.ClassFile.FieldType.int)) ∈ wsL_law := zt_2 (List.mem_of_getElem? (i := 82) rfl) rfl
theorem zw_278 : (Jvm.Cond.constant "java/lang/Integer" (265 : Nat) (1431655765 : Int32)) ∈ wsL_law := zt_2 (List.mem_of_getElem? (i := 83) rfl) rfl
theorem zw_279 : (Jvm.Cond.constant "java/lang/Integer" (266 : Nat) (858993459 : Int32)) ∈ wsL_law := zt_2 (List.mem_of_getElem? (i := 84) rfl) rfl
theorem zw_280 : (Jvm.Cond.constant "java/lang/Integer" (267 : Nat) (252645135 : Int32)) ∈ wsL_law := zt_2 (List.mem_of_getElem? (i := 85) rfl) rfl
theorem zw_281 : (Jvm.Cond.methodLink "PocketHoleLaw" (53 : Nat) ({ cls := "PocketHole", name := "now", desc := "(I)I" } : Jvm.MethodName)) ∈ wsL_law := zt_2 (List.mem_of_getElem? (i := 86) rfl) rfl
theorem zw_282 : (Jvm.Cond.instanceMethod ({ cls := "PocketHole", name := "now", desc := "(I)I" } : Jvm.MethodName)) ∈ wsL_law := zt_2 (List.mem_of_getElem? (i := 87) rfl) rfl
theorem zw_283 : (Jvm.Cond.selects "PocketHole" ({ cls := "PocketHole", name := "now", desc := "(I)I" } : Jvm.MethodName) ({ cls := "PocketHole", name := "now", desc := "(I)I" } : Jvm.MethodName)) ∈ wsL_law := zt_2 (List.mem_of_getElem? (i := 88) rfl) rfl
theorem zw_284 : (Jvm.Cond.code ({ cls := "PocketHole", name := "now", desc := "(I)I" } : Jvm.MethodName) prog_1_method_11_code (2 : Nat) (Option.some Jvm.ClassFile.FieldType.int)) ∈ wsL_law := zt_2 (List.mem_of_getElem? (i := 89) rfl) rfl
theorem zw_285 : (Jvm.Cond.methodLink "PocketHole" (128 : Nat) ({ cls := "PocketHole$Coat", name := "clinkingPairs", desc := "()I" } : Jvm.MethodName)) ∈ wsL_law := zt_2 (List.mem_of_getElem? (i := 90) rfl) rfl
theorem zw_286 : (Jvm.Cond.instanceMethod ({ cls := "PocketHole$Coat", name := "clinkingPairs", desc := "()I" } : Jvm.MethodName)) ∈ wsL_law := zt_2 (List.mem_of_getElem? (i := 91) rfl) rfl
theorem zw_287 : (Jvm.Cond.selects "PocketHole$Coat" ({ cls := "PocketHole$Coat", name := "clinkingPairs", desc := "()I" } : Jvm.MethodName) ({ cls := "PocketHole$Coat", name := "clinkingPairs", desc := "()I" } : Jvm.MethodName)) ∈ wsL_law := zt_2 (List.mem_of_getElem? (i := 92) rfl) rfl
theorem zw_288 : (Jvm.Cond.code ({ cls := "PocketHole$Coat", name := "clinkingPairs", desc := "()I" } : Jvm.MethodName) prog_2_method_13_code (4 : Nat) (Option.some Jvm.ClassFile.FieldType.int)) ∈ wsL_law := zt_2 (List.mem_of_getElem? (i := 93) rfl) rfl
theorem zw_289 : (Jvm.Cond.methodLink "PocketHole" (132 : Nat) ({ cls := "PocketHole$Coat", name := "weightOf", desc := "(I)I" } : Jvm.MethodName)) ∈ wsL_law := zt_2 (List.mem_of_getElem? (i := 94) rfl) rfl
theorem zw_290 : (Jvm.Cond.instanceMethod ({ cls := "PocketHole$Coat", name := "weightOf", desc := "(I)I" } : Jvm.MethodName)) ∈ wsL_law := zt_2 (List.mem_of_getElem? (i := 95) rfl) rfl
theorem zw_291 : (Jvm.Cond.selects "PocketHole$Coat" ({ cls := "PocketHole$Coat", name := "weightOf", desc := "(I)I" } : Jvm.MethodName) ({ cls := "PocketHole$Coat", name := "weightOf", desc := "(I)I" } : Jvm.MethodName)) ∈ wsL_law := zt_2 (List.mem_of_getElem? (i := 96) rfl) rfl
theorem zw_292 : (Jvm.Cond.code ({ cls := "PocketHole$Coat", name := "weightOf", desc := "(I)I" } : Jvm.MethodName) prog_2_method_11_code (4 : Nat) (Option.some Jvm.ClassFile.FieldType.int)) ∈ wsL_law := zt_2 (List.mem_of_getElem? (i := 97) rfl) rfl
theorem zw_293 : (Jvm.Cond.methodLink "PocketHoleLaw" (57 : Nat) ({ cls := "PocketHole", name := "ahead", desc := "(II)I" } : Jvm.MethodName)) ∈ wsL_law := zt_2 (List.mem_of_getElem? (i := 98) rfl) rfl
theorem zw_294 : (Jvm.Cond.instanceMethod ({ cls := "PocketHole", name := "ahead", desc := "(II)I" } : Jvm.MethodName)) ∈ wsL_law := zt_2 (List.mem_of_getElem? (i := 99) rfl) rfl
theorem zw_295 : (Jvm.Cond.selects "PocketHole" ({ cls := "PocketHole", name := "ahead", desc := "(II)I" } : Jvm.MethodName) ({ cls := "PocketHole", name := "ahead", desc := "(II)I" } : Jvm.MethodName)) ∈ wsL_law := zt_2 (List.mem_of_getElem? (i := 100) rfl) rfl
theorem zw_296 : (Jvm.Cond.code ({ cls := "PocketHole", name := "ahead", desc := "(II)I" } : Jvm.MethodName) prog_1_method_12_code (3 : Nat) (Option.some Jvm.ClassFile.FieldType.int)) ∈ wsL_law := zt_2 (List.mem_of_getElem? (i := 101) rfl) rfl
theorem zw_297 : (Jvm.Cond.methodLink "PocketHole" (135 : Nat) ({ cls := "PocketHole$Coat", name := "become", desc := "(LPocketHole$Coat;)V" } : Jvm.MethodName)) ∈ wsL_law := zt_2 (List.mem_of_getElem? (i := 102) rfl) rfl
theorem zw_298 : (Jvm.Cond.instanceMethod ({ cls := "PocketHole$Coat", name := "become", desc := "(LPocketHole$Coat;)V" } : Jvm.MethodName)) ∈ wsL_law := zt_2 (List.mem_of_getElem? (i := 103) rfl) rfl
theorem zw_299 : (Jvm.Cond.selects "PocketHole$Coat" ({ cls := "PocketHole$Coat", name := "become", desc := "(LPocketHole$Coat;)V" } : Jvm.MethodName) ({ cls := "PocketHole$Coat", name := "become", desc := "(LPocketHole$Coat;)V" } : Jvm.MethodName)) ∈ wsL_law := zt_2 (List.mem_of_getElem? (i := 104) rfl) rfl
theorem zw_300 : (Jvm.Cond.code ({ cls := "PocketHole$Coat", name := "become", desc := "(LPocketHole$Coat;)V" } : Jvm.MethodName) prog_2_method_2_code (3 : Nat) (Option.none : Option Jvm.ClassFile.FieldType)) ∈ wsL_law := zt_2 (List.mem_of_getElem? (i := 105) rfl) rfl
theorem zw_301 : (Jvm.Cond.methodLink "PocketHole$Coat" (41 : Nat) ({ cls := "PocketHole$Coin", name := "become", desc := "(LPocketHole$Coin;)V" } : Jvm.MethodName)) ∈ wsL_law := zt_2 (List.mem_of_getElem? (i := 106) rfl) rfl
theorem zw_302 : (Jvm.Cond.instanceMethod ({ cls := "PocketHole$Coin", name := "become", desc := "(LPocketHole$Coin;)V" } : Jvm.MethodName)) ∈ wsL_law := zt_2 (List.mem_of_getElem? (i := 107) rfl) rfl
theorem zw_303 : (Jvm.Cond.selects "PocketHole$Coin" ({ cls := "PocketHole$Coin", name := "become", desc := "(LPocketHole$Coin;)V" } : Jvm.MethodName) ({ cls := "PocketHole$Coin", name := "become", desc := "(LPocketHole$Coin;)V" } : Jvm.MethodName)) ∈ wsL_law := zt_2 (List.mem_of_getElem? (i := 108) rfl) rfl
theorem zw_304 : (Jvm.Cond.code ({ cls := "PocketHole$Coin", name := "become", desc := "(LPocketHole$Coin;)V" } : Jvm.MethodName) prog_3_method_3_code (2 : Nat) (Option.none : Option Jvm.ClassFile.FieldType)) ∈ wsL_law := zt_2 (List.mem_of_getElem? (i := 109) rfl) rfl
theorem zw_305 : (Jvm.Cond.methodLink "PocketHole$Coat" (45 : Nat) ({ cls := "java/lang/System", name := "arraycopy", desc := "(Ljava/lang/Object;ILjava/lang/Object;II)V" } : Jvm.MethodName)) ∈ wsL_law := zt_2 (List.mem_of_getElem? (i := 110) rfl) rfl
theorem zw_306 : (Jvm.Cond.static ({ cls := "java/lang/System", name := "arraycopy", desc := "(Ljava/lang/Object;ILjava/lang/Object;II)V" } : Jvm.MethodName)) ∈ wsL_law := zt_2 (List.mem_of_getElem? (i := 111) rfl) rfl
theorem zw_307 : (Jvm.Cond.native ({ cls := "java/lang/System", name := "arraycopy", desc := "(Ljava/lang/Object;ILjava/lang/Object;II)V" } : Jvm.MethodName)) ∈ wsL_law := zt_2 (List.mem_of_getElem? (i := 112) rfl) rfl
theorem zw_308 : (Jvm.Cond.methodLink "PocketHole" (139 : Nat) ({ cls := "PocketHole", name := "goneInTrial", desc := "()I" } : Jvm.MethodName)) ∈ wsL_law := zt_2 (List.mem_of_getElem? (i := 113) rfl) rfl
theorem zw_309 : (Jvm.Cond.instanceMethod ({ cls := "PocketHole", name := "goneInTrial", desc := "()I" } : Jvm.MethodName)) ∈ wsL_law := zt_2 (List.mem_of_getElem? (i := 115) rfl) rfl
theorem zw_310 : (Jvm.Cond.code ({ cls := "PocketHole", name := "goneInTrial", desc := "()I" } : Jvm.MethodName) prog_1_method_59_code (1 : Nat) (Option.some Jvm.ClassFile.FieldType.int)) ∈ wsL_law := zt_2 (List.mem_of_getElem? (i := 116) rfl) rfl
theorem zw_311 : (Jvm.Cond.methodLink "PocketHole" (142 : Nat) ({ cls := "PocketHole", name := "lostInTrial", desc := "()I" } : Jvm.MethodName)) ∈ wsL_law := zt_2 (List.mem_of_getElem? (i := 117) rfl) rfl
theorem zw_312 : (Jvm.Cond.instanceMethod ({ cls := "PocketHole", name := "lostInTrial", desc := "()I" } : Jvm.MethodName)) ∈ wsL_law := zt_2 (List.mem_of_getElem? (i := 119) rfl) rfl
theorem zw_313 : (Jvm.Cond.code ({ cls := "PocketHole", name := "lostInTrial", desc := "()I" } : Jvm.MethodName) prog_1_method_60_code (1 : Nat) (Option.some Jvm.ClassFile.FieldType.int)) ∈ wsL_law := zt_2 (List.mem_of_getElem? (i := 120) rfl) rfl
theorem zw_314 : (Jvm.Cond.methodLink "PocketHoleLaw" (61 : Nat) ({ cls := "PocketHole", name := "when", desc := "(I)I" } : Jvm.MethodName)) ∈ wsL_law := zt_2 (List.mem_of_getElem? (i := 121) rfl) rfl
theorem zw_315 : (Jvm.Cond.instanceMethod ({ cls := "PocketHole", name := "when", desc := "(I)I" } : Jvm.MethodName)) ∈ wsL_law := zt_2 (List.mem_of_getElem? (i := 122) rfl) rfl
theorem zw_316 : (Jvm.Cond.selects "PocketHole" ({ cls := "PocketHole", name := "when", desc := "(I)I" } : Jvm.MethodName) ({ cls := "PocketHole", name := "when", desc := "(I)I" } : Jvm.MethodName)) ∈ wsL_law := zt_2 (List.mem_of_getElem? (i := 123) rfl) rfl
theorem zw_317 : (Jvm.Cond.code ({ cls := "PocketHole", name := "when", desc := "(I)I" } : Jvm.MethodName) prog_1_method_13_code (3 : Nat) (Option.some Jvm.ClassFile.FieldType.int)) ∈ wsL_law := zt_2 (List.mem_of_getElem? (i := 124) rfl) rfl
theorem zw_318 : (Jvm.Cond.methodLink "PocketHole" (145 : Nat) ({ cls := "PocketHole", name := "stayInTrial", desc := "(I)I" } : Jvm.MethodName)) ∈ wsL_law := zt_2 (List.mem_of_getElem? (i := 125) rfl) rfl
theorem zw_319 : (Jvm.Cond.instanceMethod ({ cls := "PocketHole", name := "stayInTrial", desc := "(I)I" } : Jvm.MethodName)) ∈ wsL_law := zt_2 (List.mem_of_getElem? (i := 127) rfl) rfl
theorem zw_320 : (Jvm.Cond.code ({ cls := "PocketHole", name := "stayInTrial", desc := "(I)I" } : Jvm.MethodName) prog_1_method_61_code (4 : Nat) (Option.some Jvm.ClassFile.FieldType.int)) ∈ wsL_law := zt_2 (List.mem_of_getElem? (i := 128) rfl) rfl
theorem zw_321 : (Jvm.Cond.methodLink "PocketHole" (148 : Nat) ({ cls := "PocketHole$Coat", name := "goPocket", desc := "()Z" } : Jvm.MethodName)) ∈ wsL_law := zt_2 (List.mem_of_getElem? (i := 129) rfl) rfl
theorem zw_322 : (Jvm.Cond.methodLink "PocketHoleLaw" (65 : Nat) ({ cls := "PocketHole", name := "falls", desc := "(I)I" } : Jvm.MethodName)) ∈ wsL_law := zt_2 (List.mem_of_getElem? (i := 130) rfl) rfl
theorem zw_323 : (Jvm.Cond.instanceMethod ({ cls := "PocketHole", name := "falls", desc := "(I)I" } : Jvm.MethodName)) ∈ wsL_law := zt_2 (List.mem_of_getElem? (i := 131) rfl) rfl
theorem zw_324 : (Jvm.Cond.selects "PocketHole" ({ cls := "PocketHole", name := "falls", desc := "(I)I" } : Jvm.MethodName) ({ cls := "PocketHole", name := "falls", desc := "(I)I" } : Jvm.MethodName)) ∈ wsL_law := zt_2 (List.mem_of_getElem? (i := 132) rfl) rfl
theorem zw_325 : (Jvm.Cond.code ({ cls := "PocketHole", name := "falls", desc := "(I)I" } : Jvm.MethodName) prog_1_method_14_code (3 : Nat) (Option.some Jvm.ClassFile.FieldType.int)) ∈ wsL_law := zt_2 (List.mem_of_getElem? (i := 133) rfl) rfl
theorem zw_326 : (Jvm.Cond.methodLink "PocketHoleLaw" (69 : Nat) ({ cls := "PocketHole", name := "first", desc := "()I" } : Jvm.MethodName)) ∈ wsL_law := zt_2 (List.mem_of_getElem? (i := 134) rfl) rfl
theorem zw_327 : (Jvm.Cond.instanceMethod ({ cls := "PocketHole", name := "first", desc := "()I" } : Jvm.MethodName)) ∈ wsL_law := zt_2 (List.mem_of_getElem? (i := 135) rfl) rfl
theorem zw_328 : (Jvm.Cond.selects "PocketHole" ({ cls := "PocketHole", name := "first", desc := "()I" } : Jvm.MethodName) ({ cls := "PocketHole", name := "first", desc := "()I" } : Jvm.MethodName)) ∈ wsL_law := zt_2 (List.mem_of_getElem? (i := 136) rfl) rfl
theorem zw_329 : (Jvm.Cond.code ({ cls := "PocketHole", name := "first", desc := "()I" } : Jvm.MethodName) prog_1_method_15_code (4 : Nat) (Option.some Jvm.ClassFile.FieldType.int)) ∈ wsL_law := zt_2 (List.mem_of_getElem? (i := 137) rfl) rfl
theorem zw_330 : (Jvm.Cond.methodLink "PocketHole" (152 : Nat) ({ cls := "PocketHole", name := "leastOf", desc := "(I)I" } : Jvm.MethodName)) ∈ wsL_law := zt_2 (List.mem_of_getElem? (i := 138) rfl) rfl
theorem zw_331 : (Jvm.Cond.static ({ cls := "PocketHole", name := "leastOf", desc := "(I)I" } : Jvm.MethodName)) ∈ wsL_law := zt_2 (List.mem_of_getElem? (i := 139) rfl) rfl
theorem zw_332 : (Jvm.Cond.code ({ cls := "PocketHole", name := "leastOf", desc := "(I)I" } : Jvm.MethodName) prog_1_method_57_code (2 : Nat) (Option.some Jvm.ClassFile.FieldType.int)) ∈ wsL_law := zt_2 (List.mem_of_getElem? (i := 140) rfl) rfl
theorem zw_333 : (Jvm.Cond.methodLink "PocketHoleLaw" (73 : Nat) ({ cls := "PocketHole", name := "cell", desc := "(II)I" } : Jvm.MethodName)) ∈ wsL_law := zt_2 (List.mem_of_getElem? (i := 141) rfl) rfl
theorem zw_334 : (Jvm.Cond.instanceMethod ({ cls := "PocketHole", name := "cell", desc := "(II)I" } : Jvm.MethodName)) ∈ wsL_law := zt_2 (List.mem_of_getElem? (i := 142) rfl) rfl
theorem zw_335 : (Jvm.Cond.selects "PocketHole" ({ cls := "PocketHole", name := "cell", desc := "(II)I" } : Jvm.MethodName) ({ cls := "PocketHole", name := "cell", desc := "(II)I" } : Jvm.MethodName)) ∈ wsL_law := zt_2 (List.mem_of_getElem? (i := 143) rfl) rfl
theorem zw_336 : (Jvm.Cond.code ({ cls := "PocketHole", name := "cell", desc := "(II)I" } : Jvm.MethodName) prog_1_method_16_code (4 : Nat) (Option.some Jvm.ClassFile.FieldType.int)) ∈ wsL_law := zt_2 (List.mem_of_getElem? (i := 144) rfl) rfl
theorem zw_337 : (Jvm.Cond.methodLink "PocketHoleLaw" (77 : Nat) ({ cls := "PocketHole", name := "bears", desc := "(II)I" } : Jvm.MethodName)) ∈ wsL_law := zt_2 (List.mem_of_getElem? (i := 145) rfl) rfl
theorem zw_338 : (Jvm.Cond.instanceMethod ({ cls := "PocketHole", name := "bears", desc := "(II)I" } : Jvm.MethodName)) ∈ wsL_law := zt_2 (List.mem_of_getElem? (i := 146) rfl) rfl
theorem zw_339 : (Jvm.Cond.selects "PocketHole" ({ cls := "PocketHole", name := "bears", desc := "(II)I" } : Jvm.MethodName) ({ cls := "PocketHole", name := "bears", desc := "(II)I" } : Jvm.MethodName)) ∈ wsL_law := zt_2 (List.mem_of_getElem? (i := 147) rfl) rfl
theorem zw_340 : (Jvm.Cond.code ({ cls := "PocketHole", name := "bears", desc := "(II)I" } : Jvm.MethodName) prog_1_method_17_code (4 : Nat) (Option.some Jvm.ClassFile.FieldType.int)) ∈ wsL_law := zt_2 (List.mem_of_getElem? (i := 148) rfl) rfl
theorem zw_341 : (Jvm.Cond.methodLink "PocketHole" (158 : Nat) ({ cls := "PocketHole", name := "goneWithHole", desc := "(II)I" } : Jvm.MethodName)) ∈ wsL_law := zt_2 (List.mem_of_getElem? (i := 149) rfl) rfl
theorem zw_342 : (Jvm.Cond.instanceMethod ({ cls := "PocketHole", name := "goneWithHole", desc := "(II)I" } : Jvm.MethodName)) ∈ wsL_law := zt_2 (List.mem_of_getElem? (i := 151) rfl) rfl
theorem zw_343 : (Jvm.Cond.code ({ cls := "PocketHole", name := "goneWithHole", desc := "(II)I" } : Jvm.MethodName) prog_1_method_62_code (5 : Nat) (Option.some Jvm.ClassFile.FieldType.int)) ∈ wsL_law := zt_2 (List.mem_of_getElem? (i := 152) rfl) rfl
theorem zw_344 : (Jvm.Cond.methodLink "PocketHoleLaw" (81 : Nat) ({ cls := "PocketHole", name := "latest", desc := "(II)I" } : Jvm.MethodName)) ∈ wsL_law := zt_2 (List.mem_of_getElem? (i := 153) rfl) rfl
theorem zw_345 : (Jvm.Cond.instanceMethod ({ cls := "PocketHole", name := "latest", desc := "(II)I" } : Jvm.MethodName)) ∈ wsL_law := zt_2 (List.mem_of_getElem? (i := 154) rfl) rfl
theorem zw_346 : (Jvm.Cond.selects "PocketHole" ({ cls := "PocketHole", name := "latest", desc := "(II)I" } : Jvm.MethodName) ({ cls := "PocketHole", name := "latest", desc := "(II)I" } : Jvm.MethodName)) ∈ wsL_law := zt_2 (List.mem_of_getElem? (i := 155) rfl) rfl
theorem zw_347 : (Jvm.Cond.code ({ cls := "PocketHole", name := "latest", desc := "(II)I" } : Jvm.MethodName) prog_1_method_18_code (4 : Nat) (Option.some Jvm.ClassFile.FieldType.int)) ∈ wsL_law := zt_2 (List.mem_of_getElem? (i := 156) rfl) rfl
theorem zw_348 : (Jvm.Cond.methodLink "PocketHole" (161 : Nat) ({ cls := "PocketHole", name := "lostBehind", desc := "(I)I" } : Jvm.MethodName)) ∈ wsL_law := zt_2 (List.mem_of_getElem? (i := 157) rfl) rfl
theorem zw_349 : (Jvm.Cond.instanceMethod ({ cls := "PocketHole", name := "lostBehind", desc := "(I)I" } : Jvm.MethodName)) ∈ wsL_law := zt_2 (List.mem_of_getElem? (i := 159) rfl) rfl
theorem zw_350 : (Jvm.Cond.code ({ cls := "PocketHole", name := "lostBehind", desc := "(I)I" } : Jvm.MethodName) prog_1_method_63_code (2 : Nat) (Option.some Jvm.ClassFile.FieldType.int)) ∈ wsL_law := zt_2 (List.mem_of_getElem? (i := 160) rfl) rfl
theorem zw_351 : (Jvm.Cond.methodLink "PocketHole" (167 : Nat) ({ cls := "PocketHole$Coat", name := "penceOf", desc := "(I)I" } : Jvm.MethodName)) ∈ wsL_law := zt_2 (List.mem_of_getElem? (i := 161) rfl) rfl
theorem zw_352 : (Jvm.Cond.methodLink "PocketHoleLaw" (85 : Nat) ({ cls := "PocketHole", name := "carry", desc := "(I)I" } : Jvm.MethodName)) ∈ wsL_law := zt_2 (List.mem_of_getElem? (i := 162) rfl) rfl
theorem zw_353 : (Jvm.Cond.instanceMethod ({ cls := "PocketHole", name := "carry", desc := "(I)I" } : Jvm.MethodName)) ∈ wsL_law := zt_2 (List.mem_of_getElem? (i := 163) rfl) rfl
theorem zw_354 : (Jvm.Cond.selects "PocketHole" ({ cls := "PocketHole", name := "carry", desc := "(I)I" } : Jvm.MethodName) ({ cls := "PocketHole", name := "carry", desc := "(I)I" } : Jvm.MethodName)) ∈ wsL_law := zt_2 (List.mem_of_getElem? (i := 164) rfl) rfl
theorem zw_355 : (Jvm.Cond.code ({ cls := "PocketHole", name := "carry", desc := "(I)I" } : Jvm.MethodName) prog_1_method_19_code (2 : Nat) (Option.some Jvm.ClassFile.FieldType.int)) ∈ wsL_law := zt_2 (List.mem_of_getElem? (i := 165) rfl) rfl
theorem zw_356 : (Jvm.Cond.methodLink "PocketHole" (164 : Nat) ({ cls := "PocketHole", name := "richestStaying", desc := "(I)I" } : Jvm.MethodName)) ∈ wsL_law := zt_2 (List.mem_of_getElem? (i := 166) rfl) rfl
theorem zw_357 : (Jvm.Cond.instanceMethod ({ cls := "PocketHole", name := "richestStaying", desc := "(I)I" } : Jvm.MethodName)) ∈ wsL_law := zt_2 (List.mem_of_getElem? (i := 168) rfl) rfl
theorem zw_358 : (Jvm.Cond.code ({ cls := "PocketHole", name := "richestStaying", desc := "(I)I" } : Jvm.MethodName) prog_1_method_64_code (7 : Nat) (Option.some Jvm.ClassFile.FieldType.int)) ∈ wsL_law := zt_2 (List.mem_of_getElem? (i := 169) rfl) rfl
theorem zw_359 : (Jvm.Cond.methodLink "PocketHole" (173 : Nat) ({ cls := "PocketHole$Coat", name := "sets", desc := "()I" } : Jvm.MethodName)) ∈ wsL_law := zt_2 (List.mem_of_getElem? (i := 170) rfl) rfl
theorem zw_360 : (Jvm.Cond.instanceMethod ({ cls := "PocketHole$Coat", name := "sets", desc := "()I" } : Jvm.MethodName)) ∈ wsL_law := zt_2 (List.mem_of_getElem? (i := 171) rfl) rfl
theorem zw_361 : (Jvm.Cond.selects "PocketHole$Coat" ({ cls := "PocketHole$Coat", name := "sets", desc := "()I" } : Jvm.MethodName) ({ cls := "PocketHole$Coat", name := "sets", desc := "()I" } : Jvm.MethodName)) ∈ wsL_law := zt_2 (List.mem_of_getElem? (i := 172) rfl) rfl
theorem zw_362 : (Jvm.Cond.code ({ cls := "PocketHole$Coat", name := "sets", desc := "()I" } : Jvm.MethodName) prog_2_method_5_code (1 : Nat) (Option.some Jvm.ClassFile.FieldType.int)) ∈ wsL_law := zt_2 (List.mem_of_getElem? (i := 173) rfl) rfl
theorem zw_363 : (Jvm.Cond.methodLink "PocketHole" (259 : Nat) ({ cls := "PocketHole", name := "stays", desc := "(III)Z" } : Jvm.MethodName)) ∈ wsL_law := zt_2 (List.mem_of_getElem? (i := 174) rfl) rfl
theorem zw_364 : (Jvm.Cond.instanceMethod ({ cls := "PocketHole", name := "stays", desc := "(III)Z" } : Jvm.MethodName)) ∈ wsL_law := zt_2 (List.mem_of_getElem? (i := 176) rfl) rfl
theorem zw_365 : (Jvm.Cond.code ({ cls := "PocketHole", name := "stays", desc := "(III)Z" } : Jvm.MethodName) prog_1_method_65_code (6 : Nat) (Option.some Jvm.ClassFile.FieldType.boolean)) ∈ wsL_law := zt_2 (List.mem_of_getElem? (i := 177) rfl) rfl
theorem zw_366 : (Jvm.Cond.methodLink "PocketHoleLaw" (89 : Nat) ({ cls := "PocketHole", name := "carried", desc := "(I)I" } : Jvm.MethodName)) ∈ wsL_law := zt_2 (List.mem_of_getElem? (i := 178) rfl) rfl
theorem zw_367 : (Jvm.Cond.instanceMethod ({ cls := "PocketHole", name := "carried", desc := "(I)I" } : Jvm.MethodName)) ∈ wsL_law := zt_2 (List.mem_of_getElem? (i := 179) rfl) rfl
theorem zw_368 : (Jvm.Cond.selects "PocketHole" ({ cls := "PocketHole", name := "carried", desc := "(I)I" } : Jvm.MethodName) ({ cls := "PocketHole", name := "carried", desc := "(I)I" } : Jvm.MethodName)) ∈ wsL_law := zt_2 (List.mem_of_getElem? (i := 180) rfl) rfl
theorem zw_369 : (Jvm.Cond.code ({ cls := "PocketHole", name := "carried", desc := "(I)I" } : Jvm.MethodName) prog_1_method_20_code (2 : Nat) (Option.some Jvm.ClassFile.FieldType.int)) ∈ wsL_law := zt_2 (List.mem_of_getElem? (i := 181) rfl) rfl
theorem zw_370 : (Jvm.Cond.methodLink "PocketHoleLaw" (93 : Nat) ({ cls := "PocketHole", name := "kindFor", desc := "(I)I" } : Jvm.MethodName)) ∈ wsL_law := zt_2 (List.mem_of_getElem? (i := 182) rfl) rfl
theorem zw_371 : (Jvm.Cond.instanceMethod ({ cls := "PocketHole", name := "kindFor", desc := "(I)I" } : Jvm.MethodName)) ∈ wsL_law := zt_2 (List.mem_of_getElem? (i := 183) rfl) rfl
theorem zw_372 : (Jvm.Cond.selects "PocketHole" ({ cls := "PocketHole", name := "kindFor", desc := "(I)I" } : Jvm.MethodName) ({ cls := "PocketHole", name := "kindFor", desc := "(I)I" } : Jvm.MethodName)) ∈ wsL_law := zt_2 (List.mem_of_getElem? (i := 184) rfl) rfl
theorem zw_373 : (Jvm.Cond.code ({ cls := "PocketHole", name := "kindFor", desc := "(I)I" } : Jvm.MethodName) prog_1_method_21_code (6 : Nat) (Option.some Jvm.ClassFile.FieldType.int)) ∈ wsL_law := zt_2 (List.mem_of_getElem? (i := 185) rfl) rfl
theorem zw_374 : (Jvm.Cond.methodLink "PocketHoleLaw" (97 : Nat) ({ cls := "PocketHole", name := "worst", desc := "(I)I" } : Jvm.MethodName)) ∈ wsL_law := zt_2 (List.mem_of_getElem? (i := 186) rfl) rfl
theorem zw_375 : (Jvm.Cond.instanceMethod ({ cls := "PocketHole", name := "worst", desc := "(I)I" } : Jvm.MethodName)) ∈ wsL_law := zt_2 (List.mem_of_getElem? (i := 187) rfl) rfl
theorem zw_376 : (Jvm.Cond.selects "PocketHole" ({ cls := "PocketHole", name := "worst", desc := "(I)I" } : Jvm.MethodName) ({ cls := "PocketHole", name := "worst", desc := "(I)I" } : Jvm.MethodName)) ∈ wsL_law := zt_2 (List.mem_of_getElem? (i := 188) rfl) rfl
theorem zw_377 : (Jvm.Cond.code ({ cls := "PocketHole", name := "worst", desc := "(I)I" } : Jvm.MethodName) prog_1_method_22_code (6 : Nat) (Option.some Jvm.ClassFile.FieldType.int)) ∈ wsL_law := zt_2 (List.mem_of_getElem? (i := 189) rfl) rfl
theorem zw_378 : (Jvm.Cond.methodLink "PocketHoleLaw" (101 : Nat) ({ cls := "PocketHole", name := "hem", desc := "(I)I" } : Jvm.MethodName)) ∈ wsL_law := zt_2 (List.mem_of_getElem? (i := 190) rfl) rfl
theorem zw_379 : (Jvm.Cond.instanceMethod ({ cls := "PocketHole", name := "hem", desc := "(I)I" } : Jvm.MethodName)) ∈ wsL_law := zt_2 (List.mem_of_getElem? (i := 191) rfl) rfl
theorem zw_380 : (Jvm.Cond.selects "PocketHole" ({ cls := "PocketHole", name := "hem", desc := "(I)I" } : Jvm.MethodName) ({ cls := "PocketHole", name := "hem", desc := "(I)I" } : Jvm.MethodName)) ∈ wsL_law := zt_2 (List.mem_of_getElem? (i := 192) rfl) rfl
theorem zw_381 : (Jvm.Cond.code ({ cls := "PocketHole", name := "hem", desc := "(I)I" } : Jvm.MethodName) prog_1_method_23_code (6 : Nat) (Option.some Jvm.ClassFile.FieldType.int)) ∈ wsL_law := zt_2 (List.mem_of_getElem? (i := 193) rfl) rfl
theorem zw_382 : (Jvm.Cond.methodLink "PocketHoleLaw" (105 : Nat) ({ cls := "PocketHole", name := "pay", desc := "(I)I" } : Jvm.MethodName)) ∈ wsL_law := zt_2 (List.mem_of_getElem? (i := 194) rfl) rfl
theorem zw_383 : (Jvm.Cond.instanceMethod ({ cls := "PocketHole", name := "pay", desc := "(I)I" } : Jvm.MethodName)) ∈ wsL_law := zt_2 (List.mem_of_getElem? (i := 195) rfl) rfl
theorem zw_384 : (Jvm.Cond.selects "PocketHole" ({ cls := "PocketHole", name := "pay", desc := "(I)I" } : Jvm.MethodName) ({ cls := "PocketHole", name := "pay", desc := "(I)I" } : Jvm.MethodName)) ∈ wsL_law := zt_2 (List.mem_of_getElem? (i := 196) rfl) rfl
theorem zw_385 : (Jvm.Cond.code ({ cls := "PocketHole", name := "pay", desc := "(I)I" } : Jvm.MethodName) prog_1_method_24_code (7 : Nat) (Option.some Jvm.ClassFile.FieldType.int)) ∈ wsL_law := zt_2 (List.mem_of_getElem? (i := 197) rfl) rfl
theorem zw_386 : (Jvm.Cond.methodLink "PocketHoleLaw" (109 : Nat) ({ cls := "PocketHole", name := "small", desc := "(I)I" } : Jvm.MethodName)) ∈ wsL_law := zt_2 (List.mem_of_getElem? (i := 198) rfl) rfl
theorem zw_387 : (Jvm.Cond.instanceMethod ({ cls := "PocketHole", name := "small", desc := "(I)I" } : Jvm.MethodName)) ∈ wsL_law := zt_2 (List.mem_of_getElem? (i := 199) rfl) rfl
theorem zw_388 : (Jvm.Cond.selects "PocketHole" ({ cls := "PocketHole", name := "small", desc := "(I)I" } : Jvm.MethodName) ({ cls := "PocketHole", name := "small", desc := "(I)I" } : Jvm.MethodName)) ∈ wsL_law := zt_2 (List.mem_of_getElem? (i := 200) rfl) rfl
theorem zw_389 : (Jvm.Cond.code ({ cls := "PocketHole", name := "small", desc := "(I)I" } : Jvm.MethodName) prog_1_method_25_code (8 : Nat) (Option.some Jvm.ClassFile.FieldType.int)) ∈ wsL_law := zt_2 (List.mem_of_getElem? (i := 201) rfl) rfl
theorem zw_390 : (Jvm.Cond.methodLink "PocketHole" (176 : Nat) ({ cls := "PocketHole$Coat", name := "thinOnes", desc := "()I" } : Jvm.MethodName)) ∈ wsL_law := zt_2 (List.mem_of_getElem? (i := 202) rfl) rfl
theorem zw_391 : (Jvm.Cond.instanceMethod ({ cls := "PocketHole$Coat", name := "thinOnes", desc := "()I" } : Jvm.MethodName)) ∈ wsL_law := zt_2 (List.mem_of_getElem? (i := 203) rfl) rfl
theorem zw_392 : (Jvm.Cond.selects "PocketHole$Coat" ({ cls := "PocketHole$Coat", name := "thinOnes", desc := "()I" } : Jvm.MethodName) ({ cls := "PocketHole$Coat", name := "thinOnes", desc := "()I" } : Jvm.MethodName)) ∈ wsL_law := zt_2 (List.mem_of_getElem? (i := 204) rfl) rfl
theorem zw_393 : (Jvm.Cond.code ({ cls := "PocketHole$Coat", name := "thinOnes", desc := "()I" } : Jvm.MethodName) prog_2_method_8_code (3 : Nat) (Option.some Jvm.ClassFile.FieldType.int)) ∈ wsL_law := zt_2 (List.mem_of_getElem? (i := 205) rfl) rfl
theorem zw_394 : (Jvm.Cond.methodLink "PocketHoleLaw" (113 : Nat) ({ cls := "PocketHole", name := "paid", desc := "(I)I" } : Jvm.MethodName)) ∈ wsL_law := zt_2 (List.mem_of_getElem? (i := 206) rfl) rfl
theorem zw_395 : (Jvm.Cond.instanceMethod ({ cls := "PocketHole", name := "paid", desc := "(I)I" } : Jvm.MethodName)) ∈ wsL_law := zt_2 (List.mem_of_getElem? (i := 207) rfl) rfl
theorem zw_396 : (Jvm.Cond.selects "PocketHole" ({ cls := "PocketHole", name := "paid", desc := "(I)I" } : Jvm.MethodName) ({ cls := "PocketHole", name := "paid", desc := "(I)I" } : Jvm.MethodName)) ∈ wsL_law := zt_2 (List.mem_of_getElem? (i := 208) rfl) rfl
theorem zw_397 : (Jvm.Cond.code ({ cls := "PocketHole", name := "paid", desc := "(I)I" } : Jvm.MethodName) prog_1_method_26_code (3 : Nat) (Option.some Jvm.ClassFile.FieldType.int)) ∈ wsL_law := zt_2 (List.mem_of_getElem? (i := 209) rfl) rfl
theorem zw_398 : (Jvm.Cond.methodLink "PocketHole" (179 : Nat) ({ cls := "PocketHole$Coat", name := "isSet", desc := "(I)Z" } : Jvm.MethodName)) ∈ wsL_law := zt_2 (List.mem_of_getElem? (i := 210) rfl) rfl
theorem zw_399 : (Jvm.Cond.instanceMethod ({ cls := "PocketHole$Coat", name := "isSet", desc := "(I)Z" } : Jvm.MethodName)) ∈ wsL_law := zt_2 (List.mem_of_getElem? (i := 211) rfl) rfl
theorem zw_400 : (Jvm.Cond.selects "PocketHole$Coat" ({ cls := "PocketHole$Coat", name := "isSet", desc := "(I)Z" } : Jvm.MethodName) ({ cls := "PocketHole$Coat", name := "isSet", desc := "(I)Z" } : Jvm.MethodName)) ∈ wsL_law := zt_2 (List.mem_of_getElem? (i := 212) rfl) rfl
theorem zw_401 : (Jvm.Cond.code ({ cls := "PocketHole$Coat", name := "isSet", desc := "(I)Z" } : Jvm.MethodName) prog_2_method_6_code (2 : Nat) (Option.some Jvm.ClassFile.FieldType.boolean)) ∈ wsL_law := zt_2 (List.mem_of_getElem? (i := 213) rfl) rfl
theorem zw_402 : (Jvm.Cond.methodLink "PocketHole$Coat" (55 : Nat) ({ cls := "PocketHole$Coat", name := "sets", desc := "()I" } : Jvm.MethodName)) ∈ wsL_law := zt_2 (List.mem_of_getElem? (i := 214) rfl) rfl
theorem zw_403 : (Jvm.Cond.methodLink "PocketHoleLaw" (117 : Nat) ({ cls := "PocketHole", name := "sums", desc := "()I" } : Jvm.MethodName)) ∈ wsL_law := zt_2 (List.mem_of_getElem? (i := 215) rfl) rfl
theorem zw_404 : (Jvm.Cond.instanceMethod ({ cls := "PocketHole", name := "sums", desc := "()I" } : Jvm.MethodName)) ∈ wsL_law := zt_2 (List.mem_of_getElem? (i := 216) rfl) rfl
theorem zw_405 : (Jvm.Cond.selects "PocketHole" ({ cls := "PocketHole", name := "sums", desc := "()I" } : Jvm.MethodName) ({ cls := "PocketHole", name := "sums", desc := "()I" } : Jvm.MethodName)) ∈ wsL_law := zt_2 (List.mem_of_getElem? (i := 217) rfl) rfl
theorem zw_406 : (Jvm.Cond.code ({ cls := "PocketHole", name := "sums", desc := "()I" } : Jvm.MethodName) prog_1_method_27_code (3 : Nat) (Option.some Jvm.ClassFile.FieldType.int)) ∈ wsL_law := zt_2 (List.mem_of_getElem? (i := 218) rfl) rfl
theorem zw_407 : (Jvm.Cond.methodLink "PocketHole" (185 : Nat) ({ cls := "PocketHole", name := "markSumsWith", desc := "(I)V" } : Jvm.MethodName)) ∈ wsL_law := zt_2 (List.mem_of_getElem? (i := 219) rfl) rfl
theorem zw_408 : (Jvm.Cond.instanceMethod ({ cls := "PocketHole", name := "markSumsWith", desc := "(I)V" } : Jvm.MethodName)) ∈ wsL_law := zt_2 (List.mem_of_getElem? (i := 221) rfl) rfl
theorem zw_409 : (Jvm.Cond.code ({ cls := "PocketHole", name := "markSumsWith", desc := "(I)V" } : Jvm.MethodName) prog_1_method_66_code (7 : Nat) (Option.none : Option Jvm.ClassFile.FieldType)) ∈ wsL_law := zt_2 (List.mem_of_getElem? (i := 222) rfl) rfl
theorem zw_410 : (Jvm.Cond.methodLink "PocketHole" (188 : Nat) ({ cls := "java/lang/Long", name := "bitCount", desc := "(J)I" } : Jvm.MethodName)) ∈ wsL_law := zt_2 (List.mem_of_getElem? (i := 223) rfl) rfl
theorem zw_411 : (Jvm.Cond.static ({ cls := "java/lang/Long", name := "bitCount", desc := "(J)I" } : Jvm.MethodName)) ∈ wsL_law := zt_2 (List.mem_of_getElem? (i := 224) rfl) rfl
theorem zw_412 : (Jvm.Cond.code ({ cls := "java/lang/Long", name := "bitCount", desc := "(J)I" } : Jvm.MethodName) prog_9_method_50_code (2 : Nat) (Option.some Jvm.ClassFile.FieldType.int)) ∈ wsL_law := zt_2 (List.mem_of_getElem? (i := 225) rfl) rfl
theorem zw_413 : (Jvm.Cond.constantLong "java/lang/Long" (314 : Nat) (6148914691236517205 : Int64)) ∈ wsL_law := zt_2 (List.mem_of_getElem? (i := 226) rfl) rfl
theorem zw_414 : (Jvm.Cond.constantLong "java/lang/Long" (316 : Nat) (3689348814741910323 : Int64)) ∈ wsL_law := zt_2 (List.mem_of_getElem? (i := 227) rfl) rfl
theorem zw_415 : (Jvm.Cond.constantLong "java/lang/Long" (318 : Nat) (1085102592571150095 : Int64)) ∈ wsL_law := zt_2 (List.mem_of_getElem? (i := 228) rfl) rfl
theorem zw_416 : (Jvm.Cond.methodLink "PocketHoleLaw" (121 : Nat) ({ cls := "PocketHole", name := "fits", desc := "(II)I" } : Jvm.MethodName)) ∈ wsL_law := zt_2 (List.mem_of_getElem? (i := 229) rfl) rfl
theorem zw_417 : (Jvm.Cond.instanceMethod ({ cls := "PocketHole", name := "fits", desc := "(II)I" } : Jvm.MethodName)) ∈ wsL_law := zt_2 (List.mem_of_getElem? (i := 230) rfl) rfl
theorem zw_418 : (Jvm.Cond.selects "PocketHole" ({ cls := "PocketHole", name := "fits", desc := "(II)I" } : Jvm.MethodName) ({ cls := "PocketHole", name := "fits", desc := "(II)I" } : Jvm.MethodName)) ∈ wsL_law := zt_2 (List.mem_of_getElem? (i := 231) rfl) rfl
theorem zw_419 : (Jvm.Cond.code ({ cls := "PocketHole", name := "fits", desc := "(II)I" } : Jvm.MethodName) prog_1_method_28_code (5 : Nat) (Option.some Jvm.ClassFile.FieldType.int)) ∈ wsL_law := zt_2 (List.mem_of_getElem? (i := 232) rfl) rfl
theorem zw_420 : (Jvm.Cond.methodLink "PocketHoleLaw" (125 : Nat) ({ cls := "PocketHole", name := "size", desc := "(II)I" } : Jvm.MethodName)) ∈ wsL_law := zt_2 (List.mem_of_getElem? (i := 233) rfl) rfl
theorem zw_421 : (Jvm.Cond.instanceMethod ({ cls := "PocketHole", name := "size", desc := "(II)I" } : Jvm.MethodName)) ∈ wsL_law := zt_2 (List.mem_of_getElem? (i := 234) rfl) rfl
theorem zw_422 : (Jvm.Cond.selects "PocketHole" ({ cls := "PocketHole", name := "size", desc := "(II)I" } : Jvm.MethodName) ({ cls := "PocketHole", name := "size", desc := "(II)I" } : Jvm.MethodName)) ∈ wsL_law := zt_2 (List.mem_of_getElem? (i := 235) rfl) rfl
theorem zw_423 : (Jvm.Cond.code ({ cls := "PocketHole", name := "size", desc := "(II)I" } : Jvm.MethodName) prog_1_method_29_code (4 : Nat) (Option.some Jvm.ClassFile.FieldType.int)) ∈ wsL_law := zt_2 (List.mem_of_getElem? (i := 236) rfl) rfl
theorem zw_424 : (Jvm.Cond.methodLink "PocketHoleLaw" (129 : Nat) ({ cls := "PocketHole", name := "began", desc := "(I)I" } : Jvm.MethodName)) ∈ wsL_law := zt_2 (List.mem_of_getElem? (i := 237) rfl) rfl
theorem zw_425 : (Jvm.Cond.instanceMethod ({ cls := "PocketHole", name := "began", desc := "(I)I" } : Jvm.MethodName)) ∈ wsL_law := zt_2 (List.mem_of_getElem? (i := 238) rfl) rfl
theorem zw_426 : (Jvm.Cond.selects "PocketHole" ({ cls := "PocketHole", name := "began", desc := "(I)I" } : Jvm.MethodName) ({ cls := "PocketHole", name := "began", desc := "(I)I" } : Jvm.MethodName)) ∈ wsL_law := zt_2 (List.mem_of_getElem? (i := 239) rfl) rfl
theorem zw_427 : (Jvm.Cond.code ({ cls := "PocketHole", name := "began", desc := "(I)I" } : Jvm.MethodName) prog_1_method_30_code (4 : Nat) (Option.some Jvm.ClassFile.FieldType.int)) ∈ wsL_law := zt_3 (List.mem_of_getElem? (i := 0) rfl) rfl
theorem zw_428 : (Jvm.Cond.methodLink "PocketHoleLaw" (133 : Nat) ({ cls := "PocketHole", name := "boy", desc := "(II)I" } : Jvm.MethodName)) ∈ wsL_law := zt_3 (List.mem_of_getElem? (i := 1) rfl) rfl
theorem zw_429 : (Jvm.Cond.instanceMethod ({ cls := "PocketHole", name := "boy", desc := "(II)I" } : Jvm.MethodName)) ∈ wsL_law := zt_3 (List.mem_of_getElem? (i := 2) rfl) rfl
theorem zw_430 : (Jvm.Cond.selects "PocketHole" ({ cls := "PocketHole", name := "boy", desc := "(II)I" } : Jvm.MethodName) ({ cls := "PocketHole", name := "boy", desc := "(II)I" } : Jvm.MethodName)) ∈ wsL_law := zt_3 (List.mem_of_getElem? (i := 3) rfl) rfl
theorem zw_431 : (Jvm.Cond.code ({ cls := "PocketHole", name := "boy", desc := "(II)I" } : Jvm.MethodName) prog_1_method_31_code (6 : Nat) (Option.some Jvm.ClassFile.FieldType.int)) ∈ wsL_law := zt_3 (List.mem_of_getElem? (i := 4) rfl) rfl
theorem zw_432 : (Jvm.Cond.methodLink "PocketHoleLaw" (137 : Nat) ({ cls := "PocketHole", name := "lining", desc := "(I)I" } : Jvm.MethodName)) ∈ wsL_law := zt_3 (List.mem_of_getElem? (i := 5) rfl) rfl
theorem zw_433 : (Jvm.Cond.instanceMethod ({ cls := "PocketHole", name := "lining", desc := "(I)I" } : Jvm.MethodName)) ∈ wsL_law := zt_3 (List.mem_of_getElem? (i := 6) rfl) rfl
theorem zw_434 : (Jvm.Cond.selects "PocketHole" ({ cls := "PocketHole", name := "lining", desc := "(I)I" } : Jvm.MethodName) ({ cls := "PocketHole", name := "lining", desc := "(I)I" } : Jvm.MethodName)) ∈ wsL_law := zt_3 (List.mem_of_getElem? (i := 7) rfl) rfl
theorem zw_435 : (Jvm.Cond.code ({ cls := "PocketHole", name := "lining", desc := "(I)I" } : Jvm.MethodName) prog_1_method_32_code (5 : Nat) (Option.some Jvm.ClassFile.FieldType.int)) ∈ wsL_law := zt_3 (List.mem_of_getElem? (i := 8) rfl) rfl
theorem zw_436 : (Jvm.Cond.methodLink "PocketHoleLaw" (141 : Nat) ({ cls := "PocketHole", name := "back", desc := "(II)I" } : Jvm.MethodName)) ∈ wsL_law := zt_3 (List.mem_of_getElem? (i := 9) rfl) rfl
theorem zw_437 : (Jvm.Cond.instanceMethod ({ cls := "PocketHole", name := "back", desc := "(II)I" } : Jvm.MethodName)) ∈ wsL_law := zt_3 (List.mem_of_getElem? (i := 10) rfl) rfl
theorem zw_438 : (Jvm.Cond.selects "PocketHole" ({ cls := "PocketHole", name := "back", desc := "(II)I" } : Jvm.MethodName) ({ cls := "PocketHole", name := "back", desc := "(II)I" } : Jvm.MethodName)) ∈ wsL_law := zt_3 (List.mem_of_getElem? (i := 11) rfl) rfl
theorem zw_439 : (Jvm.Cond.code ({ cls := "PocketHole", name := "back", desc := "(II)I" } : Jvm.MethodName) prog_1_method_33_code (3 : Nat) (Option.some Jvm.ClassFile.FieldType.int)) ∈ wsL_law := zt_3 (List.mem_of_getElem? (i := 12) rfl) rfl
theorem zw_440 : (Jvm.Cond.methodLink "PocketHole" (193 : Nat) ({ cls := "PocketHole$Coat", name := "hasFallen", desc := "(I)Z" } : Jvm.MethodName)) ∈ wsL_law := zt_3 (List.mem_of_getElem? (i := 13) rfl) rfl
theorem zw_441 : (Jvm.Cond.instanceMethod ({ cls := "PocketHole$Coat", name := "hasFallen", desc := "(I)Z" } : Jvm.MethodName)) ∈ wsL_law := zt_3 (List.mem_of_getElem? (i := 14) rfl) rfl
theorem zw_442 : (Jvm.Cond.selects "PocketHole$Coat" ({ cls := "PocketHole$Coat", name := "hasFallen", desc := "(I)Z" } : Jvm.MethodName) ({ cls := "PocketHole$Coat", name := "hasFallen", desc := "(I)Z" } : Jvm.MethodName)) ∈ wsL_law := zt_3 (List.mem_of_getElem? (i := 15) rfl) rfl
theorem zw_443 : (Jvm.Cond.code ({ cls := "PocketHole$Coat", name := "hasFallen", desc := "(I)Z" } : Jvm.MethodName) prog_2_method_15_code (2 : Nat) (Option.some Jvm.ClassFile.FieldType.boolean)) ∈ wsL_law := zt_3 (List.mem_of_getElem? (i := 16) rfl) rfl
theorem zw_444 : (Jvm.Cond.methodLink "PocketHole" (196 : Nat) ({ cls := "PocketHole$Coat", name := "wayCell", desc := "(II)I" } : Jvm.MethodName)) ∈ wsL_law := zt_3 (List.mem_of_getElem? (i := 17) rfl) rfl
theorem zw_445 : (Jvm.Cond.instanceMethod ({ cls := "PocketHole$Coat", name := "wayCell", desc := "(II)I" } : Jvm.MethodName)) ∈ wsL_law := zt_3 (List.mem_of_getElem? (i := 18) rfl) rfl
theorem zw_446 : (Jvm.Cond.selects "PocketHole$Coat" ({ cls := "PocketHole$Coat", name := "wayCell", desc := "(II)I" } : Jvm.MethodName) ({ cls := "PocketHole$Coat", name := "wayCell", desc := "(II)I" } : Jvm.MethodName)) ∈ wsL_law := zt_3 (List.mem_of_getElem? (i := 19) rfl) rfl
theorem zw_447 : (Jvm.Cond.code ({ cls := "PocketHole$Coat", name := "wayCell", desc := "(II)I" } : Jvm.MethodName) prog_2_method_16_code (3 : Nat) (Option.some Jvm.ClassFile.FieldType.int)) ∈ wsL_law := zt_3 (List.mem_of_getElem? (i := 20) rfl) rfl
theorem zw_448 : (Jvm.Cond.methodLink "PocketHoleLaw" (145 : Nat) ({ cls := "PocketHole", name := "richest", desc := "(I)I" } : Jvm.MethodName)) ∈ wsL_law := zt_3 (List.mem_of_getElem? (i := 21) rfl) rfl
theorem zw_449 : (Jvm.Cond.instanceMethod ({ cls := "PocketHole", name := "richest", desc := "(I)I" } : Jvm.MethodName)) ∈ wsL_law := zt_3 (List.mem_of_getElem? (i := 22) rfl) rfl
theorem zw_450 : (Jvm.Cond.selects "PocketHole" ({ cls := "PocketHole", name := "richest", desc := "(I)I" } : Jvm.MethodName) ({ cls := "PocketHole", name := "richest", desc := "(I)I" } : Jvm.MethodName)) ∈ wsL_law := zt_3 (List.mem_of_getElem? (i := 23) rfl) rfl
theorem zw_451 : (Jvm.Cond.code ({ cls := "PocketHole", name := "richest", desc := "(I)I" } : Jvm.MethodName) prog_1_method_34_code (4 : Nat) (Option.some Jvm.ClassFile.FieldType.int)) ∈ wsL_law := zt_3 (List.mem_of_getElem? (i := 24) rfl) rfl
theorem zw_452 : (Jvm.Cond.methodLink "PocketHole" (199 : Nat) ({ cls := "java/lang/Math", name := "max", desc := "(II)I" } : Jvm.MethodName)) ∈ wsL_law := zt_3 (List.mem_of_getElem? (i := 25) rfl) rfl
theorem zw_453 : (Jvm.Cond.static ({ cls := "java/lang/Math", name := "max", desc := "(II)I" } : Jvm.MethodName)) ∈ wsL_law := zt_3 (List.mem_of_getElem? (i := 26) rfl) rfl
theorem zw_454 : (Jvm.Cond.code ({ cls := "java/lang/Math", name := "max", desc := "(II)I" } : Jvm.MethodName) prog_10_method_65_code (2 : Nat) (Option.some Jvm.ClassFile.FieldType.int)) ∈ wsL_law := zt_3 (List.mem_of_getElem? (i := 27) rfl) rfl
theorem zw_455 : (Jvm.Cond.methodLink "PocketHoleLaw" (149 : Nat) ({ cls := "PocketHole", name := "days", desc := "(I)I" } : Jvm.MethodName)) ∈ wsL_law := zt_3 (List.mem_of_getElem? (i := 28) rfl) rfl
theorem zw_456 : (Jvm.Cond.instanceMethod ({ cls := "PocketHole", name := "days", desc := "(I)I" } : Jvm.MethodName)) ∈ wsL_law := zt_3 (List.mem_of_getElem? (i := 29) rfl) rfl
theorem zw_457 : (Jvm.Cond.selects "PocketHole" ({ cls := "PocketHole", name := "days", desc := "(I)I" } : Jvm.MethodName) ({ cls := "PocketHole", name := "days", desc := "(I)I" } : Jvm.MethodName)) ∈ wsL_law := zt_3 (List.mem_of_getElem? (i := 30) rfl) rfl
theorem zw_458 : (Jvm.Cond.code ({ cls := "PocketHole", name := "days", desc := "(I)I" } : Jvm.MethodName) prog_1_method_35_code (5 : Nat) (Option.some Jvm.ClassFile.FieldType.int)) ∈ wsL_law := zt_3 (List.mem_of_getElem? (i := 31) rfl) rfl
theorem zw_459 : (Jvm.Cond.methodLink "PocketHole" (204 : Nat) ({ cls := "PocketHole$Coat", name := "draw", desc := "()I" } : Jvm.MethodName)) ∈ wsL_law := zt_3 (List.mem_of_getElem? (i := 32) rfl) rfl
theorem zw_460 : (Jvm.Cond.instanceMethod ({ cls := "PocketHole$Coat", name := "draw", desc := "()I" } : Jvm.MethodName)) ∈ wsL_law := zt_3 (List.mem_of_getElem? (i := 33) rfl) rfl
theorem zw_461 : (Jvm.Cond.selects "PocketHole$Coat" ({ cls := "PocketHole$Coat", name := "draw", desc := "()I" } : Jvm.MethodName) ({ cls := "PocketHole$Coat", name := "draw", desc := "()I" } : Jvm.MethodName)) ∈ wsL_law := zt_3 (List.mem_of_getElem? (i := 34) rfl) rfl
theorem zw_462 : (Jvm.Cond.code ({ cls := "PocketHole$Coat", name := "draw", desc := "()I" } : Jvm.MethodName) prog_2_method_18_code (1 : Nat) (Option.some Jvm.ClassFile.FieldType.int)) ∈ wsL_law := zt_3 (List.mem_of_getElem? (i := 35) rfl) rfl
theorem zw_463 : (Jvm.Cond.constant "PocketHole$Coat" (88 : Nat) (1103515245 : Int32)) ∈ wsL_law := zt_3 (List.mem_of_getElem? (i := 36) rfl) rfl
theorem zw_464 : (Jvm.Cond.methodLink "PocketHoleLaw" (153 : Nat) ({ cls := "PocketHole", name := "seed", desc := "(I)I" } : Jvm.MethodName)) ∈ wsL_law := zt_3 (List.mem_of_getElem? (i := 37) rfl) rfl
theorem zw_465 : (Jvm.Cond.instanceMethod ({ cls := "PocketHole", name := "seed", desc := "(I)I" } : Jvm.MethodName)) ∈ wsL_law := zt_3 (List.mem_of_getElem? (i := 38) rfl) rfl
theorem zw_466 : (Jvm.Cond.selects "PocketHole" ({ cls := "PocketHole", name := "seed", desc := "(I)I" } : Jvm.MethodName) ({ cls := "PocketHole", name := "seed", desc := "(I)I" } : Jvm.MethodName)) ∈ wsL_law := zt_3 (List.mem_of_getElem? (i := 39) rfl) rfl
theorem zw_467 : (Jvm.Cond.code ({ cls := "PocketHole", name := "seed", desc := "(I)I" } : Jvm.MethodName) prog_1_method_36_code (3 : Nat) (Option.some Jvm.ClassFile.FieldType.int)) ∈ wsL_law := zt_3 (List.mem_of_getElem? (i := 40) rfl) rfl
theorem zw_468 : (Jvm.Cond.methodLink "PocketHoleLaw" (157 : Nat) ({ cls := "PocketHole", name := "feed", desc := "(II)I" } : Jvm.MethodName)) ∈ wsL_law := zt_3 (List.mem_of_getElem? (i := 41) rfl) rfl
theorem zw_469 : (Jvm.Cond.instanceMethod ({ cls := "PocketHole", name := "feed", desc := "(II)I" } : Jvm.MethodName)) ∈ wsL_law := zt_3 (List.mem_of_getElem? (i := 42) rfl) rfl
theorem zw_470 : (Jvm.Cond.selects "PocketHole" ({ cls := "PocketHole", name := "feed", desc := "(II)I" } : Jvm.MethodName) ({ cls := "PocketHole", name := "feed", desc := "(II)I" } : Jvm.MethodName)) ∈ wsL_law := zt_3 (List.mem_of_getElem? (i := 43) rfl) rfl
theorem zw_471 : (Jvm.Cond.code ({ cls := "PocketHole", name := "feed", desc := "(II)I" } : Jvm.MethodName) prog_1_method_37_code (4 : Nat) (Option.some Jvm.ClassFile.FieldType.int)) ∈ wsL_law := zt_3 (List.mem_of_getElem? (i := 44) rfl) rfl
theorem zw_472 : (Jvm.Cond.methodLink "PocketHole" (213 : Nat) ({ cls := "PocketHole$Tape", name := "add", desc := "(I)V" } : Jvm.MethodName)) ∈ wsL_law := zt_3 (List.mem_of_getElem? (i := 45) rfl) rfl
theorem zw_473 : (Jvm.Cond.instanceMethod ({ cls := "PocketHole$Tape", name := "add", desc := "(I)V" } : Jvm.MethodName)) ∈ wsL_law := zt_3 (List.mem_of_getElem? (i := 46) rfl) rfl
theorem zw_474 : (Jvm.Cond.selects "PocketHole$Tape" ({ cls := "PocketHole$Tape", name := "add", desc := "(I)V" } : Jvm.MethodName) ({ cls := "PocketHole$Tape", name := "add", desc := "(I)V" } : Jvm.MethodName)) ∈ wsL_law := zt_3 (List.mem_of_getElem? (i := 47) rfl) rfl
theorem zw_475 : (Jvm.Cond.code ({ cls := "PocketHole$Tape", name := "add", desc := "(I)V" } : Jvm.MethodName) prog_5_method_2_code (2 : Nat) (Option.none : Option Jvm.ClassFile.FieldType)) ∈ wsL_law := zt_3 (List.mem_of_getElem? (i := 48) rfl) rfl
theorem zw_476 : (Jvm.Cond.methodLink "PocketHoleLaw" (161 : Nat) ({ cls := "PocketHole", name := "wipe", desc := "()I" } : Jvm.MethodName)) ∈ wsL_law := zt_3 (List.mem_of_getElem? (i := 49) rfl) rfl
theorem zw_477 : (Jvm.Cond.instanceMethod ({ cls := "PocketHole", name := "wipe", desc := "()I" } : Jvm.MethodName)) ∈ wsL_law := zt_3 (List.mem_of_getElem? (i := 50) rfl) rfl
theorem zw_478 : (Jvm.Cond.selects "PocketHole" ({ cls := "PocketHole", name := "wipe", desc := "()I" } : Jvm.MethodName) ({ cls := "PocketHole", name := "wipe", desc := "()I" } : Jvm.MethodName)) ∈ wsL_law := zt_3 (List.mem_of_getElem? (i := 51) rfl) rfl
theorem zw_479 : (Jvm.Cond.code ({ cls := "PocketHole", name := "wipe", desc := "()I" } : Jvm.MethodName) prog_1_method_38_code (2 : Nat) (Option.some Jvm.ClassFile.FieldType.int)) ∈ wsL_law := zt_3 (List.mem_of_getElem? (i := 52) rfl) rfl
theorem zw_480 : (Jvm.Cond.methodLink "PocketHoleLaw" (165 : Nat) ({ cls := "PocketHole", name := "text", desc := "()I" } : Jvm.MethodName)) ∈ wsL_law := zt_3 (List.mem_of_getElem? (i := 53) rfl) rfl
theorem zw_481 : (Jvm.Cond.instanceMethod ({ cls := "PocketHole", name := "text", desc := "()I" } : Jvm.MethodName)) ∈ wsL_law := zt_3 (List.mem_of_getElem? (i := 54) rfl) rfl
theorem zw_482 : (Jvm.Cond.selects "PocketHole" ({ cls := "PocketHole", name := "text", desc := "()I" } : Jvm.MethodName) ({ cls := "PocketHole", name := "text", desc := "()I" } : Jvm.MethodName)) ∈ wsL_law := zt_3 (List.mem_of_getElem? (i := 55) rfl) rfl
theorem zw_483 : (Jvm.Cond.code ({ cls := "PocketHole", name := "text", desc := "()I" } : Jvm.MethodName) prog_1_method_39_code (2 : Nat) (Option.some Jvm.ClassFile.FieldType.int)) ∈ wsL_law := zt_3 (List.mem_of_getElem? (i := 56) rfl) rfl
theorem zw_484 : (Jvm.Cond.methodLink "PocketHole" (216 : Nat) ({ cls := "PocketHole$Tape", name := "readInto", desc := "(LPocketHole$Coat;)I" } : Jvm.MethodName)) ∈ wsL_law := zt_3 (List.mem_of_getElem? (i := 57) rfl) rfl
theorem zw_485 : (Jvm.Cond.instanceMethod ({ cls := "PocketHole$Tape", name := "readInto", desc := "(LPocketHole$Coat;)I" } : Jvm.MethodName)) ∈ wsL_law := zt_3 (List.mem_of_getElem? (i := 58) rfl) rfl
theorem zw_486 : (Jvm.Cond.selects "PocketHole$Tape" ({ cls := "PocketHole$Tape", name := "readInto", desc := "(LPocketHole$Coat;)I" } : Jvm.MethodName) ({ cls := "PocketHole$Tape", name := "readInto", desc := "(LPocketHole$Coat;)I" } : Jvm.MethodName)) ∈ wsL_law := zt_3 (List.mem_of_getElem? (i := 59) rfl) rfl
theorem zw_487 : (Jvm.Cond.code ({ cls := "PocketHole$Tape", name := "readInto", desc := "(LPocketHole$Coat;)I" } : Jvm.MethodName) prog_5_method_3_code (4 : Nat) (Option.some Jvm.ClassFile.FieldType.int)) ∈ wsL_law := zt_3 (List.mem_of_getElem? (i := 60) rfl) rfl
theorem zw_488 : (Jvm.Cond.methodLink "PocketHole$Tape" (31 : Nat) ({ cls := "PocketHole$Tape", name := "toNextToken", desc := "()V" } : Jvm.MethodName)) ∈ wsL_law := zt_3 (List.mem_of_getElem? (i := 61) rfl) rfl
theorem zw_489 : (Jvm.Cond.instanceMethod ({ cls := "PocketHole$Tape", name := "toNextToken", desc := "()V" } : Jvm.MethodName)) ∈ wsL_law := zt_3 (List.mem_of_getElem? (i := 63) rfl) rfl
theorem zw_490 : (Jvm.Cond.code ({ cls := "PocketHole$Tape", name := "toNextToken", desc := "()V" } : Jvm.MethodName) prog_5_method_13_code (1 : Nat) (Option.none : Option Jvm.ClassFile.FieldType)) ∈ wsL_law := zt_3 (List.mem_of_getElem? (i := 64) rfl) rfl
theorem zw_491 : (Jvm.Cond.methodLink "PocketHole$Tape" (132 : Nat) ({ cls := "PocketHole$Tape", name := "isLetter", desc := "(I)Z" } : Jvm.MethodName)) ∈ wsL_law := zt_3 (List.mem_of_getElem? (i := 65) rfl) rfl
theorem zw_492 : (Jvm.Cond.static ({ cls := "PocketHole$Tape", name := "isLetter", desc := "(I)Z" } : Jvm.MethodName)) ∈ wsL_law := zt_3 (List.mem_of_getElem? (i := 66) rfl) rfl
theorem zw_493 : (Jvm.Cond.code ({ cls := "PocketHole$Tape", name := "isLetter", desc := "(I)Z" } : Jvm.MethodName) prog_5_method_14_code (1 : Nat) (Option.some Jvm.ClassFile.FieldType.boolean)) ∈ wsL_law := zt_3 (List.mem_of_getElem? (i := 67) rfl) rfl
theorem zw_494 : (Jvm.Cond.methodLink "PocketHole$Tape" (136 : Nat) ({ cls := "PocketHole$Tape", name := "isDigit", desc := "(I)Z" } : Jvm.MethodName)) ∈ wsL_law := zt_3 (List.mem_of_getElem? (i := 68) rfl) rfl
theorem zw_495 : (Jvm.Cond.static ({ cls := "PocketHole$Tape", name := "isDigit", desc := "(I)Z" } : Jvm.MethodName)) ∈ wsL_law := zt_3 (List.mem_of_getElem? (i := 69) rfl) rfl
theorem zw_496 : (Jvm.Cond.code ({ cls := "PocketHole$Tape", name := "isDigit", desc := "(I)Z" } : Jvm.MethodName) prog_5_method_15_code (1 : Nat) (Option.some Jvm.ClassFile.FieldType.boolean)) ∈ wsL_law := zt_3 (List.mem_of_getElem? (i := 70) rfl) rfl
theorem zw_497 : (Jvm.Cond.methodLink "PocketHole$Tape" (139 : Nat) ({ cls := "java/lang/Math", name := "min", desc := "(II)I" } : Jvm.MethodName)) ∈ wsL_law := zt_3 (List.mem_of_getElem? (i := 71) rfl) rfl
theorem zw_498 : (Jvm.Cond.methodLink "PocketHole$Tape" (36 : Nat) ({ cls := "PocketHole$Tape", name := "takesWord", desc := "(Ljava/lang/String;)Z" } : Jvm.MethodName)) ∈ wsL_law := zt_3 (List.mem_of_getElem? (i := 73) rfl) rfl
theorem zw_499 : (Jvm.Cond.instanceMethod ({ cls := "PocketHole$Tape", name := "takesWord", desc := "(Ljava/lang/String;)Z" } : Jvm.MethodName)) ∈ wsL_law := zt_3 (List.mem_of_getElem? (i := 75) rfl) rfl
theorem zw_500 : (Jvm.Cond.code ({ cls := "PocketHole$Tape", name := "takesWord", desc := "(Ljava/lang/String;)Z" } : Jvm.MethodName) prog_5_method_10_code (2 : Nat) (Option.some Jvm.ClassFile.FieldType.boolean)) ∈ wsL_law := zt_3 (List.mem_of_getElem? (i := 76) rfl) rfl
theorem zw_501 : (Jvm.Cond.methodLink "PocketHole$Tape" (103 : Nat) ({ cls := "PocketHole$Tape", name := "isWord", desc := "(Ljava/lang/String;)Z" } : Jvm.MethodName)) ∈ wsL_law := zt_3 (List.mem_of_getElem? (i := 77) rfl) rfl
theorem zw_502 : (Jvm.Cond.instanceMethod ({ cls := "PocketHole$Tape", name := "isWord", desc := "(Ljava/lang/String;)Z" } : Jvm.MethodName)) ∈ wsL_law := zt_3 (List.mem_of_getElem? (i := 79) rfl) rfl
theorem zw_503 : (Jvm.Cond.code ({ cls := "PocketHole$Tape", name := "isWord", desc := "(Ljava/lang/String;)Z" } : Jvm.MethodName) prog_5_method_11_code (3 : Nat) (Option.some Jvm.ClassFile.FieldType.boolean)) ∈ wsL_law := zt_3 (List.mem_of_getElem? (i := 80) rfl) rfl
theorem zw_504 : (Jvm.Cond.methodLink "PocketHole$Tape" (120 : Nat) ({ cls := "java/lang/String", name := "length", desc := "()I" } : Jvm.MethodName)) ∈ wsL_law := zt_3 (List.mem_of_getElem? (i := 81) rfl) rfl
theorem zw_505 : (Jvm.Cond.instanceMethod ({ cls := "java/lang/String", name := "length", desc := "()I" } : Jvm.MethodName)) ∈ wsL_law := zt_3 (List.mem_of_getElem? (i := 82) rfl) rfl
theorem zw_506 : (Jvm.Cond.selects "java/lang/String" ({ cls := "java/lang/String", name := "length", desc := "()I" } : Jvm.MethodName) ({ cls := "java/lang/String", name := "length", desc := "()I" } : Jvm.MethodName)) ∈ wsL_law := zt_3 (List.mem_of_getElem? (i := 83) rfl) rfl
theorem zw_507 : (Jvm.Cond.code ({ cls := "java/lang/String", name := "length", desc := "()I" } : Jvm.MethodName) prog_11_method_54_code (1 : Nat) (Option.some Jvm.ClassFile.FieldType.int)) ∈ wsL_law := zt_3 (List.mem_of_getElem? (i := 84) rfl) rfl
theorem zw_508 : (Jvm.Cond.methodLink "java/lang/String" (335 : Nat) ({ cls := "java/lang/String", name := "coder", desc := "()B" } : Jvm.MethodName)) ∈ wsL_law := zt_3 (List.mem_of_getElem? (i := 85) rfl) rfl
theorem zw_509 : (Jvm.Cond.instanceMethod ({ cls := "java/lang/String", name := "coder", desc := "()B" } : Jvm.MethodName)) ∈ wsL_law := zt_3 (List.mem_of_getElem? (i := 86) rfl) rfl
theorem zw_510 : (Jvm.Cond.selects "java/lang/String" ({ cls := "java/lang/String", name := "coder", desc := "()B" } : Jvm.MethodName) ({ cls := "java/lang/String", name := "coder", desc := "()B" } : Jvm.MethodName)) ∈ wsL_law := zt_3 (List.mem_of_getElem? (i := 87) rfl) rfl
theorem zw_511 : (Jvm.Cond.code ({ cls := "java/lang/String", name := "coder", desc := "()B" } : Jvm.MethodName) prog_11_method_152_code (1 : Nat) (Option.some Jvm.ClassFile.FieldType.byte)) ∈ wsL_law := zt_3 (List.mem_of_getElem? (i := 88) rfl) rfl
theorem zw_512 : (Jvm.Cond.fieldLink "java/lang/String" (38 : Nat) "java/lang/String" "COMPACT_STRINGS" "Z") ∈ wsL_law := zt_3 (List.mem_of_getElem? (i := 89) rfl) rfl
theorem zw_513 : (Jvm.Cond.methodLink "PocketHole$Tape" (124 : Nat) ({ cls := "java/lang/String", name := "charAt", desc := "(I)C" } : Jvm.MethodName)) ∈ wsL_law := zt_3 (List.mem_of_getElem? (i := 91) rfl) rfl
theorem zw_514 : (Jvm.Cond.instanceMethod ({ cls := "java/lang/String", name := "charAt", desc := "(I)C" } : Jvm.MethodName)) ∈ wsL_law := zt_3 (List.mem_of_getElem? (i := 92) rfl) rfl
theorem zw_515 : (Jvm.Cond.selects "java/lang/String" ({ cls := "java/lang/String", name := "charAt", desc := "(I)C" } : Jvm.MethodName) ({ cls := "java/lang/String", name := "charAt", desc := "(I)C" } : Jvm.MethodName)) ∈ wsL_law := zt_3 (List.mem_of_getElem? (i := 93) rfl) rfl
theorem zw_516 : (Jvm.Cond.code ({ cls := "java/lang/String", name := "charAt", desc := "(I)C" } : Jvm.MethodName) prog_11_method_56_code (2 : Nat) (Option.some Jvm.ClassFile.FieldType.char)) ∈ wsL_law := zt_3 (List.mem_of_getElem? (i := 94) rfl) rfl
theorem zw_517 : (Jvm.Cond.methodLink "java/lang/String" (492 : Nat) ({ cls := "java/lang/String", name := "isLatin1", desc := "()Z" } : Jvm.MethodName)) ∈ wsL_law := zt_3 (List.mem_of_getElem? (i := 95) rfl) rfl
theorem zw_518 : (Jvm.Cond.instanceMethod ({ cls := "java/lang/String", name := "isLatin1", desc := "()Z" } : Jvm.MethodName)) ∈ wsL_law := zt_3 (List.mem_of_getElem? (i := 96) rfl) rfl
theorem zw_519 : (Jvm.Cond.selects "java/lang/String" ({ cls := "java/lang/String", name := "isLatin1", desc := "()Z" } : Jvm.MethodName) ({ cls := "java/lang/String", name := "isLatin1", desc := "()Z" } : Jvm.MethodName)) ∈ wsL_law := zt_3 (List.mem_of_getElem? (i := 97) rfl) rfl
theorem zw_520 : (Jvm.Cond.code ({ cls := "java/lang/String", name := "isLatin1", desc := "()Z" } : Jvm.MethodName) prog_11_method_154_code (1 : Nat) (Option.some Jvm.ClassFile.FieldType.boolean)) ∈ wsL_law := zt_3 (List.mem_of_getElem? (i := 98) rfl) rfl
theorem zw_521 : (Jvm.Cond.methodLink "java/lang/String" (495 : Nat) ({ cls := "java/lang/StringLatin1", name := "charAt", desc := "([BI)C" } : Jvm.MethodName)) ∈ wsL_law := zt_3 (List.mem_of_getElem? (i := 99) rfl) rfl
theorem zw_522 : (Jvm.Cond.static ({ cls := "java/lang/StringLatin1", name := "charAt", desc := "([BI)C" } : Jvm.MethodName)) ∈ wsL_law := zt_3 (List.mem_of_getElem? (i := 100) rfl) rfl
theorem zw_523 : (Jvm.Cond.code ({ cls := "java/lang/StringLatin1", name := "charAt", desc := "([BI)C" } : Jvm.MethodName) prog_12_method_2_code (2 : Nat) (Option.some Jvm.ClassFile.FieldType.char)) ∈ wsL_law := zt_3 (List.mem_of_getElem? (i := 101) rfl) rfl
theorem zw_524 : (Jvm.Cond.methodLink "java/lang/StringLatin1" (9 : Nat) ({ cls := "java/lang/String", name := "checkIndex", desc := "(II)V" } : Jvm.MethodName)) ∈ wsL_law := zt_3 (List.mem_of_getElem? (i := 102) rfl) rfl
theorem zw_525 : (Jvm.Cond.static ({ cls := "java/lang/String", name := "checkIndex", desc := "(II)V" } : Jvm.MethodName)) ∈ wsL_law := zt_3 (List.mem_of_getElem? (i := 103) rfl) rfl
theorem zw_526 : (Jvm.Cond.code ({ cls := "java/lang/String", name := "checkIndex", desc := "(II)V" } : Jvm.MethodName) prog_11_method_155_code (2 : Nat) (Option.none : Option Jvm.ClassFile.FieldType)) ∈ wsL_law := zt_3 (List.mem_of_getElem? (i := 104) rfl) rfl
theorem zw_527 : (Jvm.Cond.fieldLink "java/lang/String" (1053 : Nat) "jdk/internal/util/Preconditions" "SIOOBE_FORMATTER" "Ljava/util/function/BiFunction;") ∈ wsL_law := zt_3 (List.mem_of_getElem? (i := 105) rfl) rfl
theorem zw_528 : (Jvm.Cond.methodLink "java/lang/String" (1059 : Nat) ({ cls := "jdk/internal/util/Preconditions", name := "checkIndex", desc := "(IILjava/util/function/BiFunction;)I" } : Jvm.MethodName)) ∈ wsL_law := zt_3 (List.mem_of_getElem? (i := 107) rfl) rfl
theorem zw_529 : (Jvm.Cond.static ({ cls := "jdk/internal/util/Preconditions", name := "checkIndex", desc := "(IILjava/util/function/BiFunction;)I" } : Jvm.MethodName)) ∈ wsL_law := zt_3 (List.mem_of_getElem? (i := 108) rfl) rfl
theorem zw_530 : (Jvm.Cond.code ({ cls := "jdk/internal/util/Preconditions", name := "checkIndex", desc := "(IILjava/util/function/BiFunction;)I" } : Jvm.MethodName) prog_15_method_11_code (3 : Nat) (Option.some Jvm.ClassFile.FieldType.int)) ∈ wsL_law := zt_3 (List.mem_of_getElem? (i := 109) rfl) rfl
theorem zw_531 : (Jvm.Cond.methodLink "java/lang/String" (498 : Nat) ({ cls := "java/lang/StringUTF16", name := "charAt", desc := "([BI)C" } : Jvm.MethodName)) ∈ wsL_law := zt_3 (List.mem_of_getElem? (i := 110) rfl) rfl
theorem zw_532 : (Jvm.Cond.static ({ cls := "java/lang/StringUTF16", name := "charAt", desc := "([BI)C" } : Jvm.MethodName)) ∈ wsL_law := zt_3 (List.mem_of_getElem? (i := 111) rfl) rfl
theorem zw_533 : (Jvm.Cond.code ({ cls := "java/lang/StringUTF16", name := "charAt", desc := "([BI)C" } : Jvm.MethodName) prog_13_method_83_code (2 : Nat) (Option.some Jvm.ClassFile.FieldType.char)) ∈ wsL_law := zt_3 (List.mem_of_getElem? (i := 112) rfl) rfl
theorem zw_534 : (Jvm.Cond.methodLink "java/lang/StringUTF16" (67 : Nat) ({ cls := "java/lang/StringUTF16", name := "checkIndex", desc := "(I[B)V" } : Jvm.MethodName)) ∈ wsL_law := zt_3 (List.mem_of_getElem? (i := 113) rfl) rfl
theorem zw_535 : (Jvm.Cond.static ({ cls := "java/lang/StringUTF16", name := "checkIndex", desc := "(I[B)V" } : Jvm.MethodName)) ∈ wsL_law := zt_3 (List.mem_of_getElem? (i := 114) rfl) rfl
theorem zw_536 : (Jvm.Cond.code ({ cls := "java/lang/StringUTF16", name := "checkIndex", desc := "(I[B)V" } : Jvm.MethodName) prog_13_method_91_code (2 : Nat) (Option.none : Option Jvm.ClassFile.FieldType)) ∈ wsL_law := zt_3 (List.mem_of_getElem? (i := 115) rfl) rfl
theorem zw_537 : (Jvm.Cond.methodLink "java/lang/StringUTF16" (48 : Nat) ({ cls := "java/lang/StringUTF16", name := "length", desc := "([B)I" } : Jvm.MethodName)) ∈ wsL_law := zt_3 (List.mem_of_getElem? (i := 116) rfl) rfl
theorem zw_538 : (Jvm.Cond.static ({ cls := "java/lang/StringUTF16", name := "length", desc := "([B)I" } : Jvm.MethodName)) ∈ wsL_law := zt_3 (List.mem_of_getElem? (i := 117) rfl) rfl
theorem zw_539 : (Jvm.Cond.code ({ cls := "java/lang/StringUTF16", name := "length", desc := "([B)I" } : Jvm.MethodName) prog_13_method_6_code (1 : Nat) (Option.some Jvm.ClassFile.FieldType.int)) ∈ wsL_law := zt_3 (List.mem_of_getElem? (i := 118) rfl) rfl
theorem zw_540 : (Jvm.Cond.methodLink "java/lang/StringUTF16" (414 : Nat) ({ cls := "java/lang/String", name := "checkIndex", desc := "(II)V" } : Jvm.MethodName)) ∈ wsL_law := zt_3 (List.mem_of_getElem? (i := 119) rfl) rfl
theorem zw_541 : (Jvm.Cond.methodLink "java/lang/StringUTF16" (71 : Nat) ({ cls := "java/lang/StringUTF16", name := "getChar", desc := "([BI)C" } : Jvm.MethodName)) ∈ wsL_law := zt_3 (List.mem_of_getElem? (i := 120) rfl) rfl
theorem zw_542 : (Jvm.Cond.static ({ cls := "java/lang/StringUTF16", name := "getChar", desc := "([BI)C" } : Jvm.MethodName)) ∈ wsL_law := zt_3 (List.mem_of_getElem? (i := 121) rfl) rfl
theorem zw_543 : (Jvm.Cond.code ({ cls := "java/lang/StringUTF16", name := "getChar", desc := "([BI)C" } : Jvm.MethodName) prog_13_method_5_code (2 : Nat) (Option.some Jvm.ClassFile.FieldType.char)) ∈ wsL_law := zt_3 (List.mem_of_getElem? (i := 122) rfl) rfl
theorem zw_544 : (Jvm.Cond.fieldLink "java/lang/StringUTF16" (44 : Nat) "java/lang/StringUTF16" "$assertionsDisabled" "Z") ∈ wsL_law := zt_3 (List.mem_of_getElem? (i := 123) rfl) rfl
theorem zw_545 : (Jvm.Cond.fieldLink "java/lang/StringUTF16" (59 : Nat) "java/lang/StringUTF16" "HI_BYTE_SHIFT" "I") ∈ wsL_law := zt_3 (List.mem_of_getElem? (i := 125) rfl) rfl
theorem zw_546 : (Jvm.Cond.fieldLink "java/lang/StringUTF16" (63 : Nat) "java/lang/StringUTF16" "LO_BYTE_SHIFT" "I") ∈ wsL_law := zt_3 (List.mem_of_getElem? (i := 127) rfl) rfl
theorem zw_547 : (Jvm.Cond.methodLink "PocketHole$Tape" (40 : Nat) ({ cls := "PocketHole$Tape", name := "readsHole", desc := "(LPocketHole$Coat;)Z" } : Jvm.MethodName)) ∈ wsL_law := zt_3 (List.mem_of_getElem? (i := 129) rfl) rfl
theorem zw_548 : (Jvm.Cond.instanceMethod ({ cls := "PocketHole$Tape", name := "readsHole", desc := "(LPocketHole$Coat;)Z" } : Jvm.MethodName)) ∈ wsL_law := zt_3 (List.mem_of_getElem? (i := 131) rfl) rfl
theorem zw_549 : (Jvm.Cond.code ({ cls := "PocketHole$Tape", name := "readsHole", desc := "(LPocketHole$Coat;)Z" } : Jvm.MethodName) prog_5_method_4_code (3 : Nat) (Option.some Jvm.ClassFile.FieldType.boolean)) ∈ wsL_law := zt_3 (List.mem_of_getElem? (i := 132) rfl) rfl
theorem zw_550 : (Jvm.Cond.methodLink "PocketHole$Tape" (52 : Nat) ({ cls := "PocketHole$Tape", name := "takenNumber", desc := "(II)I" } : Jvm.MethodName)) ∈ wsL_law := zt_3 (List.mem_of_getElem? (i := 133) rfl) rfl
theorem zw_551 : (Jvm.Cond.instanceMethod ({ cls := "PocketHole$Tape", name := "takenNumber", desc := "(II)I" } : Jvm.MethodName)) ∈ wsL_law := zt_3 (List.mem_of_getElem? (i := 135) rfl) rfl
theorem zw_552 : (Jvm.Cond.code ({ cls := "PocketHole$Tape", name := "takenNumber", desc := "(II)I" } : Jvm.MethodName) prog_5_method_12_code (4 : Nat) (Option.some Jvm.ClassFile.FieldType.int)) ∈ wsL_law := zt_3 (List.mem_of_getElem? (i := 136) rfl) rfl
theorem zw_553 : (Jvm.Cond.methodLinkNest "PocketHole$Tape" (128 : Nat) ({ cls := "PocketHole", name := "isWithin", desc := "(III)Z" } : Jvm.MethodName) "PocketHole") ∈ zNst := zn_3 (List.mem_of_getElem? (i := 137) rfl) rfl
theorem zw_554 : (Jvm.Cond.methodLink "PocketHole$Tape" (46 : Nat) ({ cls := "PocketHole$Tape", name := "readsGap", desc := "(LPocketHole$Coat;)Z" } : Jvm.MethodName)) ∈ wsL_law := zt_3 (List.mem_of_getElem? (i := 139) rfl) rfl
theorem zw_555 : (Jvm.Cond.instanceMethod ({ cls := "PocketHole$Tape", name := "readsGap", desc := "(LPocketHole$Coat;)Z" } : Jvm.MethodName)) ∈ wsL_law := zt_3 (List.mem_of_getElem? (i := 141) rfl) rfl
theorem zw_556 : (Jvm.Cond.code ({ cls := "PocketHole$Tape", name := "readsGap", desc := "(LPocketHole$Coat;)Z" } : Jvm.MethodName) prog_5_method_5_code (4 : Nat) (Option.some Jvm.ClassFile.FieldType.boolean)) ∈ wsL_law := zt_3 (List.mem_of_getElem? (i := 142) rfl) rfl
theorem zw_557 : (Jvm.Cond.methodLink "PocketHole$Tape" (49 : Nat) ({ cls := "PocketHole$Tape", name := "readsCoin", desc := "(LPocketHole$Coat;)Z" } : Jvm.MethodName)) ∈ wsL_law := zt_3 (List.mem_of_getElem? (i := 144) rfl) rfl
theorem zw_558 : (Jvm.Cond.instanceMethod ({ cls := "PocketHole$Tape", name := "readsCoin", desc := "(LPocketHole$Coat;)Z" } : Jvm.MethodName)) ∈ wsL_law := zt_3 (List.mem_of_getElem? (i := 146) rfl) rfl
theorem zw_559 : (Jvm.Cond.code ({ cls := "PocketHole$Tape", name := "readsCoin", desc := "(LPocketHole$Coat;)Z" } : Jvm.MethodName) prog_5_method_6_code (4 : Nat) (Option.some Jvm.ClassFile.FieldType.boolean)) ∈ wsL_law := zt_3 (List.mem_of_getElem? (i := 147) rfl) rfl
theorem zw_560 : (Jvm.Cond.methodLink "PocketHole$Tape" (66 : Nat) ({ cls := "PocketHole$Tape", name := "kindTold", desc := "()I" } : Jvm.MethodName)) ∈ wsL_law := zt_3 (List.mem_of_getElem? (i := 148) rfl) rfl
theorem zw_561 : (Jvm.Cond.instanceMethod ({ cls := "PocketHole$Tape", name := "kindTold", desc := "()I" } : Jvm.MethodName)) ∈ wsL_law := zt_3 (List.mem_of_getElem? (i := 150) rfl) rfl
theorem zw_562 : (Jvm.Cond.code ({ cls := "PocketHole$Tape", name := "kindTold", desc := "()I" } : Jvm.MethodName) prog_5_method_8_code (2 : Nat) (Option.some Jvm.ClassFile.FieldType.int)) ∈ wsL_law := zt_3 (List.mem_of_getElem? (i := 151) rfl) rfl
theorem zw_563 : (Jvm.Cond.methodLink "PocketHole$Tape" (99 : Nat) ({ cls := "PocketHole$Tape", name := "nameOf", desc := "(I)Ljava/lang/String;" } : Jvm.MethodName)) ∈ wsL_law := zt_3 (List.mem_of_getElem? (i := 152) rfl) rfl
theorem zw_564 : (Jvm.Cond.static ({ cls := "PocketHole$Tape", name := "nameOf", desc := "(I)Ljava/lang/String;" } : Jvm.MethodName)) ∈ wsL_law := zt_3 (List.mem_of_getElem? (i := 153) rfl) rfl
theorem zw_565 : (Jvm.Cond.code ({ cls := "PocketHole$Tape", name := "nameOf", desc := "(I)Ljava/lang/String;" } : Jvm.MethodName) prog_5_method_9_code (1 : Nat) (Option.some (Jvm.ClassFile.FieldType.object "java/lang/String"))) ∈ wsL_law := zt_3 (List.mem_of_getElem? (i := 154) rfl) rfl
theorem zw_566 : (Jvm.Cond.methodLink "PocketHole$Tape" (73 : Nat) ({ cls := "PocketHole$Coat", name := "newCoin", desc := "(I)LPocketHole$Coin;" } : Jvm.MethodName)) ∈ wsL_law := zt_3 (List.mem_of_getElem? (i := 162) rfl) rfl
theorem zw_567 : (Jvm.Cond.methodLink "PocketHole$Tape" (79 : Nat) ({ cls := "PocketHole$Tape", name := "readsPart", desc := "(LPocketHole$Coin;Ljava/lang/String;III)Z" } : Jvm.MethodName)) ∈ wsL_law := zt_3 (List.mem_of_getElem? (i := 164) rfl) rfl
theorem zw_568 : (Jvm.Cond.instanceMethod ({ cls := "PocketHole$Tape", name := "readsPart", desc := "(LPocketHole$Coin;Ljava/lang/String;III)Z" } : Jvm.MethodName)) ∈ wsL_law := zt_3 (List.mem_of_getElem? (i := 166) rfl) rfl
theorem zw_569 : (Jvm.Cond.code ({ cls := "PocketHole$Tape", name := "readsPart", desc := "(LPocketHole$Coin;Ljava/lang/String;III)Z" } : Jvm.MethodName) prog_5_method_7_code (7 : Nat) (Option.some Jvm.ClassFile.FieldType.boolean)) ∈ wsL_law := zt_3 (List.mem_of_getElem? (i := 167) rfl) rfl
theorem zw_570 : (Jvm.Cond.methodLink "PocketHole$Tape" (95 : Nat) ({ cls := "PocketHole$Coin", name := "set", desc := "(II)V" } : Jvm.MethodName)) ∈ wsL_law := zt_3 (List.mem_of_getElem? (i := 168) rfl) rfl
theorem zw_571 : (Jvm.Cond.methodLink "PocketHole$Tape" (89 : Nat) ({ cls := "PocketHole$Coin", name := "moveTo", desc := "(I)V" } : Jvm.MethodName)) ∈ wsL_law := zt_3 (List.mem_of_getElem? (i := 172) rfl) rfl
theorem zw_572 : (Jvm.Cond.arrayClass Jvm.ClassFile.FieldType.byte) ∈ wsL_law := zt_3 (List.mem_of_getElem? (i := 173) rfl) rfl
theorem zw_573 : (Jvm.Cond.methodLink "PocketHoleLaw" (169 : Nat) ({ cls := "PocketHole", name := "hold", desc := "(II)I" } : Jvm.MethodName)) ∈ wsL_law := zt_3 (List.mem_of_getElem? (i := 174) rfl) rfl
theorem zw_574 : (Jvm.Cond.instanceMethod ({ cls := "PocketHole", name := "hold", desc := "(II)I" } : Jvm.MethodName)) ∈ wsL_law := zt_3 (List.mem_of_getElem? (i := 175) rfl) rfl
theorem zw_575 : (Jvm.Cond.selects "PocketHole" ({ cls := "PocketHole", name := "hold", desc := "(II)I" } : Jvm.MethodName) ({ cls := "PocketHole", name := "hold", desc := "(II)I" } : Jvm.MethodName)) ∈ wsL_law := zt_3 (List.mem_of_getElem? (i := 176) rfl) rfl
theorem zw_576 : (Jvm.Cond.code ({ cls := "PocketHole", name := "hold", desc := "(II)I" } : Jvm.MethodName) prog_1_method_40_code (3 : Nat) (Option.some Jvm.ClassFile.FieldType.int)) ∈ wsL_law := zt_3 (List.mem_of_getElem? (i := 177) rfl) rfl
theorem zw_577 : (Jvm.Cond.methodLink "PocketHoleLaw" (173 : Nat) ({ cls := "PocketHole", name := "as", desc := "(II)I" } : Jvm.MethodName)) ∈ wsL_law := zt_3 (List.mem_of_getElem? (i := 178) rfl) rfl
theorem zw_578 : (Jvm.Cond.instanceMethod ({ cls := "PocketHole", name := "as", desc := "(II)I" } : Jvm.MethodName)) ∈ wsL_law := zt_3 (List.mem_of_getElem? (i := 179) rfl) rfl
theorem zw_579 : (Jvm.Cond.selects "PocketHole" ({ cls := "PocketHole", name := "as", desc := "(II)I" } : Jvm.MethodName) ({ cls := "PocketHole", name := "as", desc := "(II)I" } : Jvm.MethodName)) ∈ wsL_law := zt_3 (List.mem_of_getElem? (i := 180) rfl) rfl
theorem zw_580 : (Jvm.Cond.code ({ cls := "PocketHole", name := "as", desc := "(II)I" } : Jvm.MethodName) prog_1_method_41_code (4 : Nat) (Option.some Jvm.ClassFile.FieldType.int)) ∈ wsL_law := zt_3 (List.mem_of_getElem? (i := 181) rfl) rfl
theorem zw_581 : (Jvm.Cond.methodLink "PocketHole" (223 : Nat) ({ cls := "PocketHole$Coin", name := "is", desc := "(I)Z" } : Jvm.MethodName)) ∈ wsL_law := zt_3 (List.mem_of_getElem? (i := 182) rfl) rfl
theorem zw_582 : (Jvm.Cond.instanceMethod ({ cls := "PocketHole$Coin", name := "is", desc := "(I)Z" } : Jvm.MethodName)) ∈ wsL_law := zt_3 (List.mem_of_getElem? (i := 183) rfl) rfl
theorem zw_583 : (Jvm.Cond.selects "PocketHole$Coin" ({ cls := "PocketHole$Coin", name := "is", desc := "(I)Z" } : Jvm.MethodName) ({ cls := "PocketHole$Coin", name := "is", desc := "(I)Z" } : Jvm.MethodName)) ∈ wsL_law := zt_3 (List.mem_of_getElem? (i := 184) rfl) rfl
theorem zw_584 : (Jvm.Cond.code ({ cls := "PocketHole$Coin", name := "is", desc := "(I)Z" } : Jvm.MethodName) prog_3_method_5_code (2 : Nat) (Option.some Jvm.ClassFile.FieldType.boolean)) ∈ wsL_law := zt_3 (List.mem_of_getElem? (i := 185) rfl) rfl
theorem zw_585 : (Jvm.Cond.methodLink "PocketHoleLaw" (177 : Nat) ({ cls := "PocketHole", name := "sheet", desc := "(III)I" } : Jvm.MethodName)) ∈ wsL_law := zt_3 (List.mem_of_getElem? (i := 186) rfl) rfl
theorem zw_586 : (Jvm.Cond.instanceMethod ({ cls := "PocketHole", name := "sheet", desc := "(III)I" } : Jvm.MethodName)) ∈ wsL_law := zt_3 (List.mem_of_getElem? (i := 187) rfl) rfl
theorem zw_587 : (Jvm.Cond.selects "PocketHole" ({ cls := "PocketHole", name := "sheet", desc := "(III)I" } : Jvm.MethodName) ({ cls := "PocketHole", name := "sheet", desc := "(III)I" } : Jvm.MethodName)) ∈ wsL_law := zt_3 (List.mem_of_getElem? (i := 188) rfl) rfl
theorem zw_588 : (Jvm.Cond.code ({ cls := "PocketHole", name := "sheet", desc := "(III)I" } : Jvm.MethodName) prog_1_method_42_code (4 : Nat) (Option.some Jvm.ClassFile.FieldType.int)) ∈ wsL_law := zt_3 (List.mem_of_getElem? (i := 189) rfl) rfl
theorem zw_589 : (Jvm.Cond.methodLink "PocketHole" (226 : Nat) ({ cls := "PocketHole", name := "isSheet", desc := "(I)Z" } : Jvm.MethodName)) ∈ wsL_law := zt_3 (List.mem_of_getElem? (i := 190) rfl) rfl
theorem zw_590 : (Jvm.Cond.static ({ cls := "PocketHole", name := "isSheet", desc := "(I)Z" } : Jvm.MethodName)) ∈ wsL_law := zt_3 (List.mem_of_getElem? (i := 191) rfl) rfl
theorem zw_591 : (Jvm.Cond.code ({ cls := "PocketHole", name := "isSheet", desc := "(I)Z" } : Jvm.MethodName) prog_1_method_55_code (1 : Nat) (Option.some Jvm.ClassFile.FieldType.boolean)) ∈ wsL_law := zt_3 (List.mem_of_getElem? (i := 192) rfl) rfl
theorem zw_592 : (Jvm.Cond.methodLink "PocketHole" (229 : Nat) ({ cls := "PocketHole$Sheet", name := "renew", desc := "(II)V" } : Jvm.MethodName)) ∈ wsL_law := zt_3 (List.mem_of_getElem? (i := 193) rfl) rfl
theorem zw_593 : (Jvm.Cond.instanceMethod ({ cls := "PocketHole$Sheet", name := "renew", desc := "(II)V" } : Jvm.MethodName)) ∈ wsL_law := zt_3 (List.mem_of_getElem? (i := 194) rfl) rfl
theorem zw_594 : (Jvm.Cond.selects "PocketHole$Sheet" ({ cls := "PocketHole$Sheet", name := "renew", desc := "(II)V" } : Jvm.MethodName) ({ cls := "PocketHole$Sheet", name := "renew", desc := "(II)V" } : Jvm.MethodName)) ∈ wsL_law := zt_3 (List.mem_of_getElem? (i := 195) rfl) rfl
theorem zw_595 : (Jvm.Cond.code ({ cls := "PocketHole$Sheet", name := "renew", desc := "(II)V" } : Jvm.MethodName) prog_4_method_2_code (4 : Nat) (Option.none : Option Jvm.ClassFile.FieldType)) ∈ wsL_law := zt_3 (List.mem_of_getElem? (i := 196) rfl) rfl
theorem zw_596 : (Jvm.Cond.methodLink "PocketHoleLaw" (181 : Nat) ({ cls := "PocketHole", name := "write", desc := "(III)I" } : Jvm.MethodName)) ∈ wsL_law := zt_3 (List.mem_of_getElem? (i := 197) rfl) rfl
theorem zw_597 : (Jvm.Cond.instanceMethod ({ cls := "PocketHole", name := "write", desc := "(III)I" } : Jvm.MethodName)) ∈ wsL_law := zt_3 (List.mem_of_getElem? (i := 198) rfl) rfl
theorem zw_598 : (Jvm.Cond.selects "PocketHole" ({ cls := "PocketHole", name := "write", desc := "(III)I" } : Jvm.MethodName) ({ cls := "PocketHole", name := "write", desc := "(III)I" } : Jvm.MethodName)) ∈ wsL_law := zt_3 (List.mem_of_getElem? (i := 199) rfl) rfl
theorem zw_599 : (Jvm.Cond.code ({ cls := "PocketHole", name := "write", desc := "(III)I" } : Jvm.MethodName) prog_1_method_43_code (4 : Nat) (Option.some Jvm.ClassFile.FieldType.int)) ∈ wsL_law := zt_3 (List.mem_of_getElem? (i := 200) rfl) rfl
theorem zw_600 : (Jvm.Cond.methodLink "PocketHole" (233 : Nat) ({ cls := "PocketHole$Sheet", name := "isMissing", desc := "()Z" } : Jvm.MethodName)) ∈ wsL_law := zt_3 (List.mem_of_getElem? (i := 201) rfl) rfl
theorem zw_601 : (Jvm.Cond.instanceMethod ({ cls := "PocketHole$Sheet", name := "isMissing", desc := "()Z" } : Jvm.MethodName)) ∈ wsL_law := zt_3 (List.mem_of_getElem? (i := 202) rfl) rfl
theorem zw_602 : (Jvm.Cond.selects "PocketHole$Sheet" ({ cls := "PocketHole$Sheet", name := "isMissing", desc := "()Z" } : Jvm.MethodName) ({ cls := "PocketHole$Sheet", name := "isMissing", desc := "()Z" } : Jvm.MethodName)) ∈ wsL_law := zt_3 (List.mem_of_getElem? (i := 203) rfl) rfl
theorem zw_603 : (Jvm.Cond.code ({ cls := "PocketHole$Sheet", name := "isMissing", desc := "()Z" } : Jvm.MethodName) prog_4_method_3_code (1 : Nat) (Option.some Jvm.ClassFile.FieldType.boolean)) ∈ wsL_law := zt_3 (List.mem_of_getElem? (i := 204) rfl) rfl
theorem zw_604 : (Jvm.Cond.methodLink "PocketHole" (236 : Nat) ({ cls := "PocketHole$Sheet", name := "set", desc := "(II)V" } : Jvm.MethodName)) ∈ wsL_law := zt_3 (List.mem_of_getElem? (i := 205) rfl) rfl
theorem zw_605 : (Jvm.Cond.instanceMethod ({ cls := "PocketHole$Sheet", name := "set", desc := "(II)V" } : Jvm.MethodName)) ∈ wsL_law := zt_3 (List.mem_of_getElem? (i := 206) rfl) rfl
theorem zw_606 : (Jvm.Cond.selects "PocketHole$Sheet" ({ cls := "PocketHole$Sheet", name := "set", desc := "(II)V" } : Jvm.MethodName) ({ cls := "PocketHole$Sheet", name := "set", desc := "(II)V" } : Jvm.MethodName)) ∈ wsL_law := zt_3 (List.mem_of_getElem? (i := 207) rfl) rfl
theorem zw_607 : (Jvm.Cond.code ({ cls := "PocketHole$Sheet", name := "set", desc := "(II)V" } : Jvm.MethodName) prog_4_method_5_code (3 : Nat) (Option.none : Option Jvm.ClassFile.FieldType)) ∈ wsL_law := zt_3 (List.mem_of_getElem? (i := 208) rfl) rfl
theorem zw_608 : (Jvm.Cond.methodLink "PocketHoleLaw" (185 : Nat) ({ cls := "PocketHole", name := "copy", desc := "(IIIII)I" } : Jvm.MethodName)) ∈ wsL_law := zt_3 (List.mem_of_getElem? (i := 209) rfl) rfl
theorem zw_609 : (Jvm.Cond.instanceMethod ({ cls := "PocketHole", name := "copy", desc := "(IIIII)I" } : Jvm.MethodName)) ∈ wsL_law := zt_3 (List.mem_of_getElem? (i := 210) rfl) rfl
theorem zw_610 : (Jvm.Cond.selects "PocketHole" ({ cls := "PocketHole", name := "copy", desc := "(IIIII)I" } : Jvm.MethodName) ({ cls := "PocketHole", name := "copy", desc := "(IIIII)I" } : Jvm.MethodName)) ∈ wsL_law := zt_3 (List.mem_of_getElem? (i := 211) rfl) rfl
theorem zw_611 : (Jvm.Cond.code ({ cls := "PocketHole", name := "copy", desc := "(IIIII)I" } : Jvm.MethodName) prog_1_method_44_code (8 : Nat) (Option.some Jvm.ClassFile.FieldType.int)) ∈ wsL_law := zt_3 (List.mem_of_getElem? (i := 212) rfl) rfl
theorem zw_612 : (Jvm.Cond.methodLink "PocketHole" (240 : Nat) ({ cls := "PocketHole$Sheet", name := "hasRange", desc := "(II)Z" } : Jvm.MethodName)) ∈ wsL_law := zt_3 (List.mem_of_getElem? (i := 213) rfl) rfl
theorem zw_613 : (Jvm.Cond.instanceMethod ({ cls := "PocketHole$Sheet", name := "hasRange", desc := "(II)Z" } : Jvm.MethodName)) ∈ wsL_law := zt_3 (List.mem_of_getElem? (i := 214) rfl) rfl
theorem zw_614 : (Jvm.Cond.selects "PocketHole$Sheet" ({ cls := "PocketHole$Sheet", name := "hasRange", desc := "(II)Z" } : Jvm.MethodName) ({ cls := "PocketHole$Sheet", name := "hasRange", desc := "(II)Z" } : Jvm.MethodName)) ∈ wsL_law := zt_3 (List.mem_of_getElem? (i := 215) rfl) rfl
theorem zw_615 : (Jvm.Cond.code ({ cls := "PocketHole$Sheet", name := "hasRange", desc := "(II)Z" } : Jvm.MethodName) prog_4_method_4_code (3 : Nat) (Option.some Jvm.ClassFile.FieldType.boolean)) ∈ wsL_law := zt_3 (List.mem_of_getElem? (i := 216) rfl) rfl
theorem zw_616 : (Jvm.Cond.methodLink "PocketHole" (246 : Nat) ({ cls := "java/lang/System", name := "arraycopy", desc := "(Ljava/lang/Object;ILjava/lang/Object;II)V" } : Jvm.MethodName)) ∈ wsL_law := zt_3 (List.mem_of_getElem? (i := 217) rfl) rfl
theorem zw_617 : (Jvm.Cond.methodLink "PocketHoleLaw" (190 : Nat) ({ cls := "PocketHole", name := "load", desc := "(I)I" } : Jvm.MethodName)) ∈ wsL_law := zt_3 (List.mem_of_getElem? (i := 218) rfl) rfl
theorem zw_618 : (Jvm.Cond.instanceMethod ({ cls := "PocketHole", name := "load", desc := "(I)I" } : Jvm.MethodName)) ∈ wsL_law := zt_3 (List.mem_of_getElem? (i := 219) rfl) rfl
theorem zw_619 : (Jvm.Cond.selects "PocketHole" ({ cls := "PocketHole", name := "load", desc := "(I)I" } : Jvm.MethodName) ({ cls := "PocketHole", name := "load", desc := "(I)I" } : Jvm.MethodName)) ∈ wsL_law := zt_3 (List.mem_of_getElem? (i := 220) rfl) rfl
theorem zw_620 : (Jvm.Cond.code ({ cls := "PocketHole", name := "load", desc := "(I)I" } : Jvm.MethodName) prog_1_method_45_code (4 : Nat) (Option.some Jvm.ClassFile.FieldType.int)) ∈ wsL_law := zt_3 (List.mem_of_getElem? (i := 221) rfl) rfl
theorem zw_621 : (Jvm.Cond.methodLink "PocketHoleLaw" (194 : Nat) ({ cls := "PocketHole", name := "judge", desc := "(II)I" } : Jvm.MethodName)) ∈ wsL_law := zt_3 (List.mem_of_getElem? (i := 222) rfl) rfl
theorem zw_622 : (Jvm.Cond.instanceMethod ({ cls := "PocketHole", name := "judge", desc := "(II)I" } : Jvm.MethodName)) ∈ wsL_law := zt_3 (List.mem_of_getElem? (i := 223) rfl) rfl
theorem zw_623 : (Jvm.Cond.selects "PocketHole" ({ cls := "PocketHole", name := "judge", desc := "(II)I" } : Jvm.MethodName) ({ cls := "PocketHole", name := "judge", desc := "(II)I" } : Jvm.MethodName)) ∈ wsL_law := zt_3 (List.mem_of_getElem? (i := 224) rfl) rfl
theorem zw_624 : (Jvm.Cond.code ({ cls := "PocketHole", name := "judge", desc := "(II)I" } : Jvm.MethodName) prog_1_method_46_code (5 : Nat) (Option.some Jvm.ClassFile.FieldType.int)) ∈ wsL_law := zt_3 (List.mem_of_getElem? (i := 225) rfl) rfl
theorem zw_625 : (Jvm.Cond.methodLink "PocketHoleLaw" (198 : Nat) ({ cls := "PocketHole", name := "image", desc := "()I" } : Jvm.MethodName)) ∈ wsL_law := zt_3 (List.mem_of_getElem? (i := 226) rfl) rfl
theorem zw_626 : (Jvm.Cond.instanceMethod ({ cls := "PocketHole", name := "image", desc := "()I" } : Jvm.MethodName)) ∈ wsL_law := zt_3 (List.mem_of_getElem? (i := 227) rfl) rfl
theorem zw_627 : (Jvm.Cond.selects "PocketHole" ({ cls := "PocketHole", name := "image", desc := "()I" } : Jvm.MethodName) ({ cls := "PocketHole", name := "image", desc := "()I" } : Jvm.MethodName)) ∈ wsL_law := zt_3 (List.mem_of_getElem? (i := 228) rfl) rfl
theorem zw_628 : (Jvm.Cond.code ({ cls := "PocketHole", name := "image", desc := "()I" } : Jvm.MethodName) prog_1_method_47_code (1 : Nat) (Option.some Jvm.ClassFile.FieldType.int)) ∈ wsL_law := zt_3 (List.mem_of_getElem? (i := 229) rfl) rfl
theorem zw_629 : (Jvm.Cond.methodLink "PocketHoleLaw" (202 : Nat) ({ cls := "PocketHole", name := "undo", desc := "()I" } : Jvm.MethodName)) ∈ wsL_law := zt_3 (List.mem_of_getElem? (i := 230) rfl) rfl
theorem zw_630 : (Jvm.Cond.instanceMethod ({ cls := "PocketHole", name := "undo", desc := "()I" } : Jvm.MethodName)) ∈ wsL_law := zt_3 (List.mem_of_getElem? (i := 231) rfl) rfl
theorem zw_631 : (Jvm.Cond.selects "PocketHole" ({ cls := "PocketHole", name := "undo", desc := "()I" } : Jvm.MethodName) ({ cls := "PocketHole", name := "undo", desc := "()I" } : Jvm.MethodName)) ∈ wsL_law := zt_3 (List.mem_of_getElem? (i := 232) rfl) rfl
theorem zw_632 : (Jvm.Cond.code ({ cls := "PocketHole", name := "undo", desc := "()I" } : Jvm.MethodName) prog_1_method_48_code (1 : Nat) (Option.some Jvm.ClassFile.FieldType.int)) ∈ wsL_law := zt_3 (List.mem_of_getElem? (i := 233) rfl) rfl
theorem zw_633 : (Jvm.Cond.methodLink "PocketHoleLaw" (206 : Nat) ({ cls := "PocketHole", name := "tear", desc := "()I" } : Jvm.MethodName)) ∈ wsL_law := zt_3 (List.mem_of_getElem? (i := 234) rfl) rfl
theorem zw_634 : (Jvm.Cond.instanceMethod ({ cls := "PocketHole", name := "tear", desc := "()I" } : Jvm.MethodName)) ∈ wsL_law := zt_3 (List.mem_of_getElem? (i := 235) rfl) rfl
theorem zw_635 : (Jvm.Cond.selects "PocketHole" ({ cls := "PocketHole", name := "tear", desc := "()I" } : Jvm.MethodName) ({ cls := "PocketHole", name := "tear", desc := "()I" } : Jvm.MethodName)) ∈ wsL_law := zt_3 (List.mem_of_getElem? (i := 236) rfl) rfl
theorem zw_636 : (Jvm.Cond.code ({ cls := "PocketHole", name := "tear", desc := "()I" } : Jvm.MethodName) prog_1_method_49_code (2 : Nat) (Option.some Jvm.ClassFile.FieldType.int)) ∈ wsL_law := zt_3 (List.mem_of_getElem? (i := 237) rfl) rfl
theorem zw_637 : (Jvm.Cond.methodLink "PocketHoleLaw" (210 : Nat) ({ cls := "PocketHole", name := "count", desc := "(I)I" } : Jvm.MethodName)) ∈ wsL_law := zt_3 (List.mem_of_getElem? (i := 238) rfl) rfl
theorem zw_638 : (Jvm.Cond.instanceMethod ({ cls := "PocketHole", name := "count", desc := "(I)I" } : Jvm.MethodName)) ∈ wsL_law := zt_3 (List.mem_of_getElem? (i := 239) rfl) rfl
theorem zw_639 : (Jvm.Cond.selects "PocketHole" ({ cls := "PocketHole", name := "count", desc := "(I)I" } : Jvm.MethodName) ({ cls := "PocketHole", name := "count", desc := "(I)I" } : Jvm.MethodName)) ∈ wsL_law := zt_4 (List.mem_of_getElem? (i := 0) rfl) rfl
theorem zw_640 : (Jvm.Cond.code ({ cls := "PocketHole", name := "count", desc := "(I)I" } : Jvm.MethodName) prog_1_method_50_code (2 : Nat) (Option.some Jvm.ClassFile.FieldType.int)) ∈ wsL_law := zt_4 (List.mem_of_getElem? (i := 1) rfl) rfl
theorem zw_641 : (Jvm.Cond.methodLink "PocketHole" (255 : Nat) ({ cls := "PocketHole$Coat", name := "spotsInUse", desc := "()I" } : Jvm.MethodName)) ∈ wsL_law := zt_4 (List.mem_of_getElem? (i := 2) rfl) rfl
theorem zw_642 : (Jvm.Cond.instanceMethod ({ cls := "PocketHole$Coat", name := "spotsInUse", desc := "()I" } : Jvm.MethodName)) ∈ wsL_law := zt_4 (List.mem_of_getElem? (i := 3) rfl) rfl
theorem zw_643 : (Jvm.Cond.selects "PocketHole$Coat" ({ cls := "PocketHole$Coat", name := "spotsInUse", desc := "()I" } : Jvm.MethodName) ({ cls := "PocketHole$Coat", name := "spotsInUse", desc := "()I" } : Jvm.MethodName)) ∈ wsL_law := zt_4 (List.mem_of_getElem? (i := 4) rfl) rfl
theorem zw_644 : (Jvm.Cond.code ({ cls := "PocketHole$Coat", name := "spotsInUse", desc := "()I" } : Jvm.MethodName) prog_2_method_17_code (3 : Nat) (Option.some Jvm.ClassFile.FieldType.int)) ∈ wsL_law := zt_4 (List.mem_of_getElem? (i := 5) rfl) rfl
theorem zw_645 : (Jvm.Cond.methodLink "PocketHoleLaw" (214 : Nat) ({ cls := "PocketHole", name := "status", desc := "(I)I" } : Jvm.MethodName)) ∈ wsL_law := zt_4 (List.mem_of_getElem? (i := 6) rfl) rfl
theorem zw_646 : (Jvm.Cond.instanceMethod ({ cls := "PocketHole", name := "status", desc := "(I)I" } : Jvm.MethodName)) ∈ wsL_law := zt_4 (List.mem_of_getElem? (i := 7) rfl) rfl
theorem zw_647 : (Jvm.Cond.selects "PocketHole" ({ cls := "PocketHole", name := "status", desc := "(I)I" } : Jvm.MethodName) ({ cls := "PocketHole", name := "status", desc := "(I)I" } : Jvm.MethodName)) ∈ wsL_law := zt_4 (List.mem_of_getElem? (i := 8) rfl) rfl
theorem zw_648 : (Jvm.Cond.code ({ cls := "PocketHole", name := "status", desc := "(I)I" } : Jvm.MethodName) prog_1_method_51_code (4 : Nat) (Option.some Jvm.ClassFile.FieldType.int)) ∈ wsL_law := zt_4 (List.mem_of_getElem? (i := 9) rfl) rfl
theorem zw_649 : (Jvm.Cond.classLink "PocketHoleLaw" (10 : Nat) "PocketHoleModel") ∈ wsL_law := zt_4 (List.mem_of_getElem? (i := 10) rfl) rfl
theorem zw_650 : (Jvm.Cond.instantiable "PocketHoleModel" (27 : Nat)) ∈ wsL_law := zt_4 (List.mem_of_getElem? (i := 11) rfl) rfl
theorem zw_651 : (Jvm.Cond.methodLink "PocketHoleLaw" (12 : Nat) ({ cls := "PocketHoleModel", name := "<init>", desc := "()V" } : Jvm.MethodName)) ∈ wsL_law := zt_4 (List.mem_of_getElem? (i := 12) rfl) rfl
theorem zw_652 : (Jvm.Cond.instanceMethod ({ cls := "PocketHoleModel", name := "<init>", desc := "()V" } : Jvm.MethodName)) ∈ wsL_law := zt_4 (List.mem_of_getElem? (i := 13) rfl) rfl
theorem zw_653 : (Jvm.Cond.code ({ cls := "PocketHoleModel", name := "<init>", desc := "()V" } : Jvm.MethodName) prog_7_method_1_code (2 : Nat) (Option.none : Option Jvm.ClassFile.FieldType)) ∈ wsL_law := zt_4 (List.mem_of_getElem? (i := 14) rfl) rfl
theorem zw_654 : (Jvm.Cond.methodLink "PocketHoleModel" (1 : Nat) ({ cls := "java/lang/Object", name := "<init>", desc := "()V" } : Jvm.MethodName)) ∈ wsL_law := zt_4 (List.mem_of_getElem? (i := 15) rfl) rfl
theorem zw_655 : (Jvm.Cond.classLink "PocketHoleModel" (35 : Nat) "java/lang/String") ∈ wsL_law := zt_4 (List.mem_of_getElem? (i := 16) rfl) rfl
theorem zw_656 : (Jvm.Cond.fieldLink "PocketHoleModel" (9 : Nat) "PocketHoleModel" "now" "[I") ∈ wsL_law := zt_4 (List.mem_of_getElem? (i := 25) rfl) rfl
theorem zw_657 : (Jvm.Cond.fieldLink "PocketHoleModel" (13 : Nat) "PocketHoleModel" "kept" "[I") ∈ wsL_law := zt_4 (List.mem_of_getElem? (i := 26) rfl) rfl
theorem zw_658 : (Jvm.Cond.fieldLink "PocketHoleModel" (16 : Nat) "PocketHoleModel" "aside" "[I") ∈ wsL_law := zt_4 (List.mem_of_getElem? (i := 27) rfl) rfl
theorem zw_659 : (Jvm.Cond.fieldLink "PocketHoleModel" (325 : Nat) "PocketHoleModel" "isKept" "Z") ∈ wsL_law := zt_4 (List.mem_of_getElem? (i := 28) rfl) rfl
theorem zw_660 : (Jvm.Cond.fieldLink "PocketHoleModel" (19 : Nat) "PocketHoleModel" "found" "[I") ∈ wsL_law := zt_4 (List.mem_of_getElem? (i := 29) rfl) rfl
theorem zw_661 : (Jvm.Cond.fieldLink "PocketHoleModel" (22 : Nat) "PocketHoleModel" "leasts" "[I") ∈ wsL_law := zt_4 (List.mem_of_getElem? (i := 30) rfl) rfl
theorem zw_662 : (Jvm.Cond.fieldLink "PocketHoleModel" (25 : Nat) "PocketHoleModel" "mosts" "[I") ∈ wsL_law := zt_4 (List.mem_of_getElem? (i := 31) rfl) rfl
theorem zw_663 : (Jvm.Cond.fieldLink "PocketHoleModel" (199 : Nat) "PocketHoleModel" "bestSet" "I") ∈ wsL_law := zt_4 (List.mem_of_getElem? (i := 32) rfl) rfl
theorem zw_664 : (Jvm.Cond.fieldLink "PocketHoleModel" (203 : Nat) "PocketHoleModel" "mostPence" "I") ∈ wsL_law := zt_4 (List.mem_of_getElem? (i := 33) rfl) rfl
theorem zw_665 : (Jvm.Cond.fieldLink "PocketHoleModel" (28 : Nat) "PocketHoleModel" "summed" "[Z") ∈ wsL_law := zt_4 (List.mem_of_getElem? (i := 34) rfl) rfl
theorem zw_666 : (Jvm.Cond.fieldLink "PocketHoleModel" (219 : Nat) "PocketHoleModel" "leastHole" "I") ∈ wsL_law := zt_4 (List.mem_of_getElem? (i := 35) rfl) rfl
theorem zw_667 : (Jvm.Cond.fieldLink "PocketHoleModel" (32 : Nat) "PocketHoleModel" "tape" "[I") ∈ wsL_law := zt_4 (List.mem_of_getElem? (i := 36) rfl) rfl
theorem zw_668 : (Jvm.Cond.fieldLink "PocketHoleModel" (235 : Nat) "PocketHoleModel" "taped" "I") ∈ wsL_law := zt_4 (List.mem_of_getElem? (i := 37) rfl) rfl
theorem zw_669 : (Jvm.Cond.fieldLink "PocketHoleModel" (241 : Nat) "PocketHoleModel" "begins" "I") ∈ wsL_law := zt_4 (List.mem_of_getElem? (i := 38) rfl) rfl
theorem zw_670 : (Jvm.Cond.fieldLink "PocketHoleModel" (238 : Nat) "PocketHoleModel" "ends" "I") ∈ wsL_law := zt_4 (List.mem_of_getElem? (i := 39) rfl) rfl
theorem zw_671 : (Jvm.Cond.fieldLink "PocketHoleModel" (250 : Nat) "PocketHoleModel" "sort" "I") ∈ wsL_law := zt_4 (List.mem_of_getElem? (i := 40) rfl) rfl
theorem zw_672 : (Jvm.Cond.fieldLink "PocketHoleModel" (247 : Nat) "PocketHoleModel" "value" "I") ∈ wsL_law := zt_4 (List.mem_of_getElem? (i := 41) rfl) rfl
theorem zw_673 : (Jvm.Cond.fieldLink "PocketHoleModel" (260 : Nat) "PocketHoleModel" "isWrong" "Z") ∈ wsL_law := zt_4 (List.mem_of_getElem? (i := 42) rfl) rfl
theorem zw_674 : (Jvm.Cond.fieldLink "PocketHoleModel" (51 : Nat) "PocketHoleModel" "kinds" "[Ljava/lang/String;") ∈ wsL_law := zt_4 (List.mem_of_getElem? (i := 43) rfl) rfl
theorem zw_675 : (Jvm.Cond.fieldLink "PocketHoleModel" (55 : Nat) "PocketHoleModel" "kindOf" "[I") ∈ wsL_law := zt_4 (List.mem_of_getElem? (i := 44) rfl) rfl
theorem zw_676 : (Jvm.Cond.fieldLink "PocketHoleModel" (58 : Nat) "PocketHoleModel" "items" "[I") ∈ wsL_law := zt_4 (List.mem_of_getElem? (i := 45) rfl) rfl
theorem zw_677 : (Jvm.Cond.fieldLink "PocketHoleModel" (271 : Nat) "PocketHoleModel" "itemMany" "I") ∈ wsL_law := zt_4 (List.mem_of_getElem? (i := 46) rfl) rfl
theorem zw_678 : (Jvm.Cond.fieldLink "PocketHoleModel" (281 : Nat) "PocketHoleModel" "coinThen" "I") ∈ wsL_law := zt_4 (List.mem_of_getElem? (i := 47) rfl) rfl
theorem zw_679 : (Jvm.Cond.fieldLink "PocketHoleModel" (61 : Nat) "PocketHoleModel" "widths" "[I") ∈ wsL_law := zt_4 (List.mem_of_getElem? (i := 48) rfl) rfl
theorem zw_680 : (Jvm.Cond.fieldLink "PocketHoleModel" (64 : Nat) "PocketHoleModel" "sizes" "[I") ∈ wsL_law := zt_4 (List.mem_of_getElem? (i := 49) rfl) rfl
theorem zw_681 : (Jvm.Cond.fieldLink "PocketHoleModel" (67 : Nat) "PocketHoleModel" "numbers" "[I") ∈ wsL_law := zt_4 (List.mem_of_getElem? (i := 50) rfl) rfl
theorem zw_682 : (Jvm.Cond.fieldLink "PocketHoleModel" (70 : Nat) "PocketHoleModel" "moved" "[I") ∈ wsL_law := zt_4 (List.mem_of_getElem? (i := 51) rfl) rfl
theorem zw_683 : (Jvm.Cond.laysFinal "PocketHoleModel" "PocketHoleModel" "now" "[I") ∈ wsL_law := zt_4 (List.mem_of_getElem? (i := 52) rfl) rfl
theorem zw_684 : (Jvm.Cond.laysFinal "PocketHoleModel" "PocketHoleModel" "kept" "[I") ∈ wsL_law := zt_4 (List.mem_of_getElem? (i := 54) rfl) rfl
theorem zw_685 : (Jvm.Cond.laysFinal "PocketHoleModel" "PocketHoleModel" "aside" "[I") ∈ wsL_law := zt_4 (List.mem_of_getElem? (i := 56) rfl) rfl
theorem zw_686 : (Jvm.Cond.lays "PocketHoleModel" "PocketHoleModel" "isKept" "Z") ∈ wsL_law := zt_4 (List.mem_of_getElem? (i := 58) rfl) rfl
theorem zw_687 : (Jvm.Cond.laysFinal "PocketHoleModel" "PocketHoleModel" "found" "[I") ∈ wsL_law := zt_4 (List.mem_of_getElem? (i := 60) rfl) rfl
theorem zw_688 : (Jvm.Cond.laysFinal "PocketHoleModel" "PocketHoleModel" "leasts" "[I") ∈ wsL_law := zt_4 (List.mem_of_getElem? (i := 62) rfl) rfl
theorem zw_689 : (Jvm.Cond.laysFinal "PocketHoleModel" "PocketHoleModel" "mosts" "[I") ∈ wsL_law := zt_4 (List.mem_of_getElem? (i := 64) rfl) rfl
theorem zw_690 : (Jvm.Cond.lays "PocketHoleModel" "PocketHoleModel" "bestSet" "I") ∈ wsL_law := zt_4 (List.mem_of_getElem? (i := 66) rfl) rfl
theorem zw_691 : (Jvm.Cond.lays "PocketHoleModel" "PocketHoleModel" "mostPence" "I") ∈ wsL_law := zt_4 (List.mem_of_getElem? (i := 68) rfl) rfl
theorem zw_692 : (Jvm.Cond.laysFinal "PocketHoleModel" "PocketHoleModel" "summed" "[Z") ∈ wsL_law := zt_4 (List.mem_of_getElem? (i := 70) rfl) rfl
theorem zw_693 : (Jvm.Cond.lays "PocketHoleModel" "PocketHoleModel" "leastHole" "I") ∈ wsL_law := zt_4 (List.mem_of_getElem? (i := 72) rfl) rfl
theorem zw_694 : (Jvm.Cond.laysFinal "PocketHoleModel" "PocketHoleModel" "tape" "[I") ∈ wsL_law := zt_4 (List.mem_of_getElem? (i := 74) rfl) rfl
theorem zw_695 : (Jvm.Cond.lays "PocketHoleModel" "PocketHoleModel" "taped" "I") ∈ wsL_law := zt_4 (List.mem_of_getElem? (i := 76) rfl) rfl
theorem zw_696 : (Jvm.Cond.lays "PocketHoleModel" "PocketHoleModel" "begins" "I") ∈ wsL_law := zt_4 (List.mem_of_getElem? (i := 78) rfl) rfl
theorem zw_697 : (Jvm.Cond.lays "PocketHoleModel" "PocketHoleModel" "ends" "I") ∈ wsL_law := zt_4 (List.mem_of_getElem? (i := 80) rfl) rfl
theorem zw_698 : (Jvm.Cond.lays "PocketHoleModel" "PocketHoleModel" "sort" "I") ∈ wsL_law := zt_4 (List.mem_of_getElem? (i := 82) rfl) rfl
theorem zw_699 : (Jvm.Cond.lays "PocketHoleModel" "PocketHoleModel" "value" "I") ∈ wsL_law := zt_4 (List.mem_of_getElem? (i := 84) rfl) rfl
theorem zw_700 : (Jvm.Cond.lays "PocketHoleModel" "PocketHoleModel" "isWrong" "Z") ∈ wsL_law := zt_4 (List.mem_of_getElem? (i := 86) rfl) rfl
theorem zw_701 : (Jvm.Cond.laysFinal "PocketHoleModel" "PocketHoleModel" "kinds" "[Ljava/lang/String;") ∈ wsL_law := zt_4 (List.mem_of_getElem? (i := 88) rfl) rfl
theorem zw_702 : (Jvm.Cond.laysFinal "PocketHoleModel" "PocketHoleModel" "kindOf" "[I") ∈ wsL_law := zt_4 (List.mem_of_getElem? (i := 90) rfl) rfl
theorem zw_703 : (Jvm.Cond.laysFinal "PocketHoleModel" "PocketHoleModel" "items" "[I") ∈ wsL_law := zt_4 (List.mem_of_getElem? (i := 92) rfl) rfl
theorem zw_704 : (Jvm.Cond.lays "PocketHoleModel" "PocketHoleModel" "itemMany" "I") ∈ wsL_law := zt_4 (List.mem_of_getElem? (i := 94) rfl) rfl
theorem zw_705 : (Jvm.Cond.lays "PocketHoleModel" "PocketHoleModel" "coinThen" "I") ∈ wsL_law := zt_4 (List.mem_of_getElem? (i := 96) rfl) rfl
theorem zw_706 : (Jvm.Cond.laysFinal "PocketHoleModel" "PocketHoleModel" "widths" "[I") ∈ wsL_law := zt_4 (List.mem_of_getElem? (i := 98) rfl) rfl
theorem zw_707 : (Jvm.Cond.laysFinal "PocketHoleModel" "PocketHoleModel" "sizes" "[I") ∈ wsL_law := zt_4 (List.mem_of_getElem? (i := 100) rfl) rfl
theorem zw_708 : (Jvm.Cond.laysFinal "PocketHoleModel" "PocketHoleModel" "numbers" "[I") ∈ wsL_law := zt_4 (List.mem_of_getElem? (i := 102) rfl) rfl
theorem zw_709 : (Jvm.Cond.laysFinal "PocketHoleModel" "PocketHoleModel" "moved" "[I") ∈ wsL_law := zt_4 (List.mem_of_getElem? (i := 104) rfl) rfl
theorem zw_710 : (Jvm.Cond.arrayClass Jvm.ClassFile.FieldType.boolean) ∈ wsL_law := zt_4 (List.mem_of_getElem? (i := 107) rfl) rfl
theorem zw_711 : (Jvm.Cond.methodLink "PocketHoleLaw" (17 : Nat) ({ cls := "PocketHoleModel", name := "coin", desc := "(I)I" } : Jvm.MethodName)) ∈ wsL_law := zt_4 (List.mem_of_getElem? (i := 108) rfl) rfl
theorem zw_712 : (Jvm.Cond.instanceMethod ({ cls := "PocketHoleModel", name := "coin", desc := "(I)I" } : Jvm.MethodName)) ∈ wsL_law := zt_4 (List.mem_of_getElem? (i := 109) rfl) rfl
theorem zw_713 : (Jvm.Cond.selects "PocketHoleModel" ({ cls := "PocketHoleModel", name := "coin", desc := "(I)I" } : Jvm.MethodName) ({ cls := "PocketHoleModel", name := "coin", desc := "(I)I" } : Jvm.MethodName)) ∈ wsL_law := zt_4 (List.mem_of_getElem? (i := 110) rfl) rfl
theorem zw_714 : (Jvm.Cond.code ({ cls := "PocketHoleModel", name := "coin", desc := "(I)I" } : Jvm.MethodName) prog_7_method_15_code (2 : Nat) (Option.some Jvm.ClassFile.FieldType.int)) ∈ wsL_law := zt_4 (List.mem_of_getElem? (i := 111) rfl) rfl
theorem zw_715 : (Jvm.Cond.methodLink "PocketHoleModel" (89 : Nat) ({ cls := "PocketHoleModel", name := "isKind", desc := "(I)Z" } : Jvm.MethodName)) ∈ wsL_law := zt_4 (List.mem_of_getElem? (i := 112) rfl) rfl
theorem zw_716 : (Jvm.Cond.static ({ cls := "PocketHoleModel", name := "isKind", desc := "(I)Z" } : Jvm.MethodName)) ∈ wsL_law := zt_4 (List.mem_of_getElem? (i := 113) rfl) rfl
theorem zw_717 : (Jvm.Cond.code ({ cls := "PocketHoleModel", name := "isKind", desc := "(I)Z" } : Jvm.MethodName) prog_7_method_10_code (1 : Nat) (Option.some Jvm.ClassFile.FieldType.boolean)) ∈ wsL_law := zt_4 (List.mem_of_getElem? (i := 114) rfl) rfl
theorem zw_718 : (Jvm.Cond.methodLink "PocketHoleModel" (78 : Nat) ({ cls := "PocketHoleModel", name := "within", desc := "(III)Z" } : Jvm.MethodName)) ∈ wsL_law := zt_4 (List.mem_of_getElem? (i := 115) rfl) rfl
theorem zw_719 : (Jvm.Cond.static ({ cls := "PocketHoleModel", name := "within", desc := "(III)Z" } : Jvm.MethodName)) ∈ wsL_law := zt_4 (List.mem_of_getElem? (i := 116) rfl) rfl
theorem zw_720 : (Jvm.Cond.code ({ cls := "PocketHoleModel", name := "within", desc := "(III)Z" } : Jvm.MethodName) prog_7_method_3_code (3 : Nat) (Option.some Jvm.ClassFile.FieldType.boolean)) ∈ wsL_law := zt_4 (List.mem_of_getElem? (i := 117) rfl) rfl
theorem zw_721 : (Jvm.Cond.constant "PocketHoleModel" (73 : Nat) (-1000001 : Int32)) ∈ wsL_law := zt_4 (List.mem_of_getElem? (i := 118) rfl) rfl
theorem zw_722 : (Jvm.Cond.methodLink "PocketHoleModel" (93 : Nat) ({ cls := "PocketHoleModel", name := "finding", desc := "(I)I" } : Jvm.MethodName)) ∈ wsL_law := zt_4 (List.mem_of_getElem? (i := 119) rfl) rfl
theorem zw_723 : (Jvm.Cond.instanceMethod ({ cls := "PocketHoleModel", name := "finding", desc := "(I)I" } : Jvm.MethodName)) ∈ wsL_law := zt_4 (List.mem_of_getElem? (i := 121) rfl) rfl
theorem zw_724 : (Jvm.Cond.code ({ cls := "PocketHoleModel", name := "finding", desc := "(I)I" } : Jvm.MethodName) prog_7_method_2_code (2 : Nat) (Option.some Jvm.ClassFile.FieldType.int)) ∈ wsL_law := zt_4 (List.mem_of_getElem? (i := 122) rfl) rfl
theorem zw_725 : (Jvm.Cond.constant "PocketHoleModel" (97 : Nat) (-1000002 : Int32)) ∈ wsL_law := zt_4 (List.mem_of_getElem? (i := 123) rfl) rfl
theorem zw_726 : (Jvm.Cond.methodLink "PocketHoleModel" (98 : Nat) ({ cls := "PocketHoleModel", name := "comes", desc := "(IIIII)I" } : Jvm.MethodName)) ∈ wsL_law := zt_4 (List.mem_of_getElem? (i := 124) rfl) rfl
theorem zw_727 : (Jvm.Cond.instanceMethod ({ cls := "PocketHoleModel", name := "comes", desc := "(IIIII)I" } : Jvm.MethodName)) ∈ wsL_law := zt_4 (List.mem_of_getElem? (i := 126) rfl) rfl
theorem zw_728 : (Jvm.Cond.code ({ cls := "PocketHoleModel", name := "comes", desc := "(IIIII)I" } : Jvm.MethodName) prog_7_method_14_code (7 : Nat) (Option.some Jvm.ClassFile.FieldType.int)) ∈ wsL_law := zt_4 (List.mem_of_getElem? (i := 127) rfl) rfl
theorem zw_729 : (Jvm.Cond.methodLink "PocketHoleModel" (82 : Nat) ({ cls := "PocketHoleModel", name := "at", desc := "(II)I" } : Jvm.MethodName)) ∈ wsL_law := zt_4 (List.mem_of_getElem? (i := 128) rfl) rfl
theorem zw_730 : (Jvm.Cond.static ({ cls := "PocketHoleModel", name := "at", desc := "(II)I" } : Jvm.MethodName)) ∈ wsL_law := zt_4 (List.mem_of_getElem? (i := 129) rfl) rfl
theorem zw_731 : (Jvm.Cond.code ({ cls := "PocketHoleModel", name := "at", desc := "(II)I" } : Jvm.MethodName) prog_7_method_12_code (2 : Nat) (Option.some Jvm.ClassFile.FieldType.int)) ∈ wsL_law := zt_4 (List.mem_of_getElem? (i := 130) rfl) rfl
theorem zw_732 : (Jvm.Cond.methodLink "PocketHoleModel" (86 : Nat) ({ cls := "PocketHoleModel", name := "goesTo", desc := "(II)I" } : Jvm.MethodName)) ∈ wsL_law := zt_4 (List.mem_of_getElem? (i := 131) rfl) rfl
theorem zw_733 : (Jvm.Cond.instanceMethod ({ cls := "PocketHoleModel", name := "goesTo", desc := "(II)I" } : Jvm.MethodName)) ∈ wsL_law := zt_4 (List.mem_of_getElem? (i := 133) rfl) rfl
theorem zw_734 : (Jvm.Cond.code ({ cls := "PocketHoleModel", name := "goesTo", desc := "(II)I" } : Jvm.MethodName) prog_7_method_23_code (3 : Nat) (Option.some Jvm.ClassFile.FieldType.int)) ∈ wsL_law := zt_4 (List.mem_of_getElem? (i := 134) rfl) rfl
theorem zw_735 : (Jvm.Cond.methodLink "PocketHoleModel" (129 : Nat) ({ cls := "PocketHoleModel", name := "become", desc := "(II)I" } : Jvm.MethodName)) ∈ wsL_law := zt_4 (List.mem_of_getElem? (i := 135) rfl) rfl
theorem zw_736 : (Jvm.Cond.instanceMethod ({ cls := "PocketHoleModel", name := "become", desc := "(II)I" } : Jvm.MethodName)) ∈ wsL_law := zt_4 (List.mem_of_getElem? (i := 137) rfl) rfl
theorem zw_737 : (Jvm.Cond.code ({ cls := "PocketHoleModel", name := "become", desc := "(II)I" } : Jvm.MethodName) prog_7_method_4_code (4 : Nat) (Option.some Jvm.ClassFile.FieldType.int)) ∈ wsL_law := zt_4 (List.mem_of_getElem? (i := 138) rfl) rfl
theorem zw_738 : (Jvm.Cond.methodLink "PocketHoleLaw" (22 : Nat) ({ cls := "PocketHoleModel", name := "of", desc := "(II)I" } : Jvm.MethodName)) ∈ wsL_law := zt_4 (List.mem_of_getElem? (i := 139) rfl) rfl
theorem zw_739 : (Jvm.Cond.instanceMethod ({ cls := "PocketHoleModel", name := "of", desc := "(II)I" } : Jvm.MethodName)) ∈ wsL_law := zt_4 (List.mem_of_getElem? (i := 140) rfl) rfl
theorem zw_740 : (Jvm.Cond.selects "PocketHoleModel" ({ cls := "PocketHoleModel", name := "of", desc := "(II)I" } : Jvm.MethodName) ({ cls := "PocketHoleModel", name := "of", desc := "(II)I" } : Jvm.MethodName)) ∈ wsL_law := zt_4 (List.mem_of_getElem? (i := 141) rfl) rfl
theorem zw_741 : (Jvm.Cond.code ({ cls := "PocketHoleModel", name := "of", desc := "(II)I" } : Jvm.MethodName) prog_7_method_21_code (3 : Nat) (Option.some Jvm.ClassFile.FieldType.int)) ∈ wsL_law := zt_4 (List.mem_of_getElem? (i := 142) rfl) rfl
theorem zw_742 : (Jvm.Cond.methodLink "PocketHoleModel" (120 : Nat) ({ cls := "PocketHoleModel", name := "isCoin", desc := "(I)Z" } : Jvm.MethodName)) ∈ wsL_law := zt_4 (List.mem_of_getElem? (i := 143) rfl) rfl
theorem zw_743 : (Jvm.Cond.instanceMethod ({ cls := "PocketHoleModel", name := "isCoin", desc := "(I)Z" } : Jvm.MethodName)) ∈ wsL_law := zt_4 (List.mem_of_getElem? (i := 145) rfl) rfl
theorem zw_744 : (Jvm.Cond.code ({ cls := "PocketHoleModel", name := "isCoin", desc := "(I)Z" } : Jvm.MethodName) prog_7_method_9_code (2 : Nat) (Option.some Jvm.ClassFile.FieldType.boolean)) ∈ wsL_law := zt_4 (List.mem_of_getElem? (i := 146) rfl) rfl
theorem zw_745 : (Jvm.Cond.methodLink "PocketHoleModel" (117 : Nat) ({ cls := "PocketHoleModel", name := "thick", desc := "(I)I" } : Jvm.MethodName)) ∈ wsL_law := zt_4 (List.mem_of_getElem? (i := 147) rfl) rfl
theorem zw_746 : (Jvm.Cond.instanceMethod ({ cls := "PocketHoleModel", name := "thick", desc := "(I)I" } : Jvm.MethodName)) ∈ wsL_law := zt_4 (List.mem_of_getElem? (i := 149) rfl) rfl
theorem zw_747 : (Jvm.Cond.code ({ cls := "PocketHoleModel", name := "thick", desc := "(I)I" } : Jvm.MethodName) prog_7_method_18_code (4 : Nat) (Option.some Jvm.ClassFile.FieldType.int)) ∈ wsL_law := zt_4 (List.mem_of_getElem? (i := 150) rfl) rfl
theorem zw_748 : (Jvm.Cond.methodLink "PocketHoleModel" (105 : Nat) ({ cls := "PocketHoleModel", name := "coinIs", desc := "(II)I" } : Jvm.MethodName)) ∈ wsL_law := zt_4 (List.mem_of_getElem? (i := 151) rfl) rfl
theorem zw_749 : (Jvm.Cond.instanceMethod ({ cls := "PocketHoleModel", name := "coinIs", desc := "(II)I" } : Jvm.MethodName)) ∈ wsL_law := zt_4 (List.mem_of_getElem? (i := 153) rfl) rfl
theorem zw_750 : (Jvm.Cond.code ({ cls := "PocketHoleModel", name := "coinIs", desc := "(II)I" } : Jvm.MethodName) prog_7_method_13_code (3 : Nat) (Option.some Jvm.ClassFile.FieldType.int)) ∈ wsL_law := zt_4 (List.mem_of_getElem? (i := 154) rfl) rfl
theorem zw_751 : (Jvm.Cond.methodLink "PocketHoleModel" (108 : Nat) ({ cls := "PocketHoleModel", name := "isUnder", desc := "(II)Z" } : Jvm.MethodName)) ∈ wsL_law := zt_4 (List.mem_of_getElem? (i := 155) rfl) rfl
theorem zw_752 : (Jvm.Cond.static ({ cls := "PocketHoleModel", name := "isUnder", desc := "(II)Z" } : Jvm.MethodName)) ∈ wsL_law := zt_4 (List.mem_of_getElem? (i := 156) rfl) rfl
theorem zw_753 : (Jvm.Cond.code ({ cls := "PocketHoleModel", name := "isUnder", desc := "(II)Z" } : Jvm.MethodName) prog_7_method_17_code (3 : Nat) (Option.some Jvm.ClassFile.FieldType.boolean)) ∈ wsL_law := zt_4 (List.mem_of_getElem? (i := 157) rfl) rfl
theorem zw_754 : (Jvm.Cond.methodLink "PocketHoleModel" (102 : Nat) ({ cls := "PocketHoleModel", name := "above", desc := "(I)I" } : Jvm.MethodName)) ∈ wsL_law := zt_4 (List.mem_of_getElem? (i := 158) rfl) rfl
theorem zw_755 : (Jvm.Cond.static ({ cls := "PocketHoleModel", name := "above", desc := "(I)I" } : Jvm.MethodName)) ∈ wsL_law := zt_4 (List.mem_of_getElem? (i := 159) rfl) rfl
theorem zw_756 : (Jvm.Cond.code ({ cls := "PocketHoleModel", name := "above", desc := "(I)I" } : Jvm.MethodName) prog_7_method_16_code (1 : Nat) (Option.some Jvm.ClassFile.FieldType.int)) ∈ wsL_law := zt_4 (List.mem_of_getElem? (i := 160) rfl) rfl
theorem zw_757 : (Jvm.Cond.methodLink "PocketHoleModel" (112 : Nat) ({ cls := "java/lang/Math", name := "max", desc := "(II)I" } : Jvm.MethodName)) ∈ wsL_law := zt_4 (List.mem_of_getElem? (i := 161) rfl) rfl
theorem zw_758 : (Jvm.Cond.methodLink "PocketHoleModel" (123 : Nat) ({ cls := "PocketHoleModel", name := "goes", desc := "(I)I" } : Jvm.MethodName)) ∈ wsL_law := zt_4 (List.mem_of_getElem? (i := 162) rfl) rfl
theorem zw_759 : (Jvm.Cond.instanceMethod ({ cls := "PocketHoleModel", name := "goes", desc := "(I)I" } : Jvm.MethodName)) ∈ wsL_law := zt_4 (List.mem_of_getElem? (i := 164) rfl) rfl
theorem zw_760 : (Jvm.Cond.code ({ cls := "PocketHoleModel", name := "goes", desc := "(I)I" } : Jvm.MethodName) prog_7_method_19_code (3 : Nat) (Option.some Jvm.ClassFile.FieldType.int)) ∈ wsL_law := zt_4 (List.mem_of_getElem? (i := 165) rfl) rfl
theorem zw_761 : (Jvm.Cond.methodLink "PocketHoleModel" (126 : Nat) ({ cls := "PocketHoleModel", name := "wears", desc := "(I)I" } : Jvm.MethodName)) ∈ wsL_law := zt_4 (List.mem_of_getElem? (i := 166) rfl) rfl
theorem zw_762 : (Jvm.Cond.instanceMethod ({ cls := "PocketHoleModel", name := "wears", desc := "(I)I" } : Jvm.MethodName)) ∈ wsL_law := zt_4 (List.mem_of_getElem? (i := 168) rfl) rfl
theorem zw_763 : (Jvm.Cond.code ({ cls := "PocketHoleModel", name := "wears", desc := "(I)I" } : Jvm.MethodName) prog_7_method_20_code (3 : Nat) (Option.some Jvm.ClassFile.FieldType.int)) ∈ wsL_law := zt_4 (List.mem_of_getElem? (i := 169) rfl) rfl
theorem zw_764 : (Jvm.Cond.methodLink "PocketHoleLaw" (27 : Nat) ({ cls := "PocketHoleModel", name := "change", desc := "(III)I" } : Jvm.MethodName)) ∈ wsL_law := zt_4 (List.mem_of_getElem? (i := 170) rfl) rfl
theorem zw_765 : (Jvm.Cond.instanceMethod ({ cls := "PocketHoleModel", name := "change", desc := "(III)I" } : Jvm.MethodName)) ∈ wsL_law := zt_4 (List.mem_of_getElem? (i := 171) rfl) rfl
theorem zw_766 : (Jvm.Cond.selects "PocketHoleModel" ({ cls := "PocketHoleModel", name := "change", desc := "(III)I" } : Jvm.MethodName) ({ cls := "PocketHoleModel", name := "change", desc := "(III)I" } : Jvm.MethodName)) ∈ wsL_law := zt_4 (List.mem_of_getElem? (i := 172) rfl) rfl
theorem zw_767 : (Jvm.Cond.code ({ cls := "PocketHoleModel", name := "change", desc := "(III)I" } : Jvm.MethodName) prog_7_method_22_code (5 : Nat) (Option.some Jvm.ClassFile.FieldType.int)) ∈ wsL_law := zt_4 (List.mem_of_getElem? (i := 173) rfl) rfl
theorem zw_768 : (Jvm.Cond.methodLink "PocketHoleLaw" (31 : Nat) ({ cls := "PocketHoleModel", name := "put", desc := "(II)I" } : Jvm.MethodName)) ∈ wsL_law := zt_4 (List.mem_of_getElem? (i := 174) rfl) rfl
theorem zw_769 : (Jvm.Cond.instanceMethod ({ cls := "PocketHoleModel", name := "put", desc := "(II)I" } : Jvm.MethodName)) ∈ wsL_law := zt_4 (List.mem_of_getElem? (i := 175) rfl) rfl
theorem zw_770 : (Jvm.Cond.selects "PocketHoleModel" ({ cls := "PocketHoleModel", name := "put", desc := "(II)I" } : Jvm.MethodName) ({ cls := "PocketHoleModel", name := "put", desc := "(II)I" } : Jvm.MethodName)) ∈ wsL_law := zt_4 (List.mem_of_getElem? (i := 176) rfl) rfl
theorem zw_771 : (Jvm.Cond.code ({ cls := "PocketHoleModel", name := "put", desc := "(II)I" } : Jvm.MethodName) prog_7_method_24_code (3 : Nat) (Option.some Jvm.ClassFile.FieldType.int)) ∈ wsL_law := zt_4 (List.mem_of_getElem? (i := 177) rfl) rfl
theorem zw_772 : (Jvm.Cond.methodLink "PocketHoleModel" (132 : Nat) ({ cls := "PocketHoleModel", name := "isPlace", desc := "(I)Z" } : Jvm.MethodName)) ∈ wsL_law := zt_4 (List.mem_of_getElem? (i := 178) rfl) rfl
theorem zw_773 : (Jvm.Cond.static ({ cls := "PocketHoleModel", name := "isPlace", desc := "(I)Z" } : Jvm.MethodName)) ∈ wsL_law := zt_4 (List.mem_of_getElem? (i := 179) rfl) rfl
theorem zw_774 : (Jvm.Cond.code ({ cls := "PocketHoleModel", name := "isPlace", desc := "(I)Z" } : Jvm.MethodName) prog_7_method_11_code (1 : Nat) (Option.some Jvm.ClassFile.FieldType.boolean)) ∈ wsL_law := zt_4 (List.mem_of_getElem? (i := 180) rfl) rfl
theorem zw_775 : (Jvm.Cond.methodLink "PocketHoleLaw" (35 : Nat) ({ cls := "PocketHoleModel", name := "rule", desc := "(II)I" } : Jvm.MethodName)) ∈ wsL_law := zt_4 (List.mem_of_getElem? (i := 181) rfl) rfl
theorem zw_776 : (Jvm.Cond.instanceMethod ({ cls := "PocketHoleModel", name := "rule", desc := "(II)I" } : Jvm.MethodName)) ∈ wsL_law := zt_4 (List.mem_of_getElem? (i := 182) rfl) rfl
theorem zw_777 : (Jvm.Cond.selects "PocketHoleModel" ({ cls := "PocketHoleModel", name := "rule", desc := "(II)I" } : Jvm.MethodName) ({ cls := "PocketHoleModel", name := "rule", desc := "(II)I" } : Jvm.MethodName)) ∈ wsL_law := zt_4 (List.mem_of_getElem? (i := 183) rfl) rfl
theorem zw_778 : (Jvm.Cond.code ({ cls := "PocketHoleModel", name := "rule", desc := "(II)I" } : Jvm.MethodName) prog_7_method_25_code (4 : Nat) (Option.some Jvm.ClassFile.FieldType.int)) ∈ wsL_law := zt_4 (List.mem_of_getElem? (i := 184) rfl) rfl
theorem zw_779 : (Jvm.Cond.methodLink "PocketHoleLaw" (40 : Nat) ({ cls := "PocketHoleModel", name := "sew", desc := "()I" } : Jvm.MethodName)) ∈ wsL_law := zt_4 (List.mem_of_getElem? (i := 185) rfl) rfl
theorem zw_780 : (Jvm.Cond.instanceMethod ({ cls := "PocketHoleModel", name := "sew", desc := "()I" } : Jvm.MethodName)) ∈ wsL_law := zt_4 (List.mem_of_getElem? (i := 186) rfl) rfl
theorem zw_781 : (Jvm.Cond.selects "PocketHoleModel" ({ cls := "PocketHoleModel", name := "sew", desc := "()I" } : Jvm.MethodName) ({ cls := "PocketHoleModel", name := "sew", desc := "()I" } : Jvm.MethodName)) ∈ wsL_law := zt_4 (List.mem_of_getElem? (i := 187) rfl) rfl
theorem zw_782 : (Jvm.Cond.code ({ cls := "PocketHoleModel", name := "sew", desc := "()I" } : Jvm.MethodName) prog_7_method_26_code (1 : Nat) (Option.some Jvm.ClassFile.FieldType.int)) ∈ wsL_law := zt_4 (List.mem_of_getElem? (i := 188) rfl) rfl
theorem zw_783 : (Jvm.Cond.methodLink "PocketHoleLaw" (44 : Nat) ({ cls := "PocketHoleModel", name := "lie", desc := "(I)I" } : Jvm.MethodName)) ∈ wsL_law := zt_4 (List.mem_of_getElem? (i := 189) rfl) rfl
theorem zw_784 : (Jvm.Cond.instanceMethod ({ cls := "PocketHoleModel", name := "lie", desc := "(I)I" } : Jvm.MethodName)) ∈ wsL_law := zt_4 (List.mem_of_getElem? (i := 190) rfl) rfl
theorem zw_785 : (Jvm.Cond.selects "PocketHoleModel" ({ cls := "PocketHoleModel", name := "lie", desc := "(I)I" } : Jvm.MethodName) ({ cls := "PocketHoleModel", name := "lie", desc := "(I)I" } : Jvm.MethodName)) ∈ wsL_law := zt_4 (List.mem_of_getElem? (i := 191) rfl) rfl
theorem zw_786 : (Jvm.Cond.code ({ cls := "PocketHoleModel", name := "lie", desc := "(I)I" } : Jvm.MethodName) prog_7_method_30_code (2 : Nat) (Option.some Jvm.ClassFile.FieldType.int)) ∈ wsL_law := zt_4 (List.mem_of_getElem? (i := 192) rfl) rfl
theorem zw_787 : (Jvm.Cond.methodLink "PocketHoleModel" (141 : Nat) ({ cls := "PocketHoleModel", name := "lieIn", desc := "(I)I" } : Jvm.MethodName)) ∈ wsL_law := zt_4 (List.mem_of_getElem? (i := 193) rfl) rfl
theorem zw_788 : (Jvm.Cond.instanceMethod ({ cls := "PocketHoleModel", name := "lieIn", desc := "(I)I" } : Jvm.MethodName)) ∈ wsL_law := zt_4 (List.mem_of_getElem? (i := 195) rfl) rfl
theorem zw_789 : (Jvm.Cond.code ({ cls := "PocketHoleModel", name := "lieIn", desc := "(I)I" } : Jvm.MethodName) prog_7_method_28_code (4 : Nat) (Option.some Jvm.ClassFile.FieldType.int)) ∈ wsL_law := zt_4 (List.mem_of_getElem? (i := 196) rfl) rfl
theorem zw_790 : (Jvm.Cond.methodLink "PocketHoleModel" (135 : Nat) ({ cls := "PocketHoleModel", name := "isIn", desc := "(II)Z" } : Jvm.MethodName)) ∈ wsL_law := zt_4 (List.mem_of_getElem? (i := 197) rfl) rfl
theorem zw_791 : (Jvm.Cond.instanceMethod ({ cls := "PocketHoleModel", name := "isIn", desc := "(II)Z" } : Jvm.MethodName)) ∈ wsL_law := zt_4 (List.mem_of_getElem? (i := 199) rfl) rfl
theorem zw_792 : (Jvm.Cond.code ({ cls := "PocketHoleModel", name := "isIn", desc := "(II)Z" } : Jvm.MethodName) prog_7_method_27_code (3 : Nat) (Option.some Jvm.ClassFile.FieldType.boolean)) ∈ wsL_law := zt_4 (List.mem_of_getElem? (i := 200) rfl) rfl
theorem zw_793 : (Jvm.Cond.methodLink "PocketHoleLaw" (48 : Nat) ({ cls := "PocketHoleModel", name := "pence", desc := "(I)I" } : Jvm.MethodName)) ∈ wsL_law := zt_4 (List.mem_of_getElem? (i := 201) rfl) rfl
theorem zw_794 : (Jvm.Cond.instanceMethod ({ cls := "PocketHoleModel", name := "pence", desc := "(I)I" } : Jvm.MethodName)) ∈ wsL_law := zt_4 (List.mem_of_getElem? (i := 202) rfl) rfl
theorem zw_795 : (Jvm.Cond.selects "PocketHoleModel" ({ cls := "PocketHoleModel", name := "pence", desc := "(I)I" } : Jvm.MethodName) ({ cls := "PocketHoleModel", name := "pence", desc := "(I)I" } : Jvm.MethodName)) ∈ wsL_law := zt_4 (List.mem_of_getElem? (i := 203) rfl) rfl
theorem zw_796 : (Jvm.Cond.code ({ cls := "PocketHoleModel", name := "pence", desc := "(I)I" } : Jvm.MethodName) prog_7_method_31_code (2 : Nat) (Option.some Jvm.ClassFile.FieldType.int)) ∈ wsL_law := zt_4 (List.mem_of_getElem? (i := 204) rfl) rfl
theorem zw_797 : (Jvm.Cond.methodLink "PocketHoleModel" (144 : Nat) ({ cls := "PocketHoleModel", name := "sumOf", desc := "(II)I" } : Jvm.MethodName)) ∈ wsL_law := zt_4 (List.mem_of_getElem? (i := 205) rfl) rfl
theorem zw_798 : (Jvm.Cond.instanceMethod ({ cls := "PocketHoleModel", name := "sumOf", desc := "(II)I" } : Jvm.MethodName)) ∈ wsL_law := zt_4 (List.mem_of_getElem? (i := 207) rfl) rfl
theorem zw_799 : (Jvm.Cond.code ({ cls := "PocketHoleModel", name := "sumOf", desc := "(II)I" } : Jvm.MethodName) prog_7_method_29_code (5 : Nat) (Option.some Jvm.ClassFile.FieldType.int)) ∈ wsL_law := zt_4 (List.mem_of_getElem? (i := 208) rfl) rfl
theorem zw_800 : (Jvm.Cond.methodLink "PocketHoleModel" (138 : Nat) ({ cls := "PocketHoleModel", name := "has", desc := "(II)Z" } : Jvm.MethodName)) ∈ wsL_law := zt_4 (List.mem_of_getElem? (i := 209) rfl) rfl
theorem zw_801 : (Jvm.Cond.static ({ cls := "PocketHoleModel", name := "has", desc := "(II)Z" } : Jvm.MethodName)) ∈ wsL_law := zt_4 (List.mem_of_getElem? (i := 210) rfl) rfl
theorem zw_802 : (Jvm.Cond.code ({ cls := "PocketHoleModel", name := "has", desc := "(II)Z" } : Jvm.MethodName) prog_7_method_7_code (2 : Nat) (Option.some Jvm.ClassFile.FieldType.boolean)) ∈ wsL_law := zt_4 (List.mem_of_getElem? (i := 211) rfl) rfl
theorem zw_803 : (Jvm.Cond.methodLink "PocketHoleLaw" (52 : Nat) ({ cls := "PocketHoleModel", name := "steps", desc := "(I)I" } : Jvm.MethodName)) ∈ wsL_law := zt_4 (List.mem_of_getElem? (i := 212) rfl) rfl
theorem zw_804 : (Jvm.Cond.instanceMethod ({ cls := "PocketHoleModel", name := "steps", desc := "(I)I" } : Jvm.MethodName)) ∈ wsL_law := zt_4 (List.mem_of_getElem? (i := 213) rfl) rfl
theorem zw_805 : (Jvm.Cond.selects "PocketHoleModel" ({ cls := "PocketHoleModel", name := "steps", desc := "(I)I" } : Jvm.MethodName) ({ cls := "PocketHoleModel", name := "steps", desc := "(I)I" } : Jvm.MethodName)) ∈ wsL_law := zt_4 (List.mem_of_getElem? (i := 214) rfl) rfl
theorem zw_806 : (Jvm.Cond.code ({ cls := "PocketHoleModel", name := "steps", desc := "(I)I" } : Jvm.MethodName) prog_7_method_38_code (2 : Nat) (Option.some Jvm.ClassFile.FieldType.int)) ∈ wsL_law := zt_4 (List.mem_of_getElem? (i := 215) rfl) rfl
theorem zw_807 : (Jvm.Cond.methodLink "PocketHoleModel" (166 : Nat) ({ cls := "PocketHoleModel", name := "isTooLate", desc := "(I)Z" } : Jvm.MethodName)) ∈ wsL_law := zt_4 (List.mem_of_getElem? (i := 216) rfl) rfl
theorem zw_808 : (Jvm.Cond.instanceMethod ({ cls := "PocketHoleModel", name := "isTooLate", desc := "(I)Z" } : Jvm.MethodName)) ∈ wsL_law := zt_4 (List.mem_of_getElem? (i := 218) rfl) rfl
theorem zw_809 : (Jvm.Cond.code ({ cls := "PocketHoleModel", name := "isTooLate", desc := "(I)Z" } : Jvm.MethodName) prog_7_method_37_code (2 : Nat) (Option.some Jvm.ClassFile.FieldType.boolean)) ∈ wsL_law := zt_4 (List.mem_of_getElem? (i := 219) rfl) rfl
theorem zw_810 : (Jvm.Cond.constant "PocketHoleModel" (169 : Nat) (-1000005 : Int32)) ∈ wsL_law := zt_4 (List.mem_of_getElem? (i := 220) rfl) rfl
theorem zw_811 : (Jvm.Cond.methodLink "PocketHoleModel" (170 : Nat) ({ cls := "PocketHoleModel", name := "stepsGo", desc := "(I)I" } : Jvm.MethodName)) ∈ wsL_law := zt_4 (List.mem_of_getElem? (i := 221) rfl) rfl
theorem zw_812 : (Jvm.Cond.instanceMethod ({ cls := "PocketHoleModel", name := "stepsGo", desc := "(I)I" } : Jvm.MethodName)) ∈ wsL_law := zt_4 (List.mem_of_getElem? (i := 223) rfl) rfl
theorem zw_813 : (Jvm.Cond.code ({ cls := "PocketHoleModel", name := "stepsGo", desc := "(I)I" } : Jvm.MethodName) prog_7_method_36_code (6 : Nat) (Option.some Jvm.ClassFile.FieldType.int)) ∈ wsL_law := zt_4 (List.mem_of_getElem? (i := 224) rfl) rfl
theorem zw_814 : (Jvm.Cond.methodLink "PocketHoleModel" (157 : Nat) ({ cls := "PocketHoleModel", name := "bits", desc := "(I)I" } : Jvm.MethodName)) ∈ wsL_law := zt_4 (List.mem_of_getElem? (i := 225) rfl) rfl
theorem zw_815 : (Jvm.Cond.static ({ cls := "PocketHoleModel", name := "bits", desc := "(I)I" } : Jvm.MethodName)) ∈ wsL_law := zt_4 (List.mem_of_getElem? (i := 226) rfl) rfl
theorem zw_816 : (Jvm.Cond.code ({ cls := "PocketHoleModel", name := "bits", desc := "(I)I" } : Jvm.MethodName) prog_7_method_8_code (3 : Nat) (Option.some Jvm.ClassFile.FieldType.int)) ∈ wsL_law := zt_4 (List.mem_of_getElem? (i := 227) rfl) rfl
theorem zw_817 : (Jvm.Cond.methodLink "PocketHoleModel" (160 : Nat) ({ cls := "PocketHoleModel", name := "inPocket", desc := "(I)V" } : Jvm.MethodName)) ∈ wsL_law := zt_4 (List.mem_of_getElem? (i := 228) rfl) rfl
theorem zw_818 : (Jvm.Cond.instanceMethod ({ cls := "PocketHoleModel", name := "inPocket", desc := "(I)V" } : Jvm.MethodName)) ∈ wsL_law := zt_4 (List.mem_of_getElem? (i := 230) rfl) rfl
theorem zw_819 : (Jvm.Cond.code ({ cls := "PocketHoleModel", name := "inPocket", desc := "(I)V" } : Jvm.MethodName) prog_7_method_33_code (3 : Nat) (Option.none : Option Jvm.ClassFile.FieldType)) ∈ wsL_law := zt_4 (List.mem_of_getElem? (i := 231) rfl) rfl
theorem zw_820 : (Jvm.Cond.methodLink "PocketHoleModel" (147 : Nat) ({ cls := "java/lang/Math", name := "min", desc := "(II)I" } : Jvm.MethodName)) ∈ wsL_law := zt_4 (List.mem_of_getElem? (i := 232) rfl) rfl
theorem zw_821 : (Jvm.Cond.methodLink "PocketHoleModel" (150 : Nat) ({ cls := "PocketHoleModel", name := "wider", desc := "(I)V" } : Jvm.MethodName)) ∈ wsL_law := zt_4 (List.mem_of_getElem? (i := 233) rfl) rfl
theorem zw_822 : (Jvm.Cond.instanceMethod ({ cls := "PocketHoleModel", name := "wider", desc := "(I)V" } : Jvm.MethodName)) ∈ wsL_law := zt_4 (List.mem_of_getElem? (i := 235) rfl) rfl
theorem zw_823 : (Jvm.Cond.code ({ cls := "PocketHoleModel", name := "wider", desc := "(I)V" } : Jvm.MethodName) prog_7_method_32_code (2 : Nat) (Option.none : Option Jvm.ClassFile.FieldType)) ∈ wsL_law := zt_4 (List.mem_of_getElem? (i := 236) rfl) rfl
theorem zw_824 : (Jvm.Cond.methodLink "PocketHoleModel" (163 : Nat) ({ cls := "PocketHoleModel", name := "inLining", desc := "(I)V" } : Jvm.MethodName)) ∈ wsL_law := zt_4 (List.mem_of_getElem? (i := 237) rfl) rfl
theorem zw_825 : (Jvm.Cond.instanceMethod ({ cls := "PocketHoleModel", name := "inLining", desc := "(I)V" } : Jvm.MethodName)) ∈ wsL_law := zt_4 (List.mem_of_getElem? (i := 239) rfl) rfl
theorem zw_826 : (Jvm.Cond.code ({ cls := "PocketHoleModel", name := "inLining", desc := "(I)V" } : Jvm.MethodName) prog_7_method_35_code (2 : Nat) (Option.none : Option Jvm.ClassFile.FieldType)) ∈ wsL_law := zt_5 (List.mem_of_getElem? (i := 0) rfl) rfl
theorem zw_827 : (Jvm.Cond.methodLink "PocketHoleModel" (154 : Nat) ({ cls := "PocketHoleModel", name := "hasCompany", desc := "(I)Z" } : Jvm.MethodName)) ∈ wsL_law := zt_5 (List.mem_of_getElem? (i := 1) rfl) rfl
theorem zw_828 : (Jvm.Cond.instanceMethod ({ cls := "PocketHoleModel", name := "hasCompany", desc := "(I)Z" } : Jvm.MethodName)) ∈ wsL_law := zt_5 (List.mem_of_getElem? (i := 3) rfl) rfl
theorem zw_829 : (Jvm.Cond.code ({ cls := "PocketHoleModel", name := "hasCompany", desc := "(I)Z" } : Jvm.MethodName) prog_7_method_34_code (4 : Nat) (Option.some Jvm.ClassFile.FieldType.boolean)) ∈ wsL_law := zt_5 (List.mem_of_getElem? (i := 4) rfl) rfl
theorem zw_830 : (Jvm.Cond.methodLink "PocketHoleLaw" (56 : Nat) ({ cls := "PocketHoleModel", name := "now", desc := "(I)I" } : Jvm.MethodName)) ∈ wsL_law := zt_5 (List.mem_of_getElem? (i := 5) rfl) rfl
theorem zw_831 : (Jvm.Cond.instanceMethod ({ cls := "PocketHoleModel", name := "now", desc := "(I)I" } : Jvm.MethodName)) ∈ wsL_law := zt_5 (List.mem_of_getElem? (i := 6) rfl) rfl
theorem zw_832 : (Jvm.Cond.selects "PocketHoleModel" ({ cls := "PocketHoleModel", name := "now", desc := "(I)I" } : Jvm.MethodName) ({ cls := "PocketHoleModel", name := "now", desc := "(I)I" } : Jvm.MethodName)) ∈ wsL_law := zt_5 (List.mem_of_getElem? (i := 7) rfl) rfl
theorem zw_833 : (Jvm.Cond.code ({ cls := "PocketHoleModel", name := "now", desc := "(I)I" } : Jvm.MethodName) prog_7_method_40_code (2 : Nat) (Option.some Jvm.ClassFile.FieldType.int)) ∈ wsL_law := zt_5 (List.mem_of_getElem? (i := 8) rfl) rfl
theorem zw_834 : (Jvm.Cond.methodLink "PocketHoleModel" (173 : Nat) ({ cls := "PocketHoleModel", name := "clinks", desc := "()I" } : Jvm.MethodName)) ∈ wsL_law := zt_5 (List.mem_of_getElem? (i := 9) rfl) rfl
theorem zw_835 : (Jvm.Cond.instanceMethod ({ cls := "PocketHoleModel", name := "clinks", desc := "()I" } : Jvm.MethodName)) ∈ wsL_law := zt_5 (List.mem_of_getElem? (i := 11) rfl) rfl
theorem zw_836 : (Jvm.Cond.code ({ cls := "PocketHoleModel", name := "clinks", desc := "()I" } : Jvm.MethodName) prog_7_method_39_code (4 : Nat) (Option.some Jvm.ClassFile.FieldType.int)) ∈ wsL_law := zt_5 (List.mem_of_getElem? (i := 12) rfl) rfl
theorem zw_837 : (Jvm.Cond.methodLink "PocketHoleLaw" (60 : Nat) ({ cls := "PocketHoleModel", name := "ahead", desc := "(II)I" } : Jvm.MethodName)) ∈ wsL_law := zt_5 (List.mem_of_getElem? (i := 13) rfl) rfl
theorem zw_838 : (Jvm.Cond.instanceMethod ({ cls := "PocketHoleModel", name := "ahead", desc := "(II)I" } : Jvm.MethodName)) ∈ wsL_law := zt_5 (List.mem_of_getElem? (i := 14) rfl) rfl
theorem zw_839 : (Jvm.Cond.selects "PocketHoleModel" ({ cls := "PocketHoleModel", name := "ahead", desc := "(II)I" } : Jvm.MethodName) ({ cls := "PocketHoleModel", name := "ahead", desc := "(II)I" } : Jvm.MethodName)) ∈ wsL_law := zt_5 (List.mem_of_getElem? (i := 15) rfl) rfl
theorem zw_840 : (Jvm.Cond.code ({ cls := "PocketHoleModel", name := "ahead", desc := "(II)I" } : Jvm.MethodName) prog_7_method_41_code (6 : Nat) (Option.some Jvm.ClassFile.FieldType.int)) ∈ wsL_law := zt_5 (List.mem_of_getElem? (i := 16) rfl) rfl
theorem zw_841 : (Jvm.Cond.methodLink "PocketHoleModel" (74 : Nat) ({ cls := "PocketHoleModel", name := "copyRow", desc := "([I[I)V" } : Jvm.MethodName)) ∈ wsL_law := zt_5 (List.mem_of_getElem? (i := 17) rfl) rfl
theorem zw_842 : (Jvm.Cond.static ({ cls := "PocketHoleModel", name := "copyRow", desc := "([I[I)V" } : Jvm.MethodName)) ∈ wsL_law := zt_5 (List.mem_of_getElem? (i := 18) rfl) rfl
theorem zw_843 : (Jvm.Cond.code ({ cls := "PocketHoleModel", name := "copyRow", desc := "([I[I)V" } : Jvm.MethodName) prog_7_method_5_code (3 : Nat) (Option.none : Option Jvm.ClassFile.FieldType)) ∈ wsL_law := zt_5 (List.mem_of_getElem? (i := 19) rfl) rfl
theorem zw_844 : (Jvm.Cond.methodLink "PocketHoleModel" (177 : Nat) ({ cls := "PocketHoleModel", name := "putBack", desc := "(I)I" } : Jvm.MethodName)) ∈ wsL_law := zt_5 (List.mem_of_getElem? (i := 20) rfl) rfl
theorem zw_845 : (Jvm.Cond.instanceMethod ({ cls := "PocketHoleModel", name := "putBack", desc := "(I)I" } : Jvm.MethodName)) ∈ wsL_law := zt_5 (List.mem_of_getElem? (i := 22) rfl) rfl
theorem zw_846 : (Jvm.Cond.code ({ cls := "PocketHoleModel", name := "putBack", desc := "(I)I" } : Jvm.MethodName) prog_7_method_6_code (2 : Nat) (Option.some Jvm.ClassFile.FieldType.int)) ∈ wsL_law := zt_5 (List.mem_of_getElem? (i := 23) rfl) rfl
theorem zw_847 : (Jvm.Cond.methodLink "PocketHoleLaw" (64 : Nat) ({ cls := "PocketHoleModel", name := "when", desc := "(I)I" } : Jvm.MethodName)) ∈ wsL_law := zt_5 (List.mem_of_getElem? (i := 24) rfl) rfl
theorem zw_848 : (Jvm.Cond.instanceMethod ({ cls := "PocketHoleModel", name := "when", desc := "(I)I" } : Jvm.MethodName)) ∈ wsL_law := zt_5 (List.mem_of_getElem? (i := 25) rfl) rfl
theorem zw_849 : (Jvm.Cond.selects "PocketHoleModel" ({ cls := "PocketHoleModel", name := "when", desc := "(I)I" } : Jvm.MethodName) ({ cls := "PocketHoleModel", name := "when", desc := "(I)I" } : Jvm.MethodName)) ∈ wsL_law := zt_5 (List.mem_of_getElem? (i := 26) rfl) rfl
theorem zw_850 : (Jvm.Cond.code ({ cls := "PocketHoleModel", name := "when", desc := "(I)I" } : Jvm.MethodName) prog_7_method_45_code (2 : Nat) (Option.some Jvm.ClassFile.FieldType.int)) ∈ wsL_law := zt_5 (List.mem_of_getElem? (i := 27) rfl) rfl
theorem zw_851 : (Jvm.Cond.methodLink "PocketHoleModel" (189 : Nat) ({ cls := "PocketHoleModel", name := "tillTold", desc := "(IZ)I" } : Jvm.MethodName)) ∈ wsL_law := zt_5 (List.mem_of_getElem? (i := 28) rfl) rfl
theorem zw_852 : (Jvm.Cond.instanceMethod ({ cls := "PocketHoleModel", name := "tillTold", desc := "(IZ)I" } : Jvm.MethodName)) ∈ wsL_law := zt_5 (List.mem_of_getElem? (i := 30) rfl) rfl
theorem zw_853 : (Jvm.Cond.code ({ cls := "PocketHoleModel", name := "tillTold", desc := "(IZ)I" } : Jvm.MethodName) prog_7_method_44_code (4 : Nat) (Option.some Jvm.ClassFile.FieldType.int)) ∈ wsL_law := zt_5 (List.mem_of_getElem? (i := 31) rfl) rfl
theorem zw_854 : (Jvm.Cond.methodLink "PocketHoleModel" (180 : Nat) ({ cls := "PocketHoleModel", name := "isLate", desc := "()Z" } : Jvm.MethodName)) ∈ wsL_law := zt_5 (List.mem_of_getElem? (i := 32) rfl) rfl
theorem zw_855 : (Jvm.Cond.instanceMethod ({ cls := "PocketHoleModel", name := "isLate", desc := "()Z" } : Jvm.MethodName)) ∈ wsL_law := zt_5 (List.mem_of_getElem? (i := 34) rfl) rfl
theorem zw_856 : (Jvm.Cond.code ({ cls := "PocketHoleModel", name := "isLate", desc := "()Z" } : Jvm.MethodName) prog_7_method_42_code (1 : Nat) (Option.some Jvm.ClassFile.FieldType.boolean)) ∈ wsL_law := zt_5 (List.mem_of_getElem? (i := 35) rfl) rfl
theorem zw_857 : (Jvm.Cond.methodLink "PocketHoleModel" (184 : Nat) ({ cls := "PocketHoleModel", name := "till", desc := "(IZ)I" } : Jvm.MethodName)) ∈ wsL_law := zt_5 (List.mem_of_getElem? (i := 36) rfl) rfl
theorem zw_858 : (Jvm.Cond.instanceMethod ({ cls := "PocketHoleModel", name := "till", desc := "(IZ)I" } : Jvm.MethodName)) ∈ wsL_law := zt_5 (List.mem_of_getElem? (i := 38) rfl) rfl
theorem zw_859 : (Jvm.Cond.code ({ cls := "PocketHoleModel", name := "till", desc := "(IZ)I" } : Jvm.MethodName) prog_7_method_43_code (6 : Nat) (Option.some Jvm.ClassFile.FieldType.int)) ∈ wsL_law := zt_5 (List.mem_of_getElem? (i := 39) rfl) rfl
theorem zw_860 : (Jvm.Cond.constant "PocketHoleModel" (188 : Nat) (-1000004 : Int32)) ∈ wsL_law := zt_5 (List.mem_of_getElem? (i := 40) rfl) rfl
theorem zw_861 : (Jvm.Cond.methodLink "PocketHoleLaw" (68 : Nat) ({ cls := "PocketHoleModel", name := "falls", desc := "(I)I" } : Jvm.MethodName)) ∈ wsL_law := zt_5 (List.mem_of_getElem? (i := 41) rfl) rfl
theorem zw_862 : (Jvm.Cond.instanceMethod ({ cls := "PocketHoleModel", name := "falls", desc := "(I)I" } : Jvm.MethodName)) ∈ wsL_law := zt_5 (List.mem_of_getElem? (i := 42) rfl) rfl
theorem zw_863 : (Jvm.Cond.selects "PocketHoleModel" ({ cls := "PocketHoleModel", name := "falls", desc := "(I)I" } : Jvm.MethodName) ({ cls := "PocketHoleModel", name := "falls", desc := "(I)I" } : Jvm.MethodName)) ∈ wsL_law := zt_5 (List.mem_of_getElem? (i := 43) rfl) rfl
theorem zw_864 : (Jvm.Cond.code ({ cls := "PocketHoleModel", name := "falls", desc := "(I)I" } : Jvm.MethodName) prog_7_method_46_code (2 : Nat) (Option.some Jvm.ClassFile.FieldType.int)) ∈ wsL_law := zt_5 (List.mem_of_getElem? (i := 44) rfl) rfl
theorem zw_865 : (Jvm.Cond.methodLink "PocketHoleLaw" (72 : Nat) ({ cls := "PocketHoleModel", name := "first", desc := "()I" } : Jvm.MethodName)) ∈ wsL_law := zt_5 (List.mem_of_getElem? (i := 45) rfl) rfl
theorem zw_866 : (Jvm.Cond.instanceMethod ({ cls := "PocketHoleModel", name := "first", desc := "()I" } : Jvm.MethodName)) ∈ wsL_law := zt_5 (List.mem_of_getElem? (i := 46) rfl) rfl
theorem zw_867 : (Jvm.Cond.selects "PocketHoleModel" ({ cls := "PocketHoleModel", name := "first", desc := "()I" } : Jvm.MethodName) ({ cls := "PocketHoleModel", name := "first", desc := "()I" } : Jvm.MethodName)) ∈ wsL_law := zt_5 (List.mem_of_getElem? (i := 47) rfl) rfl
theorem zw_868 : (Jvm.Cond.code ({ cls := "PocketHoleModel", name := "first", desc := "()I" } : Jvm.MethodName) prog_7_method_47_code (5 : Nat) (Option.some Jvm.ClassFile.FieldType.int)) ∈ wsL_law := zt_5 (List.mem_of_getElem? (i := 48) rfl) rfl
theorem zw_869 : (Jvm.Cond.methodLink "PocketHoleLaw" (76 : Nat) ({ cls := "PocketHoleModel", name := "cell", desc := "(II)I" } : Jvm.MethodName)) ∈ wsL_law := zt_5 (List.mem_of_getElem? (i := 49) rfl) rfl
theorem zw_870 : (Jvm.Cond.instanceMethod ({ cls := "PocketHoleModel", name := "cell", desc := "(II)I" } : Jvm.MethodName)) ∈ wsL_law := zt_5 (List.mem_of_getElem? (i := 50) rfl) rfl
theorem zw_871 : (Jvm.Cond.selects "PocketHoleModel" ({ cls := "PocketHoleModel", name := "cell", desc := "(II)I" } : Jvm.MethodName) ({ cls := "PocketHoleModel", name := "cell", desc := "(II)I" } : Jvm.MethodName)) ∈ wsL_law := zt_5 (List.mem_of_getElem? (i := 51) rfl) rfl
theorem zw_872 : (Jvm.Cond.code ({ cls := "PocketHoleModel", name := "cell", desc := "(II)I" } : Jvm.MethodName) prog_7_method_48_code (5 : Nat) (Option.some Jvm.ClassFile.FieldType.int)) ∈ wsL_law := zt_5 (List.mem_of_getElem? (i := 52) rfl) rfl
theorem zw_873 : (Jvm.Cond.methodLink "PocketHoleLaw" (80 : Nat) ({ cls := "PocketHoleModel", name := "bears", desc := "(II)I" } : Jvm.MethodName)) ∈ wsL_law := zt_5 (List.mem_of_getElem? (i := 53) rfl) rfl
theorem zw_874 : (Jvm.Cond.instanceMethod ({ cls := "PocketHoleModel", name := "bears", desc := "(II)I" } : Jvm.MethodName)) ∈ wsL_law := zt_5 (List.mem_of_getElem? (i := 54) rfl) rfl
theorem zw_875 : (Jvm.Cond.selects "PocketHoleModel" ({ cls := "PocketHoleModel", name := "bears", desc := "(II)I" } : Jvm.MethodName) ({ cls := "PocketHoleModel", name := "bears", desc := "(II)I" } : Jvm.MethodName)) ∈ wsL_law := zt_5 (List.mem_of_getElem? (i := 55) rfl) rfl
theorem zw_876 : (Jvm.Cond.code ({ cls := "PocketHoleModel", name := "bears", desc := "(II)I" } : Jvm.MethodName) prog_7_method_50_code (6 : Nat) (Option.some Jvm.ClassFile.FieldType.int)) ∈ wsL_law := zt_5 (List.mem_of_getElem? (i := 56) rfl) rfl
theorem zw_877 : (Jvm.Cond.methodLink "PocketHoleLaw" (84 : Nat) ({ cls := "PocketHoleModel", name := "latest", desc := "(II)I" } : Jvm.MethodName)) ∈ wsL_law := zt_5 (List.mem_of_getElem? (i := 57) rfl) rfl
theorem zw_878 : (Jvm.Cond.instanceMethod ({ cls := "PocketHoleModel", name := "latest", desc := "(II)I" } : Jvm.MethodName)) ∈ wsL_law := zt_5 (List.mem_of_getElem? (i := 58) rfl) rfl
theorem zw_879 : (Jvm.Cond.selects "PocketHoleModel" ({ cls := "PocketHoleModel", name := "latest", desc := "(II)I" } : Jvm.MethodName) ({ cls := "PocketHoleModel", name := "latest", desc := "(II)I" } : Jvm.MethodName)) ∈ wsL_law := zt_5 (List.mem_of_getElem? (i := 59) rfl) rfl
theorem zw_880 : (Jvm.Cond.code ({ cls := "PocketHoleModel", name := "latest", desc := "(II)I" } : Jvm.MethodName) prog_7_method_52_code (8 : Nat) (Option.some Jvm.ClassFile.FieldType.int)) ∈ wsL_law := zt_5 (List.mem_of_getElem? (i := 60) rfl) rfl
theorem zw_881 : (Jvm.Cond.methodLink "PocketHoleModel" (192 : Nat) ({ cls := "PocketHoleModel", name := "refuses", desc := "(ZII)I" } : Jvm.MethodName)) ∈ wsL_law := zt_5 (List.mem_of_getElem? (i := 61) rfl) rfl
theorem zw_882 : (Jvm.Cond.instanceMethod ({ cls := "PocketHoleModel", name := "refuses", desc := "(ZII)I" } : Jvm.MethodName)) ∈ wsL_law := zt_5 (List.mem_of_getElem? (i := 63) rfl) rfl
theorem zw_883 : (Jvm.Cond.code ({ cls := "PocketHoleModel", name := "refuses", desc := "(ZII)I" } : Jvm.MethodName) prog_7_method_49_code (4 : Nat) (Option.some Jvm.ClassFile.FieldType.int)) ∈ wsL_law := zt_5 (List.mem_of_getElem? (i := 64) rfl) rfl
theorem zw_884 : (Jvm.Cond.methodLink "PocketHoleModel" (196 : Nat) ({ cls := "PocketHoleModel", name := "lostThen", desc := "(II)I" } : Jvm.MethodName)) ∈ wsL_law := zt_5 (List.mem_of_getElem? (i := 65) rfl) rfl
theorem zw_885 : (Jvm.Cond.instanceMethod ({ cls := "PocketHoleModel", name := "lostThen", desc := "(II)I" } : Jvm.MethodName)) ∈ wsL_law := zt_5 (List.mem_of_getElem? (i := 67) rfl) rfl
theorem zw_886 : (Jvm.Cond.code ({ cls := "PocketHoleModel", name := "lostThen", desc := "(II)I" } : Jvm.MethodName) prog_7_method_51_code (5 : Nat) (Option.some Jvm.ClassFile.FieldType.int)) ∈ wsL_law := zt_5 (List.mem_of_getElem? (i := 68) rfl) rfl
theorem zw_887 : (Jvm.Cond.methodLink "PocketHoleLaw" (88 : Nat) ({ cls := "PocketHoleModel", name := "carry", desc := "(I)I" } : Jvm.MethodName)) ∈ wsL_law := zt_5 (List.mem_of_getElem? (i := 69) rfl) rfl
theorem zw_888 : (Jvm.Cond.instanceMethod ({ cls := "PocketHoleModel", name := "carry", desc := "(I)I" } : Jvm.MethodName)) ∈ wsL_law := zt_5 (List.mem_of_getElem? (i := 70) rfl) rfl
theorem zw_889 : (Jvm.Cond.selects "PocketHoleModel" ({ cls := "PocketHoleModel", name := "carry", desc := "(I)I" } : Jvm.MethodName) ({ cls := "PocketHoleModel", name := "carry", desc := "(I)I" } : Jvm.MethodName)) ∈ wsL_law := zt_5 (List.mem_of_getElem? (i := 71) rfl) rfl
theorem zw_890 : (Jvm.Cond.code ({ cls := "PocketHoleModel", name := "carry", desc := "(I)I" } : Jvm.MethodName) prog_7_method_54_code (3 : Nat) (Option.some Jvm.ClassFile.FieldType.int)) ∈ wsL_law := zt_5 (List.mem_of_getElem? (i := 72) rfl) rfl
theorem zw_891 : (Jvm.Cond.methodLink "PocketHoleModel" (206 : Nat) ({ cls := "PocketHoleModel", name := "findCarry", desc := "(I)V" } : Jvm.MethodName)) ∈ wsL_law := zt_5 (List.mem_of_getElem? (i := 73) rfl) rfl
theorem zw_892 : (Jvm.Cond.instanceMethod ({ cls := "PocketHoleModel", name := "findCarry", desc := "(I)V" } : Jvm.MethodName)) ∈ wsL_law := zt_5 (List.mem_of_getElem? (i := 75) rfl) rfl
theorem zw_893 : (Jvm.Cond.code ({ cls := "PocketHoleModel", name := "findCarry", desc := "(I)V" } : Jvm.MethodName) prog_7_method_53_code (7 : Nat) (Option.none : Option Jvm.ClassFile.FieldType)) ∈ wsL_law := zt_5 (List.mem_of_getElem? (i := 76) rfl) rfl
theorem zw_894 : (Jvm.Cond.methodLink "PocketHoleLaw" (92 : Nat) ({ cls := "PocketHoleModel", name := "carried", desc := "(I)I" } : Jvm.MethodName)) ∈ wsL_law := zt_5 (List.mem_of_getElem? (i := 77) rfl) rfl
theorem zw_895 : (Jvm.Cond.instanceMethod ({ cls := "PocketHoleModel", name := "carried", desc := "(I)I" } : Jvm.MethodName)) ∈ wsL_law := zt_5 (List.mem_of_getElem? (i := 78) rfl) rfl
theorem zw_896 : (Jvm.Cond.selects "PocketHoleModel" ({ cls := "PocketHoleModel", name := "carried", desc := "(I)I" } : Jvm.MethodName) ({ cls := "PocketHoleModel", name := "carried", desc := "(I)I" } : Jvm.MethodName)) ∈ wsL_law := zt_5 (List.mem_of_getElem? (i := 79) rfl) rfl
theorem zw_897 : (Jvm.Cond.code ({ cls := "PocketHoleModel", name := "carried", desc := "(I)I" } : Jvm.MethodName) prog_7_method_55_code (3 : Nat) (Option.some Jvm.ClassFile.FieldType.int)) ∈ wsL_law := zt_5 (List.mem_of_getElem? (i := 80) rfl) rfl
theorem zw_898 : (Jvm.Cond.methodLink "PocketHoleLaw" (96 : Nat) ({ cls := "PocketHoleModel", name := "kindFor", desc := "(I)I" } : Jvm.MethodName)) ∈ wsL_law := zt_5 (List.mem_of_getElem? (i := 81) rfl) rfl
theorem zw_899 : (Jvm.Cond.instanceMethod ({ cls := "PocketHoleModel", name := "kindFor", desc := "(I)I" } : Jvm.MethodName)) ∈ wsL_law := zt_5 (List.mem_of_getElem? (i := 82) rfl) rfl
theorem zw_900 : (Jvm.Cond.selects "PocketHoleModel" ({ cls := "PocketHoleModel", name := "kindFor", desc := "(I)I" } : Jvm.MethodName) ({ cls := "PocketHoleModel", name := "kindFor", desc := "(I)I" } : Jvm.MethodName)) ∈ wsL_law := zt_5 (List.mem_of_getElem? (i := 83) rfl) rfl
theorem zw_901 : (Jvm.Cond.code ({ cls := "PocketHoleModel", name := "kindFor", desc := "(I)I" } : Jvm.MethodName) prog_7_method_56_code (7 : Nat) (Option.some Jvm.ClassFile.FieldType.int)) ∈ wsL_law := zt_5 (List.mem_of_getElem? (i := 84) rfl) rfl
theorem zw_902 : (Jvm.Cond.methodLink "PocketHoleLaw" (100 : Nat) ({ cls := "PocketHoleModel", name := "worst", desc := "(I)I" } : Jvm.MethodName)) ∈ wsL_law := zt_5 (List.mem_of_getElem? (i := 85) rfl) rfl
theorem zw_903 : (Jvm.Cond.instanceMethod ({ cls := "PocketHoleModel", name := "worst", desc := "(I)I" } : Jvm.MethodName)) ∈ wsL_law := zt_5 (List.mem_of_getElem? (i := 86) rfl) rfl
theorem zw_904 : (Jvm.Cond.selects "PocketHoleModel" ({ cls := "PocketHoleModel", name := "worst", desc := "(I)I" } : Jvm.MethodName) ({ cls := "PocketHoleModel", name := "worst", desc := "(I)I" } : Jvm.MethodName)) ∈ wsL_law := zt_5 (List.mem_of_getElem? (i := 87) rfl) rfl
theorem zw_905 : (Jvm.Cond.code ({ cls := "PocketHoleModel", name := "worst", desc := "(I)I" } : Jvm.MethodName) prog_7_method_57_code (9 : Nat) (Option.some Jvm.ClassFile.FieldType.int)) ∈ wsL_law := zt_5 (List.mem_of_getElem? (i := 88) rfl) rfl
theorem zw_906 : (Jvm.Cond.methodLink "PocketHoleLaw" (104 : Nat) ({ cls := "PocketHoleModel", name := "hem", desc := "(I)I" } : Jvm.MethodName)) ∈ wsL_law := zt_5 (List.mem_of_getElem? (i := 89) rfl) rfl
theorem zw_907 : (Jvm.Cond.instanceMethod ({ cls := "PocketHoleModel", name := "hem", desc := "(I)I" } : Jvm.MethodName)) ∈ wsL_law := zt_5 (List.mem_of_getElem? (i := 90) rfl) rfl
theorem zw_908 : (Jvm.Cond.selects "PocketHoleModel" ({ cls := "PocketHoleModel", name := "hem", desc := "(I)I" } : Jvm.MethodName) ({ cls := "PocketHoleModel", name := "hem", desc := "(I)I" } : Jvm.MethodName)) ∈ wsL_law := zt_5 (List.mem_of_getElem? (i := 91) rfl) rfl
theorem zw_909 : (Jvm.Cond.code ({ cls := "PocketHoleModel", name := "hem", desc := "(I)I" } : Jvm.MethodName) prog_7_method_58_code (8 : Nat) (Option.some Jvm.ClassFile.FieldType.int)) ∈ wsL_law := zt_5 (List.mem_of_getElem? (i := 92) rfl) rfl
theorem zw_910 : (Jvm.Cond.methodLink "PocketHoleLaw" (108 : Nat) ({ cls := "PocketHoleModel", name := "pay", desc := "(I)I" } : Jvm.MethodName)) ∈ wsL_law := zt_5 (List.mem_of_getElem? (i := 93) rfl) rfl
theorem zw_911 : (Jvm.Cond.instanceMethod ({ cls := "PocketHoleModel", name := "pay", desc := "(I)I" } : Jvm.MethodName)) ∈ wsL_law := zt_5 (List.mem_of_getElem? (i := 94) rfl) rfl
theorem zw_912 : (Jvm.Cond.selects "PocketHoleModel" ({ cls := "PocketHoleModel", name := "pay", desc := "(I)I" } : Jvm.MethodName) ({ cls := "PocketHoleModel", name := "pay", desc := "(I)I" } : Jvm.MethodName)) ∈ wsL_law := zt_5 (List.mem_of_getElem? (i := 95) rfl) rfl
theorem zw_913 : (Jvm.Cond.code ({ cls := "PocketHoleModel", name := "pay", desc := "(I)I" } : Jvm.MethodName) prog_7_method_61_code (3 : Nat) (Option.some Jvm.ClassFile.FieldType.int)) ∈ wsL_law := zt_5 (List.mem_of_getElem? (i := 96) rfl) rfl
theorem zw_914 : (Jvm.Cond.methodLink "PocketHoleModel" (209 : Nat) ({ cls := "PocketHoleModel", name := "payWith", desc := "(IIZ)I" } : Jvm.MethodName)) ∈ wsL_law := zt_5 (List.mem_of_getElem? (i := 97) rfl) rfl
theorem zw_915 : (Jvm.Cond.instanceMethod ({ cls := "PocketHoleModel", name := "payWith", desc := "(IIZ)I" } : Jvm.MethodName)) ∈ wsL_law := zt_5 (List.mem_of_getElem? (i := 99) rfl) rfl
theorem zw_916 : (Jvm.Cond.code ({ cls := "PocketHoleModel", name := "payWith", desc := "(IIZ)I" } : Jvm.MethodName) prog_7_method_60_code (9 : Nat) (Option.some Jvm.ClassFile.FieldType.int)) ∈ wsL_law := zt_5 (List.mem_of_getElem? (i := 100) rfl) rfl
theorem zw_917 : (Jvm.Cond.methodLink "PocketHoleLaw" (112 : Nat) ({ cls := "PocketHoleModel", name := "small", desc := "(I)I" } : Jvm.MethodName)) ∈ wsL_law := zt_5 (List.mem_of_getElem? (i := 101) rfl) rfl
theorem zw_918 : (Jvm.Cond.instanceMethod ({ cls := "PocketHoleModel", name := "small", desc := "(I)I" } : Jvm.MethodName)) ∈ wsL_law := zt_5 (List.mem_of_getElem? (i := 102) rfl) rfl
theorem zw_919 : (Jvm.Cond.selects "PocketHoleModel" ({ cls := "PocketHoleModel", name := "small", desc := "(I)I" } : Jvm.MethodName) ({ cls := "PocketHoleModel", name := "small", desc := "(I)I" } : Jvm.MethodName)) ∈ wsL_law := zt_5 (List.mem_of_getElem? (i := 103) rfl) rfl
theorem zw_920 : (Jvm.Cond.code ({ cls := "PocketHoleModel", name := "small", desc := "(I)I" } : Jvm.MethodName) prog_7_method_62_code (3 : Nat) (Option.some Jvm.ClassFile.FieldType.int)) ∈ wsL_law := zt_5 (List.mem_of_getElem? (i := 104) rfl) rfl
theorem zw_921 : (Jvm.Cond.methodLink "PocketHoleModel" (213 : Nat) ({ cls := "PocketHoleModel", name := "thin", desc := "()I" } : Jvm.MethodName)) ∈ wsL_law := zt_5 (List.mem_of_getElem? (i := 105) rfl) rfl
theorem zw_922 : (Jvm.Cond.instanceMethod ({ cls := "PocketHoleModel", name := "thin", desc := "()I" } : Jvm.MethodName)) ∈ wsL_law := zt_5 (List.mem_of_getElem? (i := 107) rfl) rfl
theorem zw_923 : (Jvm.Cond.code ({ cls := "PocketHoleModel", name := "thin", desc := "()I" } : Jvm.MethodName) prog_7_method_59_code (3 : Nat) (Option.some Jvm.ClassFile.FieldType.int)) ∈ wsL_law := zt_5 (List.mem_of_getElem? (i := 108) rfl) rfl
theorem zw_924 : (Jvm.Cond.methodLink "PocketHoleLaw" (116 : Nat) ({ cls := "PocketHoleModel", name := "paid", desc := "(I)I" } : Jvm.MethodName)) ∈ wsL_law := zt_5 (List.mem_of_getElem? (i := 109) rfl) rfl
theorem zw_925 : (Jvm.Cond.instanceMethod ({ cls := "PocketHoleModel", name := "paid", desc := "(I)I" } : Jvm.MethodName)) ∈ wsL_law := zt_5 (List.mem_of_getElem? (i := 110) rfl) rfl
theorem zw_926 : (Jvm.Cond.selects "PocketHoleModel" ({ cls := "PocketHoleModel", name := "paid", desc := "(I)I" } : Jvm.MethodName) ({ cls := "PocketHoleModel", name := "paid", desc := "(I)I" } : Jvm.MethodName)) ∈ wsL_law := zt_5 (List.mem_of_getElem? (i := 111) rfl) rfl
theorem zw_927 : (Jvm.Cond.code ({ cls := "PocketHoleModel", name := "paid", desc := "(I)I" } : Jvm.MethodName) prog_7_method_64_code (4 : Nat) (Option.some Jvm.ClassFile.FieldType.int)) ∈ wsL_law := zt_5 (List.mem_of_getElem? (i := 112) rfl) rfl
theorem zw_928 : (Jvm.Cond.methodLink "PocketHoleModel" (216 : Nat) ({ cls := "PocketHoleModel", name := "isSet", desc := "(I)Z" } : Jvm.MethodName)) ∈ wsL_law := zt_5 (List.mem_of_getElem? (i := 113) rfl) rfl
theorem zw_929 : (Jvm.Cond.instanceMethod ({ cls := "PocketHoleModel", name := "isSet", desc := "(I)Z" } : Jvm.MethodName)) ∈ wsL_law := zt_5 (List.mem_of_getElem? (i := 115) rfl) rfl
theorem zw_930 : (Jvm.Cond.code ({ cls := "PocketHoleModel", name := "isSet", desc := "(I)Z" } : Jvm.MethodName) prog_7_method_63_code (2 : Nat) (Option.some Jvm.ClassFile.FieldType.boolean)) ∈ wsL_law := zt_5 (List.mem_of_getElem? (i := 116) rfl) rfl
theorem zw_931 : (Jvm.Cond.methodLink "PocketHoleLaw" (120 : Nat) ({ cls := "PocketHoleModel", name := "sums", desc := "()I" } : Jvm.MethodName)) ∈ wsL_law := zt_5 (List.mem_of_getElem? (i := 117) rfl) rfl
theorem zw_932 : (Jvm.Cond.instanceMethod ({ cls := "PocketHoleModel", name := "sums", desc := "()I" } : Jvm.MethodName)) ∈ wsL_law := zt_5 (List.mem_of_getElem? (i := 118) rfl) rfl
theorem zw_933 : (Jvm.Cond.selects "PocketHoleModel" ({ cls := "PocketHoleModel", name := "sums", desc := "()I" } : Jvm.MethodName) ({ cls := "PocketHoleModel", name := "sums", desc := "()I" } : Jvm.MethodName)) ∈ wsL_law := zt_5 (List.mem_of_getElem? (i := 119) rfl) rfl
theorem zw_934 : (Jvm.Cond.code ({ cls := "PocketHoleModel", name := "sums", desc := "()I" } : Jvm.MethodName) prog_7_method_65_code (4 : Nat) (Option.some Jvm.ClassFile.FieldType.int)) ∈ wsL_law := zt_5 (List.mem_of_getElem? (i := 120) rfl) rfl
theorem zw_935 : (Jvm.Cond.methodLink "PocketHoleLaw" (124 : Nat) ({ cls := "PocketHoleModel", name := "fits", desc := "(II)I" } : Jvm.MethodName)) ∈ wsL_law := zt_5 (List.mem_of_getElem? (i := 121) rfl) rfl
theorem zw_936 : (Jvm.Cond.instanceMethod ({ cls := "PocketHoleModel", name := "fits", desc := "(II)I" } : Jvm.MethodName)) ∈ wsL_law := zt_5 (List.mem_of_getElem? (i := 122) rfl) rfl
theorem zw_937 : (Jvm.Cond.selects "PocketHoleModel" ({ cls := "PocketHoleModel", name := "fits", desc := "(II)I" } : Jvm.MethodName) ({ cls := "PocketHoleModel", name := "fits", desc := "(II)I" } : Jvm.MethodName)) ∈ wsL_law := zt_5 (List.mem_of_getElem? (i := 123) rfl) rfl
theorem zw_938 : (Jvm.Cond.code ({ cls := "PocketHoleModel", name := "fits", desc := "(II)I" } : Jvm.MethodName) prog_7_method_67_code (4 : Nat) (Option.some Jvm.ClassFile.FieldType.int)) ∈ wsL_law := zt_5 (List.mem_of_getElem? (i := 124) rfl) rfl
theorem zw_939 : (Jvm.Cond.methodLink "PocketHoleModel" (222 : Nat) ({ cls := "PocketHoleModel", name := "holesFor", desc := "(II)I" } : Jvm.MethodName)) ∈ wsL_law := zt_5 (List.mem_of_getElem? (i := 125) rfl) rfl
theorem zw_940 : (Jvm.Cond.instanceMethod ({ cls := "PocketHoleModel", name := "holesFor", desc := "(II)I" } : Jvm.MethodName)) ∈ wsL_law := zt_5 (List.mem_of_getElem? (i := 127) rfl) rfl
theorem zw_941 : (Jvm.Cond.code ({ cls := "PocketHoleModel", name := "holesFor", desc := "(II)I" } : Jvm.MethodName) prog_7_method_66_code (7 : Nat) (Option.some Jvm.ClassFile.FieldType.int)) ∈ wsL_law := zt_5 (List.mem_of_getElem? (i := 128) rfl) rfl
theorem zw_942 : (Jvm.Cond.methodLink "PocketHoleLaw" (128 : Nat) ({ cls := "PocketHoleModel", name := "size", desc := "(II)I" } : Jvm.MethodName)) ∈ wsL_law := zt_5 (List.mem_of_getElem? (i := 129) rfl) rfl
theorem zw_943 : (Jvm.Cond.instanceMethod ({ cls := "PocketHoleModel", name := "size", desc := "(II)I" } : Jvm.MethodName)) ∈ wsL_law := zt_5 (List.mem_of_getElem? (i := 130) rfl) rfl
theorem zw_944 : (Jvm.Cond.selects "PocketHoleModel" ({ cls := "PocketHoleModel", name := "size", desc := "(II)I" } : Jvm.MethodName) ({ cls := "PocketHoleModel", name := "size", desc := "(II)I" } : Jvm.MethodName)) ∈ wsL_law := zt_5 (List.mem_of_getElem? (i := 131) rfl) rfl
theorem zw_945 : (Jvm.Cond.code ({ cls := "PocketHoleModel", name := "size", desc := "(II)I" } : Jvm.MethodName) prog_7_method_68_code (4 : Nat) (Option.some Jvm.ClassFile.FieldType.int)) ∈ wsL_law := zt_5 (List.mem_of_getElem? (i := 132) rfl) rfl
theorem zw_946 : (Jvm.Cond.methodLink "PocketHoleLaw" (132 : Nat) ({ cls := "PocketHoleModel", name := "began", desc := "(I)I" } : Jvm.MethodName)) ∈ wsL_law := zt_5 (List.mem_of_getElem? (i := 133) rfl) rfl
theorem zw_947 : (Jvm.Cond.instanceMethod ({ cls := "PocketHoleModel", name := "began", desc := "(I)I" } : Jvm.MethodName)) ∈ wsL_law := zt_5 (List.mem_of_getElem? (i := 134) rfl) rfl
theorem zw_948 : (Jvm.Cond.selects "PocketHoleModel" ({ cls := "PocketHoleModel", name := "began", desc := "(I)I" } : Jvm.MethodName) ({ cls := "PocketHoleModel", name := "began", desc := "(I)I" } : Jvm.MethodName)) ∈ wsL_law := zt_5 (List.mem_of_getElem? (i := 135) rfl) rfl
theorem zw_949 : (Jvm.Cond.code ({ cls := "PocketHoleModel", name := "began", desc := "(I)I" } : Jvm.MethodName) prog_7_method_69_code (6 : Nat) (Option.some Jvm.ClassFile.FieldType.int)) ∈ wsL_law := zt_5 (List.mem_of_getElem? (i := 136) rfl) rfl
theorem zw_950 : (Jvm.Cond.methodLink "PocketHoleLaw" (136 : Nat) ({ cls := "PocketHoleModel", name := "boy", desc := "(II)I" } : Jvm.MethodName)) ∈ wsL_law := zt_5 (List.mem_of_getElem? (i := 137) rfl) rfl
theorem zw_951 : (Jvm.Cond.instanceMethod ({ cls := "PocketHoleModel", name := "boy", desc := "(II)I" } : Jvm.MethodName)) ∈ wsL_law := zt_5 (List.mem_of_getElem? (i := 138) rfl) rfl
theorem zw_952 : (Jvm.Cond.selects "PocketHoleModel" ({ cls := "PocketHoleModel", name := "boy", desc := "(II)I" } : Jvm.MethodName) ({ cls := "PocketHoleModel", name := "boy", desc := "(II)I" } : Jvm.MethodName)) ∈ wsL_law := zt_5 (List.mem_of_getElem? (i := 139) rfl) rfl
theorem zw_953 : (Jvm.Cond.code ({ cls := "PocketHoleModel", name := "boy", desc := "(II)I" } : Jvm.MethodName) prog_7_method_70_code (6 : Nat) (Option.some Jvm.ClassFile.FieldType.int)) ∈ wsL_law := zt_5 (List.mem_of_getElem? (i := 140) rfl) rfl
theorem zw_954 : (Jvm.Cond.methodLink "PocketHoleLaw" (140 : Nat) ({ cls := "PocketHoleModel", name := "lining", desc := "(I)I" } : Jvm.MethodName)) ∈ wsL_law := zt_5 (List.mem_of_getElem? (i := 141) rfl) rfl
theorem zw_955 : (Jvm.Cond.instanceMethod ({ cls := "PocketHoleModel", name := "lining", desc := "(I)I" } : Jvm.MethodName)) ∈ wsL_law := zt_5 (List.mem_of_getElem? (i := 142) rfl) rfl
theorem zw_956 : (Jvm.Cond.selects "PocketHoleModel" ({ cls := "PocketHoleModel", name := "lining", desc := "(I)I" } : Jvm.MethodName) ({ cls := "PocketHoleModel", name := "lining", desc := "(I)I" } : Jvm.MethodName)) ∈ wsL_law := zt_5 (List.mem_of_getElem? (i := 143) rfl) rfl
theorem zw_957 : (Jvm.Cond.code ({ cls := "PocketHoleModel", name := "lining", desc := "(I)I" } : Jvm.MethodName) prog_7_method_71_code (5 : Nat) (Option.some Jvm.ClassFile.FieldType.int)) ∈ wsL_law := zt_5 (List.mem_of_getElem? (i := 144) rfl) rfl
theorem zw_958 : (Jvm.Cond.methodLink "PocketHoleLaw" (144 : Nat) ({ cls := "PocketHoleModel", name := "back", desc := "(II)I" } : Jvm.MethodName)) ∈ wsL_law := zt_5 (List.mem_of_getElem? (i := 145) rfl) rfl
theorem zw_959 : (Jvm.Cond.instanceMethod ({ cls := "PocketHoleModel", name := "back", desc := "(II)I" } : Jvm.MethodName)) ∈ wsL_law := zt_5 (List.mem_of_getElem? (i := 146) rfl) rfl
theorem zw_960 : (Jvm.Cond.selects "PocketHoleModel" ({ cls := "PocketHoleModel", name := "back", desc := "(II)I" } : Jvm.MethodName) ({ cls := "PocketHoleModel", name := "back", desc := "(II)I" } : Jvm.MethodName)) ∈ wsL_law := zt_5 (List.mem_of_getElem? (i := 147) rfl) rfl
theorem zw_961 : (Jvm.Cond.code ({ cls := "PocketHoleModel", name := "back", desc := "(II)I" } : Jvm.MethodName) prog_7_method_74_code (3 : Nat) (Option.some Jvm.ClassFile.FieldType.int)) ∈ wsL_law := zt_5 (List.mem_of_getElem? (i := 148) rfl) rfl
theorem zw_962 : (Jvm.Cond.methodLink "PocketHoleModel" (225 : Nat) ({ cls := "PocketHoleModel", name := "hasFallen", desc := "(I)Z" } : Jvm.MethodName)) ∈ wsL_law := zt_5 (List.mem_of_getElem? (i := 149) rfl) rfl
theorem zw_963 : (Jvm.Cond.instanceMethod ({ cls := "PocketHoleModel", name := "hasFallen", desc := "(I)Z" } : Jvm.MethodName)) ∈ wsL_law := zt_5 (List.mem_of_getElem? (i := 151) rfl) rfl
theorem zw_964 : (Jvm.Cond.code ({ cls := "PocketHoleModel", name := "hasFallen", desc := "(I)Z" } : Jvm.MethodName) prog_7_method_72_code (2 : Nat) (Option.some Jvm.ClassFile.FieldType.boolean)) ∈ wsL_law := zt_5 (List.mem_of_getElem? (i := 152) rfl) rfl
theorem zw_965 : (Jvm.Cond.methodLink "PocketHoleModel" (228 : Nat) ({ cls := "PocketHoleModel", name := "backCell", desc := "(II)I" } : Jvm.MethodName)) ∈ wsL_law := zt_5 (List.mem_of_getElem? (i := 153) rfl) rfl
theorem zw_966 : (Jvm.Cond.instanceMethod ({ cls := "PocketHoleModel", name := "backCell", desc := "(II)I" } : Jvm.MethodName)) ∈ wsL_law := zt_5 (List.mem_of_getElem? (i := 155) rfl) rfl
theorem zw_967 : (Jvm.Cond.code ({ cls := "PocketHoleModel", name := "backCell", desc := "(II)I" } : Jvm.MethodName) prog_7_method_73_code (3 : Nat) (Option.some Jvm.ClassFile.FieldType.int)) ∈ wsL_law := zt_5 (List.mem_of_getElem? (i := 156) rfl) rfl
theorem zw_968 : (Jvm.Cond.methodLink "PocketHoleLaw" (148 : Nat) ({ cls := "PocketHoleModel", name := "richest", desc := "(I)I" } : Jvm.MethodName)) ∈ wsL_law := zt_5 (List.mem_of_getElem? (i := 157) rfl) rfl
theorem zw_969 : (Jvm.Cond.instanceMethod ({ cls := "PocketHoleModel", name := "richest", desc := "(I)I" } : Jvm.MethodName)) ∈ wsL_law := zt_5 (List.mem_of_getElem? (i := 158) rfl) rfl
theorem zw_970 : (Jvm.Cond.selects "PocketHoleModel" ({ cls := "PocketHoleModel", name := "richest", desc := "(I)I" } : Jvm.MethodName) ({ cls := "PocketHoleModel", name := "richest", desc := "(I)I" } : Jvm.MethodName)) ∈ wsL_law := zt_5 (List.mem_of_getElem? (i := 159) rfl) rfl
theorem zw_971 : (Jvm.Cond.code ({ cls := "PocketHoleModel", name := "richest", desc := "(I)I" } : Jvm.MethodName) prog_7_method_75_code (7 : Nat) (Option.some Jvm.ClassFile.FieldType.int)) ∈ wsL_law := zt_5 (List.mem_of_getElem? (i := 160) rfl) rfl
theorem zw_972 : (Jvm.Cond.methodLink "PocketHoleLaw" (152 : Nat) ({ cls := "PocketHoleModel", name := "days", desc := "(I)I" } : Jvm.MethodName)) ∈ wsL_law := zt_5 (List.mem_of_getElem? (i := 161) rfl) rfl
theorem zw_973 : (Jvm.Cond.instanceMethod ({ cls := "PocketHoleModel", name := "days", desc := "(I)I" } : Jvm.MethodName)) ∈ wsL_law := zt_5 (List.mem_of_getElem? (i := 162) rfl) rfl
theorem zw_974 : (Jvm.Cond.selects "PocketHoleModel" ({ cls := "PocketHoleModel", name := "days", desc := "(I)I" } : Jvm.MethodName) ({ cls := "PocketHoleModel", name := "days", desc := "(I)I" } : Jvm.MethodName)) ∈ wsL_law := zt_5 (List.mem_of_getElem? (i := 163) rfl) rfl
theorem zw_975 : (Jvm.Cond.code ({ cls := "PocketHoleModel", name := "days", desc := "(I)I" } : Jvm.MethodName) prog_7_method_77_code (6 : Nat) (Option.some Jvm.ClassFile.FieldType.int)) ∈ wsL_law := zt_5 (List.mem_of_getElem? (i := 164) rfl) rfl
theorem zw_976 : (Jvm.Cond.methodLink "PocketHoleModel" (232 : Nat) ({ cls := "PocketHoleModel", name := "drawn", desc := "(I)I" } : Jvm.MethodName)) ∈ wsL_law := zt_5 (List.mem_of_getElem? (i := 165) rfl) rfl
theorem zw_977 : (Jvm.Cond.instanceMethod ({ cls := "PocketHoleModel", name := "drawn", desc := "(I)I" } : Jvm.MethodName)) ∈ wsL_law := zt_5 (List.mem_of_getElem? (i := 167) rfl) rfl
theorem zw_978 : (Jvm.Cond.code ({ cls := "PocketHoleModel", name := "drawn", desc := "(I)I" } : Jvm.MethodName) prog_7_method_76_code (2 : Nat) (Option.some Jvm.ClassFile.FieldType.int)) ∈ wsL_law := zt_5 (List.mem_of_getElem? (i := 168) rfl) rfl
theorem zw_979 : (Jvm.Cond.constant "PocketHoleModel" (231 : Nat) (1103515245 : Int32)) ∈ wsL_law := zt_5 (List.mem_of_getElem? (i := 169) rfl) rfl
theorem zw_980 : (Jvm.Cond.methodLink "PocketHoleLaw" (156 : Nat) ({ cls := "PocketHoleModel", name := "seed", desc := "(I)I" } : Jvm.MethodName)) ∈ wsL_law := zt_5 (List.mem_of_getElem? (i := 170) rfl) rfl
theorem zw_981 : (Jvm.Cond.instanceMethod ({ cls := "PocketHoleModel", name := "seed", desc := "(I)I" } : Jvm.MethodName)) ∈ wsL_law := zt_5 (List.mem_of_getElem? (i := 171) rfl) rfl
theorem zw_982 : (Jvm.Cond.selects "PocketHoleModel" ({ cls := "PocketHoleModel", name := "seed", desc := "(I)I" } : Jvm.MethodName) ({ cls := "PocketHoleModel", name := "seed", desc := "(I)I" } : Jvm.MethodName)) ∈ wsL_law := zt_5 (List.mem_of_getElem? (i := 172) rfl) rfl
theorem zw_983 : (Jvm.Cond.code ({ cls := "PocketHoleModel", name := "seed", desc := "(I)I" } : Jvm.MethodName) prog_7_method_78_code (2 : Nat) (Option.some Jvm.ClassFile.FieldType.int)) ∈ wsL_law := zt_5 (List.mem_of_getElem? (i := 173) rfl) rfl
theorem zw_984 : (Jvm.Cond.methodLink "PocketHoleLaw" (160 : Nat) ({ cls := "PocketHoleModel", name := "feed", desc := "(II)I" } : Jvm.MethodName)) ∈ wsL_law := zt_5 (List.mem_of_getElem? (i := 174) rfl) rfl
theorem zw_985 : (Jvm.Cond.instanceMethod ({ cls := "PocketHoleModel", name := "feed", desc := "(II)I" } : Jvm.MethodName)) ∈ wsL_law := zt_5 (List.mem_of_getElem? (i := 175) rfl) rfl
theorem zw_986 : (Jvm.Cond.selects "PocketHoleModel" ({ cls := "PocketHoleModel", name := "feed", desc := "(II)I" } : Jvm.MethodName) ({ cls := "PocketHoleModel", name := "feed", desc := "(II)I" } : Jvm.MethodName)) ∈ wsL_law := zt_5 (List.mem_of_getElem? (i := 176) rfl) rfl
theorem zw_987 : (Jvm.Cond.code ({ cls := "PocketHoleModel", name := "feed", desc := "(II)I" } : Jvm.MethodName) prog_7_method_79_code (4 : Nat) (Option.some Jvm.ClassFile.FieldType.int)) ∈ wsL_law := zt_5 (List.mem_of_getElem? (i := 177) rfl) rfl
theorem zw_988 : (Jvm.Cond.methodLink "PocketHoleLaw" (164 : Nat) ({ cls := "PocketHoleModel", name := "wipe", desc := "()I" } : Jvm.MethodName)) ∈ wsL_law := zt_5 (List.mem_of_getElem? (i := 178) rfl) rfl
theorem zw_989 : (Jvm.Cond.instanceMethod ({ cls := "PocketHoleModel", name := "wipe", desc := "()I" } : Jvm.MethodName)) ∈ wsL_law := zt_5 (List.mem_of_getElem? (i := 179) rfl) rfl
theorem zw_990 : (Jvm.Cond.selects "PocketHoleModel" ({ cls := "PocketHoleModel", name := "wipe", desc := "()I" } : Jvm.MethodName) ({ cls := "PocketHoleModel", name := "wipe", desc := "()I" } : Jvm.MethodName)) ∈ wsL_law := zt_5 (List.mem_of_getElem? (i := 180) rfl) rfl
theorem zw_991 : (Jvm.Cond.code ({ cls := "PocketHoleModel", name := "wipe", desc := "()I" } : Jvm.MethodName) prog_7_method_80_code (2 : Nat) (Option.some Jvm.ClassFile.FieldType.int)) ∈ wsL_law := zt_5 (List.mem_of_getElem? (i := 181) rfl) rfl
theorem zw_992 : (Jvm.Cond.methodLink "PocketHoleLaw" (168 : Nat) ({ cls := "PocketHoleModel", name := "text", desc := "()I" } : Jvm.MethodName)) ∈ wsL_law := zt_5 (List.mem_of_getElem? (i := 182) rfl) rfl
theorem zw_993 : (Jvm.Cond.instanceMethod ({ cls := "PocketHoleModel", name := "text", desc := "()I" } : Jvm.MethodName)) ∈ wsL_law := zt_5 (List.mem_of_getElem? (i := 183) rfl) rfl
theorem zw_994 : (Jvm.Cond.selects "PocketHoleModel" ({ cls := "PocketHoleModel", name := "text", desc := "()I" } : Jvm.MethodName) ({ cls := "PocketHoleModel", name := "text", desc := "()I" } : Jvm.MethodName)) ∈ wsL_law := zt_5 (List.mem_of_getElem? (i := 184) rfl) rfl
theorem zw_995 : (Jvm.Cond.code ({ cls := "PocketHoleModel", name := "text", desc := "()I" } : Jvm.MethodName) prog_7_method_91_code (3 : Nat) (Option.some Jvm.ClassFile.FieldType.int)) ∈ wsL_law := zt_5 (List.mem_of_getElem? (i := 185) rfl) rfl
theorem zw_996 : (Jvm.Cond.methodLink "PocketHoleModel" (264 : Nat) ({ cls := "PocketHoleModel", name := "next", desc := "()V" } : Jvm.MethodName)) ∈ wsL_law := zt_5 (List.mem_of_getElem? (i := 186) rfl) rfl
theorem zw_997 : (Jvm.Cond.instanceMethod ({ cls := "PocketHoleModel", name := "next", desc := "()V" } : Jvm.MethodName)) ∈ wsL_law := zt_5 (List.mem_of_getElem? (i := 188) rfl) rfl
theorem zw_998 : (Jvm.Cond.code ({ cls := "PocketHoleModel", name := "next", desc := "()V" } : Jvm.MethodName) prog_7_method_82_code (2 : Nat) (Option.none : Option Jvm.ClassFile.FieldType)) ∈ wsL_law := zt_5 (List.mem_of_getElem? (i := 189) rfl) rfl
theorem zw_999 : (Jvm.Cond.methodLink "PocketHoleModel" (244 : Nat) ({ cls := "PocketHoleModel", name := "byteAt", desc := "(I)I" } : Jvm.MethodName)) ∈ wsL_law := zt_5 (List.mem_of_getElem? (i := 190) rfl) rfl
theorem zw_1000 : (Jvm.Cond.instanceMethod ({ cls := "PocketHoleModel", name := "byteAt", desc := "(I)I" } : Jvm.MethodName)) ∈ wsL_law := zt_5 (List.mem_of_getElem? (i := 192) rfl) rfl
theorem zw_1001 : (Jvm.Cond.code ({ cls := "PocketHoleModel", name := "byteAt", desc := "(I)I" } : Jvm.MethodName) prog_7_method_81_code (2 : Nat) (Option.some Jvm.ClassFile.FieldType.int)) ∈ wsL_law := zt_5 (List.mem_of_getElem? (i := 193) rfl) rfl
theorem zw_1002 : (Jvm.Cond.methodLink "PocketHoleModel" (307 : Nat) ({ cls := "PocketHoleModel", name := "readItem", desc := "()V" } : Jvm.MethodName)) ∈ wsL_law := zt_5 (List.mem_of_getElem? (i := 194) rfl) rfl
theorem zw_1003 : (Jvm.Cond.instanceMethod ({ cls := "PocketHoleModel", name := "readItem", desc := "()V" } : Jvm.MethodName)) ∈ wsL_law := zt_5 (List.mem_of_getElem? (i := 196) rfl) rfl
theorem zw_1004 : (Jvm.Cond.code ({ cls := "PocketHoleModel", name := "readItem", desc := "()V" } : Jvm.MethodName) prog_7_method_89_code (5 : Nat) (Option.none : Option Jvm.ClassFile.FieldType)) ∈ wsL_law := zt_5 (List.mem_of_getElem? (i := 197) rfl) rfl
theorem zw_1005 : (Jvm.Cond.methodLink "PocketHoleModel" (278 : Nat) ({ cls := "PocketHoleModel", name := "kindTold", desc := "()I" } : Jvm.MethodName)) ∈ wsL_law := zt_5 (List.mem_of_getElem? (i := 198) rfl) rfl
theorem zw_1006 : (Jvm.Cond.instanceMethod ({ cls := "PocketHoleModel", name := "kindTold", desc := "()I" } : Jvm.MethodName)) ∈ wsL_law := zt_5 (List.mem_of_getElem? (i := 200) rfl) rfl
theorem zw_1007 : (Jvm.Cond.code ({ cls := "PocketHoleModel", name := "kindTold", desc := "()I" } : Jvm.MethodName) prog_7_method_87_code (3 : Nat) (Option.some Jvm.ClassFile.FieldType.int)) ∈ wsL_law := zt_5 (List.mem_of_getElem? (i := 201) rfl) rfl
theorem zw_1008 : (Jvm.Cond.methodLink "PocketHoleModel" (274 : Nat) ({ cls := "PocketHoleModel", name := "isWord", desc := "(Ljava/lang/String;)Z" } : Jvm.MethodName)) ∈ wsL_law := zt_5 (List.mem_of_getElem? (i := 202) rfl) rfl
theorem zw_1009 : (Jvm.Cond.instanceMethod ({ cls := "PocketHoleModel", name := "isWord", desc := "(Ljava/lang/String;)Z" } : Jvm.MethodName)) ∈ wsL_law := zt_5 (List.mem_of_getElem? (i := 204) rfl) rfl
theorem zw_1010 : (Jvm.Cond.code ({ cls := "PocketHoleModel", name := "isWord", desc := "(Ljava/lang/String;)Z" } : Jvm.MethodName) prog_7_method_83_code (4 : Nat) (Option.some Jvm.ClassFile.FieldType.boolean)) ∈ wsL_law := zt_5 (List.mem_of_getElem? (i := 205) rfl) rfl
theorem zw_1011 : (Jvm.Cond.methodLink "PocketHoleModel" (253 : Nat) ({ cls := "java/lang/String", name := "length", desc := "()I" } : Jvm.MethodName)) ∈ wsL_law := zt_5 (List.mem_of_getElem? (i := 206) rfl) rfl
theorem zw_1012 : (Jvm.Cond.methodLink "PocketHoleModel" (256 : Nat) ({ cls := "java/lang/String", name := "charAt", desc := "(I)C" } : Jvm.MethodName)) ∈ wsL_law := zt_5 (List.mem_of_getElem? (i := 207) rfl) rfl
theorem zw_1013 : (Jvm.Cond.methodLink "PocketHoleModel" (267 : Nat) ({ cls := "PocketHoleModel", name := "must", desc := "(Z)V" } : Jvm.MethodName)) ∈ wsL_law := zt_5 (List.mem_of_getElem? (i := 208) rfl) rfl
theorem zw_1014 : (Jvm.Cond.instanceMethod ({ cls := "PocketHoleModel", name := "must", desc := "(Z)V" } : Jvm.MethodName)) ∈ wsL_law := zt_5 (List.mem_of_getElem? (i := 210) rfl) rfl
theorem zw_1015 : (Jvm.Cond.code ({ cls := "PocketHoleModel", name := "must", desc := "(Z)V" } : Jvm.MethodName) prog_7_method_84_code (2 : Nat) (Option.none : Option Jvm.ClassFile.FieldType)) ∈ wsL_law := zt_5 (List.mem_of_getElem? (i := 211) rfl) rfl
theorem zw_1016 : (Jvm.Cond.methodLink "PocketHoleModel" (286 : Nat) ({ cls := "PocketHoleModel", name := "isNext", desc := "(Ljava/lang/String;)Z" } : Jvm.MethodName)) ∈ wsL_law := zt_5 (List.mem_of_getElem? (i := 213) rfl) rfl
theorem zw_1017 : (Jvm.Cond.instanceMethod ({ cls := "PocketHoleModel", name := "isNext", desc := "(Ljava/lang/String;)Z" } : Jvm.MethodName)) ∈ wsL_law := zt_5 (List.mem_of_getElem? (i := 215) rfl) rfl
theorem zw_1018 : (Jvm.Cond.code ({ cls := "PocketHoleModel", name := "isNext", desc := "(Ljava/lang/String;)Z" } : Jvm.MethodName) prog_7_method_88_code (3 : Nat) (Option.some Jvm.ClassFile.FieldType.boolean)) ∈ wsL_law := zt_5 (List.mem_of_getElem? (i := 216) rfl) rfl
theorem zw_1019 : (Jvm.Cond.methodLink "PocketHoleModel" (289 : Nat) ({ cls := "PocketHoleModel", name := "number", desc := "(II)I" } : Jvm.MethodName)) ∈ wsL_law := zt_5 (List.mem_of_getElem? (i := 217) rfl) rfl
theorem zw_1020 : (Jvm.Cond.instanceMethod ({ cls := "PocketHoleModel", name := "number", desc := "(II)I" } : Jvm.MethodName)) ∈ wsL_law := zt_5 (List.mem_of_getElem? (i := 219) rfl) rfl
theorem zw_1021 : (Jvm.Cond.code ({ cls := "PocketHoleModel", name := "number", desc := "(II)I" } : Jvm.MethodName) prog_7_method_85_code (4 : Nat) (Option.some Jvm.ClassFile.FieldType.int)) ∈ wsL_law := zt_5 (List.mem_of_getElem? (i := 220) rfl) rfl
theorem zw_1022 : (Jvm.Cond.methodLink "PocketHoleModel" (298 : Nat) ({ cls := "PocketHoleModel", name := "item", desc := "(IIIII)V" } : Jvm.MethodName)) ∈ wsL_law := zt_5 (List.mem_of_getElem? (i := 224) rfl) rfl
theorem zw_1023 : (Jvm.Cond.instanceMethod ({ cls := "PocketHoleModel", name := "item", desc := "(IIIII)V" } : Jvm.MethodName)) ∈ wsL_law := zt_5 (List.mem_of_getElem? (i := 226) rfl) rfl
theorem zw_1024 : (Jvm.Cond.code ({ cls := "PocketHoleModel", name := "item", desc := "(IIIII)V" } : Jvm.MethodName) prog_7_method_86_code (7 : Nat) (Option.none : Option Jvm.ClassFile.FieldType)) ∈ wsL_law := zt_5 (List.mem_of_getElem? (i := 227) rfl) rfl
theorem zw_1025 : (Jvm.Cond.methodLink "PocketHoleModel" (310 : Nat) ({ cls := "PocketHoleModel", name := "isSo", desc := "(I)I" } : Jvm.MethodName)) ∈ wsL_law := zt_5 (List.mem_of_getElem? (i := 231) rfl) rfl
theorem zw_1026 : (Jvm.Cond.instanceMethod ({ cls := "PocketHoleModel", name := "isSo", desc := "(I)I" } : Jvm.MethodName)) ∈ wsL_law := zt_5 (List.mem_of_getElem? (i := 233) rfl) rfl
theorem zw_1027 : (Jvm.Cond.code ({ cls := "PocketHoleModel", name := "isSo", desc := "(I)I" } : Jvm.MethodName) prog_7_method_90_code (4 : Nat) (Option.some Jvm.ClassFile.FieldType.int)) ∈ wsL_law := zt_5 (List.mem_of_getElem? (i := 234) rfl) rfl
theorem zw_1028 : (Jvm.Cond.methodLink "PocketHoleLaw" (172 : Nat) ({ cls := "PocketHoleModel", name := "hold", desc := "(II)I" } : Jvm.MethodName)) ∈ wsL_law := zt_5 (List.mem_of_getElem? (i := 235) rfl) rfl
theorem zw_1029 : (Jvm.Cond.instanceMethod ({ cls := "PocketHoleModel", name := "hold", desc := "(II)I" } : Jvm.MethodName)) ∈ wsL_law := zt_5 (List.mem_of_getElem? (i := 236) rfl) rfl
theorem zw_1030 : (Jvm.Cond.selects "PocketHoleModel" ({ cls := "PocketHoleModel", name := "hold", desc := "(II)I" } : Jvm.MethodName) ({ cls := "PocketHoleModel", name := "hold", desc := "(II)I" } : Jvm.MethodName)) ∈ wsL_law := zt_5 (List.mem_of_getElem? (i := 237) rfl) rfl
theorem zw_1031 : (Jvm.Cond.code ({ cls := "PocketHoleModel", name := "hold", desc := "(II)I" } : Jvm.MethodName) prog_7_method_93_code (3 : Nat) (Option.some Jvm.ClassFile.FieldType.int)) ∈ wsL_law := zt_5 (List.mem_of_getElem? (i := 238) rfl) rfl
theorem zw_1032 : (Jvm.Cond.methodLink "PocketHoleModel" (313 : Nat) ({ cls := "PocketHoleModel", name := "isSpot", desc := "(I)Z" } : Jvm.MethodName)) ∈ wsL_law := zt_5 (List.mem_of_getElem? (i := 239) rfl) rfl
theorem zw_1033 : (Jvm.Cond.static ({ cls := "PocketHoleModel", name := "isSpot", desc := "(I)Z" } : Jvm.MethodName)) ∈ wsL_law := zt_6 (List.mem_of_getElem? (i := 0) rfl) rfl
theorem zw_1034 : (Jvm.Cond.code ({ cls := "PocketHoleModel", name := "isSpot", desc := "(I)Z" } : Jvm.MethodName) prog_7_method_92_code (1 : Nat) (Option.some Jvm.ClassFile.FieldType.boolean)) ∈ wsL_law := zt_6 (List.mem_of_getElem? (i := 1) rfl) rfl
theorem zw_1035 : (Jvm.Cond.methodLink "PocketHoleLaw" (176 : Nat) ({ cls := "PocketHoleModel", name := "as", desc := "(II)I" } : Jvm.MethodName)) ∈ wsL_law := zt_6 (List.mem_of_getElem? (i := 2) rfl) rfl
theorem zw_1036 : (Jvm.Cond.instanceMethod ({ cls := "PocketHoleModel", name := "as", desc := "(II)I" } : Jvm.MethodName)) ∈ wsL_law := zt_6 (List.mem_of_getElem? (i := 3) rfl) rfl
theorem zw_1037 : (Jvm.Cond.selects "PocketHoleModel" ({ cls := "PocketHoleModel", name := "as", desc := "(II)I" } : Jvm.MethodName) ({ cls := "PocketHoleModel", name := "as", desc := "(II)I" } : Jvm.MethodName)) ∈ wsL_law := zt_6 (List.mem_of_getElem? (i := 4) rfl) rfl
theorem zw_1038 : (Jvm.Cond.code ({ cls := "PocketHoleModel", name := "as", desc := "(II)I" } : Jvm.MethodName) prog_7_method_94_code (4 : Nat) (Option.some Jvm.ClassFile.FieldType.int)) ∈ wsL_law := zt_6 (List.mem_of_getElem? (i := 5) rfl) rfl
theorem zw_1039 : (Jvm.Cond.constant "PocketHoleModel" (316 : Nat) (-1000006 : Int32)) ∈ wsL_law := zt_6 (List.mem_of_getElem? (i := 6) rfl) rfl
theorem zw_1040 : (Jvm.Cond.constant "PocketHoleModel" (317 : Nat) (-1000003 : Int32)) ∈ wsL_law := zt_6 (List.mem_of_getElem? (i := 7) rfl) rfl
theorem zw_1041 : (Jvm.Cond.methodLink "PocketHoleLaw" (180 : Nat) ({ cls := "PocketHoleModel", name := "sheet", desc := "(III)I" } : Jvm.MethodName)) ∈ wsL_law := zt_6 (List.mem_of_getElem? (i := 8) rfl) rfl
theorem zw_1042 : (Jvm.Cond.instanceMethod ({ cls := "PocketHoleModel", name := "sheet", desc := "(III)I" } : Jvm.MethodName)) ∈ wsL_law := zt_6 (List.mem_of_getElem? (i := 9) rfl) rfl
theorem zw_1043 : (Jvm.Cond.selects "PocketHoleModel" ({ cls := "PocketHoleModel", name := "sheet", desc := "(III)I" } : Jvm.MethodName) ({ cls := "PocketHoleModel", name := "sheet", desc := "(III)I" } : Jvm.MethodName)) ∈ wsL_law := zt_6 (List.mem_of_getElem? (i := 10) rfl) rfl
theorem zw_1044 : (Jvm.Cond.code ({ cls := "PocketHoleModel", name := "sheet", desc := "(III)I" } : Jvm.MethodName) prog_7_method_97_code (5 : Nat) (Option.some Jvm.ClassFile.FieldType.int)) ∈ wsL_law := zt_6 (List.mem_of_getElem? (i := 11) rfl) rfl
theorem zw_1045 : (Jvm.Cond.methodLink "PocketHoleModel" (318 : Nat) ({ cls := "PocketHoleModel", name := "isSheet", desc := "(I)Z" } : Jvm.MethodName)) ∈ wsL_law := zt_6 (List.mem_of_getElem? (i := 12) rfl) rfl
theorem zw_1046 : (Jvm.Cond.static ({ cls := "PocketHoleModel", name := "isSheet", desc := "(I)Z" } : Jvm.MethodName)) ∈ wsL_law := zt_6 (List.mem_of_getElem? (i := 13) rfl) rfl
theorem zw_1047 : (Jvm.Cond.code ({ cls := "PocketHoleModel", name := "isSheet", desc := "(I)Z" } : Jvm.MethodName) prog_7_method_95_code (1 : Nat) (Option.some Jvm.ClassFile.FieldType.boolean)) ∈ wsL_law := zt_6 (List.mem_of_getElem? (i := 14) rfl) rfl
theorem zw_1048 : (Jvm.Cond.constant "PocketHoleModel" (321 : Nat) (-1000007 : Int32)) ∈ wsL_law := zt_6 (List.mem_of_getElem? (i := 15) rfl) rfl
theorem zw_1049 : (Jvm.Cond.methodLink "PocketHoleLaw" (184 : Nat) ({ cls := "PocketHoleModel", name := "write", desc := "(III)I" } : Jvm.MethodName)) ∈ wsL_law := zt_6 (List.mem_of_getElem? (i := 16) rfl) rfl
theorem zw_1050 : (Jvm.Cond.instanceMethod ({ cls := "PocketHoleModel", name := "write", desc := "(III)I" } : Jvm.MethodName)) ∈ wsL_law := zt_6 (List.mem_of_getElem? (i := 17) rfl) rfl
theorem zw_1051 : (Jvm.Cond.selects "PocketHoleModel" ({ cls := "PocketHoleModel", name := "write", desc := "(III)I" } : Jvm.MethodName) ({ cls := "PocketHoleModel", name := "write", desc := "(III)I" } : Jvm.MethodName)) ∈ wsL_law := zt_6 (List.mem_of_getElem? (i := 18) rfl) rfl
theorem zw_1052 : (Jvm.Cond.code ({ cls := "PocketHoleModel", name := "write", desc := "(III)I" } : Jvm.MethodName) prog_7_method_98_code (4 : Nat) (Option.some Jvm.ClassFile.FieldType.int)) ∈ wsL_law := zt_6 (List.mem_of_getElem? (i := 19) rfl) rfl
theorem zw_1053 : (Jvm.Cond.methodLink "PocketHoleModel" (322 : Nat) ({ cls := "PocketHoleModel", name := "cutTo", desc := "(II)I" } : Jvm.MethodName)) ∈ wsL_law := zt_6 (List.mem_of_getElem? (i := 20) rfl) rfl
theorem zw_1054 : (Jvm.Cond.static ({ cls := "PocketHoleModel", name := "cutTo", desc := "(II)I" } : Jvm.MethodName)) ∈ wsL_law := zt_6 (List.mem_of_getElem? (i := 21) rfl) rfl
theorem zw_1055 : (Jvm.Cond.code ({ cls := "PocketHoleModel", name := "cutTo", desc := "(II)I" } : Jvm.MethodName) prog_7_method_96_code (2 : Nat) (Option.some Jvm.ClassFile.FieldType.int)) ∈ wsL_law := zt_6 (List.mem_of_getElem? (i := 22) rfl) rfl
theorem zw_1056 : (Jvm.Cond.methodLink "PocketHoleLaw" (189 : Nat) ({ cls := "PocketHoleModel", name := "copy", desc := "(IIIII)I" } : Jvm.MethodName)) ∈ wsL_law := zt_6 (List.mem_of_getElem? (i := 23) rfl) rfl
theorem zw_1057 : (Jvm.Cond.instanceMethod ({ cls := "PocketHoleModel", name := "copy", desc := "(IIIII)I" } : Jvm.MethodName)) ∈ wsL_law := zt_6 (List.mem_of_getElem? (i := 24) rfl) rfl
theorem zw_1058 : (Jvm.Cond.selects "PocketHoleModel" ({ cls := "PocketHoleModel", name := "copy", desc := "(IIIII)I" } : Jvm.MethodName) ({ cls := "PocketHoleModel", name := "copy", desc := "(IIIII)I" } : Jvm.MethodName)) ∈ wsL_law := zt_6 (List.mem_of_getElem? (i := 25) rfl) rfl
theorem zw_1059 : (Jvm.Cond.code ({ cls := "PocketHoleModel", name := "copy", desc := "(IIIII)I" } : Jvm.MethodName) prog_7_method_99_code (7 : Nat) (Option.some Jvm.ClassFile.FieldType.int)) ∈ wsL_law := zt_6 (List.mem_of_getElem? (i := 26) rfl) rfl
theorem zw_1060 : (Jvm.Cond.methodLink "PocketHoleLaw" (193 : Nat) ({ cls := "PocketHoleModel", name := "load", desc := "(I)I" } : Jvm.MethodName)) ∈ wsL_law := zt_6 (List.mem_of_getElem? (i := 27) rfl) rfl
theorem zw_1061 : (Jvm.Cond.instanceMethod ({ cls := "PocketHoleModel", name := "load", desc := "(I)I" } : Jvm.MethodName)) ∈ wsL_law := zt_6 (List.mem_of_getElem? (i := 28) rfl) rfl
theorem zw_1062 : (Jvm.Cond.selects "PocketHoleModel" ({ cls := "PocketHoleModel", name := "load", desc := "(I)I" } : Jvm.MethodName) ({ cls := "PocketHoleModel", name := "load", desc := "(I)I" } : Jvm.MethodName)) ∈ wsL_law := zt_6 (List.mem_of_getElem? (i := 29) rfl) rfl
theorem zw_1063 : (Jvm.Cond.code ({ cls := "PocketHoleModel", name := "load", desc := "(I)I" } : Jvm.MethodName) prog_7_method_100_code (3 : Nat) (Option.some Jvm.ClassFile.FieldType.int)) ∈ wsL_law := zt_6 (List.mem_of_getElem? (i := 30) rfl) rfl
theorem zw_1064 : (Jvm.Cond.methodLink "PocketHoleLaw" (197 : Nat) ({ cls := "PocketHoleModel", name := "judge", desc := "(II)I" } : Jvm.MethodName)) ∈ wsL_law := zt_6 (List.mem_of_getElem? (i := 31) rfl) rfl
theorem zw_1065 : (Jvm.Cond.instanceMethod ({ cls := "PocketHoleModel", name := "judge", desc := "(II)I" } : Jvm.MethodName)) ∈ wsL_law := zt_6 (List.mem_of_getElem? (i := 32) rfl) rfl
theorem zw_1066 : (Jvm.Cond.selects "PocketHoleModel" ({ cls := "PocketHoleModel", name := "judge", desc := "(II)I" } : Jvm.MethodName) ({ cls := "PocketHoleModel", name := "judge", desc := "(II)I" } : Jvm.MethodName)) ∈ wsL_law := zt_6 (List.mem_of_getElem? (i := 33) rfl) rfl
theorem zw_1067 : (Jvm.Cond.code ({ cls := "PocketHoleModel", name := "judge", desc := "(II)I" } : Jvm.MethodName) prog_7_method_101_code (4 : Nat) (Option.some Jvm.ClassFile.FieldType.int)) ∈ wsL_law := zt_6 (List.mem_of_getElem? (i := 34) rfl) rfl
theorem zw_1068 : (Jvm.Cond.methodLink "PocketHoleLaw" (201 : Nat) ({ cls := "PocketHoleModel", name := "image", desc := "()I" } : Jvm.MethodName)) ∈ wsL_law := zt_6 (List.mem_of_getElem? (i := 35) rfl) rfl
theorem zw_1069 : (Jvm.Cond.instanceMethod ({ cls := "PocketHoleModel", name := "image", desc := "()I" } : Jvm.MethodName)) ∈ wsL_law := zt_6 (List.mem_of_getElem? (i := 36) rfl) rfl
theorem zw_1070 : (Jvm.Cond.selects "PocketHoleModel" ({ cls := "PocketHoleModel", name := "image", desc := "()I" } : Jvm.MethodName) ({ cls := "PocketHoleModel", name := "image", desc := "()I" } : Jvm.MethodName)) ∈ wsL_law := zt_6 (List.mem_of_getElem? (i := 37) rfl) rfl
theorem zw_1071 : (Jvm.Cond.code ({ cls := "PocketHoleModel", name := "image", desc := "()I" } : Jvm.MethodName) prog_7_method_102_code (1 : Nat) (Option.some Jvm.ClassFile.FieldType.int)) ∈ wsL_law := zt_6 (List.mem_of_getElem? (i := 38) rfl) rfl
theorem zw_1072 : (Jvm.Cond.methodLink "PocketHoleLaw" (205 : Nat) ({ cls := "PocketHoleModel", name := "undo", desc := "()I" } : Jvm.MethodName)) ∈ wsL_law := zt_6 (List.mem_of_getElem? (i := 39) rfl) rfl
theorem zw_1073 : (Jvm.Cond.instanceMethod ({ cls := "PocketHoleModel", name := "undo", desc := "()I" } : Jvm.MethodName)) ∈ wsL_law := zt_6 (List.mem_of_getElem? (i := 40) rfl) rfl
theorem zw_1074 : (Jvm.Cond.selects "PocketHoleModel" ({ cls := "PocketHoleModel", name := "undo", desc := "()I" } : Jvm.MethodName) ({ cls := "PocketHoleModel", name := "undo", desc := "()I" } : Jvm.MethodName)) ∈ wsL_law := zt_6 (List.mem_of_getElem? (i := 41) rfl) rfl
theorem zw_1075 : (Jvm.Cond.code ({ cls := "PocketHoleModel", name := "undo", desc := "()I" } : Jvm.MethodName) prog_7_method_103_code (1 : Nat) (Option.some Jvm.ClassFile.FieldType.int)) ∈ wsL_law := zt_6 (List.mem_of_getElem? (i := 42) rfl) rfl
theorem zw_1076 : (Jvm.Cond.methodLink "PocketHoleLaw" (209 : Nat) ({ cls := "PocketHoleModel", name := "tear", desc := "()I" } : Jvm.MethodName)) ∈ wsL_law := zt_6 (List.mem_of_getElem? (i := 43) rfl) rfl
theorem zw_1077 : (Jvm.Cond.instanceMethod ({ cls := "PocketHoleModel", name := "tear", desc := "()I" } : Jvm.MethodName)) ∈ wsL_law := zt_6 (List.mem_of_getElem? (i := 44) rfl) rfl
theorem zw_1078 : (Jvm.Cond.selects "PocketHoleModel" ({ cls := "PocketHoleModel", name := "tear", desc := "()I" } : Jvm.MethodName) ({ cls := "PocketHoleModel", name := "tear", desc := "()I" } : Jvm.MethodName)) ∈ wsL_law := zt_6 (List.mem_of_getElem? (i := 45) rfl) rfl
theorem zw_1079 : (Jvm.Cond.code ({ cls := "PocketHoleModel", name := "tear", desc := "()I" } : Jvm.MethodName) prog_7_method_104_code (2 : Nat) (Option.some Jvm.ClassFile.FieldType.int)) ∈ wsL_law := zt_6 (List.mem_of_getElem? (i := 46) rfl) rfl
theorem zw_1080 : (Jvm.Cond.methodLink "PocketHoleLaw" (213 : Nat) ({ cls := "PocketHoleModel", name := "count", desc := "(I)I" } : Jvm.MethodName)) ∈ wsL_law := zt_6 (List.mem_of_getElem? (i := 47) rfl) rfl
theorem zw_1081 : (Jvm.Cond.instanceMethod ({ cls := "PocketHoleModel", name := "count", desc := "(I)I" } : Jvm.MethodName)) ∈ wsL_law := zt_6 (List.mem_of_getElem? (i := 48) rfl) rfl
theorem zw_1082 : (Jvm.Cond.selects "PocketHoleModel" ({ cls := "PocketHoleModel", name := "count", desc := "(I)I" } : Jvm.MethodName) ({ cls := "PocketHoleModel", name := "count", desc := "(I)I" } : Jvm.MethodName)) ∈ wsL_law := zt_6 (List.mem_of_getElem? (i := 49) rfl) rfl
theorem zw_1083 : (Jvm.Cond.code ({ cls := "PocketHoleModel", name := "count", desc := "(I)I" } : Jvm.MethodName) prog_7_method_105_code (4 : Nat) (Option.some Jvm.ClassFile.FieldType.int)) ∈ wsL_law := zt_6 (List.mem_of_getElem? (i := 50) rfl) rfl
theorem zw_1084 : (Jvm.Cond.methodLink "PocketHoleLaw" (217 : Nat) ({ cls := "PocketHoleModel", name := "status", desc := "(I)I" } : Jvm.MethodName)) ∈ wsL_law := zt_6 (List.mem_of_getElem? (i := 51) rfl) rfl
theorem zw_1085 : (Jvm.Cond.instanceMethod ({ cls := "PocketHoleModel", name := "status", desc := "(I)I" } : Jvm.MethodName)) ∈ wsL_law := zt_6 (List.mem_of_getElem? (i := 52) rfl) rfl
theorem zw_1086 : (Jvm.Cond.selects "PocketHoleModel" ({ cls := "PocketHoleModel", name := "status", desc := "(I)I" } : Jvm.MethodName) ({ cls := "PocketHoleModel", name := "status", desc := "(I)I" } : Jvm.MethodName)) ∈ wsL_law := zt_6 (List.mem_of_getElem? (i := 53) rfl) rfl
theorem zw_1087 : (Jvm.Cond.code ({ cls := "PocketHoleModel", name := "status", desc := "(I)I" } : Jvm.MethodName) prog_7_method_106_code (2 : Nat) (Option.some Jvm.ClassFile.FieldType.int)) ∈ wsL_law := zt_6 (List.mem_of_getElem? (i := 54) rfl) rfl
theorem zw_1088 : (Jvm.Cond.fieldLink "java/lang/String" (9 : Nat) "java/lang/String" "value" "[B") ∈ wsL_law := zt_6 (List.mem_of_getElem? (i := 55) rfl) rfl
theorem zw_1089 : (Jvm.Cond.fieldLink "java/lang/String" (15 : Nat) "java/lang/String" "coder" "B") ∈ wsL_law := zt_6 (List.mem_of_getElem? (i := 56) rfl) rfl
theorem zp_1 {q : MethodName × Nat} (h : q ∈ lw_privs_1) : Cond.selects q.1.cls q.1 q.1 ∈ wsL_law := zw_mem (List.mem_append_left _ (List.mem_map.mpr ⟨q, List.mem_append_left _ h, rfl⟩)) rfl
theorem zp_2 {q : MethodName × Nat} (h : q ∈ lw_privs_2) : Cond.selects q.1.cls q.1 q.1 ∈ wsL_law := zw_mem (List.mem_append_left _ (List.mem_map.mpr ⟨q, List.mem_append_right _ (List.mem_append_left _ h), rfl⟩)) rfl
theorem zp_3 {q : MethodName × Nat} (h : q ∈ lw_privs_3) : Cond.selects q.1.cls q.1 q.1 ∈ wsL_law := zw_mem (List.mem_append_left _ (List.mem_map.mpr ⟨q, List.mem_append_right _ (List.mem_append_right _ (List.mem_append_left _ h)), rfl⟩)) rfl
theorem zp_4 {q : MethodName × Nat} (h : q ∈ lw_privs_4) : Cond.selects q.1.cls q.1 q.1 ∈ wsL_law := zw_mem (List.mem_append_left _ (List.mem_map.mpr ⟨q, List.mem_append_right _ (List.mem_append_right _ (List.mem_append_right _ (h))), rfl⟩)) rfl
theorem zw_1090 : Cond.selects "PocketHole" (⟨"PocketHole", "finding", "(I)I"⟩ : MethodName) (⟨"PocketHole", "finding", "(I)I"⟩ : MethodName) ∈ wsL_law := zp_1 (q := ((⟨"PocketHole", "finding", "(I)I"⟩ : MethodName), 9)) (List.mem_of_getElem? (i := 0) rfl)
theorem zw_1091 : Cond.selects "PocketHole" (⟨"PocketHole", "isTooFar", "(I)Z"⟩ : MethodName) (⟨"PocketHole", "isTooFar", "(I)Z"⟩ : MethodName) ∈ wsL_law := zp_1 (q := ((⟨"PocketHole", "isTooFar", "(I)Z"⟩ : MethodName), 9)) (List.mem_of_getElem? (i := 1) rfl)
theorem zw_1092 : Cond.selects "PocketHole$Coat" (⟨"PocketHole$Coat", "stirOne", "(LPocketHole$Coin;)Z"⟩ : MethodName) (⟨"PocketHole$Coat", "stirOne", "(LPocketHole$Coin;)Z"⟩ : MethodName) ∈ wsL_law := zp_1 (q := ((⟨"PocketHole$Coat", "stirOne", "(LPocketHole$Coin;)Z"⟩ : MethodName), 8)) (List.mem_of_getElem? (i := 2) rfl)
theorem zw_1093 : Cond.selects "PocketHole$Coat" (⟨"PocketHole$Coat", "goLining", "(II)V"⟩ : MethodName) (⟨"PocketHole$Coat", "goLining", "(II)V"⟩ : MethodName) ∈ wsL_law := zp_1 (q := ((⟨"PocketHole$Coat", "goLining", "(II)V"⟩ : MethodName), 8)) (List.mem_of_getElem? (i := 3) rfl)
theorem zw_1094 : Cond.selects "PocketHole" (⟨"PocketHole", "goneInTrial", "()I"⟩ : MethodName) (⟨"PocketHole", "goneInTrial", "()I"⟩ : MethodName) ∈ wsL_law := zp_1 (q := ((⟨"PocketHole", "goneInTrial", "()I"⟩ : MethodName), 9)) (List.mem_of_getElem? (i := 4) rfl)
theorem zw_1095 : Cond.selects "PocketHole" (⟨"PocketHole", "lostInTrial", "()I"⟩ : MethodName) (⟨"PocketHole", "lostInTrial", "()I"⟩ : MethodName) ∈ wsL_law := zp_1 (q := ((⟨"PocketHole", "lostInTrial", "()I"⟩ : MethodName), 9)) (List.mem_of_getElem? (i := 5) rfl)
theorem zw_1096 : Cond.selects "PocketHole" (⟨"PocketHole", "stayInTrial", "(I)I"⟩ : MethodName) (⟨"PocketHole", "stayInTrial", "(I)I"⟩ : MethodName) ∈ wsL_law := zp_1 (q := ((⟨"PocketHole", "stayInTrial", "(I)I"⟩ : MethodName), 9)) (List.mem_of_getElem? (i := 6) rfl)
theorem zw_1097 : Cond.selects "PocketHole" (⟨"PocketHole", "goneWithHole", "(II)I"⟩ : MethodName) (⟨"PocketHole", "goneWithHole", "(II)I"⟩ : MethodName) ∈ wsL_law := zp_1 (q := ((⟨"PocketHole", "goneWithHole", "(II)I"⟩ : MethodName), 9)) (List.mem_of_getElem? (i := 7) rfl)
theorem zw_1098 : Cond.selects "PocketHole" (⟨"PocketHole", "lostBehind", "(I)I"⟩ : MethodName) (⟨"PocketHole", "lostBehind", "(I)I"⟩ : MethodName) ∈ wsL_law := zp_1 (q := ((⟨"PocketHole", "lostBehind", "(I)I"⟩ : MethodName), 9)) (List.mem_of_getElem? (i := 8) rfl)
theorem zw_1099 : Cond.selects "PocketHole" (⟨"PocketHole", "richestStaying", "(I)I"⟩ : MethodName) (⟨"PocketHole", "richestStaying", "(I)I"⟩ : MethodName) ∈ wsL_law := zp_1 (q := ((⟨"PocketHole", "richestStaying", "(I)I"⟩ : MethodName), 9)) (List.mem_of_getElem? (i := 9) rfl)
theorem zw_1100 : Cond.selects "PocketHole" (⟨"PocketHole", "stays", "(III)Z"⟩ : MethodName) (⟨"PocketHole", "stays", "(III)Z"⟩ : MethodName) ∈ wsL_law := zp_1 (q := ((⟨"PocketHole", "stays", "(III)Z"⟩ : MethodName), 9)) (List.mem_of_getElem? (i := 10) rfl)
theorem zw_1101 : Cond.selects "PocketHole" (⟨"PocketHole", "markSumsWith", "(I)V"⟩ : MethodName) (⟨"PocketHole", "markSumsWith", "(I)V"⟩ : MethodName) ∈ wsL_law := zp_1 (q := ((⟨"PocketHole", "markSumsWith", "(I)V"⟩ : MethodName), 9)) (List.mem_of_getElem? (i := 11) rfl)
theorem zw_1102 : Cond.selects "PocketHole$Tape" (⟨"PocketHole$Tape", "toNextToken", "()V"⟩ : MethodName) (⟨"PocketHole$Tape", "toNextToken", "()V"⟩ : MethodName) ∈ wsL_law := zp_1 (q := ((⟨"PocketHole$Tape", "toNextToken", "()V"⟩ : MethodName), 6)) (List.mem_of_getElem? (i := 12) rfl)
theorem zw_1103 : Cond.selects "PocketHole$Tape" (⟨"PocketHole$Tape", "takesWord", "(Ljava/lang/String;)Z"⟩ : MethodName) (⟨"PocketHole$Tape", "takesWord", "(Ljava/lang/String;)Z"⟩ : MethodName) ∈ wsL_law := zp_1 (q := ((⟨"PocketHole$Tape", "takesWord", "(Ljava/lang/String;)Z"⟩ : MethodName), 6)) (List.mem_of_getElem? (i := 13) rfl)
theorem zw_1104 : Cond.selects "PocketHole$Tape" (⟨"PocketHole$Tape", "isWord", "(Ljava/lang/String;)Z"⟩ : MethodName) (⟨"PocketHole$Tape", "isWord", "(Ljava/lang/String;)Z"⟩ : MethodName) ∈ wsL_law := zp_1 (q := ((⟨"PocketHole$Tape", "isWord", "(Ljava/lang/String;)Z"⟩ : MethodName), 6)) (List.mem_of_getElem? (i := 14) rfl)
theorem zw_1105 : Cond.selects "PocketHole$Tape" (⟨"PocketHole$Tape", "readsHole", "(LPocketHole$Coat;)Z"⟩ : MethodName) (⟨"PocketHole$Tape", "readsHole", "(LPocketHole$Coat;)Z"⟩ : MethodName) ∈ wsL_law := zp_1 (q := ((⟨"PocketHole$Tape", "readsHole", "(LPocketHole$Coat;)Z"⟩ : MethodName), 6)) (List.mem_of_getElem? (i := 15) rfl)
theorem zw_1106 : Cond.selects "PocketHole$Tape" (⟨"PocketHole$Tape", "takenNumber", "(II)I"⟩ : MethodName) (⟨"PocketHole$Tape", "takenNumber", "(II)I"⟩ : MethodName) ∈ wsL_law := zp_2 (q := ((⟨"PocketHole$Tape", "takenNumber", "(II)I"⟩ : MethodName), 6)) (List.mem_of_getElem? (i := 0) rfl)
theorem zw_1107 : Cond.selects "PocketHole$Tape" (⟨"PocketHole$Tape", "readsGap", "(LPocketHole$Coat;)Z"⟩ : MethodName) (⟨"PocketHole$Tape", "readsGap", "(LPocketHole$Coat;)Z"⟩ : MethodName) ∈ wsL_law := zp_2 (q := ((⟨"PocketHole$Tape", "readsGap", "(LPocketHole$Coat;)Z"⟩ : MethodName), 6)) (List.mem_of_getElem? (i := 1) rfl)
theorem zw_1108 : Cond.selects "PocketHole$Tape" (⟨"PocketHole$Tape", "readsCoin", "(LPocketHole$Coat;)Z"⟩ : MethodName) (⟨"PocketHole$Tape", "readsCoin", "(LPocketHole$Coat;)Z"⟩ : MethodName) ∈ wsL_law := zp_2 (q := ((⟨"PocketHole$Tape", "readsCoin", "(LPocketHole$Coat;)Z"⟩ : MethodName), 6)) (List.mem_of_getElem? (i := 2) rfl)
theorem zw_1109 : Cond.selects "PocketHole$Tape" (⟨"PocketHole$Tape", "kindTold", "()I"⟩ : MethodName) (⟨"PocketHole$Tape", "kindTold", "()I"⟩ : MethodName) ∈ wsL_law := zp_2 (q := ((⟨"PocketHole$Tape", "kindTold", "()I"⟩ : MethodName), 6)) (List.mem_of_getElem? (i := 3) rfl)
theorem zw_1110 : Cond.selects "PocketHole$Tape" (⟨"PocketHole$Tape", "readsPart", "(LPocketHole$Coin;Ljava/lang/String;III)Z"⟩ : MethodName) (⟨"PocketHole$Tape", "readsPart", "(LPocketHole$Coin;Ljava/lang/String;III)Z"⟩ : MethodName) ∈ wsL_law := zp_2 (q := ((⟨"PocketHole$Tape", "readsPart", "(LPocketHole$Coin;Ljava/lang/String;III)Z"⟩ : MethodName), 6)) (List.mem_of_getElem? (i := 4) rfl)
theorem zw_1111 : Cond.selects "PocketHoleModel" (⟨"PocketHoleModel", "finding", "(I)I"⟩ : MethodName) (⟨"PocketHoleModel", "finding", "(I)I"⟩ : MethodName) ∈ wsL_law := zp_2 (q := ((⟨"PocketHoleModel", "finding", "(I)I"⟩ : MethodName), 27)) (List.mem_of_getElem? (i := 5) rfl)
theorem zw_1112 : Cond.selects "PocketHoleModel" (⟨"PocketHoleModel", "comes", "(IIIII)I"⟩ : MethodName) (⟨"PocketHoleModel", "comes", "(IIIII)I"⟩ : MethodName) ∈ wsL_law := zp_2 (q := ((⟨"PocketHoleModel", "comes", "(IIIII)I"⟩ : MethodName), 27)) (List.mem_of_getElem? (i := 6) rfl)
theorem zw_1113 : Cond.selects "PocketHoleModel" (⟨"PocketHoleModel", "goesTo", "(II)I"⟩ : MethodName) (⟨"PocketHoleModel", "goesTo", "(II)I"⟩ : MethodName) ∈ wsL_law := zp_2 (q := ((⟨"PocketHoleModel", "goesTo", "(II)I"⟩ : MethodName), 27)) (List.mem_of_getElem? (i := 7) rfl)
theorem zw_1114 : Cond.selects "PocketHoleModel" (⟨"PocketHoleModel", "become", "(II)I"⟩ : MethodName) (⟨"PocketHoleModel", "become", "(II)I"⟩ : MethodName) ∈ wsL_law := zp_2 (q := ((⟨"PocketHoleModel", "become", "(II)I"⟩ : MethodName), 27)) (List.mem_of_getElem? (i := 8) rfl)
theorem zw_1115 : Cond.selects "PocketHoleModel" (⟨"PocketHoleModel", "isCoin", "(I)Z"⟩ : MethodName) (⟨"PocketHoleModel", "isCoin", "(I)Z"⟩ : MethodName) ∈ wsL_law := zp_2 (q := ((⟨"PocketHoleModel", "isCoin", "(I)Z"⟩ : MethodName), 27)) (List.mem_of_getElem? (i := 9) rfl)
theorem zw_1116 : Cond.selects "PocketHoleModel" (⟨"PocketHoleModel", "thick", "(I)I"⟩ : MethodName) (⟨"PocketHoleModel", "thick", "(I)I"⟩ : MethodName) ∈ wsL_law := zp_2 (q := ((⟨"PocketHoleModel", "thick", "(I)I"⟩ : MethodName), 27)) (List.mem_of_getElem? (i := 10) rfl)
theorem zw_1117 : Cond.selects "PocketHoleModel" (⟨"PocketHoleModel", "coinIs", "(II)I"⟩ : MethodName) (⟨"PocketHoleModel", "coinIs", "(II)I"⟩ : MethodName) ∈ wsL_law := zp_2 (q := ((⟨"PocketHoleModel", "coinIs", "(II)I"⟩ : MethodName), 27)) (List.mem_of_getElem? (i := 11) rfl)
theorem zw_1118 : Cond.selects "PocketHoleModel" (⟨"PocketHoleModel", "goes", "(I)I"⟩ : MethodName) (⟨"PocketHoleModel", "goes", "(I)I"⟩ : MethodName) ∈ wsL_law := zp_2 (q := ((⟨"PocketHoleModel", "goes", "(I)I"⟩ : MethodName), 27)) (List.mem_of_getElem? (i := 12) rfl)
theorem zw_1119 : Cond.selects "PocketHoleModel" (⟨"PocketHoleModel", "wears", "(I)I"⟩ : MethodName) (⟨"PocketHoleModel", "wears", "(I)I"⟩ : MethodName) ∈ wsL_law := zp_2 (q := ((⟨"PocketHoleModel", "wears", "(I)I"⟩ : MethodName), 27)) (List.mem_of_getElem? (i := 13) rfl)
theorem zw_1120 : Cond.selects "PocketHoleModel" (⟨"PocketHoleModel", "lieIn", "(I)I"⟩ : MethodName) (⟨"PocketHoleModel", "lieIn", "(I)I"⟩ : MethodName) ∈ wsL_law := zp_2 (q := ((⟨"PocketHoleModel", "lieIn", "(I)I"⟩ : MethodName), 27)) (List.mem_of_getElem? (i := 14) rfl)
theorem zw_1121 : Cond.selects "PocketHoleModel" (⟨"PocketHoleModel", "isIn", "(II)Z"⟩ : MethodName) (⟨"PocketHoleModel", "isIn", "(II)Z"⟩ : MethodName) ∈ wsL_law := zp_2 (q := ((⟨"PocketHoleModel", "isIn", "(II)Z"⟩ : MethodName), 27)) (List.mem_of_getElem? (i := 15) rfl)
theorem zw_1122 : Cond.selects "PocketHoleModel" (⟨"PocketHoleModel", "sumOf", "(II)I"⟩ : MethodName) (⟨"PocketHoleModel", "sumOf", "(II)I"⟩ : MethodName) ∈ wsL_law := zp_3 (q := ((⟨"PocketHoleModel", "sumOf", "(II)I"⟩ : MethodName), 27)) (List.mem_of_getElem? (i := 0) rfl)
theorem zw_1123 : Cond.selects "PocketHoleModel" (⟨"PocketHoleModel", "isTooLate", "(I)Z"⟩ : MethodName) (⟨"PocketHoleModel", "isTooLate", "(I)Z"⟩ : MethodName) ∈ wsL_law := zp_3 (q := ((⟨"PocketHoleModel", "isTooLate", "(I)Z"⟩ : MethodName), 27)) (List.mem_of_getElem? (i := 1) rfl)
theorem zw_1124 : Cond.selects "PocketHoleModel" (⟨"PocketHoleModel", "stepsGo", "(I)I"⟩ : MethodName) (⟨"PocketHoleModel", "stepsGo", "(I)I"⟩ : MethodName) ∈ wsL_law := zp_3 (q := ((⟨"PocketHoleModel", "stepsGo", "(I)I"⟩ : MethodName), 27)) (List.mem_of_getElem? (i := 2) rfl)
theorem zw_1125 : Cond.selects "PocketHoleModel" (⟨"PocketHoleModel", "inPocket", "(I)V"⟩ : MethodName) (⟨"PocketHoleModel", "inPocket", "(I)V"⟩ : MethodName) ∈ wsL_law := zp_3 (q := ((⟨"PocketHoleModel", "inPocket", "(I)V"⟩ : MethodName), 27)) (List.mem_of_getElem? (i := 3) rfl)
theorem zw_1126 : Cond.selects "PocketHoleModel" (⟨"PocketHoleModel", "wider", "(I)V"⟩ : MethodName) (⟨"PocketHoleModel", "wider", "(I)V"⟩ : MethodName) ∈ wsL_law := zp_3 (q := ((⟨"PocketHoleModel", "wider", "(I)V"⟩ : MethodName), 27)) (List.mem_of_getElem? (i := 4) rfl)
theorem zw_1127 : Cond.selects "PocketHoleModel" (⟨"PocketHoleModel", "inLining", "(I)V"⟩ : MethodName) (⟨"PocketHoleModel", "inLining", "(I)V"⟩ : MethodName) ∈ wsL_law := zp_3 (q := ((⟨"PocketHoleModel", "inLining", "(I)V"⟩ : MethodName), 27)) (List.mem_of_getElem? (i := 5) rfl)
theorem zw_1128 : Cond.selects "PocketHoleModel" (⟨"PocketHoleModel", "hasCompany", "(I)Z"⟩ : MethodName) (⟨"PocketHoleModel", "hasCompany", "(I)Z"⟩ : MethodName) ∈ wsL_law := zp_3 (q := ((⟨"PocketHoleModel", "hasCompany", "(I)Z"⟩ : MethodName), 27)) (List.mem_of_getElem? (i := 6) rfl)
theorem zw_1129 : Cond.selects "PocketHoleModel" (⟨"PocketHoleModel", "clinks", "()I"⟩ : MethodName) (⟨"PocketHoleModel", "clinks", "()I"⟩ : MethodName) ∈ wsL_law := zp_3 (q := ((⟨"PocketHoleModel", "clinks", "()I"⟩ : MethodName), 27)) (List.mem_of_getElem? (i := 7) rfl)
theorem zw_1130 : Cond.selects "PocketHoleModel" (⟨"PocketHoleModel", "putBack", "(I)I"⟩ : MethodName) (⟨"PocketHoleModel", "putBack", "(I)I"⟩ : MethodName) ∈ wsL_law := zp_3 (q := ((⟨"PocketHoleModel", "putBack", "(I)I"⟩ : MethodName), 27)) (List.mem_of_getElem? (i := 8) rfl)
theorem zw_1131 : Cond.selects "PocketHoleModel" (⟨"PocketHoleModel", "tillTold", "(IZ)I"⟩ : MethodName) (⟨"PocketHoleModel", "tillTold", "(IZ)I"⟩ : MethodName) ∈ wsL_law := zp_3 (q := ((⟨"PocketHoleModel", "tillTold", "(IZ)I"⟩ : MethodName), 27)) (List.mem_of_getElem? (i := 9) rfl)
theorem zw_1132 : Cond.selects "PocketHoleModel" (⟨"PocketHoleModel", "isLate", "()Z"⟩ : MethodName) (⟨"PocketHoleModel", "isLate", "()Z"⟩ : MethodName) ∈ wsL_law := zp_3 (q := ((⟨"PocketHoleModel", "isLate", "()Z"⟩ : MethodName), 27)) (List.mem_of_getElem? (i := 10) rfl)
theorem zw_1133 : Cond.selects "PocketHoleModel" (⟨"PocketHoleModel", "till", "(IZ)I"⟩ : MethodName) (⟨"PocketHoleModel", "till", "(IZ)I"⟩ : MethodName) ∈ wsL_law := zp_3 (q := ((⟨"PocketHoleModel", "till", "(IZ)I"⟩ : MethodName), 27)) (List.mem_of_getElem? (i := 11) rfl)
theorem zw_1134 : Cond.selects "PocketHoleModel" (⟨"PocketHoleModel", "refuses", "(ZII)I"⟩ : MethodName) (⟨"PocketHoleModel", "refuses", "(ZII)I"⟩ : MethodName) ∈ wsL_law := zp_3 (q := ((⟨"PocketHoleModel", "refuses", "(ZII)I"⟩ : MethodName), 27)) (List.mem_of_getElem? (i := 12) rfl)
theorem zw_1135 : Cond.selects "PocketHoleModel" (⟨"PocketHoleModel", "lostThen", "(II)I"⟩ : MethodName) (⟨"PocketHoleModel", "lostThen", "(II)I"⟩ : MethodName) ∈ wsL_law := zp_3 (q := ((⟨"PocketHoleModel", "lostThen", "(II)I"⟩ : MethodName), 27)) (List.mem_of_getElem? (i := 13) rfl)
theorem zw_1136 : Cond.selects "PocketHoleModel" (⟨"PocketHoleModel", "findCarry", "(I)V"⟩ : MethodName) (⟨"PocketHoleModel", "findCarry", "(I)V"⟩ : MethodName) ∈ wsL_law := zp_3 (q := ((⟨"PocketHoleModel", "findCarry", "(I)V"⟩ : MethodName), 27)) (List.mem_of_getElem? (i := 14) rfl)
theorem zw_1137 : Cond.selects "PocketHoleModel" (⟨"PocketHoleModel", "payWith", "(IIZ)I"⟩ : MethodName) (⟨"PocketHoleModel", "payWith", "(IIZ)I"⟩ : MethodName) ∈ wsL_law := zp_3 (q := ((⟨"PocketHoleModel", "payWith", "(IIZ)I"⟩ : MethodName), 27)) (List.mem_of_getElem? (i := 15) rfl)
theorem zw_1138 : Cond.selects "PocketHoleModel" (⟨"PocketHoleModel", "thin", "()I"⟩ : MethodName) (⟨"PocketHoleModel", "thin", "()I"⟩ : MethodName) ∈ wsL_law := zp_4 (q := ((⟨"PocketHoleModel", "thin", "()I"⟩ : MethodName), 27)) (List.mem_of_getElem? (i := 0) rfl)
theorem zw_1139 : Cond.selects "PocketHoleModel" (⟨"PocketHoleModel", "isSet", "(I)Z"⟩ : MethodName) (⟨"PocketHoleModel", "isSet", "(I)Z"⟩ : MethodName) ∈ wsL_law := zp_4 (q := ((⟨"PocketHoleModel", "isSet", "(I)Z"⟩ : MethodName), 27)) (List.mem_of_getElem? (i := 1) rfl)
theorem zw_1140 : Cond.selects "PocketHoleModel" (⟨"PocketHoleModel", "holesFor", "(II)I"⟩ : MethodName) (⟨"PocketHoleModel", "holesFor", "(II)I"⟩ : MethodName) ∈ wsL_law := zp_4 (q := ((⟨"PocketHoleModel", "holesFor", "(II)I"⟩ : MethodName), 27)) (List.mem_of_getElem? (i := 2) rfl)
theorem zw_1141 : Cond.selects "PocketHoleModel" (⟨"PocketHoleModel", "hasFallen", "(I)Z"⟩ : MethodName) (⟨"PocketHoleModel", "hasFallen", "(I)Z"⟩ : MethodName) ∈ wsL_law := zp_4 (q := ((⟨"PocketHoleModel", "hasFallen", "(I)Z"⟩ : MethodName), 27)) (List.mem_of_getElem? (i := 3) rfl)
theorem zw_1142 : Cond.selects "PocketHoleModel" (⟨"PocketHoleModel", "backCell", "(II)I"⟩ : MethodName) (⟨"PocketHoleModel", "backCell", "(II)I"⟩ : MethodName) ∈ wsL_law := zp_4 (q := ((⟨"PocketHoleModel", "backCell", "(II)I"⟩ : MethodName), 27)) (List.mem_of_getElem? (i := 4) rfl)
theorem zw_1143 : Cond.selects "PocketHoleModel" (⟨"PocketHoleModel", "drawn", "(I)I"⟩ : MethodName) (⟨"PocketHoleModel", "drawn", "(I)I"⟩ : MethodName) ∈ wsL_law := zp_4 (q := ((⟨"PocketHoleModel", "drawn", "(I)I"⟩ : MethodName), 27)) (List.mem_of_getElem? (i := 5) rfl)
theorem zw_1144 : Cond.selects "PocketHoleModel" (⟨"PocketHoleModel", "next", "()V"⟩ : MethodName) (⟨"PocketHoleModel", "next", "()V"⟩ : MethodName) ∈ wsL_law := zp_4 (q := ((⟨"PocketHoleModel", "next", "()V"⟩ : MethodName), 27)) (List.mem_of_getElem? (i := 6) rfl)
theorem zw_1145 : Cond.selects "PocketHoleModel" (⟨"PocketHoleModel", "byteAt", "(I)I"⟩ : MethodName) (⟨"PocketHoleModel", "byteAt", "(I)I"⟩ : MethodName) ∈ wsL_law := zp_4 (q := ((⟨"PocketHoleModel", "byteAt", "(I)I"⟩ : MethodName), 27)) (List.mem_of_getElem? (i := 7) rfl)
theorem zw_1146 : Cond.selects "PocketHoleModel" (⟨"PocketHoleModel", "readItem", "()V"⟩ : MethodName) (⟨"PocketHoleModel", "readItem", "()V"⟩ : MethodName) ∈ wsL_law := zp_4 (q := ((⟨"PocketHoleModel", "readItem", "()V"⟩ : MethodName), 27)) (List.mem_of_getElem? (i := 8) rfl)
theorem zw_1147 : Cond.selects "PocketHoleModel" (⟨"PocketHoleModel", "kindTold", "()I"⟩ : MethodName) (⟨"PocketHoleModel", "kindTold", "()I"⟩ : MethodName) ∈ wsL_law := zp_4 (q := ((⟨"PocketHoleModel", "kindTold", "()I"⟩ : MethodName), 27)) (List.mem_of_getElem? (i := 9) rfl)
theorem zw_1148 : Cond.selects "PocketHoleModel" (⟨"PocketHoleModel", "isWord", "(Ljava/lang/String;)Z"⟩ : MethodName) (⟨"PocketHoleModel", "isWord", "(Ljava/lang/String;)Z"⟩ : MethodName) ∈ wsL_law := zp_4 (q := ((⟨"PocketHoleModel", "isWord", "(Ljava/lang/String;)Z"⟩ : MethodName), 27)) (List.mem_of_getElem? (i := 10) rfl)
theorem zw_1149 : Cond.selects "PocketHoleModel" (⟨"PocketHoleModel", "must", "(Z)V"⟩ : MethodName) (⟨"PocketHoleModel", "must", "(Z)V"⟩ : MethodName) ∈ wsL_law := zp_4 (q := ((⟨"PocketHoleModel", "must", "(Z)V"⟩ : MethodName), 27)) (List.mem_of_getElem? (i := 11) rfl)
theorem zw_1150 : Cond.selects "PocketHoleModel" (⟨"PocketHoleModel", "isNext", "(Ljava/lang/String;)Z"⟩ : MethodName) (⟨"PocketHoleModel", "isNext", "(Ljava/lang/String;)Z"⟩ : MethodName) ∈ wsL_law := zp_4 (q := ((⟨"PocketHoleModel", "isNext", "(Ljava/lang/String;)Z"⟩ : MethodName), 27)) (List.mem_of_getElem? (i := 12) rfl)
theorem zw_1151 : Cond.selects "PocketHoleModel" (⟨"PocketHoleModel", "number", "(II)I"⟩ : MethodName) (⟨"PocketHoleModel", "number", "(II)I"⟩ : MethodName) ∈ wsL_law := zp_4 (q := ((⟨"PocketHoleModel", "number", "(II)I"⟩ : MethodName), 27)) (List.mem_of_getElem? (i := 13) rfl)
theorem zw_1152 : Cond.selects "PocketHoleModel" (⟨"PocketHoleModel", "item", "(IIIII)V"⟩ : MethodName) (⟨"PocketHoleModel", "item", "(IIIII)V"⟩ : MethodName) ∈ wsL_law := zp_4 (q := ((⟨"PocketHoleModel", "item", "(IIIII)V"⟩ : MethodName), 27)) (List.mem_of_getElem? (i := 14) rfl)
theorem zw_1153 : Cond.selects "PocketHoleModel" (⟨"PocketHoleModel", "isSo", "(I)I"⟩ : MethodName) (⟨"PocketHoleModel", "isSo", "(I)I"⟩ : MethodName) ∈ wsL_law := zp_4 (q := ((⟨"PocketHoleModel", "isSo", "(I)I"⟩ : MethodName), 27)) (List.mem_of_getElem? (i := 15) rfl)
theorem inlX0 : ∀ w ∈ u_ws RX0 TX0 8, w ∈ wsL_law := by
  intro w hw
  obtain ⟨k, hk, rfl⟩ := List.mem_map.mp hw
  have hk := List.mem_range.mp hk
  rcases (show k = 0 ∨ k = 1 ∨ k = 2 ∨ k = 3 ∨ k = 4 ∨ k = 5 ∨ k = 6 ∨ k = 7 by omega) with rfl | rfl | rfl | rfl | rfl | rfl | rfl | rfl
  · exact zw_84
  · exact zw_85
  · exact zw_86
  · exact zw_87
  · exact zw_88
  · exact zw_89
  · exact zw_90
  · exact zw_91
theorem inlX1 : ∀ w ∈ u_ws RX1 TX1 8, w ∈ wsL_law := by
  intro w hw
  obtain ⟨k, hk, rfl⟩ := List.mem_map.mp hw
  have hk := List.mem_range.mp hk
  rcases (show k = 0 ∨ k = 1 ∨ k = 2 ∨ k = 3 ∨ k = 4 ∨ k = 5 ∨ k = 6 ∨ k = 7 by omega) with rfl | rfl | rfl | rfl | rfl | rfl | rfl | rfl
  · exact zw_55
  · exact zw_56
  · exact zw_57
  · exact zw_58
  · exact zw_59
  · exact zw_60
  · exact zw_61
  · exact zw_62
theorem inlX2 : ∀ w ∈ u_ws RX2 TX2 3, w ∈ wsL_law := by
  intro w hw
  obtain ⟨k, hk, rfl⟩ := List.mem_map.mp hw
  have hk := List.mem_range.mp hk
  rcases (show k = 0 ∨ k = 1 ∨ k = 2 by omega) with rfl | rfl | rfl
  · exact zw_123
  · exact zw_124
  · exact zw_125
theorem inlX3 : ∀ w ∈ u_ws RX3 TX3 6, w ∈ wsL_law := by
  intro w hw
  obtain ⟨k, hk, rfl⟩ := List.mem_map.mp hw
  have hk := List.mem_range.mp hk
  rcases (show k = 0 ∨ k = 1 ∨ k = 2 ∨ k = 3 ∨ k = 4 ∨ k = 5 by omega) with rfl | rfl | rfl | rfl | rfl | rfl
  · exact zw_105
  · exact zw_106
  · exact zw_107
  · exact zw_108
  · exact zw_109
  · exact zw_110
theorem inlX4 : ∀ w ∈ u_ws RX4 TX4 9, w ∈ wsL_law := by
  intro w hw
  obtain ⟨k, hk, rfl⟩ := List.mem_map.mp hw
  have hk := List.mem_range.mp hk
  rcases (show k = 0 ∨ k = 1 ∨ k = 2 ∨ k = 3 ∨ k = 4 ∨ k = 5 ∨ k = 6 ∨ k = 7 ∨ k = 8 by omega) with rfl | rfl | rfl | rfl | rfl | rfl | rfl | rfl | rfl
  · exact zw_136
  · exact zw_137
  · exact zw_138
  · exact zw_139
  · exact zw_140
  · exact zw_141
  · exact zw_142
  · exact zw_143
  · exact zw_144
theorem inlX5 : ∀ w ∈ u_ws RX5 TX5 27, w ∈ wsL_law := by
  intro w hw
  obtain ⟨k, hk, rfl⟩ := List.mem_map.mp hw
  have hk := List.mem_range.mp hk
  rcases (show k = 0 ∨ k = 1 ∨ k = 2 ∨ k = 3 ∨ k = 4 ∨ k = 5 ∨ k = 6 ∨ k = 7 ∨ k = 8 ∨ k = 9 ∨ k = 10 ∨ k = 11 ∨ k = 12 ∨ k = 13 ∨ k = 14 ∨ k = 15 ∨ k = 16 ∨ k = 17 ∨ k = 18 ∨ k = 19 ∨ k = 20 ∨ k = 21 ∨ k = 22 ∨ k = 23 ∨ k = 24 ∨ k = 25 ∨ k = 26 by omega) with rfl | rfl | rfl | rfl | rfl | rfl | rfl | rfl | rfl | rfl | rfl | rfl | rfl | rfl | rfl | rfl | rfl | rfl | rfl | rfl | rfl | rfl | rfl | rfl | rfl | rfl | rfl
  · exact zw_683
  · exact zw_684
  · exact zw_685
  · exact zw_686
  · exact zw_687
  · exact zw_688
  · exact zw_689
  · exact zw_690
  · exact zw_691
  · exact zw_692
  · exact zw_693
  · exact zw_694
  · exact zw_695
  · exact zw_696
  · exact zw_697
  · exact zw_698
  · exact zw_699
  · exact zw_700
  · exact zw_701
  · exact zw_702
  · exact zw_703
  · exact zw_704
  · exact zw_705
  · exact zw_706
  · exact zw_707
  · exact zw_708
  · exact zw_709
