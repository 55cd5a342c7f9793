
def RX0 : String := "Nestprint$CodeReader"
def TX0 : u_T := fun k => match k with
  | 0 => ("Nestprint$CodeReader", "owners", "LNestprint$Row;", true)
  | 1 => ("Nestprint$CodeReader", "nameStarts", "LNestprint$Row;", true)
  | 2 => ("Nestprint$CodeReader", "nameLengths", "LNestprint$Row;", true)
  | 3 => ("Nestprint$CodeReader", "itemStarts", "LNestprint$Row;", true)
  | 4 => ("Nestprint$CodeReader", "sumStarts", "LNestprint$Row;", true)
  | 5 => ("Nestprint$CodeReader", "productStarts", "LNestprint$Row;", true)
  | 6 => ("Nestprint$CodeReader", "items", "LNestprint$Row;", true)
  | 7 => ("Nestprint$CodeReader", "state", "I", false)
  | 8 => ("Nestprint$CodeReader", "nameStart", "I", false)
  | 9 => ("Nestprint$CodeReader", "sumStart", "I", false)
  | _ => ("Nestprint$CodeReader", "productStart", "I", false)
def tyX0 : Nat → FieldType := fun k => match k with
  | 0 => .object "Nestprint$Row"
  | 1 => .object "Nestprint$Row"
  | 2 => .object "Nestprint$Row"
  | 3 => .object "Nestprint$Row"
  | 4 => .object "Nestprint$Row"
  | 5 => .object "Nestprint$Row"
  | 6 => .object "Nestprint$Row"
  | 7 => .int
  | 8 => .int
  | 9 => .int
  | _ => .int
abbrev wsX00 : List Cond := u_ws RX0 TX0 11
abbrev cX0_init : ByteArray := prog_2_method_1_code
def yX0_init : MethodName := ⟨RX0, "<init>", "()V"⟩
abbrev cX0_faultOf : ByteArray := prog_2_method_2_code
def yX0_faultOf : MethodName := ⟨RX0, "faultOf", "(LNestprint$Row;LNestprint$Tree;)I"⟩
abbrev cX0_begin : ByteArray := prog_2_method_3_code
def yX0_begin : MethodName := ⟨RX0, "begin", "()V"⟩
abbrev cX0_startSum : ByteArray := prog_2_method_4_code
def yX0_startSum : MethodName := ⟨RX0, "startSum", "()V"⟩
abbrev cX0_isBehindFactor : ByteArray := prog_2_method_5_code
def yX0_isBehindFactor : MethodName := ⟨RX0, "isBehindFactor", "()Z"⟩
def RX1 : String := "Nestprint$DocumentReader"
def TX1 : u_T := fun k => match k with
  | 0 => ("Nestprint$DocumentReader", "owners", "LNestprint$Row;", true)
  | 1 => ("Nestprint$DocumentReader", "itemStarts", "LNestprint$Row;", true)
  | _ => ("Nestprint$DocumentReader", "items", "LNestprint$Row;", true)
def tyX1 : Nat → FieldType := fun k => match k with
  | 0 => .object "Nestprint$Row"
  | 1 => .object "Nestprint$Row"
  | _ => .object "Nestprint$Row"
abbrev wsX10 : List Cond := u_ws RX1 TX1 3
abbrev cX1_init : ByteArray := prog_3_method_1_code
def yX1_init : MethodName := ⟨RX1, "<init>", "()V"⟩
abbrev cX1_faultOf : ByteArray := prog_3_method_5_code
def yX1_faultOf : MethodName := ⟨RX1, "faultOf", "(LNestprint$Row;)I"⟩
abbrev cX1_build : ByteArray := prog_3_method_6_code
def yX1_build : MethodName := ⟨RX1, "build", "(LNestprint$Row;LNestprint$Nodes;)I"⟩
abbrev cX1_gathered : ByteArray := prog_3_method_8_code
def yX1_gathered : MethodName := ⟨RX1, "gathered", "(ILNestprint$Nodes;)I"⟩
def RX2 : String := "Nestprint$Layout"
def TX2 : u_T := fun k => match k with
  | 0 => ("Nestprint$Layout", "script", "LNestprint$Script;", true)
  | 1 => ("Nestprint$Layout", "wishes", "LNestprint$Wishes;", true)
  | 2 => ("Nestprint$Layout", "columns", "LNestprint$Row;", true)
  | 3 => ("Nestprint$Layout", "ones", "LNestprint$Row;", true)
  | 4 => ("Nestprint$Layout", "firsts", "LNestprint$Row;", true)
  | 5 => ("Nestprint$Layout", "indents", "LNestprint$Row;", true)
  | 6 => ("Nestprint$Layout", "lengths", "LNestprint$Row;", true)
  | 7 => ("Nestprint$Layout", "held", "LNestprint$Row;", true)
  | 8 => ("Nestprint$Layout", "ink", "LNestprint$Row;", true)
  | 9 => ("Nestprint$Layout", "width", "I", false)
  | 10 => ("Nestprint$Layout", "ribbon", "I", false)
  | 11 => ("Nestprint$Layout", "way", "I", false)
  | 12 => ("Nestprint$Layout", "right", "I", false)
  | 13 => ("Nestprint$Layout", "column", "I", false)
  | 14 => ("Nestprint$Layout", "indent", "I", false)
  | 15 => ("Nestprint$Layout", "cost", "I", false)
  | 16 => ("Nestprint$Layout", "flatEnd", "I", false)
  | _ => ("Nestprint$Layout", "marksAround", "I", false)
def tyX2 : Nat → FieldType := fun k => match k with
  | 0 => .object "Nestprint$Script"
  | 1 => .object "Nestprint$Wishes"
  | 2 => .object "Nestprint$Row"
  | 3 => .object "Nestprint$Row"
  | 4 => .object "Nestprint$Row"
  | 5 => .object "Nestprint$Row"
  | 6 => .object "Nestprint$Row"
  | 7 => .object "Nestprint$Row"
  | 8 => .object "Nestprint$Row"
  | 9 => .int
  | 10 => .int
  | 11 => .int
  | 12 => .int
  | 13 => .int
  | 14 => .int
  | 15 => .int
  | 16 => .int
  | _ => .int
abbrev wsX20 : List Cond := u_ws RX2 TX2 18
abbrev cX2_init : ByteArray := prog_4_method_1_code
def yX2_init : MethodName := ⟨RX2, "<init>", "(LNestprint$Row;)V"⟩
def RX3 : String := "Nestprint$Nodes"
def TX3 : u_T := fun k => match k with
  | 0 => ("Nestprint$Nodes", "numbers", "LNestprint$Row;", true)
  | 1 => ("Nestprint$Nodes", "kinds", "LNestprint$Row;", true)
  | 2 => ("Nestprint$Nodes", "starts", "LNestprint$Row;", true)
  | 3 => ("Nestprint$Nodes", "counts", "LNestprint$Row;", true)
  | 4 => ("Nestprint$Nodes", "bys", "LNestprint$Row;", true)
  | 5 => ("Nestprint$Nodes", "weights", "LNestprint$Row;", true)
  | 6 => ("Nestprint$Nodes", "depths", "LNestprint$Row;", true)
  | 7 => ("Nestprint$Nodes", "parts", "LNestprint$Row;", true)
  | _ => ("Nestprint$Nodes", "signs", "LNestprint$Row;", true)
def tyX3 : Nat → FieldType := fun k => match k with
  | 0 => .object "Nestprint$Row"
  | 1 => .object "Nestprint$Row"
  | 2 => .object "Nestprint$Row"
  | 3 => .object "Nestprint$Row"
  | 4 => .object "Nestprint$Row"
  | 5 => .object "Nestprint$Row"
  | 6 => .object "Nestprint$Row"
  | 7 => .object "Nestprint$Row"
  | _ => .object "Nestprint$Row"
abbrev wsX30 : List Cond := u_ws RX3 TX3 9
abbrev cX3_init : ByteArray := prog_5_method_1_code
def yX3_init : MethodName := ⟨RX3, "<init>", "()V"⟩
abbrev cX3_count : ByteArray := prog_5_method_2_code
def yX3_count : MethodName := ⟨RX3, "count", "()I"⟩
abbrev cX3_has : ByteArray := prog_5_method_3_code
def yX3_has : MethodName := ⟨RX3, "has", "(I)Z"⟩
abbrev cX3_signs : ByteArray := prog_5_method_9_code
def yX3_signs : MethodName := ⟨RX3, "signs", "()LNestprint$Row;"⟩
abbrev cX3_weightOfAll : ByteArray := prog_5_method_10_code
def yX3_weightOfAll : MethodName := ⟨RX3, "weightOfAll", "()I"⟩
abbrev cX3_clear : ByteArray := prog_5_method_11_code
def yX3_clear : MethodName := ⟨RX3, "clear", "()V"⟩
abbrev cX3_number : ByteArray := prog_5_method_12_code
def yX3_number : MethodName := ⟨RX3, "number", "(I)I"⟩
abbrev cX3_addSign : ByteArray := prog_5_method_13_code
def yX3_addSign : MethodName := ⟨RX3, "addSign", "(I)V"⟩
abbrev cX3_addText : ByteArray := prog_5_method_15_code
def yX3_addText : MethodName := ⟨RX3, "addText", "(I)I"⟩
abbrev cX3_addMark : ByteArray := prog_5_method_16_code
def yX3_addMark : MethodName := ⟨RX3, "addMark", "(I)I"⟩
abbrev cX3_addPlace : ByteArray := prog_5_method_18_code
def yX3_addPlace : MethodName := ⟨RX3, "addPlace", "(IIIIII)I"⟩
def RX4 : String := "Nestprint$Row"
def TX4 : u_T := fun k => match k with
  | 0 => ("Nestprint$Row", "cells", "[I", true)
  | _ => ("Nestprint$Row", "size", "I", false)
def tyX4 : Nat → FieldType := fun k => match k with
  | 0 => .array .int
  | _ => .int
abbrev wsX40 : List Cond := u_ws RX4 TX4 2
abbrev cX4_init : ByteArray := prog_6_method_1_code
def yX4_init : MethodName := ⟨RX4, "<init>", "(I)V"⟩
abbrev cX4_size : ByteArray := prog_6_method_2_code
def yX4_size : MethodName := ⟨RX4, "size", "()I"⟩
abbrev cX4_get : ByteArray := prog_6_method_3_code
def yX4_get : MethodName := ⟨RX4, "get", "(I)I"⟩
abbrev cX4_add : ByteArray := prog_6_method_5_code
def yX4_add : MethodName := ⟨RX4, "add", "(I)V"⟩
abbrev cX4_cut : ByteArray := prog_6_method_8_code
def yX4_cut : MethodName := ⟨RX4, "cut", "(I)V"⟩
abbrev cX4_clear : ByteArray := prog_6_method_9_code
def yX4_clear : MethodName := ⟨RX4, "clear", "()V"⟩
abbrev cX4_copy : ByteArray := prog_6_method_10_code
def yX4_copy : MethodName := ⟨RX4, "copy", "(LNestprint$Row;)V"⟩
def RX5 : String := "Nestprint$Script"
def TX5 : u_T := fun k => match k with
  | 0 => ("Nestprint$Script", "kinds", "LNestprint$Row;", true)
  | 1 => ("Nestprint$Script", "starts", "LNestprint$Row;", true)
  | 2 => ("Nestprint$Script", "lengths", "LNestprint$Row;", true)
  | 3 => ("Nestprint$Script", "ends", "LNestprint$Row;", true)
  | 4 => ("Nestprint$Script", "opened", "LNestprint$Row;", true)
  | 5 => ("Nestprint$Script", "flats", "LNestprint$Row;", true)
  | 6 => ("Nestprint$Script", "hards", "LNestprint$Row;", true)
  | 7 => ("Nestprint$Script", "marks", "LNestprint$Row;", true)
  | 8 => ("Nestprint$Script", "runs", "LNestprint$Row;", true)
  | _ => ("Nestprint$Script", "signs", "LNestprint$Row;", false)
def tyX5 : Nat → FieldType := fun k => match k with
  | 0 => .object "Nestprint$Row"
  | 1 => .object "Nestprint$Row"
  | 2 => .object "Nestprint$Row"
  | 3 => .object "Nestprint$Row"
  | 4 => .object "Nestprint$Row"
  | 5 => .object "Nestprint$Row"
  | 6 => .object "Nestprint$Row"
  | 7 => .object "Nestprint$Row"
  | 8 => .object "Nestprint$Row"
  | _ => .object "Nestprint$Row"
abbrev wsX50 : List Cond := u_ws RX5 TX5 10
abbrev cX5_init : ByteArray := prog_7_method_1_code
def yX5_init : MethodName := ⟨RX5, "<init>", "(LNestprint$Row;)V"⟩
def RX6 : String := "Nestprint$Sound"
def TX6 : u_T := fun k => match k with
  | 0 => ("Nestprint$Sound", "nodes", "LNestprint$Nodes;", true)
  | 1 => ("Nestprint$Sound", "coder", "LNestprint$CodeReader;", true)
  | 2 => ("Nestprint$Sound", "bench", "LNestprint$Layout;", true)
  | 3 => ("Nestprint$Sound", "other", "LNestprint$Layout;", true)
  | _ => ("Nestprint$Sound", "gathered", "LNestprint$Row;", true)
def tyX6 : Nat → FieldType := fun k => match k with
  | 0 => .object "Nestprint$Nodes"
  | 1 => .object "Nestprint$CodeReader"
  | 2 => .object "Nestprint$Layout"
  | 3 => .object "Nestprint$Layout"
  | _ => .object "Nestprint$Row"
abbrev wsX60 : List Cond := u_ws RX6 TX6 5
abbrev cX6_init : ByteArray := prog_8_method_1_code
def yX6_init : MethodName := ⟨RX6, "<init>", "(LNestprint$Nodes;LNestprint$CodeReader;LNestprint$Layout;LNestprint$Layout;)V"⟩
abbrev cX6_holds : ByteArray := prog_8_method_2_code
def yX6_holds : MethodName := ⟨RX6, "holds", "(LNestprint$Tree;LNestprint$Tree;II)Z"⟩
def RX7 : String := "Nestprint$Tree"
def TX7 : u_T := fun k => match k with
  | 0 => ("Nestprint$Tree", "kinds", "LNestprint$Row;", true)
  | 1 => ("Nestprint$Tree", "starts", "LNestprint$Row;", true)
  | 2 => ("Nestprint$Tree", "lengths", "LNestprint$Row;", true)
  | 3 => ("Nestprint$Tree", "firsts", "LNestprint$Row;", true)
  | 4 => ("Nestprint$Tree", "counts", "LNestprint$Row;", true)
  | 5 => ("Nestprint$Tree", "depths", "LNestprint$Row;", true)
  | 6 => ("Nestprint$Tree", "parts", "LNestprint$Row;", true)
  | 7 => ("Nestprint$Tree", "signs", "LNestprint$Row;", true)
  | 8 => ("Nestprint$Tree", "inPlain", "LNestprint$Row;", true)
  | _ => ("Nestprint$Tree", "root", "I", false)
def tyX7 : Nat → FieldType := fun k => match k with
  | 0 => .object "Nestprint$Row"
  | 1 => .object "Nestprint$Row"
  | 2 => .object "Nestprint$Row"
  | 3 => .object "Nestprint$Row"
  | 4 => .object "Nestprint$Row"
  | 5 => .object "Nestprint$Row"
  | 6 => .object "Nestprint$Row"
  | 7 => .object "Nestprint$Row"
  | 8 => .object "Nestprint$Row"
  | _ => .int
abbrev wsX70 : List Cond := u_ws RX7 TX7 10
abbrev cX7_init : ByteArray := prog_9_method_1_code
def yX7_init : MethodName := ⟨RX7, "<init>", "()V"⟩
abbrev cX7_start : ByteArray := prog_9_method_2_code
def yX7_start : MethodName := ⟨RX7, "start", "(LNestprint$Row;)V"⟩
abbrev cX7_isThere : ByteArray := prog_9_method_3_code
def yX7_isThere : MethodName := ⟨RX7, "isThere", "()Z"⟩
abbrev cX7_signsOfPlain : ByteArray := prog_9_method_8_code
def yX7_signsOfPlain : MethodName := ⟨RX7, "signsOfPlain", "()LNestprint$Row;"⟩
def RX8 : String := "Nestprint$Wishes"
def TX8 : u_T := fun k => match k with
  | 0 => ("Nestprint$Wishes", "wishes", "LNestprint$Row;", true)
  | 1 => ("Nestprint$Wishes", "best", "LNestprint$Row;", true)
  | _ => ("Nestprint$Wishes", "asked", "I", false)
def tyX8 : Nat → FieldType := fun k => match k with
  | 0 => .object "Nestprint$Row"
  | 1 => .object "Nestprint$Row"
  | _ => .int
abbrev wsX80 : List Cond := u_ws RX8 TX8 3
abbrev cX8_init : ByteArray := prog_10_method_1_code
def yX8_init : MethodName := ⟨RX8, "<init>", "()V"⟩
def RX9 : String := "Nestprint"
def TX9 : u_T := fun k => match k with
  | 0 => ("Nestprint", "nodes", "LNestprint$Nodes;", true)
  | 1 => ("Nestprint", "typed", "LNestprint$Row;", true)
  | 2 => ("Nestprint", "codes", "LNestprint$Row;", true)
  | 3 => ("Nestprint", "documents", "LNestprint$DocumentReader;", true)
  | 4 => ("Nestprint", "coder", "LNestprint$CodeReader;", true)
  | 5 => ("Nestprint", "bench", "LNestprint$Layout;", true)
  | 6 => ("Nestprint", "other", "LNestprint$Layout;", true)
  | 7 => ("Nestprint", "sound", "LNestprint$Sound;", true)
  | 8 => ("Nestprint", "page", "Ljava/lang/StringBuilder;", true)
  | 9 => ("Nestprint", "kept", "LNestprint$Tree;", false)
  | 10 => ("Nestprint", "spare", "LNestprint$Tree;", false)
  | 11 => ("Nestprint", "width", "I", false)
  | 12 => ("Nestprint", "ribbon", "I", false)
  | 13 => ("Nestprint", "told", "I", false)
  | 14 => ("Nestprint", "knocks", "I", false)
  | _ => ("Nestprint", "made", "I", false)
def tyX9 : Nat → FieldType := fun k => match k with
  | 0 => .object "Nestprint$Nodes"
  | 1 => .object "Nestprint$Row"
  | 2 => .object "Nestprint$Row"
  | 3 => .object "Nestprint$DocumentReader"
  | 4 => .object "Nestprint$CodeReader"
  | 5 => .object "Nestprint$Layout"
  | 6 => .object "Nestprint$Layout"
  | 7 => .object "Nestprint$Sound"
  | 8 => .object "java/lang/StringBuilder"
  | 9 => .object "Nestprint$Tree"
  | 10 => .object "Nestprint$Tree"
  | 11 => .int
  | 12 => .int
  | 13 => .int
  | 14 => .int
  | _ => .int
abbrev wsX90 : List Cond := u_ws RX9 TX9 16
abbrev cX9_init : ByteArray := prog_1_method_1_code
def yX9_init : MethodName := ⟨RX9, "<init>", "()V"⟩
abbrev cX9_word : ByteArray := prog_1_method_2_code
def yX9_word : MethodName := ⟨RX9, "word", "(II)I"⟩
abbrev cX9_mark : ByteArray := prog_1_method_3_code
def yX9_mark : MethodName := ⟨RX9, "mark", "(I)I"⟩
abbrev cX9_join : ByteArray := prog_1_method_4_code
def yX9_join : MethodName := ⟨RX9, "join", "(II)I"⟩
abbrev cX9_nest : ByteArray := prog_1_method_5_code
def yX9_nest : MethodName := ⟨RX9, "nest", "(II)I"⟩
abbrev cX9_align : ByteArray := prog_1_method_6_code
def yX9_align : MethodName := ⟨RX9, "align", "(I)I"⟩
abbrev cX9_group : ByteArray := prog_1_method_7_code
def yX9_group : MethodName := ⟨RX9, "group", "(I)I"⟩
abbrev cX9_fill : ByteArray := prog_1_method_8_code
def yX9_fill : MethodName := ⟨RX9, "fill", "(II)I"⟩
abbrev cX9_forget : ByteArray := prog_1_method_9_code
def yX9_forget : MethodName := ⟨RX9, "forget", "()I"⟩
abbrev cX9_width : ByteArray := prog_1_method_10_code
def yX9_width : MethodName := ⟨RX9, "width", "(I)I"⟩
abbrev cX9_ribbon : ByteArray := prog_1_method_11_code
def yX9_ribbon : MethodName := ⟨RX9, "ribbon", "(I)I"⟩
abbrev cX9_say : ByteArray := prog_1_method_12_code
def yX9_say : MethodName := ⟨RX9, "say", "(IIIIII)I"⟩
abbrev cX9_read : ByteArray := prog_1_method_13_code
def yX9_read : MethodName := ⟨RX9, "read", "()I"⟩
abbrev cX9_code : ByteArray := prog_1_method_14_code
def yX9_code : MethodName := ⟨RX9, "code", "()I"⟩
abbrev cX9_blank : ByteArray := prog_1_method_15_code
def yX9_blank : MethodName := ⟨RX9, "blank", "()I"⟩
abbrev cX9_knock : ByteArray := prog_1_method_16_code
def yX9_knock : MethodName := ⟨RX9, "knock", "()I"⟩
abbrev cX9_ofNode : ByteArray := prog_1_method_17_code
def yX9_ofNode : MethodName := ⟨RX9, "ofNode", "(II)I"⟩
abbrev cX9_flat : ByteArray := prog_1_method_18_code
def yX9_flat : MethodName := ⟨RX9, "flat", "(I)Ljava/lang/String;"⟩
abbrev cX9_line : ByteArray := prog_1_method_19_code
def yX9_line : MethodName := ⟨RX9, "line", "(II)Ljava/lang/String;"⟩
abbrev cX9_measure : ByteArray := prog_1_method_20_code
def yX9_measure : MethodName := ⟨RX9, "measure", "(II)I"⟩
abbrev cX9_at : ByteArray := prog_1_method_21_code
def yX9_at : MethodName := ⟨RX9, "at", "(III)I"⟩
abbrev cX9_where : ByteArray := prog_1_method_22_code
def yX9_where : MethodName := ⟨RX9, "where", "(IIZ)I"⟩
abbrev cX9_isOne : ByteArray := prog_1_method_23_code
def yX9_isOne : MethodName := ⟨RX9, "isOne", "(II)I"⟩
abbrev cX9_differ : ByteArray := prog_1_method_24_code
def yX9_differ : MethodName := ⟨RX9, "differ", "(IIZ)I"⟩
abbrev cX9_typed : ByteArray := prog_1_method_25_code
def yX9_typed : MethodName := ⟨RX9, "typed", "()Ljava/lang/String;"⟩
abbrev cX9_fault : ByteArray := prog_1_method_26_code
def yX9_fault : MethodName := ⟨RX9, "fault", "(Z)I"⟩
abbrev cX9_ofCode : ByteArray := prog_1_method_27_code
def yX9_ofCode : MethodName := ⟨RX9, "ofCode", "(I)I"⟩
abbrev cX9_plain : ByteArray := prog_1_method_28_code
def yX9_plain : MethodName := ⟨RX9, "plain", "()Ljava/lang/String;"⟩
abbrev cX9_codeLine : ByteArray := prog_1_method_29_code
def yX9_codeLine : MethodName := ⟨RX9, "codeLine", "(I)Ljava/lang/String;"⟩
abbrev cX9_house : ByteArray := prog_1_method_30_code
def yX9_house : MethodName := ⟨RX9, "house", "(I)I"⟩
abbrev cX9_fits : ByteArray := prog_1_method_31_code
def yX9_fits : MethodName := ⟨RX9, "fits", "(II)Z"⟩
abbrev cX9_would : ByteArray := prog_1_method_32_code
def yX9_would : MethodName := ⟨RX9, "would", "(III)I"⟩
abbrev cX9_narrowest : ByteArray := prog_1_method_33_code
def yX9_narrowest : MethodName := ⟨RX9, "narrowest", "(I)I"⟩
abbrev cX9_least : ByteArray := prog_1_method_34_code
def yX9_least : MethodName := ⟨RX9, "least", "(II)I"⟩
abbrev cX9_leastLine : ByteArray := prog_1_method_35_code
def yX9_leastLine : MethodName := ⟨RX9, "leastLine", "(II)Ljava/lang/String;"⟩
abbrev cX9_isSound : ByteArray := prog_1_method_36_code
def yX9_isSound : MethodName := ⟨RX9, "isSound", "()Z"⟩
abbrev cX9_digest : ByteArray := prog_1_method_37_code
def yX9_digest : MethodName := ⟨RX9, "digest", "()J"⟩
abbrev cX9_needNode : ByteArray := prog_1_method_38_code
def yX9_needNode : MethodName := ⟨RX9, "needNode", "(I)V"⟩
abbrev cX9_needNumber : ByteArray := prog_1_method_39_code
def yX9_needNumber : MethodName := ⟨RX9, "needNumber", "()V"⟩
abbrev cX9_needWidth : ByteArray := prog_1_method_42_code
def yX9_needWidth : MethodName := ⟨RX9, "needWidth", "(I)V"⟩
abbrev cX9_needNth : ByteArray := prog_1_method_44_code
def yX9_needNth : MethodName := ⟨RX9, "needNth", "(I)V"⟩
abbrev cX9_needCodes : ByteArray := prog_1_method_45_code
def yX9_needCodes : MethodName := ⟨RX9, "needCodes", "()V"⟩
abbrev cX9_lengthAfter : ByteArray := prog_1_method_46_code
def yX9_lengthAfter : MethodName := ⟨RX9, "lengthAfter", "(II)I"⟩
abbrev cX9_type : ByteArray := prog_1_method_47_code
def yX9_type : MethodName := ⟨RX9, "type", "(I)V"⟩
abbrev cX9_numbered : ByteArray := prog_1_method_48_code
def yX9_numbered : MethodName := ⟨RX9, "numbered", "(I)I"⟩
abbrev cX9_textOf : ByteArray := prog_1_method_54_code
def yX9_textOf : MethodName := ⟨RX9, "textOf", "(LNestprint$Row;)Ljava/lang/String;"⟩
abbrev cX9_stateOf : ByteArray := prog_1_method_59_code
def yX9_stateOf : MethodName := ⟨RX9, "stateOf", "(I)I"⟩
abbrev cX9_withCode : ByteArray := prog_1_method_61_code
def yX9_withCode : MethodName := ⟨RX9, "withCode", "(J)J"⟩
def RX10 : String := "NestprintLaw$Out"
def TX10 : u_T := fun k => match k with
  | 0 => ("NestprintLaw$Out", "n", "J", false)
  | _ => ("NestprintLaw$Out", "s", "Ljava/lang/String;", false)
def tyX10 : Nat → FieldType := fun k => match k with
  | 0 => .long
  | _ => .object "java/lang/String"
abbrev wsX100 : List Cond := u_ws RX10 TX10 2
abbrev cX10_init : ByteArray := prog_12_method_1_code
def yX10_init : MethodName := ⟨RX10, "<init>", "()V"⟩
def RX11 : String := "NestprintModel$Node"
def TX11 : u_T := fun k => match k with
  | 0 => ("NestprintModel$Node", "kind", "I", true)
  | 1 => ("NestprintModel$Node", "text", "Ljava/lang/String;", true)
  | 2 => ("NestprintModel$Node", "by", "I", true)
  | _ => ("NestprintModel$Node", "own", "Ljava/util/ArrayList;", true)
def tyX11 : Nat → FieldType := fun k => match k with
  | 0 => .int
  | 1 => .object "java/lang/String"
  | 2 => .int
  | _ => .object "java/util/ArrayList"
abbrev wsX110 : List Cond := u_ws RX11 TX11 4
abbrev cX11_init : ByteArray := prog_14_method_1_code
def yX11_init : MethodName := ⟨RX11, "<init>", "(ILjava/lang/String;I)V"⟩
abbrev cX11_weight : ByteArray := prog_14_method_4_code
def yX11_weight : MethodName := ⟨RX11, "weight", "()I"⟩
abbrev cX11_depth : ByteArray := prog_14_method_5_code
def yX11_depth : MethodName := ⟨RX11, "depth", "()I"⟩
def RX12 : String := "NestprintModel$Page"
def TX12 : u_T := fun k => match k with
  | 0 => ("NestprintModel$Page", "lines", "Ljava/util/ArrayList;", true)
  | 1 => ("NestprintModel$Page", "places", "Ljava/util/ArrayList;", true)
  | 2 => ("NestprintModel$Page", "begins", "Ljava/util/ArrayList;", true)
  | 3 => ("NestprintModel$Page", "bits", "Ljava/lang/StringBuilder;", true)
  | 4 => ("NestprintModel$Page", "leaves", "Ljava/util/ArrayList;", true)
  | 5 => ("NestprintModel$Page", "width", "I", true)
  | 6 => ("NestprintModel$Page", "ribbon", "I", true)
  | 7 => ("NestprintModel$Page", "told", "Ljava/lang/String;", true)
  | 8 => ("NestprintModel$Page", "met", "I", false)
  | _ => ("NestprintModel$Page", "now", "Ljava/lang/StringBuilder;", false)
abbrev wsX120 : List Cond := u_ws RX12 TX12 10
def RX13 : String := "NestprintModel$Reader"
def TX13 : u_T := fun k => match k with
  | 0 => ("NestprintModel$Reader", "text", "Ljava/lang/String;", true)
  | _ => ("NestprintModel$Reader", "at", "I", false)
def tyX13 : Nat → FieldType := fun k => match k with
  | 0 => .object "java/lang/String"
  | _ => .int
abbrev wsX130 : List Cond := u_ws RX13 TX13 2
abbrev cX13_init : ByteArray := prog_16_method_1_code
def yX13_init : MethodName := ⟨RX13, "<init>", "(Ljava/lang/String;)V"⟩
abbrev cX13_document : ByteArray := prog_16_method_4_code
def yX13_document : MethodName := ⟨RX13, "document", "()LNestprintModel$Node;"⟩
def RX14 : String := "NestprintModel$Tree"
def TX14 : u_T := fun k => match k with
  | 0 => ("NestprintModel$Tree", "kind", "C", true)
  | 1 => ("NestprintModel$Tree", "name", "Ljava/lang/String;", true)
  | _ => ("NestprintModel$Tree", "own", "Ljava/util/ArrayList;", true)
abbrev wsX140 : List Cond := u_ws RX14 TX14 3
def RX15 : String := "NestprintModel$Way"
def TX15 : u_T := fun k => match k with
  | 0 => ("NestprintModel$Way", "column", "I", true)
  | 1 => ("NestprintModel$Way", "cost", "I", true)
  | _ => ("NestprintModel$Way", "bits", "Ljava/lang/String;", true)
abbrev wsX150 : List Cond := u_ws RX15 TX15 3
def RX16 : String := "NestprintModel"
def TX16 : u_T := fun k => match k with
  | 0 => ("NestprintModel", "thrown", "I", false)
  | 1 => ("NestprintModel", "nodes", "Ljava/util/ArrayList;", true)
  | 2 => ("NestprintModel", "width", "I", false)
  | 3 => ("NestprintModel", "ribbon", "I", false)
  | 4 => ("NestprintModel", "typed", "Ljava/lang/String;", false)
  | 5 => ("NestprintModel", "kept", "LNestprintModel$Tree;", false)
  | 6 => ("NestprintModel", "counted", "I", false)
  | 7 => ("NestprintModel", "knocks", "I", false)
  | _ => ("NestprintModel", "ever", "I", false)
def tyX16 : Nat → FieldType := fun k => match k with
  | 0 => .int
  | 1 => .object "java/util/ArrayList"
  | 2 => .int
  | 3 => .int
  | 4 => .object "java/lang/String"
  | 5 => .object "NestprintModel$Tree"
  | 6 => .int
  | 7 => .int
  | _ => .int
abbrev wsX160 : List Cond := u_ws RX16 TX16 9
abbrev cX16_init : ByteArray := prog_13_method_1_code
def yX16_init : MethodName := ⟨RX16, "<init>", "()V"⟩
abbrev cX16_isIn : ByteArray := prog_13_method_2_code
def yX16_isIn : MethodName := ⟨RX16, "isIn", "(III)Z"⟩
abbrev cX16_one : ByteArray := prog_13_method_3_code
def yX16_one : MethodName := ⟨RX16, "one", "(Z)I"⟩
abbrev cX16_documented : ByteArray := prog_13_method_11_code
def yX16_documented : MethodName := ⟨RX16, "documented", "(Ljava/lang/String;)I"⟩
abbrev cX16_coded : ByteArray := prog_13_method_13_code
def yX16_coded : MethodName := ⟨RX16, "coded", "(Ljava/lang/String;)I"⟩
abbrev cX16_thrown : ByteArray := prog_13_method_14_code
def yX16_thrown : MethodName := ⟨RX16, "thrown", "()I"⟩
abbrev cX16_refuse : ByteArray := prog_13_method_15_code
def yX16_refuse : MethodName := ⟨RX16, "refuse", "(ZI)Z"⟩
abbrev cX16_start : ByteArray := prog_13_method_16_code
def yX16_start : MethodName := ⟨RX16, "start", "(ZI)Z"⟩
abbrev cX16_isNoNode : ByteArray := prog_13_method_17_code
def yX16_isNoNode : MethodName := ⟨RX16, "isNoNode", "(I)Z"⟩
abbrev cX16_isFull : ByteArray := prog_13_method_18_code
def yX16_isFull : MethodName := ⟨RX16, "isFull", "()Z"⟩
abbrev cX16_isGreat : ByteArray := prog_13_method_19_code
def yX16_isGreat : MethodName := ⟨RX16, "isGreat", "(LNestprintModel$Node;)Z"⟩
abbrev cX16_made : ByteArray := prog_13_method_20_code
def yX16_made : MethodName := ⟨RX16, "made", "(LNestprintModel$Node;)I"⟩
abbrev cX16_word : ByteArray := prog_13_method_21_code
def yX16_word : MethodName := ⟨RX16, "word", "(II)I"⟩
abbrev cX16_mark : ByteArray := prog_13_method_22_code
def yX16_mark : MethodName := ⟨RX16, "mark", "(I)I"⟩
abbrev cX16_join : ByteArray := prog_13_method_24_code
def yX16_join : MethodName := ⟨RX16, "join", "(II)I"⟩
abbrev cX16_nest : ByteArray := prog_13_method_25_code
def yX16_nest : MethodName := ⟨RX16, "nest", "(II)I"⟩
abbrev cX16_align : ByteArray := prog_13_method_26_code
def yX16_align : MethodName := ⟨RX16, "align", "(I)I"⟩
abbrev cX16_group : ByteArray := prog_13_method_27_code
def yX16_group : MethodName := ⟨RX16, "group", "(I)I"⟩
abbrev cX16_fill : ByteArray := prog_13_method_28_code
def yX16_fill : MethodName := ⟨RX16, "fill", "(II)I"⟩
abbrev cX16_forget : ByteArray := prog_13_method_29_code
def yX16_forget : MethodName := ⟨RX16, "forget", "()I"⟩
abbrev cX16_width : ByteArray := prog_13_method_30_code
def yX16_width : MethodName := ⟨RX16, "width", "(I)I"⟩
abbrev cX16_ribbon : ByteArray := prog_13_method_31_code
def yX16_ribbon : MethodName := ⟨RX16, "ribbon", "(I)I"⟩
abbrev cX16_said : ByteArray := prog_13_method_32_code
def yX16_said : MethodName := ⟨RX16, "said", "(Ljava/lang/String;I)Ljava/lang/String;"⟩
abbrev cX16_say : ByteArray := prog_13_method_33_code
def yX16_say : MethodName := ⟨RX16, "say", "(IIIIII)I"⟩
abbrev cX16_isDocument : ByteArray := prog_13_method_34_code
def yX16_isDocument : MethodName := ⟨RX16, "isDocument", "()Z"⟩
abbrev cX16_isCode : ByteArray := prog_13_method_35_code
def yX16_isCode : MethodName := ⟨RX16, "isCode", "()Z"⟩
abbrev cX16_read : ByteArray := prog_13_method_36_code
def yX16_read : MethodName := ⟨RX16, "read", "()I"⟩
abbrev cX16_code : ByteArray := prog_13_method_37_code
def yX16_code : MethodName := ⟨RX16, "code", "()I"⟩
abbrev cX16_blank : ByteArray := prog_13_method_38_code
def yX16_blank : MethodName := ⟨RX16, "blank", "()I"⟩
abbrev cX16_knock : ByteArray := prog_13_method_39_code
def yX16_knock : MethodName := ⟨RX16, "knock", "()I"⟩
abbrev cX16_ofNode : ByteArray := prog_13_method_41_code
def yX16_ofNode : MethodName := ⟨RX16, "ofNode", "(II)I"⟩
abbrev cX16_flat : ByteArray := prog_13_method_42_code
def yX16_flat : MethodName := ⟨RX16, "flat", "(I)Ljava/lang/String;"⟩
abbrev cX16_line : ByteArray := prog_13_method_45_code
def yX16_line : MethodName := ⟨RX16, "line", "(II)Ljava/lang/String;"⟩
abbrev cX16_measure : ByteArray := prog_13_method_46_code
def yX16_measure : MethodName := ⟨RX16, "measure", "(II)I"⟩
abbrev cX16_at : ByteArray := prog_13_method_47_code
def yX16_at : MethodName := ⟨RX16, "at", "(III)I"⟩
abbrev cX16_where : ByteArray := prog_13_method_48_code
def yX16_where : MethodName := ⟨RX16, "where", "(IIZ)I"⟩
abbrev cX16_isOne : ByteArray := prog_13_method_49_code
def yX16_isOne : MethodName := ⟨RX16, "isOne", "(II)I"⟩
abbrev cX16_differ : ByteArray := prog_13_method_52_code
def yX16_differ : MethodName := ⟨RX16, "differ", "(IIZ)I"⟩
abbrev cX16_typed : ByteArray := prog_13_method_53_code
def yX16_typed : MethodName := ⟨RX16, "typed", "()Ljava/lang/String;"⟩
abbrev cX16_faulty : ByteArray := prog_13_method_54_code
def yX16_faulty : MethodName := ⟨RX16, "faulty", "(Z)I"⟩
abbrev cX16_fault : ByteArray := prog_13_method_55_code
def yX16_fault : MethodName := ⟨RX16, "fault", "(Z)I"⟩
abbrev cX16_codeTold : ByteArray := prog_13_method_56_code
def yX16_codeTold : MethodName := ⟨RX16, "codeTold", "(I)I"⟩
abbrev cX16_ofCode : ByteArray := prog_13_method_57_code
def yX16_ofCode : MethodName := ⟨RX16, "ofCode", "(I)I"⟩
abbrev cX16_plain : ByteArray := prog_13_method_58_code
def yX16_plain : MethodName := ⟨RX16, "plain", "()Ljava/lang/String;"⟩
abbrev cX16_codeLine : ByteArray := prog_13_method_59_code
def yX16_codeLine : MethodName := ⟨RX16, "codeLine", "(I)Ljava/lang/String;"⟩
abbrev cX16_houseTold : ByteArray := prog_13_method_60_code
def yX16_houseTold : MethodName := ⟨RX16, "houseTold", "(I)I"⟩
abbrev cX16_house : ByteArray := prog_13_method_61_code
def yX16_house : MethodName := ⟨RX16, "house", "(I)I"⟩
abbrev cX16_fits : ByteArray := prog_13_method_62_code
def yX16_fits : MethodName := ⟨RX16, "fits", "(II)Z"⟩
abbrev cX16_would : ByteArray := prog_13_method_63_code
def yX16_would : MethodName := ⟨RX16, "would", "(III)I"⟩
abbrev cX16_narrowest : ByteArray := prog_13_method_64_code
def yX16_narrowest : MethodName := ⟨RX16, "narrowest", "(I)I"⟩
abbrev cX16_least_ : ByteArray := prog_13_method_66_code
def yX16_least_ : MethodName := ⟨RX16, "least", "(II)I"⟩
abbrev cX16_leastLine : ByteArray := prog_13_method_67_code
def yX16_leastLine : MethodName := ⟨RX16, "leastLine", "(II)Ljava/lang/String;"⟩
abbrev cX16_isWhole : ByteArray := prog_13_method_68_code
def yX16_isWhole : MethodName := ⟨RX16, "isWhole", "()Z"⟩
abbrev cX16_isSound : ByteArray := prog_13_method_69_code
def yX16_isSound : MethodName := ⟨RX16, "isSound", "()Z"⟩
abbrev cX16_add : ByteArray := prog_13_method_70_code
def yX16_add : MethodName := ⟨RX16, "add", "(JJ)J"⟩
abbrev cX16_digest : ByteArray := prog_13_method_71_code
def yX16_digest : MethodName := ⟨RX16, "digest", "()J"⟩
def RJ5 : String := "java/lang/AbstractStringBuilder"
abbrev cJ5_init_d00df : ByteArray := prog_20_method_2_code
def yJ5_init_d00df : MethodName := ⟨RJ5, "<init>", "(I)V"⟩
abbrev cJ5_length_8abf5 : ByteArray := prog_20_method_6_code
def yJ5_length_8abf5 : MethodName := ⟨RJ5, "length", "()I"⟩
abbrev cJ5_ensureCapacityInternal_d00df : ByteArray := prog_20_method_9_code
def yJ5_ensureCapacityInternal_d00df : MethodName := ⟨RJ5, "ensureCapacityInternal", "(I)V"⟩
abbrev cJ5_setLength_d00df : ByteArray := prog_20_method_13_code
def yJ5_setLength_d00df : MethodName := ⟨RJ5, "setLength", "(I)V"⟩
abbrev cJ5_append_cf1ce : ByteArray := prog_20_method_22_code
def yJ5_append_cf1ce : MethodName := ⟨RJ5, "append", "(Ljava/lang/String;)Ljava/lang/AbstractStringBuilder;"⟩
abbrev cJ5_append_3fe6f : ByteArray := prog_20_method_31_code
def yJ5_append_3fe6f : MethodName := ⟨RJ5, "append", "(C)Ljava/lang/AbstractStringBuilder;"⟩
abbrev cJ5_getValue_6d5f1 : ByteArray := prog_20_method_64_code
def yJ5_getValue_6d5f1 : MethodName := ⟨RJ5, "getValue", "()[B"⟩
abbrev cJ5_isLatin1_aae02 : ByteArray := prog_20_method_68_code
def yJ5_isLatin1_aae02 : MethodName := ⟨RJ5, "isLatin1", "()Z"⟩
abbrev cJ5_inflateIfNeededFor_a7421 : ByteArray := prog_20_method_71_code
def yJ5_inflateIfNeededFor_a7421 : MethodName := ⟨RJ5, "inflateIfNeededFor", "(Ljava/lang/String;)V"⟩
abbrev cJ5_putStringAt_47b60 : ByteArray := prog_20_method_73_code
def yJ5_putStringAt_47b60 : MethodName := ⟨RJ5, "putStringAt", "(ILjava/lang/String;)V"⟩
def RJx00060 : String := "java/lang/ArrayIndexOutOfBoundsException"
def TJx00060 : u_T := fun k => match k with
  | 0 => ("java/lang/Throwable", "cause", "Ljava/lang/Throwable;", false)
  | 1 => ("java/lang/Throwable", "stackTrace", "[Ljava/lang/StackTraceElement;", false)
  | 2 => ("java/lang/Throwable", "suppressedExceptions", "Ljava/util/List;", false)
  | 3 => ("java/lang/Throwable", "detailMessage", "Ljava/lang/String;", false)
  | 4 => ("java/lang/Throwable", "backtrace", "Ljava/lang/Object;", false)
  | _ => ("java/lang/Throwable", "depth", "I", false)
abbrev wsJx000600 : List Cond := u_ws RJx00060 TJx00060 6
def RJ6 : String := "java/lang/Integer"
def TJ6 : u_T := fun k => match k with
  | _ => ("java/lang/Integer", "value", "I", true)
abbrev wsJ60 : List Cond := u_ws RJ6 TJ6 1
def RJ0 : String := "java/lang/String"
def TJ0 : u_T := fun k => match k with
  | 0 => ("java/lang/String", "value", "[B", true)
  | 1 => ("java/lang/String", "coder", "B", true)
  | 2 => ("java/lang/String", "hash", "I", false)
  | _ => ("java/lang/String", "hashIsZero", "Z", false)
def tyJ0 : Nat → FieldType := fun k => match k with
  | 0 => .array .byte
  | 1 => .byte
  | 2 => .int
  | _ => .boolean
abbrev wsJ00 : List Cond := u_ws RJ0 TJ0 4
abbrev cJ0_init_81219 : ByteArray := prog_38_method_53_code
def yJ0_init_81219 : MethodName := ⟨RJ0, "<init>", "(Ljava/lang/StringBuilder;)V"⟩
abbrev cJ0_length_8abf5 : ByteArray := prog_38_method_54_code
def yJ0_length_8abf5 : MethodName := ⟨RJ0, "length", "()I"⟩
abbrev cJ0_isEmpty_aae02 : ByteArray := prog_38_method_55_code
def yJ0_isEmpty_aae02 : MethodName := ⟨RJ0, "isEmpty", "()Z"⟩
abbrev cJ0_charAt_5068e : ByteArray := prog_38_method_56_code
def yJ0_charAt_5068e : MethodName := ⟨RJ0, "charAt", "(I)C"⟩
abbrev cJ0_equals_9ea2d : ByteArray := prog_38_method_66_code
def yJ0_equals_9ea2d : MethodName := ⟨RJ0, "equals", "(Ljava/lang/Object;)Z"⟩
abbrev cJ0_substring_37a41 : ByteArray := prog_38_method_92_code
def yJ0_substring_37a41 : MethodName := ⟨RJ0, "substring", "(II)Ljava/lang/String;"⟩
abbrev cJ0_getBytes_840e7 : ByteArray := prog_38_method_147_code
def yJ0_getBytes_840e7 : MethodName := ⟨RJ0, "getBytes", "([BIB)V"⟩
abbrev cJ0_init_db425 : ByteArray := prog_38_method_150_code
def yJ0_init_db425 : MethodName := ⟨RJ0, "<init>", "(Ljava/lang/AbstractStringBuilder;Ljava/lang/Void;)V"⟩
abbrev cJ0_init_031fb : ByteArray := prog_38_method_151_code
def yJ0_init_031fb : MethodName := ⟨RJ0, "<init>", "([BB)V"⟩
abbrev cJ0_coder_7d493 : ByteArray := prog_38_method_152_code
def yJ0_coder_7d493 : MethodName := ⟨RJ0, "coder", "()B"⟩
abbrev cJ0_isLatin1_aae02 : ByteArray := prog_38_method_154_code
def yJ0_isLatin1_aae02 : MethodName := ⟨RJ0, "isLatin1", "()Z"⟩
abbrev cJ0_checkIndex_df160 : ByteArray := prog_38_method_155_code
def yJ0_checkIndex_df160 : MethodName := ⟨RJ0, "checkIndex", "(II)V"⟩
abbrev cJ0_checkBoundsBeginEnd_23922 : ByteArray := prog_38_method_158_code
def yJ0_checkBoundsBeginEnd_23922 : MethodName := ⟨RJ0, "checkBoundsBeginEnd", "(III)V"⟩
def RJ4 : String := "java/lang/StringBuilder"
def TJ4 : u_T := fun k => match k with
  | 0 => ("java/lang/AbstractStringBuilder", "value", "[B", false)
  | 1 => ("java/lang/AbstractStringBuilder", "coder", "B", false)
  | 2 => ("java/lang/AbstractStringBuilder", "maybeLatin1", "Z", false)
  | _ => ("java/lang/AbstractStringBuilder", "count", "I", false)
def tyJ4 : Nat → FieldType := fun k => match k with
  | 0 => .array .byte
  | 1 => .byte
  | 2 => .boolean
  | _ => .int
abbrev wsJ40 : List Cond := u_ws RJ4 TJ4 4
abbrev cJ4_init_da8c8 : ByteArray := prog_39_method_1_code
def yJ4_init_da8c8 : MethodName := ⟨RJ4, "<init>", "()V"⟩
abbrev cJ4_append_15ec4 : ByteArray := prog_39_method_7_code
def yJ4_append_15ec4 : MethodName := ⟨RJ4, "append", "(Ljava/lang/String;)Ljava/lang/StringBuilder;"⟩
abbrev cJ4_append_cf468 : ByteArray := prog_39_method_14_code
def yJ4_append_cf468 : MethodName := ⟨RJ4, "append", "(C)Ljava/lang/StringBuilder;"⟩
abbrev cJ4_toString_0e30d : ByteArray := prog_39_method_42_code
def yJ4_toString_0e30d : MethodName := ⟨RJ4, "toString", "()Ljava/lang/String;"⟩
abbrev cJ4_setLength_d00df : ByteArray := prog_39_method_89_code
def yJ4_setLength_d00df : MethodName := ⟨RJ4, "setLength", "(I)V"⟩
abbrev cJ4_length_8abf5 : ByteArray := prog_39_method_93_code
def yJ4_length_8abf5 : MethodName := ⟨RJ4, "length", "()I"⟩
def RJx7c733 : String := "java/lang/StringIndexOutOfBoundsException"
def TJx7c733 : u_T := fun k => match k with
  | 0 => ("java/lang/Throwable", "backtrace", "Ljava/lang/Object;", false)
  | 1 => ("java/lang/Throwable", "detailMessage", "Ljava/lang/String;", false)
  | 2 => ("java/lang/Throwable", "cause", "Ljava/lang/Throwable;", false)
  | 3 => ("java/lang/Throwable", "stackTrace", "[Ljava/lang/StackTraceElement;", false)
  | 4 => ("java/lang/Throwable", "depth", "I", false)
  | _ => ("java/lang/Throwable", "suppressedExceptions", "Ljava/util/List;", false)
abbrev wsJx7c7330 : List Cond := u_ws RJx7c733 TJx7c733 6
def RJ1 : String := "java/lang/StringLatin1"
abbrev cJ1_charAt_3b067 : ByteArray := prog_41_method_2_code
def yJ1_charAt_3b067 : MethodName := ⟨RJ1, "charAt", "([BI)C"⟩
abbrev cJ1_canEncode_fc78d : ByteArray := prog_41_method_3_code
def yJ1_canEncode_fc78d : MethodName := ⟨RJ1, "canEncode", "(C)Z"⟩
abbrev cJ1_equals_b5fdf : ByteArray := prog_41_method_13_code
def yJ1_equals_b5fdf : MethodName := ⟨RJ1, "equals", "([B[B)Z"⟩
abbrev cJ1_newString_b4f7a : ByteArray := prog_41_method_47_code
def yJ1_newString_b4f7a : MethodName := ⟨RJ1, "newString", "([BII)Ljava/lang/String;"⟩
def RJxa1e45 : String := "java/util/AbstractCollection"
abbrev cJxa1e45_init_da8c8 : ByteArray := prog_47_method_1_code
def yJxa1e45_init_da8c8 : MethodName := ⟨RJxa1e45, "<init>", "()V"⟩
def RJxc12de : String := "java/util/AbstractList"
abbrev cJxc12de_init_da8c8 : ByteArray := prog_48_method_1_code
def yJxc12de_init_da8c8 : MethodName := ⟨RJxc12de, "<init>", "()V"⟩
def RJx35411 : String := "java/util/ArrayList$Itr"
def TJx35411 : u_T := fun k => match k with
  | 0 => ("java/util/ArrayList$Itr", "cursor", "I", false)
  | 1 => ("java/util/ArrayList$Itr", "lastRet", "I", false)
  | 2 => ("java/util/ArrayList$Itr", "expectedModCount", "I", false)
  | _ => ("java/util/ArrayList$Itr", "this$0", "Ljava/util/ArrayList;", true)
def tyJx35411 : Nat → FieldType := fun k => match k with
  | 0 => .int
  | 1 => .int
  | 2 => .int
  | _ => .object "java/util/ArrayList"
abbrev wsJx354110 : List Cond := u_ws RJx35411 TJx35411 4
abbrev cJx35411_init_45d68 : ByteArray := prog_50_method_1_code
def yJx35411_init_45d68 : MethodName := ⟨RJx35411, "<init>", "(Ljava/util/ArrayList;)V"⟩
abbrev cJx35411_hasNext_aae02 : ByteArray := prog_50_method_2_code
def yJx35411_hasNext_aae02 : MethodName := ⟨RJx35411, "hasNext", "()Z"⟩
def RJx4a65c : String := "java/util/ArrayList"
def TJx4a65c : u_T := fun k => match k with
  | 0 => ("java/util/AbstractList", "modCount", "I", false)
  | 1 => ("java/util/ArrayList", "elementData", "[Ljava/lang/Object;", false)
  | _ => ("java/util/ArrayList", "size", "I", false)
def tyJx4a65c : Nat → FieldType := fun k => match k with
  | 0 => .int
  | 1 => .array (.object "java/lang/Object")
  | _ => .int
abbrev wsJx4a65c0 : List Cond := u_ws RJx4a65c TJx4a65c 3
abbrev cJx4a65c_init_da8c8 : ByteArray := prog_49_method_2_code
def yJx4a65c_init_da8c8 : MethodName := ⟨RJx4a65c, "<init>", "()V"⟩
abbrev cJx4a65c_grow_92f84 : ByteArray := prog_49_method_6_code
def yJx4a65c_grow_92f84 : MethodName := ⟨RJx4a65c, "grow", "(I)[Ljava/lang/Object;"⟩
abbrev cJx4a65c_grow_d5877 : ByteArray := prog_49_method_7_code
def yJx4a65c_grow_d5877 : MethodName := ⟨RJx4a65c, "grow", "()[Ljava/lang/Object;"⟩
abbrev cJx4a65c_size_8abf5 : ByteArray := prog_49_method_8_code
def yJx4a65c_size_8abf5 : MethodName := ⟨RJx4a65c, "size", "()I"⟩
abbrev cJx4a65c_isEmpty_aae02 : ByteArray := prog_49_method_9_code
def yJx4a65c_isEmpty_aae02 : MethodName := ⟨RJx4a65c, "isEmpty", "()Z"⟩
abbrev cJx4a65c_add_72be8 : ByteArray := prog_49_method_24_code
def yJx4a65c_add_72be8 : MethodName := ⟨RJx4a65c, "add", "(Ljava/lang/Object;[Ljava/lang/Object;I)V"⟩
abbrev cJx4a65c_add_9ea2d : ByteArray := prog_49_method_25_code
def yJx4a65c_add_9ea2d : MethodName := ⟨RJx4a65c, "add", "(Ljava/lang/Object;)Z"⟩
abbrev cJx4a65c_iterator_32c93 : ByteArray := prog_49_method_55_code
def yJx4a65c_iterator_32c93 : MethodName := ⟨RJx4a65c, "iterator", "()Ljava/util/Iterator;"⟩
def RJ7 : String := "java/util/Arrays"
abbrev cJ7_checkLength_df160 : ByteArray := prog_51_method_131_code
def yJ7_checkLength_df160 : MethodName := ⟨RJ7, "checkLength", "(II)V"⟩
abbrev cJ7_copyOfRange_39247 : ByteArray := prog_51_method_132_code
def yJ7_copyOfRange_39247 : MethodName := ⟨RJ7, "copyOfRange", "([BII)[B"⟩
abbrev cJ7_copyOfRangeByte_39247 : ByteArray := prog_51_method_133_code
def yJ7_copyOfRangeByte_39247 : MethodName := ⟨RJ7, "copyOfRangeByte", "([BII)[B"⟩
def RJ3 : String := "jdk/internal/util/Preconditions"
abbrev cJ3_checkIndex_8e157 : ByteArray := prog_61_method_11_code
def yJ3_checkIndex_8e157 : MethodName := ⟨RJ3, "checkIndex", "(IILjava/util/function/BiFunction;)I"⟩
abbrev cJ3_checkFromToIndex_8c36e : ByteArray := prog_61_method_12_code
def yJ3_checkFromToIndex_8c36e : MethodName := ⟨RJ3, "checkFromToIndex", "(IIILjava/util/function/BiFunction;)I"⟩
def RL : String := "NestprintLaw"
abbrev cL_word : ByteArray := method_2_code
def yL_word : MethodName := ⟨RL, "word", "(LNestprint;IILNestprintLaw$Out;)I"⟩
abbrev cL_mark : ByteArray := method_3_code
def yL_mark : MethodName := ⟨RL, "mark", "(LNestprint;ILNestprintLaw$Out;)I"⟩
abbrev cL_join : ByteArray := method_4_code
def yL_join : MethodName := ⟨RL, "join", "(LNestprint;IILNestprintLaw$Out;)I"⟩
abbrev cL_nest : ByteArray := method_5_code
def yL_nest : MethodName := ⟨RL, "nest", "(LNestprint;IILNestprintLaw$Out;)I"⟩
abbrev cL_align : ByteArray := method_6_code
def yL_align : MethodName := ⟨RL, "align", "(LNestprint;ILNestprintLaw$Out;)I"⟩
abbrev cL_group : ByteArray := method_7_code
def yL_group : MethodName := ⟨RL, "group", "(LNestprint;ILNestprintLaw$Out;)I"⟩
abbrev cL_fill : ByteArray := method_8_code
def yL_fill : MethodName := ⟨RL, "fill", "(LNestprint;IILNestprintLaw$Out;)I"⟩
abbrev cL_width : ByteArray := method_9_code
def yL_width : MethodName := ⟨RL, "width", "(LNestprint;ILNestprintLaw$Out;)I"⟩
abbrev cL_ribbon : ByteArray := method_10_code
def yL_ribbon : MethodName := ⟨RL, "ribbon", "(LNestprint;ILNestprintLaw$Out;)I"⟩
abbrev cL_say : ByteArray := method_11_code
def yL_say : MethodName := ⟨RL, "say", "(LNestprint;IIIIIILNestprintLaw$Out;)I"⟩
abbrev cL_read : ByteArray := method_12_code
def yL_read : MethodName := ⟨RL, "read", "(LNestprint;LNestprintLaw$Out;)I"⟩
abbrev cL_ofNode : ByteArray := method_13_code
def yL_ofNode : MethodName := ⟨RL, "ofNode", "(LNestprint;IILNestprintLaw$Out;)I"⟩
abbrev cL_flat : ByteArray := method_14_code
def yL_flat : MethodName := ⟨RL, "flat", "(LNestprint;ILNestprintLaw$Out;)I"⟩
abbrev cL_line : ByteArray := method_15_code
def yL_line : MethodName := ⟨RL, "line", "(LNestprint;IILNestprintLaw$Out;)I"⟩
abbrev cL_measure : ByteArray := method_16_code
def yL_measure : MethodName := ⟨RL, "measure", "(LNestprint;IILNestprintLaw$Out;)I"⟩
abbrev cL_at : ByteArray := method_17_code
def yL_at : MethodName := ⟨RL, "at", "(LNestprint;IIILNestprintLaw$Out;)I"⟩
abbrev cL_where : ByteArray := method_18_code
def yL_where : MethodName := ⟨RL, "where", "(LNestprint;IIZLNestprintLaw$Out;)I"⟩
abbrev cL_isOne : ByteArray := method_19_code
def yL_isOne : MethodName := ⟨RL, "isOne", "(LNestprint;IILNestprintLaw$Out;)I"⟩
abbrev cL_differ : ByteArray := method_20_code
def yL_differ : MethodName := ⟨RL, "differ", "(LNestprint;IIZLNestprintLaw$Out;)I"⟩
abbrev cL_ofCode : ByteArray := method_21_code
def yL_ofCode : MethodName := ⟨RL, "ofCode", "(LNestprint;ILNestprintLaw$Out;)I"⟩
abbrev cL_codeLine : ByteArray := method_22_code
def yL_codeLine : MethodName := ⟨RL, "codeLine", "(LNestprint;ILNestprintLaw$Out;)I"⟩
abbrev cL_house : ByteArray := method_23_code
def yL_house : MethodName := ⟨RL, "house", "(LNestprint;ILNestprintLaw$Out;)I"⟩
abbrev cL_fits : ByteArray := method_24_code
def yL_fits : MethodName := ⟨RL, "fits", "(LNestprint;IILNestprintLaw$Out;)I"⟩
abbrev cL_would : ByteArray := method_25_code
def yL_would : MethodName := ⟨RL, "would", "(LNestprint;IIILNestprintLaw$Out;)I"⟩
abbrev cL_narrowest : ByteArray := method_26_code
def yL_narrowest : MethodName := ⟨RL, "narrowest", "(LNestprint;ILNestprintLaw$Out;)I"⟩
abbrev cL_least : ByteArray := method_27_code
def yL_least : MethodName := ⟨RL, "least", "(LNestprint;IILNestprintLaw$Out;)I"⟩
abbrev cL_leastLine : ByteArray := method_28_code
def yL_leastLine : MethodName := ⟨RL, "leastLine", "(LNestprint;IILNestprintLaw$Out;)I"⟩
abbrev cL_law : ByteArray := code
abbrev vwCl : List vw_C := [(RJ0, TJ0, 4), (RJ4, TJ4, 4), (RJ6, TJ6, 1), (RJx00060, TJx00060, 6), (RJx7c733, TJx7c733, 6), (RJx35411, TJx35411, 4), (RJx4a65c, TJx4a65c, 3), (RX0, TX0, 11), (RX1, TX1, 3), (RX2, TX2, 18), (RX3, TX3, 9), (RX4, TX4, 2), (RX5, TX5, 10), (RX6, TX6, 5), (RX7, TX7, 10), (RX8, TX8, 3), (RX9, TX9, 16), (RX10, TX10, 2), (RX11, TX11, 4), (RX12, TX12, 10), (RX13, TX13, 2), (RX14, TX14, 3), (RX15, TX15, 3), (RX16, TX16, 9)]
def waC0 : List Cond := [.classLink RL 8 RX9, .instantiable RX9 16, .initialized RX9, .methodLink RX9 3 objectInit, .instanceMethod objectInit, .code objectInit ⟨#[0xb1]⟩ 1 none, .classLink RX9 9 RX3, .instantiable RX3 9, .initialized RX3, .methodLink RX3 3 objectInit, .classLink RX3 9 RX4, .instantiable RX4 2, .initialized RX4, .methodLink RX4 1 objectInit, .fieldLink RX4 7 "Nestprint$Row" "size" "I", .arrayClass .int, .fieldLink RX4 13 "Nestprint$Row" "cells" "[I", .code yX4_init cX4_init 2 none, .fieldLink RX3 14 "Nestprint$Nodes" "numbers" "LNestprint$Row;", .fieldLink RX3 20 "Nestprint$Nodes" "kinds" "LNestprint$Row;", .fieldLink RX3 23 "Nestprint$Nodes" "starts" "LNestprint$Row;", .fieldLink RX3 26 "Nestprint$Nodes" "counts" "LNestprint$Row;", .fieldLink RX3 29 "Nestprint$Nodes" "bys" "LNestprint$Row;", .fieldLink RX3 32 "Nestprint$Nodes" "weights" "LNestprint$Row;", .fieldLink RX3 35 "Nestprint$Nodes" "depths" "LNestprint$Row;", .fieldLink RX3 38 "Nestprint$Nodes" "parts" "LNestprint$Row;", .fieldLink RX3 41 "Nestprint$Nodes" "signs" "LNestprint$Row;", .methodLink RX3 11 yX4_init, .instanceMethod yX4_init, .code yX3_init cX3_init 1 none, .fieldLink RX9 12 "Nestprint" "nodes" "LNestprint$Nodes;", .classLink RX9 16 RX4, .fieldLink RX9 21 "Nestprint" "typed" "LNestprint$Row;", .fieldLink RX9 25 "Nestprint" "codes" "LNestprint$Row;", .classLink RX9 28 RX1, .instantiable RX1 3, .initialized RX1, .methodLink RX1 3 objectInit, .classLink RX1 9 RX4, .fieldLink RX1 14 "Nestprint$DocumentReader" "owners" "LNestprint$Row;"]
def waC1 : List Cond := [.fieldLink RX1 20 "Nestprint$DocumentReader" "itemStarts" "LNestprint$Row;", .fieldLink RX1 23 "Nestprint$DocumentReader" "items" "LNestprint$Row;", .methodLink RX1 11 yX4_init, .code yX1_init cX1_init 1 none, .fieldLink RX9 31 "Nestprint" "documents" "LNestprint$DocumentReader;", .classLink RX9 35 RX0, .instantiable RX0 11, .initialized RX0, .methodLink RX0 3 objectInit, .classLink RX0 9 RX4, .fieldLink RX0 14 "Nestprint$CodeReader" "owners" "LNestprint$Row;", .fieldLink RX0 20 "Nestprint$CodeReader" "nameStarts" "LNestprint$Row;", .fieldLink RX0 23 "Nestprint$CodeReader" "nameLengths" "LNestprint$Row;", .fieldLink RX0 26 "Nestprint$CodeReader" "itemStarts" "LNestprint$Row;", .fieldLink RX0 29 "Nestprint$CodeReader" "sumStarts" "LNestprint$Row;", .fieldLink RX0 32 "Nestprint$CodeReader" "productStarts" "LNestprint$Row;", .fieldLink RX0 35 "Nestprint$CodeReader" "items" "LNestprint$Row;", .fieldLink RX0 38 "Nestprint$CodeReader" "state" "I", .fieldLink RX0 42 "Nestprint$CodeReader" "nameStart" "I", .fieldLink RX0 45 "Nestprint$CodeReader" "sumStart" "I", .fieldLink RX0 48 "Nestprint$CodeReader" "productStart" "I", .methodLink RX0 11 yX4_init, .code yX0_init cX0_init 1 none, .fieldLink RX9 38 "Nestprint" "coder" "LNestprint$CodeReader;", .classLink RX9 42 RX2, .instantiable RX2 18, .initialized RX2, .code yX3_signs cX3_signs 1 (some (.object "Nestprint$Row")), .methodLink RX2 3 objectInit, .classLink RX2 9 RX8, .instantiable RX8 3, .initialized RX8, .methodLink RX8 3 objectInit, .classLink RX8 9 RX4, .fieldLink RX8 14 "Nestprint$Wishes" "wishes" "LNestprint$Row;", .fieldLink RX8 20 "Nestprint$Wishes" "best" "LNestprint$Row;", .fieldLink RX8 23 "Nestprint$Wishes" "asked" "I", .methodLink RX8 11 yX4_init, .code yX8_init cX8_init 1 none, .fieldLink RX2 12 "Nestprint$Layout" "wishes" "LNestprint$Wishes;"]
def waC2 : List Cond := [.classLink RX2 18 RX4, .fieldLink RX2 23 "Nestprint$Layout" "columns" "LNestprint$Row;", .fieldLink RX2 27 "Nestprint$Layout" "ones" "LNestprint$Row;", .fieldLink RX2 30 "Nestprint$Layout" "firsts" "LNestprint$Row;", .fieldLink RX2 33 "Nestprint$Layout" "indents" "LNestprint$Row;", .fieldLink RX2 36 "Nestprint$Layout" "lengths" "LNestprint$Row;", .fieldLink RX2 39 "Nestprint$Layout" "held" "LNestprint$Row;", .fieldLink RX2 42 "Nestprint$Layout" "ink" "LNestprint$Row;", .fieldLink RX2 45 "Nestprint$Layout" "width" "I", .fieldLink RX2 49 "Nestprint$Layout" "ribbon" "I", .fieldLink RX2 52 "Nestprint$Layout" "way" "I", .fieldLink RX2 55 "Nestprint$Layout" "right" "I", .fieldLink RX2 58 "Nestprint$Layout" "column" "I", .fieldLink RX2 61 "Nestprint$Layout" "indent" "I", .fieldLink RX2 64 "Nestprint$Layout" "cost" "I", .fieldLink RX2 67 "Nestprint$Layout" "flatEnd" "I", .fieldLink RX2 70 "Nestprint$Layout" "marksAround" "I", .classLink RX2 73 RX5, .instantiable RX5 10, .initialized RX5, .methodLink RX5 3 objectInit, .classLink RX5 9 RX4, .fieldLink RX5 14 "Nestprint$Script" "kinds" "LNestprint$Row;", .fieldLink RX5 20 "Nestprint$Script" "starts" "LNestprint$Row;", .fieldLink RX5 23 "Nestprint$Script" "lengths" "LNestprint$Row;", .fieldLink RX5 26 "Nestprint$Script" "ends" "LNestprint$Row;", .fieldLink RX5 29 "Nestprint$Script" "opened" "LNestprint$Row;", .fieldLink RX5 32 "Nestprint$Script" "flats" "LNestprint$Row;", .fieldLink RX5 35 "Nestprint$Script" "hards" "LNestprint$Row;", .fieldLink RX5 38 "Nestprint$Script" "marks" "LNestprint$Row;", .fieldLink RX5 41 "Nestprint$Script" "runs" "LNestprint$Row;", .fieldLink RX5 44 "Nestprint$Script" "signs" "LNestprint$Row;", .methodLink RX5 11 yX4_init, .code yX5_init cX5_init 2 none, .fieldLink RX2 78 "Nestprint$Layout" "script" "LNestprint$Script;", .instanceMethod yX8_init, .methodLink RX2 20 yX4_init, .methodLink RX2 75 yX5_init, .instanceMethod yX5_init, .code yX2_init cX2_init 2 none]
def waC3 : List Cond := [.fieldLink RX9 51 "Nestprint" "bench" "LNestprint$Layout;", .fieldLink RX9 55 "Nestprint" "other" "LNestprint$Layout;", .classLink RX9 58 RX6, .instantiable RX6 5, .initialized RX6, .methodLink RX6 3 objectInit, .classLink RX6 9 RX4, .fieldLink RX6 14 "Nestprint$Sound" "gathered" "LNestprint$Row;", .fieldLink RX6 20 "Nestprint$Sound" "nodes" "LNestprint$Nodes;", .fieldLink RX6 24 "Nestprint$Sound" "coder" "LNestprint$CodeReader;", .fieldLink RX6 28 "Nestprint$Sound" "bench" "LNestprint$Layout;", .fieldLink RX6 32 "Nestprint$Sound" "other" "LNestprint$Layout;", .methodLink RX6 11 yX4_init, .code yX6_init cX6_init 5 none, .fieldLink RX9 63 "Nestprint" "sound" "LNestprint$Sound;", .classLink RX9 67 RJ4, .instantiable RJ4 4, .initialized RJ4, .methodLink RJ5 3 objectInit, .fieldLink RJ5 18 "java/lang/String" "COMPACT_STRINGS" "Z", .arrayClass .byte, .fieldLink RJ5 15 "java/lang/AbstractStringBuilder" "value" "[B", .fieldLink RJ5 22 "java/lang/AbstractStringBuilder" "coder" "B", .code yJ5_init_d00df cJ5_init_d00df 2 none, .initialized RJ5, .methodLink RJ4 1 yJ5_init_d00df, .instanceMethod yJ5_init_d00df, .code yJ4_init_da8c8 cJ4_init_da8c8 1 none, .fieldLink RX9 70 "Nestprint" "page" "Ljava/lang/StringBuilder;", .classLink RX9 74 RX7, .instantiable RX7 10, .initialized RX7, .methodLink RX7 3 objectInit, .classLink RX7 9 RX4, .fieldLink RX7 14 "Nestprint$Tree" "kinds" "LNestprint$Row;", .fieldLink RX7 20 "Nestprint$Tree" "starts" "LNestprint$Row;", .fieldLink RX7 23 "Nestprint$Tree" "lengths" "LNestprint$Row;", .fieldLink RX7 26 "Nestprint$Tree" "firsts" "LNestprint$Row;", .fieldLink RX7 29 "Nestprint$Tree" "counts" "LNestprint$Row;", .fieldLink RX7 32 "Nestprint$Tree" "depths" "LNestprint$Row;"]
def waC4 : List Cond := [.fieldLink RX7 35 "Nestprint$Tree" "parts" "LNestprint$Row;", .fieldLink RX7 38 "Nestprint$Tree" "signs" "LNestprint$Row;", .fieldLink RX7 41 "Nestprint$Tree" "inPlain" "LNestprint$Row;", .fieldLink RX7 44 "Nestprint$Tree" "root" "I", .methodLink RX7 11 yX4_init, .code yX7_init cX7_init 1 none, .fieldLink RX9 77 "Nestprint" "kept" "LNestprint$Tree;", .fieldLink RX9 81 "Nestprint" "spare" "LNestprint$Tree;", .fieldLink RX9 84 "Nestprint" "width" "I", .fieldLink RX9 88 "Nestprint" "ribbon" "I", .fieldLink RX9 91 "Nestprint" "told" "I", .fieldLink RX9 94 "Nestprint" "knocks" "I", .fieldLink RX9 97 "Nestprint" "made" "I", .instanceMethod yX3_init, .methodLink RX9 18 yX4_init, .instanceMethod yX1_init, .instanceMethod yX0_init, .methodLink RX9 44 yX3_signs, .instanceMethod yX3_signs, .selects RX3 yX3_signs yX3_signs, .methodLink RX9 48 yX2_init, .instanceMethod yX2_init, .methodLink RX9 60 yX6_init, .instanceMethod yX6_init, .methodLink RX9 69 yJ4_init_da8c8, .instanceMethod yJ4_init_da8c8, .instanceMethod yX7_init, .code yX9_init cX9_init 1 none, .methodLink RL 115 yX9_init, .instanceMethod yX9_init, .classLink RL 116 RX16, .instantiable RX16 9, .initialized RX16, .methodLink RX16 1 objectInit, .classLink RX16 7 RJx4a65c, .instantiable RJx4a65c 3, .initialized RJx4a65c, .methodLink RJxa1e45 1 objectInit, .code yJxa1e45_init_da8c8 cJxa1e45_init_da8c8 1 none, .fieldLink RJxc12de 7 "java/util/AbstractList" "modCount" "I"]
def waC5 : List Cond := [.initialized RJxa1e45, .methodLink RJxc12de 1 yJxa1e45_init_da8c8, .instanceMethod yJxa1e45_init_da8c8, .code yJxc12de_init_da8c8 cJxc12de_init_da8c8 1 none, .fieldLink RJx4a65c 39 "java/util/ArrayList" "DEFAULTCAPACITY_EMPTY_ELEMENTDATA" "[Ljava/lang/Object;", .fieldLink RJx4a65c 9 "java/util/ArrayList" "elementData" "[Ljava/lang/Object;", .initialized RJxc12de, .methodLink RJx4a65c 1 yJxc12de_init_da8c8, .instanceMethod yJxc12de_init_da8c8, .code yJx4a65c_init_da8c8 cJx4a65c_init_da8c8 1 none, .fieldLink RX16 10 "NestprintModel" "nodes" "Ljava/util/ArrayList;", .fieldLink RX16 16 "NestprintModel" "width" "I", .fieldLink RX16 20 "NestprintModel" "ribbon" "I", .fieldLink RX16 25 "NestprintModel" "typed" "Ljava/lang/String;", .methodLink RX16 9 yJx4a65c_init_da8c8, .instanceMethod yJx4a65c_init_da8c8, .code yX16_init cX16_init 1 none, .methodLink RL 118 yX16_init, .instanceMethod yX16_init, .classLink RL 14 RX10, .instantiable RX10 2, .initialized RX10, .methodLink RX10 1 objectInit, .code yX10_init cX10_init 1 none, .instanceMethod yX10_init, .classLink RX9 100 "java/lang/IllegalArgumentException", .initialized "java/lang/IllegalArgumentException", .code yX9_word cX9_word 4 (some .int), .classLink RL 19 "java/lang/IllegalArgumentException", .methodLink RL 7 yX9_word, .instanceMethod yX9_word, .selects RX9 yX9_word yX9_word, .codeWith yL_word cL_word 5 (some .int) [(0, 11, 14, 19), (0, 11, 18, 21)], .code yX16_isIn cX16_isIn 3 (some .boolean), .fieldLink RX16 176 "NestprintModel" "thrown" "I", .code yX16_refuse cX16_refuse 3 (some .boolean), .methodLink RX16 179 yX16_refuse, .instanceMethod yX16_refuse, .selects RX16 yX16_refuse yX16_refuse, .code yX16_start cX16_start 3 (some .boolean)]
def waC6 : List Cond := [.methodLink RX16 183 yX16_isIn, .static yX16_isIn, .methodLink RX16 196 yX16_start, .instanceMethod yX16_start, .selects RX16 yX16_start yX16_start, .code yX16_word cX16_word 5 (some .int), .code yX16_thrown cX16_thrown 1 (some .int), .code yX4_size cX4_size 1 (some .int), .methodLink RX3 44 yX4_size, .instanceMethod yX4_size, .selects RX4 yX4_size yX4_size, .code yX3_count cX3_count 1 (some .int), .methodLink RX9 163 yX3_count, .instanceMethod yX3_count, .selects RX3 yX3_count yX3_count, .code yX9_needNumber cX9_needNumber 1 none, .code yX4_add cX4_add 2 none, .methodLink RX3 58 yX4_add, .instanceMethod yX4_add, .selects RX4 yX4_add yX4_add, .code yX3_addSign cX3_addSign 2 none, .code yX3_addPlace cX3_addPlace 7 (some .int), .methodLink RX3 61 yX3_addPlace, .instanceMethod yX3_addPlace, .selects RX3 yX3_addPlace yX3_addPlace, .code yX3_addText cX3_addText 2 (some .int), .code yX3_number cX3_number 2 (some .int), .methodLink RX9 387 yX3_number, .instanceMethod yX3_number, .selects RX3 yX3_number yX3_number, .code yX9_numbered cX9_numbered 2 (some .int), .methodLink RX9 109 yX9_needNumber, .instanceMethod yX9_needNumber, .selects RX9 yX9_needNumber yX9_needNumber, .methodLink RX9 112 yX3_addSign, .instanceMethod yX3_addSign, .selects RX3 yX3_addSign yX3_addSign, .methodLink RX9 115 yX3_addText, .instanceMethod yX3_addText, .selects RX3 yX3_addText yX3_addText]
def waC7 : List Cond := [.methodLink RX9 119 yX9_numbered, .instanceMethod yX9_numbered, .selects RX9 yX9_numbered yX9_numbered, .fieldLink RJx4a65c 48 "java/util/ArrayList" "size" "I", .code yJx4a65c_size_8abf5 cJx4a65c_size_8abf5 1 (some .int), .methodLink RX16 44 yJx4a65c_size_8abf5, .instanceMethod yJx4a65c_size_8abf5, .selects RJx4a65c yJx4a65c_size_8abf5 yJx4a65c_size_8abf5, .code yX16_isFull cX16_isFull 1 (some .boolean), .classLink RX16 29 RJ4, .fieldLink RJ5 79 "java/lang/AbstractStringBuilder" "count" "I", .code yJ5_ensureCapacityInternal_d00df cJ5_ensureCapacityInternal_d00df 3 none, .code yJ5_isLatin1_aae02 cJ5_isLatin1_aae02 1 (some .boolean), .code yJ1_canEncode_fc78d cJ1_canEncode_fc78d 1 (some .boolean), .methodLink RJ5 100 ⟨"java/lang/AbstractStringBuilder", "ensureCapacityInternal", "(I)V"⟩, .sameMethod "java/lang/AbstractStringBuilder" "java/lang/AbstractStringBuilder" "ensureCapacityInternal" "(I)V", .selects RJ4 ⟨"java/lang/AbstractStringBuilder", "ensureCapacityInternal", "(I)V"⟩ yJ5_ensureCapacityInternal_d00df, .instanceMethod yJ5_ensureCapacityInternal_d00df, .methodLink RJ5 83 ⟨"java/lang/AbstractStringBuilder", "isLatin1", "()Z"⟩, .sameMethod "java/lang/AbstractStringBuilder" "java/lang/AbstractStringBuilder" "isLatin1" "()Z", .selects RJ4 ⟨"java/lang/AbstractStringBuilder", "isLatin1", "()Z"⟩ yJ5_isLatin1_aae02, .instanceMethod yJ5_isLatin1_aae02, .initialized RJ1, .methodLink RJ5 191 yJ1_canEncode_fc78d, .static yJ1_canEncode_fc78d, .code yJ5_append_3fe6f cJ5_append_3fe6f 2 (some (.object "java/lang/AbstractStringBuilder")), .methodLink RJ4 50 yJ5_append_3fe6f, .sameMethod RJ5 RJ5 "append" "(C)Ljava/lang/AbstractStringBuilder;", .superclass RJ4 RJ5, .instanceMethod yJ5_append_3fe6f, .code yJ4_append_cf468 cJ4_append_cf468 2 (some (.object "java/lang/StringBuilder")), .classLink RX16 70 RX11, .instantiable RX11 4, .initialized RX11, .classLink RJ4 18 RJ0, .instantiable RJ0 4, .initialized RJ0, .methodLink RJ0 1 objectInit, .code yJ5_getValue_6d5f1 cJ5_getValue_6d5f1 1 (some (.array .byte)), .code yJ5_length_8abf5 cJ5_length_8abf5 1 (some .int)]
def waC8 : List Cond := [.methodLink RJ4 343 yJ5_length_8abf5, .sameMethod RJ5 RJ5 "length" "()I", .instanceMethod yJ5_length_8abf5, .code yJ4_length_8abf5 cJ4_length_8abf5 1 (some .int), .fieldLink RJ0 15 "java/lang/String" "coder" "B", .code yJ7_checkLength_df160 cJ7_checkLength_df160 2 none, .methodLink RJ7 304 Lib.Math.min.name, .static Lib.Math.min.name, .initialized "java/lang/Math", .code Lib.Math.min.name Lib.Math.min.code 2 (some .int), .methodLink RJ7 150 arraycopyName, .native arraycopyName, .static arraycopyName, .initialized "java/lang/System", .initialized RJ7, .methodLink RJ7 343 yJ7_checkLength_df160, .static yJ7_checkLength_df160, .code yJ7_copyOfRangeByte_39247 cJ7_copyOfRangeByte_39247 5 (some (.array .byte)), .methodLink RJ7 339 yJ7_copyOfRangeByte_39247, .static yJ7_copyOfRangeByte_39247, .code yJ7_copyOfRange_39247 cJ7_copyOfRange_39247 3 (some (.array .byte)), .fieldLink RJ0 9 "java/lang/String" "value" "[B", .methodLink RJ0 552 ⟨"java/lang/AbstractStringBuilder", "getValue", "()[B"⟩, .sameMethod "java/lang/AbstractStringBuilder" "java/lang/AbstractStringBuilder" "getValue" "()[B", .selects RJ4 ⟨"java/lang/AbstractStringBuilder", "getValue", "()[B"⟩ yJ5_getValue_6d5f1, .instanceMethod yJ5_getValue_6d5f1, .methodLink RJ0 549 ⟨"java/lang/AbstractStringBuilder", "length", "()I"⟩, .sameMethod "java/lang/AbstractStringBuilder" "java/lang/AbstractStringBuilder" "length" "()I", .instanceMethod ⟨"java/lang/AbstractStringBuilder", "length", "()I"⟩, .selects RJ4 ⟨"java/lang/AbstractStringBuilder", "length", "()I"⟩ yJ4_length_8abf5, .instanceMethod yJ4_length_8abf5, .methodLink RJ0 1047 ⟨"java/lang/AbstractStringBuilder", "isLatin1", "()Z"⟩, .methodLink RJ0 54 yJ7_copyOfRange_39247, .static yJ7_copyOfRange_39247, .code yJ0_init_db425 cJ0_init_db425 5 none, .methodLink RJ0 489 yJ0_init_db425, .instanceMethod yJ0_init_db425, .code yJ0_init_81219 cJ0_init_81219 2 none, .methodLink RJ4 137 yJ0_init_81219, .instanceMethod yJ0_init_81219]
def waC9 : List Cond := [.code yJ4_toString_0e30d cJ4_toString_0e30d 1 (some (.object "java/lang/String")), .methodLink RX11 3 objectInit, .classLink RX11 9 RJx4a65c, .fieldLink RX11 12 "NestprintModel$Node" "own" "Ljava/util/ArrayList;", .fieldLink RX11 18 "NestprintModel$Node" "kind" "I", .fieldLink RX11 22 "NestprintModel$Node" "text" "Ljava/lang/String;", .fieldLink RX11 26 "NestprintModel$Node" "by" "I", .methodLink RX11 11 yJx4a65c_init_da8c8, .code yX11_init cX11_init 4 none, .fieldLink RJx4a65c 63 "java/util/ArrayList" "modCount" "I", .sameField "java/util/ArrayList" "java/util/AbstractList" "modCount" "I", .methodLink RJx4a65c 79 Lib.Math.max.name, .static Lib.Math.max.name, .code Lib.Math.max.name Lib.Math.max.code 2 (some .int), .classLink RJx4a65c 7 "java/lang/Object", .code yJx4a65c_grow_92f84 cJx4a65c_grow_92f84 4 (some (.array (.object "java/lang/Object"))), .methodLink RJx4a65c 69 yJx4a65c_grow_92f84, .instanceMethod yJx4a65c_grow_92f84, .selects RJx4a65c yJx4a65c_grow_92f84 yJx4a65c_grow_92f84, .code yJx4a65c_grow_d5877 cJx4a65c_grow_d5877 1 (some (.array (.object "java/lang/Object"))), .methodLink RJx4a65c 129 yJx4a65c_grow_d5877, .instanceMethod yJx4a65c_grow_d5877, .selects RJx4a65c yJx4a65c_grow_d5877 yJx4a65c_grow_d5877, .code yJx4a65c_add_72be8 cJx4a65c_add_72be8 4 none, .methodLink RJx4a65c 131 yJx4a65c_add_72be8, .instanceMethod yJx4a65c_add_72be8, .selects RJx4a65c yJx4a65c_add_72be8 yJx4a65c_add_72be8, .code yJx4a65c_add_9ea2d cJx4a65c_add_9ea2d 2 (some .boolean), .fieldLink RX16 193 "NestprintModel" "ever" "I", .methodLink RX16 65 yJx4a65c_add_9ea2d, .instanceMethod yJx4a65c_add_9ea2d, .selects RJx4a65c yJx4a65c_add_9ea2d yJx4a65c_add_9ea2d, .code yX16_made cX16_made 2 (some .int), .methodLink RX16 199 yX16_isFull, .instanceMethod yX16_isFull, .selects RX16 yX16_isFull yX16_isFull, .methodLink RX16 31 yJ4_init_da8c8, .methodLink RX16 32 yJ4_append_cf468, .instanceMethod yJ4_append_cf468, .selects RJ4 yJ4_append_cf468 yJ4_append_cf468]
def waC10 : List Cond := [.methodLink RX16 36 yJ4_toString_0e30d, .instanceMethod yJ4_toString_0e30d, .selects RJ4 yJ4_toString_0e30d yJ4_toString_0e30d, .methodLink RX16 202 yX11_init, .instanceMethod yX11_init, .methodLink RX16 205 yX16_made, .instanceMethod yX16_made, .selects RX16 yX16_made yX16_made, .initialized RL, .methodLink RL 120 yL_word, .static yL_word, .methodLink RL 125 yX16_word, .instanceMethod yX16_word, .selects RX16 yX16_word yX16_word, .methodLink RL 126 yX16_thrown, .instanceMethod yX16_thrown, .selects RX16 yX16_thrown yX16_thrown, .code yX9_mark cX9_mark 2 (some .int), .methodLink RL 23 yX9_mark, .instanceMethod yX9_mark, .selects RX9 yX9_mark yX9_mark, .codeWith yL_mark cL_mark 4 (some .int) [(0, 10, 13, 19), (0, 10, 16, 21)], .code yX16_mark cX16_mark 2 (some .int), .code yX3_addMark cX3_addMark 2 (some .int), .methodLink RX9 124 yX3_addMark, .instanceMethod yX3_addMark, .selects RX3 yX3_addMark yX3_addMark, .methodLink RL 129 yL_mark, .static yL_mark, .methodLink RL 132 yX16_mark, .instanceMethod yX16_mark, .selects RX16 yX16_mark yX16_mark, .code yX3_has cX3_has 2 (some .boolean), .methodLink RX9 340 yX3_has, .instanceMethod yX3_has, .selects RX3 yX3_has yX3_has, .classLink RX9 344 "java/lang/IndexOutOfBoundsException", .initialized "java/lang/IndexOutOfBoundsException", .code yX9_needNode cX9_needNode 2 none, .methodLink RX9 127 yX9_needNode]
def waC11 : List Cond := [.instanceMethod yX9_needNode, .selects RX9 yX9_needNode yX9_needNode, .code yX9_join cX9_join 3 (some .int), .classLink RL 30 "java/lang/IndexOutOfBoundsException", .methodLink RL 27 yX9_join, .instanceMethod yX9_join, .selects RX9 yX9_join yX9_join, .codeWith yL_join cL_join 5 (some .int) [(0, 11, 14, 30), (0, 11, 18, 21)], .code yX16_isNoNode cX16_isNoNode 2 (some .boolean), .methodLink RX16 213 yX16_isNoNode, .instanceMethod yX16_isNoNode, .selects RX16 yX16_isNoNode yX16_isNoNode, .code yX16_join cX16_join 3 (some .int), .methodLink RL 133 yL_join, .static yL_join, .methodLink RL 135 yX16_join, .instanceMethod yX16_join, .selects RX16 yX16_join yX16_join, .code yX9_nest cX9_nest 3 (some .int), .methodLink RL 32 yX9_nest, .instanceMethod yX9_nest, .selects RX9 yX9_nest yX9_nest, .codeWith yL_nest cL_nest 5 (some .int) [(0, 11, 14, 30), (0, 11, 18, 19), (0, 11, 22, 21)], .code yX16_nest cX16_nest 3 (some .int), .methodLink RL 136 yL_nest, .static yL_nest, .methodLink RL 138 yX16_nest, .instanceMethod yX16_nest, .selects RX16 yX16_nest yX16_nest, .code yX9_align cX9_align 2 (some .int), .methodLink RL 35 yX9_align, .instanceMethod yX9_align, .selects RX9 yX9_align yX9_align, .codeWith yL_align cL_align 4 (some .int) [(0, 10, 13, 30), (0, 10, 16, 21)], .code yX16_align cX16_align 2 (some .int), .methodLink RL 139 yL_align, .static yL_align, .methodLink RL 141 yX16_align, .instanceMethod yX16_align, .selects RX16 yX16_align yX16_align]
def waC12 : List Cond := [.code yX9_group cX9_group 2 (some .int), .methodLink RL 38 yX9_group, .instanceMethod yX9_group, .selects RX9 yX9_group yX9_group, .codeWith yL_group cL_group 4 (some .int) [(0, 10, 13, 30), (0, 10, 16, 21)], .code yX16_group cX16_group 2 (some .int), .methodLink RL 142 yL_group, .static yL_group, .methodLink RL 144 yX16_group, .instanceMethod yX16_group, .selects RX16 yX16_group yX16_group, .code yX9_fill cX9_fill 7 (some .int), .methodLink RL 41 yX9_fill, .instanceMethod yX9_fill, .selects RX9 yX9_fill yX9_fill, .codeWith yL_fill cL_fill 5 (some .int) [(0, 11, 14, 30), (0, 11, 18, 19), (0, 11, 22, 21)], .code yX16_fill cX16_fill 5 (some .int), .methodLink RL 145 yL_fill, .static yL_fill, .methodLink RL 147 yX16_fill, .instanceMethod yX16_fill, .selects RX16 yX16_fill yX16_fill, .code yX4_clear cX4_clear 1 none, .methodLink RX3 55 yX4_clear, .instanceMethod yX4_clear, .selects RX4 yX4_clear yX4_clear, .code yX3_clear cX3_clear 1 none, .methodLink RX9 167 yX3_clear, .instanceMethod yX3_clear, .selects RX3 yX3_clear yX3_clear, .code yX9_forget cX9_forget 2 (some .int), .code yJx4a65c_isEmpty_aae02 cJx4a65c_isEmpty_aae02 1 (some .boolean), .methodLink RX16 225 yJx4a65c_isEmpty_aae02, .instanceMethod yJx4a65c_isEmpty_aae02, .selects RJx4a65c yJx4a65c_isEmpty_aae02 yJx4a65c_isEmpty_aae02, .code yX16_forget cX16_forget 2 (some .int), .methodLink RL 148 yX9_forget, .instanceMethod yX9_forget, .selects RX9 yX9_forget yX9_forget, .methodLink RL 151 yX16_forget]
def waC13 : List Cond := [.instanceMethod yX16_forget, .selects RX16 yX16_forget yX16_forget, .code yX9_needWidth cX9_needWidth 2 none, .methodLink RX9 170 yX9_needWidth, .instanceMethod yX9_needWidth, .selects RX9 yX9_needWidth yX9_needWidth, .code yX9_width cX9_width 3 (some .int), .methodLink RL 44 yX9_width, .instanceMethod yX9_width, .selects RX9 yX9_width yX9_width, .codeWith yL_width cL_width 4 (some .int) [(0, 10, 13, 19)], .code yX16_width cX16_width 3 (some .int), .methodLink RL 152 yL_width, .static yL_width, .methodLink RL 154 yX16_width, .instanceMethod yX16_width, .selects RX16 yX16_width yX16_width, .code yX9_ribbon cX9_ribbon 3 (some .int), .methodLink RL 47 yX9_ribbon, .instanceMethod yX9_ribbon, .selects RX9 yX9_ribbon yX9_ribbon, .codeWith yL_ribbon cL_ribbon 4 (some .int) [(0, 10, 13, 19)], .code yX16_ribbon cX16_ribbon 3 (some .int), .methodLink RL 155 yL_ribbon, .static yL_ribbon, .methodLink RL 157 yX16_ribbon, .instanceMethod yX16_ribbon, .selects RX16 yX16_ribbon yX16_ribbon, .code yX4_get cX4_get 2 (some .int), .methodLink RX9 182 yX4_size, .methodLink RX9 185 yX4_get, .instanceMethod yX4_get, .selects RX4 yX4_get yX4_get, .code yX9_needCodes cX9_needCodes 3 none, .methodLink RX9 175 yX4_clear, .methodLink RX9 176 yX4_add, .methodLink RX9 179 yX9_needCodes, .instanceMethod yX9_needCodes, .selects RX9 yX9_needCodes yX9_needCodes, .code yX9_say cX9_say 8 (some .int)]
def waC14 : List Cond := [.methodLink RL 50 yX9_say, .instanceMethod yX9_say, .selects RX9 yX9_say yX9_say, .codeWith yL_say cL_say 9 (some .int) [(0, 19, 22, 19), (0, 19, 26, 21)], .code yX16_say cX16_say 14 (some .int), .code yX9_lengthAfter cX9_lengthAfter 2 (some .int), .methodLink RX9 368 yX9_lengthAfter, .static yX9_lengthAfter, .code yX4_cut cX4_cut 2 none, .fieldLink RJ0 38 "java/lang/String" "COMPACT_STRINGS" "Z", .code yJ0_coder_7d493 cJ0_coder_7d493 1 (some .byte), .methodLink RJ0 335 yJ0_coder_7d493, .instanceMethod yJ0_coder_7d493, .selects RJ0 yJ0_coder_7d493 yJ0_coder_7d493, .code yJ0_length_8abf5 cJ0_length_8abf5 1 (some .int), .code yJ0_isLatin1_aae02 cJ0_isLatin1_aae02 1 (some .boolean), .fieldLink RJ0 1053 "jdk/internal/util/Preconditions" "SIOOBE_FORMATTER" "Ljava/util/function/BiFunction;", .code yJ3_checkIndex_8e157 cJ3_checkIndex_8e157 3 (some .int), .initialized RJ3, .methodLink RJ0 1059 yJ3_checkIndex_8e157, .static yJ3_checkIndex_8e157, .code yJ0_checkIndex_df160 cJ0_checkIndex_df160 2 none, .methodLink RJ1 9 yJ0_checkIndex_df160, .static yJ0_checkIndex_df160, .code yJ1_charAt_3b067 cJ1_charAt_3b067 2 (some .char), .methodLink RJ0 492 yJ0_isLatin1_aae02, .instanceMethod yJ0_isLatin1_aae02, .selects RJ0 yJ0_isLatin1_aae02 yJ0_isLatin1_aae02, .methodLink RJ0 495 yJ1_charAt_3b067, .static yJ1_charAt_3b067, .code yJ0_charAt_5068e cJ0_charAt_5068e 2 (some .char), .methodLink RX9 384 yX4_cut, .instanceMethod yX4_cut, .selects RX4 yX4_cut yX4_cut, .methodLink RX9 375 yJ0_length_8abf5, .instanceMethod yJ0_length_8abf5, .selects RJ0 yJ0_length_8abf5 yJ0_length_8abf5, .methodLink RX9 380 yJ0_charAt_5068e, .instanceMethod yJ0_charAt_5068e, .selects RJ0 yJ0_charAt_5068e yJ0_charAt_5068e]
def waC15 : List Cond := [.code yX9_type cX9_type 2 none, .methodLink RX9 188 yX9_type, .instanceMethod yX9_type, .selects RX9 yX9_type yX9_type, .code yX16_said cX16_said 2 (some (.object "java/lang/String")), .methodLink RJ5 40 yJ0_coder_7d493, .code yJ5_inflateIfNeededFor_a7421 cJ5_inflateIfNeededFor_a7421 2 none, .methodLink RJ0 212 arraycopyName, .code yJ0_getBytes_840e7 cJ0_getBytes_840e7 4 none, .methodLink RJ5 397 ⟨"java/lang/AbstractStringBuilder", "inflateIfNeededFor", "(Ljava/lang/String;)V"⟩, .sameMethod "java/lang/AbstractStringBuilder" "java/lang/AbstractStringBuilder" "inflateIfNeededFor" "(Ljava/lang/String;)V", .selects RJ4 ⟨"java/lang/AbstractStringBuilder", "inflateIfNeededFor", "(Ljava/lang/String;)V"⟩ yJ5_inflateIfNeededFor_a7421, .instanceMethod yJ5_inflateIfNeededFor_a7421, .methodLink RJ5 399 yJ0_getBytes_840e7, .instanceMethod yJ0_getBytes_840e7, .selects RJ0 yJ0_getBytes_840e7 yJ0_getBytes_840e7, .code yJ5_putStringAt_47b60 cJ5_putStringAt_47b60 3 none, .methodLink RJ5 32 yJ0_length_8abf5, .methodLink RJ5 208 ⟨"java/lang/AbstractStringBuilder", "putStringAt", "(ILjava/lang/String;)V"⟩, .sameMethod "java/lang/AbstractStringBuilder" "java/lang/AbstractStringBuilder" "putStringAt" "(ILjava/lang/String;)V", .selects RJ4 ⟨"java/lang/AbstractStringBuilder", "putStringAt", "(ILjava/lang/String;)V"⟩ yJ5_putStringAt_47b60, .instanceMethod yJ5_putStringAt_47b60, .code yJ5_append_cf1ce cJ5_append_cf1ce 3 (some (.object "java/lang/AbstractStringBuilder")), .methodLink RJ4 29 yJ5_append_cf1ce, .sameMethod RJ5 RJ5 "append" "(Ljava/lang/String;)Ljava/lang/AbstractStringBuilder;", .instanceMethod yJ5_append_cf1ce, .code yJ4_append_15ec4 cJ4_append_15ec4 2 (some (.object "java/lang/StringBuilder")), .methodLink RX16 98 yJ4_append_15ec4, .instanceMethod yJ4_append_15ec4, .selects RJ4 yJ4_append_15ec4 yJ4_append_15ec4, .methodLink RX16 145 yJ0_charAt_5068e, .code yJ0_isEmpty_aae02 cJ0_isEmpty_aae02 1 (some .boolean), .methodLink RX16 157 yJ0_isEmpty_aae02, .instanceMethod yJ0_isEmpty_aae02, .selects RJ0 yJ0_isEmpty_aae02 yJ0_isEmpty_aae02, .code yJ3_checkFromToIndex_8c36e cJ3_checkFromToIndex_8c36e 4 (some .int), .methodLink RJ0 1062 yJ3_checkFromToIndex_8c36e, .static yJ3_checkFromToIndex_8c36e, .code yJ0_checkBoundsBeginEnd_23922 cJ0_checkBoundsBeginEnd_23922 3 none, .code yJ1_newString_b4f7a cJ1_newString_b4f7a 3 (some (.object "java/lang/String"))]
def waC16 : List Cond := [.methodLink RJ0 505 yJ0_length_8abf5, .methodLink RJ0 521 yJ0_checkBoundsBeginEnd_23922, .static yJ0_checkBoundsBeginEnd_23922, .methodLink RJ0 685 yJ1_newString_b4f7a, .static yJ1_newString_b4f7a, .code yJ0_substring_37a41 cJ0_substring_37a41 5 (some (.object "java/lang/String")), .methodLink RX16 74 yJ0_length_8abf5, .methodLink RX16 231 yJ0_substring_37a41, .instanceMethod yJ0_substring_37a41, .selects RJ0 yJ0_substring_37a41 yJ0_substring_37a41, .classLink RJ1 1 RJ0, .code yJ0_init_031fb cJ0_init_031fb 3 none, .methodLink RJ1 232 yJ7_copyOfRange_39247, .methodLink RJ1 112 yJ0_init_031fb, .instanceMethod yJ0_init_031fb, .methodLink RX16 234 yX16_said, .static yX16_said, .methodLink RL 158 yL_say, .static yL_say, .methodLink RL 161 yX16_say, .instanceMethod yX16_say, .selects RX16 yX16_say yX16_say, .methodLink RX1 38 yX4_clear, .methodLink RX1 41 yX4_size, .code yX1_faultOf cX1_faultOf 4 (some .int), .methodLink RX1 76 yX3_addText, .code yX1_gathered cX1_gathered 5 (some .int), .methodLink RX1 79 yX1_gathered, .instanceMethod yX1_gathered, .selects RX1 yX1_gathered yX1_gathered, .code yX1_build cX1_build 5 (some .int), .methodLink RX9 191 yX1_faultOf, .instanceMethod yX1_faultOf, .selects RX1 yX1_faultOf yX1_faultOf, .methodLink RX9 195 yX1_build, .instanceMethod yX1_build, .selects RX1 yX1_build yX1_build, .code yX9_read cX9_read 1 (some .int), .methodLink RL 54 yX9_read, .instanceMethod yX9_read]
def waC17 : List Cond := [.selects RX9 yX9_read yX9_read, .codeWith yL_read cL_read 3 (some .int) [(0, 9, 12, 21)], .code yX16_one cX16_one 1 (some .int), .methodLink RX16 40 yX16_one, .static yX16_one, .code yX16_documented cX16_documented 6 (some .int), .methodLink RX16 238 yX16_documented, .static yX16_documented, .code yX16_isDocument cX16_isDocument 1 (some .boolean), .classLink RX16 248 RX13, .instantiable RX13 2, .initialized RX13, .methodLink RX13 3 objectInit, .fieldLink RX13 9 "NestprintModel$Reader" "text" "Ljava/lang/String;", .code yX13_init cX13_init 2 none, .classLink RX13 48 RJx4a65c, .fieldLink RX13 15 "NestprintModel$Reader" "at" "I", .classLink RX13 69 RX11, .methodLink RX13 50 yJx4a65c_init_da8c8, .methodLink RX13 19 yJ0_length_8abf5, .methodLink RX13 65 yJx4a65c_isEmpty_aae02, .methodLink RX13 73 yX11_init, .code yX13_document cX13_document 5 (some (.object "NestprintModel$Node")), .classLink RJx4a65c 267 RJx35411, .instantiable RJx35411 4, .initialized RJx35411, .fieldLink RJx35411 1 "java/util/ArrayList$Itr" "this$0" "Ljava/util/ArrayList;", .methodLink RJx35411 7 objectInit, .fieldLink RJx35411 13 "java/util/ArrayList$Itr" "lastRet" "I", .fieldLink RJx35411 17 "java/util/ArrayList" "modCount" "I", .fieldLink RJx35411 22 "java/util/ArrayList$Itr" "expectedModCount" "I", .code yJx35411_init_45d68 cJx35411_init_45d68 2 none, .methodLink RJx4a65c 269 yJx35411_init_45d68, .instanceMethod yJx35411_init_45d68, .code yJx4a65c_iterator_32c93 cJx4a65c_iterator_32c93 1 (some (.object "java/util/Iterator")), .fieldLink RJx35411 25 "java/util/ArrayList$Itr" "cursor" "I", .code yJx35411_hasNext_aae02 cJx35411_hasNext_aae02 1 (some .boolean), .methodLink RX11 37 yJx4a65c_iterator_32c93, .instanceMethod yJx4a65c_iterator_32c93, .selects RJx4a65c yJx4a65c_iterator_32c93 yJx4a65c_iterator_32c93]
def waC18 : List Cond := [.methodLink RX11 41 ⟨"java/util/Iterator", "hasNext", "()Z"⟩, .selects RJx35411 ⟨"java/util/Iterator", "hasNext", "()Z"⟩ yJx35411_hasNext_aae02, .instanceMethod yJx35411_hasNext_aae02, .code yX11_weight cX11_weight 4 (some .int), .code yX11_depth cX11_depth 4 (some .int), .methodLink RX16 187 yX11_weight, .instanceMethod yX11_weight, .selects RX11 yX11_weight yX11_weight, .methodLink RX16 190 yX11_depth, .instanceMethod yX11_depth, .selects RX11 yX11_depth yX11_depth, .code yX16_isGreat cX16_isGreat 1 (some .boolean), .methodLink RX16 245 yX16_isDocument, .instanceMethod yX16_isDocument, .selects RX16 yX16_isDocument yX16_isDocument, .methodLink RX16 250 yX13_init, .instanceMethod yX13_init, .methodLink RX16 251 yX13_document, .instanceMethod yX13_document, .selects RX13 yX13_document yX13_document, .methodLink RX16 209 yX16_isGreat, .static yX16_isGreat, .code yX16_read cX16_read 2 (some .int), .methodLink RL 162 yL_read, .static yL_read, .methodLink RL 165 yX16_read, .instanceMethod yX16_read, .selects RX16 yX16_read yX16_read, .code yX4_copy cX4_copy 3 none, .methodLink RX7 48 yX4_clear, .methodLink RX7 51 yX4_copy, .instanceMethod yX4_copy, .selects RX4 yX4_copy yX4_copy, .code yX7_start cX7_start 2 none, .methodLink RX0 60 yX4_size, .code yX0_startSum cX0_startSum 1 none, .methodLink RX0 100 yX4_clear, .methodLink RX0 103 yX0_startSum, .instanceMethod yX0_startSum, .selects RX0 yX0_startSum yX0_startSum]
def waC19 : List Cond := [.code yX0_begin cX0_begin 1 none, .code yX0_isBehindFactor cX0_isBehindFactor 1 (some .boolean), .methodLink RX0 51 yX7_start, .instanceMethod yX7_start, .selects RX7 yX7_start yX7_start, .methodLink RX0 57 yX0_begin, .instanceMethod yX0_begin, .selects RX0 yX0_begin yX0_begin, .methodLink RX0 87 yX0_isBehindFactor, .instanceMethod yX0_isBehindFactor, .selects RX0 yX0_isBehindFactor yX0_isBehindFactor, .code yX0_faultOf cX0_faultOf 5 (some .int), .methodLink RX9 199 yX0_faultOf, .instanceMethod yX0_faultOf, .selects RX0 yX0_faultOf yX0_faultOf, .code yX9_code cX9_code 2 (some .int), .code yX16_coded cX16_coded 8 (some .int), .methodLink RX16 242 yX16_coded, .static yX16_coded, .code yX16_isCode cX16_isCode 1 (some .boolean), .methodLink RX16 255 yX16_isCode, .instanceMethod yX16_isCode, .selects RX16 yX16_isCode yX16_isCode, .code yX16_code cX16_code 1 (some .int), .methodLink RL 166 yX9_code, .instanceMethod yX9_code, .selects RX9 yX9_code yX9_code, .methodLink RL 169 yX16_code, .instanceMethod yX16_code, .selects RX16 yX16_code yX16_code, .code yX9_blank cX9_blank 1 (some .int), .fieldLink RX16 272 "NestprintModel" "counted" "I", .code yX16_blank cX16_blank 1 (some .int), .methodLink RL 170 yX9_blank, .instanceMethod yX9_blank, .selects RX9 yX9_blank yX9_blank, .methodLink RL 173 yX16_blank, .instanceMethod yX16_blank, .selects RX16 yX16_blank yX16_blank, .code yX9_knock cX9_knock 1 (some .int)]
def waC20 : List Cond := [.fieldLink RX16 275 "NestprintModel" "knocks" "I", .code yX16_knock cX16_knock 1 (some .int), .methodLink RL 174 yX9_knock, .instanceMethod yX9_knock, .selects RX9 yX9_knock yX9_knock, .methodLink RL 177 yX16_knock, .instanceMethod yX16_knock, .selects RX16 yX16_knock yX16_knock, .code yX9_ofNode cX9_ofNode 3 (some .int), .methodLink RL 58 yX9_ofNode, .instanceMethod yX9_ofNode, .selects RX9 yX9_ofNode yX9_ofNode, .codeWith yL_ofNode cL_ofNode 5 (some .int) [(0, 11, 14, 30), (0, 11, 18, 19)], .code yX16_ofNode cX16_ofNode 3 (some .int), .methodLink RL 178 yL_ofNode, .static yL_ofNode, .methodLink RL 180 yX16_ofNode, .instanceMethod yX16_ofNode, .selects RX16 yX16_ofNode yX16_ofNode, .code yX9_flat cX9_flat 2 (some (.object "java/lang/String")), .methodLink RL 61 yX9_flat, .instanceMethod yX9_flat, .selects RX9 yX9_flat yX9_flat, .codeWith yL_flat cL_flat 4 (some .int) [(0, 9, 12, 30)], .code yX16_flat cX16_flat 2 (some (.object "java/lang/String")), .methodLink RL 181 yL_flat, .static yL_flat, .methodLink RL 183 yX16_flat, .instanceMethod yX16_flat, .selects RX16 yX16_flat yX16_flat, .code yX9_line cX9_line 3 (some (.object "java/lang/String")), .methodLink RL 69 yX9_line, .instanceMethod yX9_line, .selects RX9 yX9_line yX9_line, .codeWith yL_line cL_line 5 (some .int) [(0, 10, 13, 30), (0, 10, 17, 19)], .code yX16_line cX16_line 3 (some (.object "java/lang/String")), .methodLink RL 190 yL_line, .static yL_line, .methodLink RL 192 yX16_line, .instanceMethod yX16_line]
def waC21 : List Cond := [.selects RX16 yX16_line yX16_line, .code yX9_measure cX9_measure 3 (some .int), .methodLink RL 73 yX9_measure, .instanceMethod yX9_measure, .selects RX9 yX9_measure yX9_measure, .codeWith yL_measure cL_measure 5 (some .int) [(0, 11, 14, 30), (0, 11, 18, 19)], .code yX16_measure cX16_measure 3 (some .int), .methodLink RL 193 yL_measure, .static yL_measure, .methodLink RL 195 yX16_measure, .instanceMethod yX16_measure, .selects RX16 yX16_measure yX16_measure, .code yX9_at cX9_at 4 (some .int), .methodLink RL 76 yX9_at, .instanceMethod yX9_at, .selects RX9 yX9_at yX9_at, .codeWith yL_at cL_at 6 (some .int) [(0, 13, 16, 30)], .code yX16_at cX16_at 6 (some .int), .methodLink RL 196 yL_at, .static yL_at, .methodLink RL 199 yX16_at, .instanceMethod yX16_at, .selects RX16 yX16_at yX16_at, .code yX9_where cX9_where 5 (some .int), .methodLink RL 80 yX9_where, .instanceMethod yX9_where, .selects RX9 yX9_where yX9_where, .codeWith yL_where cL_where 6 (some .int) [(0, 13, 16, 30), (0, 13, 20, 19)], .code yX16_where cX16_where 5 (some .int), .methodLink RL 200 yL_where, .static yL_where, .methodLink RL 203 yX16_where, .instanceMethod yX16_where, .selects RX16 yX16_where yX16_where, .code yX9_isOne cX9_isOne 4 (some .int), .methodLink RL 84 yX9_isOne, .instanceMethod yX9_isOne, .selects RX9 yX9_isOne yX9_isOne, .codeWith yL_isOne cL_isOne 5 (some .int) [(0, 11, 14, 30), (0, 11, 18, 19)], .code yX16_isOne cX16_isOne 4 (some .int)]
def waC22 : List Cond := [.methodLink RL 204 yL_isOne, .static yL_isOne, .methodLink RL 206 yX16_isOne, .instanceMethod yX16_isOne, .selects RX16 yX16_isOne yX16_isOne, .code yX9_differ cX9_differ 4 (some .int), .methodLink RL 87 yX9_differ, .instanceMethod yX9_differ, .selects RX9 yX9_differ yX9_differ, .codeWith yL_differ cL_differ 6 (some .int) [(0, 13, 16, 30), (0, 13, 20, 21)], .code yX16_differ cX16_differ 4 (some .int), .methodLink RL 207 yL_differ, .static yL_differ, .methodLink RL 209 yX16_differ, .instanceMethod yX16_differ, .selects RX16 yX16_differ yX16_differ, .code yJ5_setLength_d00df cJ5_setLength_d00df 2 none, .methodLink RJ4 333 yJ5_setLength_d00df, .sameMethod RJ5 RJ5 "setLength" "(I)V", .instanceMethod yJ5_setLength_d00df, .code yJ4_setLength_d00df cJ4_setLength_d00df 2 none, .methodLink RX9 393 yJ4_setLength_d00df, .instanceMethod yJ4_setLength_d00df, .selects RJ4 yJ4_setLength_d00df yJ4_setLength_d00df, .methodLink RX9 400 yJ4_toString_0e30d, .code yX9_textOf cX9_textOf 3 (some (.object "java/lang/String")), .methodLink RX9 290 yX9_textOf, .instanceMethod yX9_textOf, .selects RX9 yX9_textOf yX9_textOf, .code yX9_typed cX9_typed 1 (some (.object "java/lang/String")), .code yX16_typed cX16_typed 1 (some (.object "java/lang/String")), .classLink RJ0 10 "java/lang/String", .code yJ1_equals_b5fdf cJ1_equals_b5fdf 3 (some .boolean), .methodLink RJ0 541 yJ1_equals_b5fdf, .static yJ1_equals_b5fdf, .code yJ0_equals_9ea2d cJ0_equals_9ea2d 3 (some .boolean), .methodLink RL 210 yX9_typed, .instanceMethod yX9_typed, .selects RX9 yX9_typed yX9_typed, .methodLink RL 214 yX16_typed]
def waC23 : List Cond := [.instanceMethod yX16_typed, .selects RX16 yX16_typed yX16_typed, .methodLink RL 184 yJ0_equals_9ea2d, .instanceMethod yJ0_equals_9ea2d, .selects RJ0 yJ0_equals_9ea2d yJ0_equals_9ea2d, .code yX9_fault cX9_fault 2 (some .int), .code yX16_faulty cX16_faulty 3 (some .int), .methodLink RX16 329 yX16_faulty, .instanceMethod yX16_faulty, .selects RX16 yX16_faulty yX16_faulty, .code yX16_fault cX16_fault 2 (some .int), .methodLink RL 215 yX9_fault, .instanceMethod yX9_fault, .selects RX9 yX9_fault yX9_fault, .methodLink RL 219 yX16_fault, .instanceMethod yX16_fault, .selects RX16 yX16_fault yX16_fault, .code yX9_ofCode cX9_ofCode 2 (some .int), .methodLink RL 90 yX9_ofCode, .instanceMethod yX9_ofCode, .selects RX9 yX9_ofCode yX9_ofCode, .codeWith yL_ofCode cL_ofCode 4 (some .int) [(0, 10, 13, 19)], .code yX16_ofCode cX16_ofCode 2 (some .int), .code yX7_isThere cX7_isThere 1 (some .boolean), .methodLink RX9 296 yX7_isThere, .instanceMethod yX7_isThere, .selects RX7 yX7_isThere yX7_isThere, .fieldLink RX16 262 "NestprintModel" "kept" "LNestprintModel$Tree;", .code yX16_codeTold cX16_codeTold 4 (some .int), .methodLink RX16 341 yX16_codeTold, .instanceMethod yX16_codeTold, .selects RX16 yX16_codeTold yX16_codeTold, .methodLink RL 220 yL_ofCode, .static yL_ofCode, .methodLink RL 222 yX16_ofCode, .instanceMethod yX16_ofCode, .selects RX16 yX16_ofCode yX16_ofCode, .code yX7_signsOfPlain cX7_signsOfPlain 1 (some (.object "Nestprint$Row")), .methodLink RX9 305 yX7_signsOfPlain, .instanceMethod yX7_signsOfPlain]
def waC24 : List Cond := [.selects RX7 yX7_signsOfPlain yX7_signsOfPlain, .code yX9_plain cX9_plain 1 (some (.object "java/lang/String")), .code yX16_plain cX16_plain 1 (some (.object "java/lang/String")), .methodLink RL 223 yX9_plain, .instanceMethod yX9_plain, .selects RX9 yX9_plain yX9_plain, .methodLink RL 226 yX16_plain, .instanceMethod yX16_plain, .selects RX16 yX16_plain yX16_plain, .code yX9_needNth cX9_needNth 2 none, .methodLink RX9 239 yX9_needNth, .instanceMethod yX9_needNth, .selects RX9 yX9_needNth yX9_needNth, .code yX9_codeLine cX9_codeLine 2 (some (.object "java/lang/String")), .methodLink RL 93 yX9_codeLine, .instanceMethod yX9_codeLine, .selects RX9 yX9_codeLine yX9_codeLine, .codeWith yL_codeLine cL_codeLine 4 (some .int) [(0, 9, 12, 19)], .code yX16_codeLine cX16_codeLine 2 (some (.object "java/lang/String")), .methodLink RL 227 yL_codeLine, .static yL_codeLine, .methodLink RL 229 yX16_codeLine, .instanceMethod yX16_codeLine, .selects RX16 yX16_codeLine yX16_codeLine, .code yX9_house cX9_house 2 (some .int), .methodLink RL 96 yX9_house, .instanceMethod yX9_house, .selects RX9 yX9_house yX9_house, .codeWith yL_house cL_house 4 (some .int) [(0, 10, 13, 19)], .code yX16_house cX16_house 2 (some .int), .code yX9_stateOf cX9_stateOf 2 (some .int), .methodLink RX9 308 yX9_stateOf, .instanceMethod yX9_stateOf, .selects RX9 yX9_stateOf yX9_stateOf, .methodLink RX16 129 yJx4a65c_iterator_32c93, .methodLink RX16 133 ⟨"java/util/Iterator", "hasNext", "()Z"⟩, .code yX16_houseTold cX16_houseTold 5 (some .int), .methodLink RX16 344 yX16_houseTold, .instanceMethod yX16_houseTold, .selects RX16 yX16_houseTold yX16_houseTold]
def waC25 : List Cond := [.code yX3_weightOfAll cX3_weightOfAll 3 (some .int), .methodLink RX9 420 yX3_weightOfAll, .instanceMethod yX3_weightOfAll, .selects RX3 yX3_weightOfAll yX3_weightOfAll, .methodLink RL 230 yL_house, .static yL_house, .methodLink RL 232 yX16_house, .instanceMethod yX16_house, .selects RX16 yX16_house yX16_house, .code yX9_fits cX9_fits 3 (some .boolean), .methodLink RL 99 yX9_fits, .instanceMethod yX9_fits, .selects RX9 yX9_fits yX9_fits, .codeWith yL_fits cL_fits 5 (some .int) [(0, 18, 21, 30), (0, 18, 25, 19)], .code yX16_fits cX16_fits 3 (some .boolean), .methodLink RL 233 yL_fits, .static yL_fits, .methodLink RL 235 yX16_fits, .instanceMethod yX16_fits, .selects RX16 yX16_fits yX16_fits, .code yX9_would cX9_would 4 (some .int), .methodLink RL 103 yX9_would, .instanceMethod yX9_would, .selects RX9 yX9_would yX9_would, .codeWith yL_would cL_would 6 (some .int) [(0, 13, 16, 30), (0, 13, 20, 19)], .code yX16_would cX16_would 4 (some .int), .methodLink RL 236 yL_would, .static yL_would, .methodLink RL 238 yX16_would, .instanceMethod yX16_would, .selects RX16 yX16_would yX16_would, .code yX9_narrowest cX9_narrowest 3 (some .int), .methodLink RL 106 yX9_narrowest, .instanceMethod yX9_narrowest, .selects RX9 yX9_narrowest yX9_narrowest, .codeWith yL_narrowest cL_narrowest 4 (some .int) [(0, 10, 13, 30)], .code yX16_narrowest cX16_narrowest 3 (some .int), .methodLink RL 239 yL_narrowest, .static yL_narrowest, .methodLink RL 241 yX16_narrowest]
def waC26 : List Cond := [.instanceMethod yX16_narrowest, .selects RX16 yX16_narrowest yX16_narrowest, .code yX9_least cX9_least 3 (some .int), .methodLink RL 109 yX9_least, .instanceMethod yX9_least, .selects RX9 yX9_least yX9_least, .codeWith yL_least cL_least 5 (some .int) [(0, 11, 14, 30), (0, 11, 18, 19), (0, 11, 22, 21)], .code yX16_least_ cX16_least_ 3 (some .int), .methodLink RL 242 yL_least, .static yL_least, .methodLink RL 244 yX16_least_, .instanceMethod yX16_least_, .selects RX16 yX16_least_ yX16_least_, .code yX9_leastLine cX9_leastLine 3 (some (.object "java/lang/String")), .methodLink RL 112 yX9_leastLine, .instanceMethod yX9_leastLine, .selects RX9 yX9_leastLine yX9_leastLine, .codeWith yL_leastLine cL_leastLine 5 (some .int) [(0, 10, 13, 30), (0, 10, 17, 19), (0, 10, 21, 21)], .code yX16_leastLine cX16_leastLine 3 (some (.object "java/lang/String")), .methodLink RL 245 yL_leastLine, .static yL_leastLine, .methodLink RL 247 yX16_leastLine, .instanceMethod yX16_leastLine, .selects RX16 yX16_leastLine yX16_leastLine, .methodLink RX6 41 Lib.Math.max.name, .methodLink RX6 35 yX3_count, .methodLink RX6 57 yX7_isThere, .code yX6_holds cX6_holds 7 (some .boolean), .methodLink RX9 324 yX6_holds, .instanceMethod yX6_holds, .selects RX6 yX6_holds yX6_holds, .code yX9_isSound cX9_isSound 1 (some .boolean), .methodLink RX16 353 Lib.Math.max.name, .code yX16_isWhole cX16_isWhole 10 (some .boolean), .methodLink RX16 365 yX16_isWhole, .instanceMethod yX16_isWhole, .selects RX16 yX16_isWhole yX16_isWhole, .code yX16_isSound cX16_isSound 1 (some .boolean), .methodLink RL 248 yX9_isSound, .instanceMethod yX9_isSound]
def waC27 : List Cond := [.selects RX9 yX9_isSound yX9_isSound, .methodLink RL 252 yX16_isSound, .instanceMethod yX16_isSound, .selects RX16 yX16_isSound yX16_isSound, .constantLong RX9 328 (8287), .constantLong RX9 330 (31), .code yX9_withCode cX9_withCode 6 (some .long), .methodLink RX9 336 yX9_withCode, .instanceMethod yX9_withCode, .selects RX9 yX9_withCode yX9_withCode, .code yX9_digest cX9_digest 5 (some .long), .constantLong RX16 370 (8287), .constantLong RX16 368 (31), .code yX16_add cX16_add 4 (some .long), .methodLink RX16 372 yX16_add, .static yX16_add, .code yX16_digest cX16_digest 7 (some .long), .methodLink RL 253 yX9_digest, .instanceMethod yX9_digest, .selects RX9 yX9_digest yX9_digest, .methodLink RL 257 yX16_digest, .instanceMethod yX16_digest, .selects RX16 yX16_digest yX16_digest, .instantiable RJ6 1, .instantiable RJx00060 6, .instantiable RJx7c733 6, .instantiable RX12 10, .instantiable RX14 3, .instantiable RX15 3]
def waUJ0 : List Cond := wsJ00
def waUJ4 : List Cond := wsJ40
def waUJ6 : List Cond := wsJ60
def waUJx00060 : List Cond := wsJx000600
def waUJx7c733 : List Cond := wsJx7c7330
def waUJx35411 : List Cond := wsJx354110
def waUJx4a65c : List Cond := wsJx4a65c0
def waUX0 : List Cond := wsX00
def waUX1 : List Cond := wsX10
def waUX2 : List Cond := wsX20
def waUX3 : List Cond := wsX30
def waUX4 : List Cond := wsX40
def waUX5 : List Cond := wsX50
def waUX6 : List Cond := wsX60
def waUX7 : List Cond := wsX70
def waUX8 : List Cond := wsX80
def waUX9 : List Cond := wsX90
def waUX10 : List Cond := wsX100
def waUX11 : List Cond := wsX110
def waUX12 : List Cond := wsX120
def waUX13 : List Cond := wsX130
def waUX14 : List Cond := wsX140
def waUX15 : List Cond := wsX150
def waUX16 : List Cond := wsX160
def wavm0 : List Cond := (vx_atS RX9 104 "java/lang/IllegalArgumentException" ["java/lang/RuntimeException", "java/lang/Exception"]).filter goodWord
def wavm1 : List Cond := (vx_atS RX9 348 "java/lang/IndexOutOfBoundsException" ["java/lang/RuntimeException", "java/lang/Exception"]).filter goodWord
def wsALL : List Cond := waC0 ++ (waC1 ++ (waC2 ++ (waC3 ++ (waC4 ++ (waC5 ++ (waC6 ++ (waC7 ++ (waC8 ++ (waC9 ++ (waC10 ++ (waC11 ++ (waC12 ++ (waC13 ++ (waC14 ++ (waC15 ++ (waC16 ++ (waC17 ++ (waC18 ++ (waC19 ++ (waC20 ++ (waC21 ++ (waC22 ++ (waC23 ++ (waC24 ++ (waC25 ++ (waC26 ++ (waC27 ++ (waUJ0 ++ (waUJ4 ++ (waUJ6 ++ (waUJx00060 ++ (waUJx7c733 ++ (waUJx35411 ++ (waUJx4a65c ++ (waUX0 ++ (waUX1 ++ (waUX2 ++ (waUX3 ++ (waUX4 ++ (waUX5 ++ (waUX6 ++ (waUX7 ++ (waUX8 ++ (waUX9 ++ (waUX10 ++ (waUX11 ++ (waUX12 ++ (waUX13 ++ (waUX14 ++ (waUX15 ++ (waUX16 ++ (wavm0 ++ wavm1))))))))))))))))))))))))))))))))))))))))))))))))))))
def wbX4_init : List Cond := .code yX4_init cX4_init 2 none :: wsALL
def wbX3_init : List Cond := .code yX3_init cX3_init 1 none :: wsALL
def wbX1_init : List Cond := .code yX1_init cX1_init 1 none :: wsALL
def wbX0_init : List Cond := .code yX0_init cX0_init 1 none :: wsALL
def wbX3_signs : List Cond := .code yX3_signs cX3_signs 1 (some (.object "Nestprint$Row")) :: wsALL
def wbX8_init : List Cond := .code yX8_init cX8_init 1 none :: wsALL
def wbX5_init : List Cond := .code yX5_init cX5_init 2 none :: wsALL
def wbX2_init : List Cond := .code yX2_init cX2_init 2 none :: wsALL
def wbX6_init : List Cond := .code yX6_init cX6_init 5 none :: wsALL
def wbJ5_init_d00df : List Cond := .code yJ5_init_d00df cJ5_init_d00df 2 none :: wsALL
def wbJ4_init_da8c8 : List Cond := .code yJ4_init_da8c8 cJ4_init_da8c8 1 none :: wsALL
def wbX7_init : List Cond := .code yX7_init cX7_init 1 none :: wsALL
def wbX9_init : List Cond := .code yX9_init cX9_init 1 none :: wsALL
def wbJxa1e45_init_da8c8 : List Cond := .code yJxa1e45_init_da8c8 cJxa1e45_init_da8c8 1 none :: wsALL
def wbJxc12de_init_da8c8 : List Cond := .code yJxc12de_init_da8c8 cJxc12de_init_da8c8 1 none :: wsALL
def wbJx4a65c_init_da8c8 : List Cond := .code yJx4a65c_init_da8c8 cJx4a65c_init_da8c8 1 none :: wsALL
def wbX16_init : List Cond := .code yX16_init cX16_init 1 none :: wsALL
def wbX10_init : List Cond := .code yX10_init cX10_init 1 none :: wsALL
def wbX9_word : List Cond := .code yX9_word cX9_word 4 (some .int) :: wsALL
def wbL_word : List Cond := .codeWith yL_word cL_word 5 (some .int) [(0, 11, 14, 19), (0, 11, 18, 21)] :: wsALL
def wbX16_isIn : List Cond := .code yX16_isIn cX16_isIn 3 (some .boolean) :: wsALL
def wbX16_refuse : List Cond := .code yX16_refuse cX16_refuse 3 (some .boolean) :: wsALL
def wbX16_start : List Cond := .code yX16_start cX16_start 3 (some .boolean) :: wsALL
def wbX16_word : List Cond := .code yX16_word cX16_word 5 (some .int) :: wsALL
def wbX16_thrown : List Cond := .code yX16_thrown cX16_thrown 1 (some .int) :: wsALL
def wbX4_size : List Cond := .code yX4_size cX4_size 1 (some .int) :: wsALL
def wbX3_count : List Cond := .code yX3_count cX3_count 1 (some .int) :: wsALL
def wbX9_needNumber : List Cond := .code yX9_needNumber cX9_needNumber 1 none :: wsALL
def wbX4_add : List Cond := .code yX4_add cX4_add 2 none :: wsALL
def wbX3_addSign : List Cond := .code yX3_addSign cX3_addSign 2 none :: wsALL
def wbX3_addPlace : List Cond := .code yX3_addPlace cX3_addPlace 7 (some .int) :: wsALL
def wbX3_addText : List Cond := .code yX3_addText cX3_addText 2 (some .int) :: wsALL
def wbX3_number : List Cond := .code yX3_number cX3_number 2 (some .int) :: wsALL
def wbX9_numbered : List Cond := .code yX9_numbered cX9_numbered 2 (some .int) :: wsALL
def wbJx4a65c_size_8abf5 : List Cond := .code yJx4a65c_size_8abf5 cJx4a65c_size_8abf5 1 (some .int) :: wsALL
def wbX16_isFull : List Cond := .code yX16_isFull cX16_isFull 1 (some .boolean) :: wsALL
def wbJ5_ensureCapacityInternal_d00df : List Cond := .code yJ5_ensureCapacityInternal_d00df cJ5_ensureCapacityInternal_d00df 3 none :: wsALL
def wbJ5_isLatin1_aae02 : List Cond := .code yJ5_isLatin1_aae02 cJ5_isLatin1_aae02 1 (some .boolean) :: wsALL
def wbJ1_canEncode_fc78d : List Cond := .code yJ1_canEncode_fc78d cJ1_canEncode_fc78d 1 (some .boolean) :: wsALL
def wbJ5_append_3fe6f : List Cond := .code yJ5_append_3fe6f cJ5_append_3fe6f 2 (some (.object "java/lang/AbstractStringBuilder")) :: wsALL
def wbJ4_append_cf468 : List Cond := .code yJ4_append_cf468 cJ4_append_cf468 2 (some (.object "java/lang/StringBuilder")) :: wsALL
def wbJ5_getValue_6d5f1 : List Cond := .code yJ5_getValue_6d5f1 cJ5_getValue_6d5f1 1 (some (.array .byte)) :: wsALL
def wbJ5_length_8abf5 : List Cond := .code yJ5_length_8abf5 cJ5_length_8abf5 1 (some .int) :: wsALL
def wbJ4_length_8abf5 : List Cond := .code yJ4_length_8abf5 cJ4_length_8abf5 1 (some .int) :: wsALL
def wbJ7_checkLength_df160 : List Cond := .code yJ7_checkLength_df160 cJ7_checkLength_df160 2 none :: wsALL
def wbJ7_copyOfRangeByte_39247 : List Cond := .code yJ7_copyOfRangeByte_39247 cJ7_copyOfRangeByte_39247 5 (some (.array .byte)) :: wsALL
def wbJ7_copyOfRange_39247 : List Cond := .code yJ7_copyOfRange_39247 cJ7_copyOfRange_39247 3 (some (.array .byte)) :: wsALL
def wbJ0_init_db425 : List Cond := .code yJ0_init_db425 cJ0_init_db425 5 none :: wsALL
def wbJ0_init_81219 : List Cond := .code yJ0_init_81219 cJ0_init_81219 2 none :: wsALL
def wbJ4_toString_0e30d : List Cond := .code yJ4_toString_0e30d cJ4_toString_0e30d 1 (some (.object "java/lang/String")) :: wsALL
def wbX11_init : List Cond := .code yX11_init cX11_init 4 none :: wsALL
def wbJx4a65c_grow_92f84 : List Cond := .code yJx4a65c_grow_92f84 cJx4a65c_grow_92f84 4 (some (.array (.object "java/lang/Object"))) :: wsALL
def wbJx4a65c_grow_d5877 : List Cond := .code yJx4a65c_grow_d5877 cJx4a65c_grow_d5877 1 (some (.array (.object "java/lang/Object"))) :: wsALL
def wbJx4a65c_add_72be8 : List Cond := .code yJx4a65c_add_72be8 cJx4a65c_add_72be8 4 none :: wsALL
def wbJx4a65c_add_9ea2d : List Cond := .code yJx4a65c_add_9ea2d cJx4a65c_add_9ea2d 2 (some .boolean) :: wsALL
def wbX16_made : List Cond := .code yX16_made cX16_made 2 (some .int) :: wsALL
def wbX9_mark : List Cond := .code yX9_mark cX9_mark 2 (some .int) :: wsALL
def wbL_mark : List Cond := .codeWith yL_mark cL_mark 4 (some .int) [(0, 10, 13, 19), (0, 10, 16, 21)] :: wsALL
def wbX16_mark : List Cond := .code yX16_mark cX16_mark 2 (some .int) :: wsALL
def wbX3_addMark : List Cond := .code yX3_addMark cX3_addMark 2 (some .int) :: wsALL
def wbX3_has : List Cond := .code yX3_has cX3_has 2 (some .boolean) :: wsALL
def wbX9_needNode : List Cond := .code yX9_needNode cX9_needNode 2 none :: wsALL
def wbX9_join : List Cond := .code yX9_join cX9_join 3 (some .int) :: wsALL
def wbL_join : List Cond := .codeWith yL_join cL_join 5 (some .int) [(0, 11, 14, 30), (0, 11, 18, 21)] :: wsALL
def wbX16_isNoNode : List Cond := .code yX16_isNoNode cX16_isNoNode 2 (some .boolean) :: wsALL
def wbX16_join : List Cond := .code yX16_join cX16_join 3 (some .int) :: wsALL
def wbX9_nest : List Cond := .code yX9_nest cX9_nest 3 (some .int) :: wsALL
def wbL_nest : List Cond := .codeWith yL_nest cL_nest 5 (some .int) [(0, 11, 14, 30), (0, 11, 18, 19), (0, 11, 22, 21)] :: wsALL
def wbX16_nest : List Cond := .code yX16_nest cX16_nest 3 (some .int) :: wsALL
def wbX9_align : List Cond := .code yX9_align cX9_align 2 (some .int) :: wsALL
def wbL_align : List Cond := .codeWith yL_align cL_align 4 (some .int) [(0, 10, 13, 30), (0, 10, 16, 21)] :: wsALL
def wbX16_align : List Cond := .code yX16_align cX16_align 2 (some .int) :: wsALL
def wbX9_group : List Cond := .code yX9_group cX9_group 2 (some .int) :: wsALL
def wbL_group : List Cond := .codeWith yL_group cL_group 4 (some .int) [(0, 10, 13, 30), (0, 10, 16, 21)] :: wsALL
def wbX16_group : List Cond := .code yX16_group cX16_group 2 (some .int) :: wsALL
def wbX9_fill : List Cond := .code yX9_fill cX9_fill 7 (some .int) :: wsALL
def wbL_fill : List Cond := .codeWith yL_fill cL_fill 5 (some .int) [(0, 11, 14, 30), (0, 11, 18, 19), (0, 11, 22, 21)] :: wsALL
def wbX16_fill : List Cond := .code yX16_fill cX16_fill 5 (some .int) :: wsALL
def wbX4_clear : List Cond := .code yX4_clear cX4_clear 1 none :: wsALL
def wbX3_clear : List Cond := .code yX3_clear cX3_clear 1 none :: wsALL
def wbX9_forget : List Cond := .code yX9_forget cX9_forget 2 (some .int) :: wsALL
def wbJx4a65c_isEmpty_aae02 : List Cond := .code yJx4a65c_isEmpty_aae02 cJx4a65c_isEmpty_aae02 1 (some .boolean) :: wsALL
def wbX16_forget : List Cond := .code yX16_forget cX16_forget 2 (some .int) :: wsALL
def wbX9_needWidth : List Cond := .code yX9_needWidth cX9_needWidth 2 none :: wsALL
def wbX9_width : List Cond := .code yX9_width cX9_width 3 (some .int) :: wsALL
def wbL_width : List Cond := .codeWith yL_width cL_width 4 (some .int) [(0, 10, 13, 19)] :: wsALL
def wbX16_width : List Cond := .code yX16_width cX16_width 3 (some .int) :: wsALL
def wbX9_ribbon : List Cond := .code yX9_ribbon cX9_ribbon 3 (some .int) :: wsALL
def wbL_ribbon : List Cond := .codeWith yL_ribbon cL_ribbon 4 (some .int) [(0, 10, 13, 19)] :: wsALL
def wbX16_ribbon : List Cond := .code yX16_ribbon cX16_ribbon 3 (some .int) :: wsALL
def wbX4_get : List Cond := .code yX4_get cX4_get 2 (some .int) :: wsALL
def wbX9_needCodes : List Cond := .code yX9_needCodes cX9_needCodes 3 none :: wsALL
def wbX9_say : List Cond := .code yX9_say cX9_say 8 (some .int) :: wsALL
def wbL_say : List Cond := .codeWith yL_say cL_say 9 (some .int) [(0, 19, 22, 19), (0, 19, 26, 21)] :: wsALL
def wbX16_say : List Cond := .code yX16_say cX16_say 14 (some .int) :: wsALL
def wbX9_lengthAfter : List Cond := .code yX9_lengthAfter cX9_lengthAfter 2 (some .int) :: wsALL
def wbX4_cut : List Cond := .code yX4_cut cX4_cut 2 none :: wsALL
def wbJ0_coder_7d493 : List Cond := .code yJ0_coder_7d493 cJ0_coder_7d493 1 (some .byte) :: wsALL
def wbJ0_length_8abf5 : List Cond := .code yJ0_length_8abf5 cJ0_length_8abf5 1 (some .int) :: wsALL
def wbJ0_isLatin1_aae02 : List Cond := .code yJ0_isLatin1_aae02 cJ0_isLatin1_aae02 1 (some .boolean) :: wsALL
def wbJ3_checkIndex_8e157 : List Cond := .code yJ3_checkIndex_8e157 cJ3_checkIndex_8e157 3 (some .int) :: wsALL
def wbJ0_checkIndex_df160 : List Cond := .code yJ0_checkIndex_df160 cJ0_checkIndex_df160 2 none :: wsALL
def wbJ1_charAt_3b067 : List Cond := .code yJ1_charAt_3b067 cJ1_charAt_3b067 2 (some .char) :: wsALL
def wbJ0_charAt_5068e : List Cond := .code yJ0_charAt_5068e cJ0_charAt_5068e 2 (some .char) :: wsALL
def wbX9_type : List Cond := .code yX9_type cX9_type 2 none :: wsALL
def wbX16_said : List Cond := .code yX16_said cX16_said 2 (some (.object "java/lang/String")) :: wsALL
def wbJ5_inflateIfNeededFor_a7421 : List Cond := .code yJ5_inflateIfNeededFor_a7421 cJ5_inflateIfNeededFor_a7421 2 none :: wsALL
def wbJ0_getBytes_840e7 : List Cond := .code yJ0_getBytes_840e7 cJ0_getBytes_840e7 4 none :: wsALL
def wbJ5_putStringAt_47b60 : List Cond := .code yJ5_putStringAt_47b60 cJ5_putStringAt_47b60 3 none :: wsALL
def wbJ5_append_cf1ce : List Cond := .code yJ5_append_cf1ce cJ5_append_cf1ce 3 (some (.object "java/lang/AbstractStringBuilder")) :: wsALL
def wbJ4_append_15ec4 : List Cond := .code yJ4_append_15ec4 cJ4_append_15ec4 2 (some (.object "java/lang/StringBuilder")) :: wsALL
def wbJ0_isEmpty_aae02 : List Cond := .code yJ0_isEmpty_aae02 cJ0_isEmpty_aae02 1 (some .boolean) :: wsALL
def wbJ3_checkFromToIndex_8c36e : List Cond := .code yJ3_checkFromToIndex_8c36e cJ3_checkFromToIndex_8c36e 4 (some .int) :: wsALL
def wbJ0_checkBoundsBeginEnd_23922 : List Cond := .code yJ0_checkBoundsBeginEnd_23922 cJ0_checkBoundsBeginEnd_23922 3 none :: wsALL
def wbJ1_newString_b4f7a : List Cond := .code yJ1_newString_b4f7a cJ1_newString_b4f7a 3 (some (.object "java/lang/String")) :: wsALL
def wbJ0_substring_37a41 : List Cond := .code yJ0_substring_37a41 cJ0_substring_37a41 5 (some (.object "java/lang/String")) :: wsALL
def wbJ0_init_031fb : List Cond := .code yJ0_init_031fb cJ0_init_031fb 3 none :: wsALL
def wbX1_faultOf : List Cond := .code yX1_faultOf cX1_faultOf 4 (some .int) :: wsALL
def wbX1_gathered : List Cond := .code yX1_gathered cX1_gathered 5 (some .int) :: wsALL
def wbX1_build : List Cond := .code yX1_build cX1_build 5 (some .int) :: wsALL
def wbX9_read : List Cond := .code yX9_read cX9_read 1 (some .int) :: wsALL
def wbL_read : List Cond := .codeWith yL_read cL_read 3 (some .int) [(0, 9, 12, 21)] :: wsALL
def wbX16_one : List Cond := .code yX16_one cX16_one 1 (some .int) :: wsALL
def wbX16_documented : List Cond := .code yX16_documented cX16_documented 6 (some .int) :: wsALL
def wbX16_isDocument : List Cond := .code yX16_isDocument cX16_isDocument 1 (some .boolean) :: wsALL
def wbX13_init : List Cond := .code yX13_init cX13_init 2 none :: wsALL
def wbX13_document : List Cond := .code yX13_document cX13_document 5 (some (.object "NestprintModel$Node")) :: wsALL
def wbJx35411_init_45d68 : List Cond := .code yJx35411_init_45d68 cJx35411_init_45d68 2 none :: wsALL
def wbJx4a65c_iterator_32c93 : List Cond := .code yJx4a65c_iterator_32c93 cJx4a65c_iterator_32c93 1 (some (.object "java/util/Iterator")) :: wsALL
def wbJx35411_hasNext_aae02 : List Cond := .code yJx35411_hasNext_aae02 cJx35411_hasNext_aae02 1 (some .boolean) :: wsALL
def wbX11_weight : List Cond := .code yX11_weight cX11_weight 4 (some .int) :: wsALL
def wbX11_depth : List Cond := .code yX11_depth cX11_depth 4 (some .int) :: wsALL
def wbX16_isGreat : List Cond := .code yX16_isGreat cX16_isGreat 1 (some .boolean) :: wsALL
def wbX16_read : List Cond := .code yX16_read cX16_read 2 (some .int) :: wsALL
def wbX4_copy : List Cond := .code yX4_copy cX4_copy 3 none :: wsALL
def wbX7_start : List Cond := .code yX7_start cX7_start 2 none :: wsALL
def wbX0_startSum : List Cond := .code yX0_startSum cX0_startSum 1 none :: wsALL
def wbX0_begin : List Cond := .code yX0_begin cX0_begin 1 none :: wsALL
def wbX0_isBehindFactor : List Cond := .code yX0_isBehindFactor cX0_isBehindFactor 1 (some .boolean) :: wsALL
def wbX0_faultOf : List Cond := .code yX0_faultOf cX0_faultOf 5 (some .int) :: wsALL
def wbX9_code : List Cond := .code yX9_code cX9_code 2 (some .int) :: wsALL
def wbX16_coded : List Cond := .code yX16_coded cX16_coded 8 (some .int) :: wsALL
def wbX16_isCode : List Cond := .code yX16_isCode cX16_isCode 1 (some .boolean) :: wsALL
def wbX16_code : List Cond := .code yX16_code cX16_code 1 (some .int) :: wsALL
def wbX9_blank : List Cond := .code yX9_blank cX9_blank 1 (some .int) :: wsALL
def wbX16_blank : List Cond := .code yX16_blank cX16_blank 1 (some .int) :: wsALL
def wbX9_knock : List Cond := .code yX9_knock cX9_knock 1 (some .int) :: wsALL
def wbX16_knock : List Cond := .code yX16_knock cX16_knock 1 (some .int) :: wsALL
def wbX9_ofNode : List Cond := .code yX9_ofNode cX9_ofNode 3 (some .int) :: wsALL
def wbL_ofNode : List Cond := .codeWith yL_ofNode cL_ofNode 5 (some .int) [(0, 11, 14, 30), (0, 11, 18, 19)] :: wsALL
def wbX16_ofNode : List Cond := .code yX16_ofNode cX16_ofNode 3 (some .int) :: wsALL
def wbX9_flat : List Cond := .code yX9_flat cX9_flat 2 (some (.object "java/lang/String")) :: wsALL
def wbL_flat : List Cond := .codeWith yL_flat cL_flat 4 (some .int) [(0, 9, 12, 30)] :: wsALL
def wbX16_flat : List Cond := .code yX16_flat cX16_flat 2 (some (.object "java/lang/String")) :: wsALL
def wbX9_line : List Cond := .code yX9_line cX9_line 3 (some (.object "java/lang/String")) :: wsALL
def wbL_line : List Cond := .codeWith yL_line cL_line 5 (some .int) [(0, 10, 13, 30), (0, 10, 17, 19)] :: wsALL
def wbX16_line : List Cond := .code yX16_line cX16_line 3 (some (.object "java/lang/String")) :: wsALL
def wbX9_measure : List Cond := .code yX9_measure cX9_measure 3 (some .int) :: wsALL
def wbL_measure : List Cond := .codeWith yL_measure cL_measure 5 (some .int) [(0, 11, 14, 30), (0, 11, 18, 19)] :: wsALL
def wbX16_measure : List Cond := .code yX16_measure cX16_measure 3 (some .int) :: wsALL
def wbX9_at : List Cond := .code yX9_at cX9_at 4 (some .int) :: wsALL
def wbL_at : List Cond := .codeWith yL_at cL_at 6 (some .int) [(0, 13, 16, 30)] :: wsALL
def wbX16_at : List Cond := .code yX16_at cX16_at 6 (some .int) :: wsALL
def wbX9_where : List Cond := .code yX9_where cX9_where 5 (some .int) :: wsALL
def wbL_where : List Cond := .codeWith yL_where cL_where 6 (some .int) [(0, 13, 16, 30), (0, 13, 20, 19)] :: wsALL
def wbX16_where : List Cond := .code yX16_where cX16_where 5 (some .int) :: wsALL
def wbX9_isOne : List Cond := .code yX9_isOne cX9_isOne 4 (some .int) :: wsALL
def wbL_isOne : List Cond := .codeWith yL_isOne cL_isOne 5 (some .int) [(0, 11, 14, 30), (0, 11, 18, 19)] :: wsALL
def wbX16_isOne : List Cond := .code yX16_isOne cX16_isOne 4 (some .int) :: wsALL
def wbX9_differ : List Cond := .code yX9_differ cX9_differ 4 (some .int) :: wsALL
def wbL_differ : List Cond := .codeWith yL_differ cL_differ 6 (some .int) [(0, 13, 16, 30), (0, 13, 20, 21)] :: wsALL
def wbX16_differ : List Cond := .code yX16_differ cX16_differ 4 (some .int) :: wsALL
def wbJ5_setLength_d00df : List Cond := .code yJ5_setLength_d00df cJ5_setLength_d00df 2 none :: wsALL
def wbJ4_setLength_d00df : List Cond := .code yJ4_setLength_d00df cJ4_setLength_d00df 2 none :: wsALL
def wbX9_textOf : List Cond := .code yX9_textOf cX9_textOf 3 (some (.object "java/lang/String")) :: wsALL
def wbX9_typed : List Cond := .code yX9_typed cX9_typed 1 (some (.object "java/lang/String")) :: wsALL
def wbX16_typed : List Cond := .code yX16_typed cX16_typed 1 (some (.object "java/lang/String")) :: wsALL
def wbJ1_equals_b5fdf : List Cond := .code yJ1_equals_b5fdf cJ1_equals_b5fdf 3 (some .boolean) :: wsALL
def wbJ0_equals_9ea2d : List Cond := .code yJ0_equals_9ea2d cJ0_equals_9ea2d 3 (some .boolean) :: wsALL
def wbX9_fault : List Cond := .code yX9_fault cX9_fault 2 (some .int) :: wsALL
def wbX16_faulty : List Cond := .code yX16_faulty cX16_faulty 3 (some .int) :: wsALL
def wbX16_fault : List Cond := .code yX16_fault cX16_fault 2 (some .int) :: wsALL
def wbX9_ofCode : List Cond := .code yX9_ofCode cX9_ofCode 2 (some .int) :: wsALL
def wbL_ofCode : List Cond := .codeWith yL_ofCode cL_ofCode 4 (some .int) [(0, 10, 13, 19)] :: wsALL
def wbX16_ofCode : List Cond := .code yX16_ofCode cX16_ofCode 2 (some .int) :: wsALL
def wbX7_isThere : List Cond := .code yX7_isThere cX7_isThere 1 (some .boolean) :: wsALL
def wbX16_codeTold : List Cond := .code yX16_codeTold cX16_codeTold 4 (some .int) :: wsALL
def wbX7_signsOfPlain : List Cond := .code yX7_signsOfPlain cX7_signsOfPlain 1 (some (.object "Nestprint$Row")) :: wsALL
def wbX9_plain : List Cond := .code yX9_plain cX9_plain 1 (some (.object "java/lang/String")) :: wsALL
def wbX16_plain : List Cond := .code yX16_plain cX16_plain 1 (some (.object "java/lang/String")) :: wsALL
def wbX9_needNth : List Cond := .code yX9_needNth cX9_needNth 2 none :: wsALL
def wbX9_codeLine : List Cond := .code yX9_codeLine cX9_codeLine 2 (some (.object "java/lang/String")) :: wsALL
def wbL_codeLine : List Cond := .codeWith yL_codeLine cL_codeLine 4 (some .int) [(0, 9, 12, 19)] :: wsALL
def wbX16_codeLine : List Cond := .code yX16_codeLine cX16_codeLine 2 (some (.object "java/lang/String")) :: wsALL
def wbX9_house : List Cond := .code yX9_house cX9_house 2 (some .int) :: wsALL
def wbL_house : List Cond := .codeWith yL_house cL_house 4 (some .int) [(0, 10, 13, 19)] :: wsALL
def wbX16_house : List Cond := .code yX16_house cX16_house 2 (some .int) :: wsALL
def wbX9_stateOf : List Cond := .code yX9_stateOf cX9_stateOf 2 (some .int) :: wsALL
def wbX16_houseTold : List Cond := .code yX16_houseTold cX16_houseTold 5 (some .int) :: wsALL
def wbX3_weightOfAll : List Cond := .code yX3_weightOfAll cX3_weightOfAll 3 (some .int) :: wsALL
def wbX9_fits : List Cond := .code yX9_fits cX9_fits 3 (some .boolean) :: wsALL
def wbL_fits : List Cond := .codeWith yL_fits cL_fits 5 (some .int) [(0, 18, 21, 30), (0, 18, 25, 19)] :: wsALL
def wbX16_fits : List Cond := .code yX16_fits cX16_fits 3 (some .boolean) :: wsALL
def wbX9_would : List Cond := .code yX9_would cX9_would 4 (some .int) :: wsALL
def wbL_would : List Cond := .codeWith yL_would cL_would 6 (some .int) [(0, 13, 16, 30), (0, 13, 20, 19)] :: wsALL
def wbX16_would : List Cond := .code yX16_would cX16_would 4 (some .int) :: wsALL
def wbX9_narrowest : List Cond := .code yX9_narrowest cX9_narrowest 3 (some .int) :: wsALL
def wbL_narrowest : List Cond := .codeWith yL_narrowest cL_narrowest 4 (some .int) [(0, 10, 13, 30)] :: wsALL
def wbX16_narrowest : List Cond := .code yX16_narrowest cX16_narrowest 3 (some .int) :: wsALL
def wbX9_least : List Cond := .code yX9_least cX9_least 3 (some .int) :: wsALL
def wbL_least : List Cond := .codeWith yL_least cL_least 5 (some .int) [(0, 11, 14, 30), (0, 11, 18, 19), (0, 11, 22, 21)] :: wsALL
def wbX16_least_ : List Cond := .code yX16_least_ cX16_least_ 3 (some .int) :: wsALL
def wbX9_leastLine : List Cond := .code yX9_leastLine cX9_leastLine 3 (some (.object "java/lang/String")) :: wsALL
def wbL_leastLine : List Cond := .codeWith yL_leastLine cL_leastLine 5 (some .int) [(0, 10, 13, 30), (0, 10, 17, 19), (0, 10, 21, 21)] :: wsALL
def wbX16_leastLine : List Cond := .code yX16_leastLine cX16_leastLine 3 (some (.object "java/lang/String")) :: wsALL
def wbX6_holds : List Cond := .code yX6_holds cX6_holds 7 (some .boolean) :: wsALL
def wbX9_isSound : List Cond := .code yX9_isSound cX9_isSound 1 (some .boolean) :: wsALL
def wbX16_isWhole : List Cond := .code yX16_isWhole cX16_isWhole 10 (some .boolean) :: wsALL
def wbX16_isSound : List Cond := .code yX16_isSound cX16_isSound 1 (some .boolean) :: wsALL
def wbX9_withCode : List Cond := .code yX9_withCode cX9_withCode 6 (some .long) :: wsALL
def wbX9_digest : List Cond := .code yX9_digest cX9_digest 5 (some .long) :: wsALL
def wbX16_add : List Cond := .code yX16_add cX16_add 4 (some .long) :: wsALL
def wbX16_digest : List Cond := .code yX16_digest cX16_digest 7 (some .long) :: wsALL

theorem dX0_init_0 : decode cX0_init 0 = .ok (.aload_n 0, 1) := by decide +kernel
theorem dX0_init_9 : decode cX0_init 9 = .ok (.iconst 4, 1) := by decide +kernel
theorem dX0_init_20 : decode cX0_init 20 = .ok (.dup, 1) := by decide +kernel
theorem dX0_init_29 : decode cX0_init 29 = .ok (.new 9, 3) := by decide +kernel
theorem dX0_init_40 : decode cX0_init 40 = .ok (.aload_n 0, 1) := by decide +kernel
theorem dX0_init_49 : decode cX0_init 49 = .ok (.putfield 26, 3) := by decide +kernel
theorem dX0_init_58 : decode cX0_init 58 = .ok (.invokespecial 11, 3) := by decide +kernel
theorem dX0_init_69 : decode cX0_init 69 = .ok (.iconst 4, 1) := by decide +kernel
theorem dX0_init_80 : decode cX0_init 80 = .ok (.dup, 1) := by decide +kernel
theorem dX0_init_90 : decode cX0_init 90 = .ok (.iconst 0, 1) := by decide +kernel
theorem dX0_init_99 : decode cX0_init 99 = .ok (.aload_n 0, 1) := by decide +kernel
theorem dX0_init_106 : decode cX0_init 106 = .ok (.putfield 48, 3) := by decide +kernel
theorem dX0_faultOf_5 : decode cX0_faultOf 5 = .ok (.aload_n 0, 1) := by decide +kernel
theorem dX0_faultOf_12 : decode cX0_faultOf 12 = .ok (.aload_n 1, 1) := by decide +kernel
theorem dX0_faultOf_106 : decode cX0_faultOf 106 = .ok (.invokevirtual 60, 3) := by decide +kernel
theorem dX0_faultOf_119 : decode cX0_faultOf 119 = .ok (.aload_n 1, 1) := by decide +kernel
theorem dX0_begin_4 : decode cX0_begin 4 = .ok (.invokevirtual 100, 3) := by decide +kernel
theorem dX0_begin_15 : decode cX0_begin 15 = .ok (.getfield 23, 3) := by decide +kernel
theorem dX0_begin_28 : decode cX0_begin 28 = .ok (.aload_n 0, 1) := by decide +kernel
theorem dX0_begin_39 : decode cX0_begin 39 = .ok (.invokevirtual 100, 3) := by decide +kernel
theorem dX0_begin_50 : decode cX0_begin 50 = .ok (.iconst 0, 1) := by decide +kernel
theorem dX0_startSum_0 : decode cX0_startSum 0 = .ok (.aload_n 0, 1) := by decide +kernel
theorem dX0_startSum_11 : decode cX0_startSum 11 = .ok (.aload_n 0, 1) := by decide +kernel
theorem dX0_startSum_22 : decode cX0_startSum 22 = .ok (.return_, 1) := by decide +kernel
theorem dX0_isBehindFactor_8 : decode cX0_isBehindFactor 8 = .ok (.aload_n 0, 1) := by decide +kernel
theorem dX0_isBehindFactor_21 : decode cX0_isBehindFactor 21 = .ok (.ireturn, 1) := by decide +kernel
theorem dX1_init_8 : decode cX1_init 8 = .ok (.dup, 1) := by decide +kernel
theorem dX1_init_17 : decode cX1_init 17 = .ok (.new 9, 3) := by decide +kernel
theorem dX1_init_28 : decode cX1_init 28 = .ok (.aload_n 0, 1) := by decide +kernel
theorem dX1_init_38 : decode cX1_init 38 = .ok (.putfield 23, 3) := by decide +kernel
theorem dX1_faultOf_7 : decode cX1_faultOf 7 = .ok (.iconst 0, 1) := by decide +kernel
theorem dX1_faultOf_14 : decode cX1_faultOf 14 = .ok (.if_icmp .ge 101, 3) := by decide +kernel
theorem dX1_faultOf_125 : decode cX1_faultOf 125 = .ok (.iconst (-1), 1) := by decide +kernel
theorem dX1_build_4 : decode cX1_build 4 = .ok (.invokevirtual 38, 3) := by decide +kernel
theorem dX1_build_15 : decode cX1_build 15 = .ok (.istore_n 3, 1) := by decide +kernel
theorem dX1_build_22 : decode cX1_build 22 = .ok (.invokevirtual 41, 3) := by decide +kernel
theorem dX1_build_104 : decode cX1_build 104 = .ok (.invokevirtual 79, 3) := by decide +kernel
theorem dX1_gathered_7 : decode cX1_gathered 7 = .ok (.iload_n 1, 1) := by decide +kernel
theorem dX1_gathered_14 : decode cX1_gathered 14 = .ok (.aload_n 2, 1) := by decide +kernel
theorem dX2_init_1 : decode cX2_init 1 = .ok (.invokespecial 3, 3) := by decide +kernel
theorem dX2_init_12 : decode cX2_init 12 = .ok (.putfield 12, 3) := by decide +kernel
theorem dX2_init_23 : decode cX2_init 23 = .ok (.invokespecial 20, 3) := by decide +kernel
theorem dX2_init_34 : decode cX2_init 34 = .ok (.sipush 2500, 3) := by decide +kernel
theorem dX2_init_47 : decode cX2_init 47 = .ok (.dup, 1) := by decide +kernel
theorem dX2_init_57 : decode cX2_init 57 = .ok (.new 18, 3) := by decide +kernel
theorem dX2_init_69 : decode cX2_init 69 = .ok (.aload_n 0, 1) := by decide +kernel
theorem dX2_init_79 : decode cX2_init 79 = .ok (.putfield 36, 3) := by decide +kernel
theorem dX2_init_89 : decode cX2_init 89 = .ok (.invokespecial 20, 3) := by decide +kernel
theorem dX2_init_100 : decode cX2_init 100 = .ok (.sipush 6000, 3) := by decide +kernel
theorem dX2_init_111 : decode cX2_init 111 = .ok (.putfield 45, 3) := by decide +kernel
theorem dX2_init_120 : decode cX2_init 120 = .ok (.iconst 0, 1) := by decide +kernel
theorem dX2_init_129 : decode cX2_init 129 = .ok (.aload_n 0, 1) := by decide +kernel
theorem dX2_init_136 : decode cX2_init 136 = .ok (.putfield 61, 3) := by decide +kernel
theorem dX2_init_145 : decode cX2_init 145 = .ok (.iconst 0, 1) := by decide +kernel
theorem dX2_init_154 : decode cX2_init 154 = .ok (.aload_n 0, 1) := by decide +kernel
theorem dX2_init_163 : decode cX2_init 163 = .ok (.putfield 78, 3) := by decide +kernel
theorem dX3_init_5 : decode cX3_init 5 = .ok (.new 9, 3) := by decide +kernel
theorem dX3_init_17 : decode cX3_init 17 = .ok (.aload_n 0, 1) := by decide +kernel
theorem dX3_init_28 : decode cX3_init 28 = .ok (.putfield 20, 3) := by decide +kernel
theorem dX3_init_39 : decode cX3_init 39 = .ok (.invokespecial 11, 3) := by decide +kernel
theorem dX3_init_50 : decode cX3_init 50 = .ok (.sipush 4960, 3) := by decide +kernel
theorem dX3_init_63 : decode cX3_init 63 = .ok (.dup, 1) := by decide +kernel
theorem dX3_init_74 : decode cX3_init 74 = .ok (.new 9, 3) := by decide +kernel
theorem dX3_init_87 : decode cX3_init 87 = .ok (.aload_n 0, 1) := by decide +kernel
theorem dX3_init_98 : decode cX3_init 98 = .ok (.putfield 35, 3) := by decide +kernel
theorem dX3_init_109 : decode cX3_init 109 = .ok (.invokespecial 11, 3) := by decide +kernel
theorem dX3_init_120 : decode cX3_init 120 = .ok (.sipush 4960, 3) := by decide +kernel
theorem dX3_count_1 : decode cX3_count 1 = .ok (.getfield 14, 3) := by decide +kernel
theorem dX3_has_4 : decode cX3_has 4 = .ok (.iload_n 1, 1) := by decide +kernel
theorem dX3_has_19 : decode cX3_has 19 = .ok (.iconst 0, 1) := by decide +kernel
theorem dX3_weightOfAll_0 : decode cX3_weightOfAll 0 = .ok (.iconst 0, 1) := by decide +kernel
theorem dX3_weightOfAll_5 : decode cX3_weightOfAll 5 = .ok (.aload_n 0, 1) := by decide +kernel
theorem dX3_weightOfAll_30 : decode cX3_weightOfAll 30 = .ok (.ireturn, 1) := by decide +kernel
theorem dX3_clear_8 : decode cX3_clear 8 = .ok (.getfield 20, 3) := by decide +kernel
theorem dX3_clear_21 : decode cX3_clear 21 = .ok (.aload_n 0, 1) := by decide +kernel
theorem dX3_clear_32 : decode cX3_clear 32 = .ok (.invokevirtual 55, 3) := by decide +kernel
theorem dX3_clear_43 : decode cX3_clear 43 = .ok (.getfield 35, 3) := by decide +kernel
theorem dX3_clear_56 : decode cX3_clear 56 = .ok (.aload_n 0, 1) := by decide +kernel
theorem dX3_number_1 : decode cX3_number 1 = .ok (.getfield 14, 3) := by decide +kernel
theorem dX3_number_12 : decode cX3_number 12 = .ok (.invokevirtual 44, 3) := by decide +kernel
theorem dX3_addSign_1 : decode cX3_addSign 1 = .ok (.getfield 41, 3) := by decide +kernel
theorem dX3_addText_1 : decode cX3_addText 1 = .ok (.iconst 0, 1) := by decide +kernel
theorem dX3_addText_10 : decode cX3_addText 10 = .ok (.isub, 1) := by decide +kernel
theorem dX3_addText_15 : decode cX3_addText 15 = .ok (.invokevirtual 61, 3) := by decide +kernel
theorem dX3_addMark_3 : decode cX3_addMark 3 = .ok (.iconst 0, 1) := by decide +kernel
theorem dX3_addMark_10 : decode cX3_addMark 10 = .ok (.ireturn, 1) := by decide +kernel
theorem dX3_addPlace_8 : decode cX3_addPlace 8 = .ok (.aload_n 0, 1) := by decide +kernel
theorem dX3_addPlace_17 : decode cX3_addPlace 17 = .ok (.getfield 26, 3) := by decide +kernel
theorem dX3_addPlace_28 : decode cX3_addPlace 28 = .ok (.iload 4, 2) := by decide +kernel
theorem dX3_addPlace_39 : decode cX3_addPlace 39 = .ok (.invokevirtual 58, 3) := by decide +kernel
theorem dX3_addPlace_51 : decode cX3_addPlace 51 = .ok (.aload_n 0, 1) := by decide +kernel
theorem dX3_addPlace_60 : decode cX3_addPlace 60 = .ok (.ireturn, 1) := by decide +kernel
theorem dX4_init_6 : decode cX4_init 6 = .ok (.putfield 7, 3) := by decide +kernel
theorem dX4_init_15 : decode cX4_init 15 = .ok (.goto 4, 3) := by decide +kernel
theorem dX4_size_1 : decode cX4_size 1 = .ok (.getfield 7, 3) := by decide +kernel
theorem dX4_get_5 : decode cX4_get 5 = .ok (.aload_n 0, 1) := by decide +kernel
theorem dX4_get_14 : decode cX4_get 14 = .ok (.getfield 13, 3) := by decide +kernel
theorem dX4_get_25 : decode cX4_get 25 = .ok (.iload_n 1, 1) := by decide +kernel
theorem dX4_add_1 : decode cX4_add 1 = .ok (.getfield 7, 3) := by decide +kernel
theorem dX4_add_12 : decode cX4_add 12 = .ok (.getfield 13, 3) := by decide +kernel
theorem dX4_add_23 : decode cX4_add 23 = .ok (.aload_n 0, 1) := by decide +kernel
theorem dX4_add_30 : decode cX4_add 30 = .ok (.dup, 1) := by decide +kernel
theorem dX4_add_39 : decode cX4_add 39 = .ok (.return_, 1) := by decide +kernel
theorem dX4_cut_6 : decode cX4_cut 6 = .ok (.getfield 7, 3) := by decide +kernel
theorem dX4_cut_17 : decode cX4_cut 17 = .ok (.return_, 1) := by decide +kernel
theorem dX4_copy_0 : decode cX4_copy 0 = .ok (.aload_n 0, 1) := by decide +kernel
theorem dX4_copy_7 : decode cX4_copy 7 = .ok (.iload_n 2, 1) := by decide +kernel
theorem dX5_init_0 : decode cX5_init 0 = .ok (.aload_n 0, 1) := by decide +kernel
theorem dX5_init_9 : decode cX5_init 9 = .ok (.sipush 2500, 3) := by decide +kernel
theorem dX5_init_22 : decode cX5_init 22 = .ok (.dup, 1) := by decide +kernel
theorem dX5_init_33 : decode cX5_init 33 = .ok (.new 9, 3) := by decide +kernel
theorem dX5_init_46 : decode cX5_init 46 = .ok (.aload_n 0, 1) := by decide +kernel
theorem dX5_init_57 : decode cX5_init 57 = .ok (.putfield 26, 3) := by decide +kernel
theorem dX5_init_67 : decode cX5_init 67 = .ok (.invokespecial 11, 3) := by decide +kernel
theorem dX5_init_78 : decode cX5_init 78 = .ok (.sipush 2501, 3) := by decide +kernel
theorem dX5_init_91 : decode cX5_init 91 = .ok (.dup, 1) := by decide +kernel
theorem dX5_init_102 : decode cX5_init 102 = .ok (.new 9, 3) := by decide +kernel
theorem dX5_init_115 : decode cX5_init 115 = .ok (.aload_n 0, 1) := by decide +kernel
theorem dX5_init_126 : decode cX5_init 126 = .ok (.putfield 41, 3) := by decide +kernel
theorem dX6_init_0 : decode cX6_init 0 = .ok (.aload_n 0, 1) := by decide +kernel
theorem dX6_init_9 : decode cX6_init 9 = .ok (.sipush 6000, 3) := by decide +kernel
theorem dX6_init_20 : decode cX6_init 20 = .ok (.putfield 20, 3) := by decide +kernel
theorem dX6_init_29 : decode cX6_init 29 = .ok (.aload_n 3, 1) := by decide +kernel
theorem dX6_init_39 : decode cX6_init 39 = .ok (.return_, 1) := by decide +kernel
theorem dX6_holds_5 : decode cX6_holds 5 = .ok (.getfield 20, 3) := by decide +kernel
theorem dX6_holds_16 : decode cX6_holds 16 = .ok (.istore 6, 2) := by decide +kernel
theorem dX6_holds_27 : decode cX6_holds 27 = .ok (.if_icmp .ge 57, 3) := by decide +kernel
theorem dX6_holds_93 : decode cX6_holds 93 = .ok (.ireturn, 1) := by decide +kernel
theorem dX7_init_8 : decode cX7_init 8 = .ok (.dup, 1) := by decide +kernel
theorem dX7_init_18 : decode cX7_init 18 = .ok (.new 9, 3) := by decide +kernel
theorem dX7_init_30 : decode cX7_init 30 = .ok (.aload_n 0, 1) := by decide +kernel
theorem dX7_init_40 : decode cX7_init 40 = .ok (.putfield 23, 3) := by decide +kernel
theorem dX7_init_50 : decode cX7_init 50 = .ok (.invokespecial 11, 3) := by decide +kernel
theorem dX7_init_61 : decode cX7_init 61 = .ok (.bipush 120, 2) := by decide +kernel
theorem dX7_init_73 : decode cX7_init 73 = .ok (.dup, 1) := by decide +kernel
theorem dX7_init_83 : decode cX7_init 83 = .ok (.new 9, 3) := by decide +kernel
theorem dX7_init_95 : decode cX7_init 95 = .ok (.aload_n 0, 1) := by decide +kernel
theorem dX7_init_105 : decode cX7_init 105 = .ok (.putfield 38, 3) := by decide +kernel
theorem dX7_init_115 : decode cX7_init 115 = .ok (.invokespecial 11, 3) := by decide +kernel
theorem dX7_init_126 : decode cX7_init 126 = .ok (.return_, 1) := by decide +kernel
theorem dX7_start_8 : decode cX7_start 8 = .ok (.getfield 20, 3) := by decide +kernel
theorem dX7_start_21 : decode cX7_start 21 = .ok (.aload_n 0, 1) := by decide +kernel
theorem dX7_start_32 : decode cX7_start 32 = .ok (.invokevirtual 48, 3) := by decide +kernel
theorem dX7_start_43 : decode cX7_start 43 = .ok (.getfield 35, 3) := by decide +kernel
theorem dX7_start_54 : decode cX7_start 54 = .ok (.invokevirtual 51, 3) := by decide +kernel
theorem dX7_start_65 : decode cX7_start 65 = .ok (.iconst (-1), 1) := by decide +kernel
theorem dX7_isThere_4 : decode cX7_isThere 4 = .ok (.iconst (-1), 1) := by decide +kernel
theorem dX7_signsOfPlain_1 : decode cX7_signsOfPlain 1 = .ok (.getfield 41, 3) := by decide +kernel
theorem dX8_init_5 : decode cX8_init 5 = .ok (.new 9, 3) := by decide +kernel
theorem dX8_init_18 : decode cX8_init 18 = .ok (.aload_n 0, 1) := by decide +kernel
theorem dX8_init_29 : decode cX8_init 29 = .ok (.putfield 20, 3) := by decide +kernel
theorem dX9_init_0 : decode cX9_init 0 = .ok (.aload_n 0, 1) := by decide +kernel
theorem dX9_init_9 : decode cX9_init 9 = .ok (.invokespecial 11, 3) := by decide +kernel
theorem dX9_init_20 : decode cX9_init 20 = .ok (.bipush 60, 2) := by decide +kernel
theorem dX9_init_32 : decode cX9_init 32 = .ok (.dup, 1) := by decide +kernel
theorem dX9_init_42 : decode cX9_init 42 = .ok (.new 28, 3) := by decide +kernel
theorem dX9_init_53 : decode cX9_init 53 = .ok (.new 35, 3) := by decide +kernel
theorem dX9_init_64 : decode cX9_init 64 = .ok (.new 42, 3) := by decide +kernel
theorem dX9_init_75 : decode cX9_init 75 = .ok (.invokespecial 48, 3) := by decide +kernel
theorem dX9_init_86 : decode cX9_init 86 = .ok (.aload_n 0, 1) := by decide +kernel
theorem dX9_init_99 : decode cX9_init 99 = .ok (.aload_n 0, 1) := by decide +kernel
theorem dX9_init_108 : decode cX9_init 108 = .ok (.aload_n 0, 1) := by decide +kernel
theorem dX9_init_117 : decode cX9_init 117 = .ok (.getfield 55, 3) := by decide +kernel
theorem dX9_init_130 : decode cX9_init 130 = .ok (.dup, 1) := by decide +kernel
theorem dX9_init_141 : decode cX9_init 141 = .ok (.dup, 1) := by decide +kernel
theorem dX9_init_152 : decode cX9_init 152 = .ok (.dup, 1) := by decide +kernel
theorem dX9_init_162 : decode cX9_init 162 = .ok (.putfield 84, 3) := by decide +kernel
theorem dX9_init_172 : decode cX9_init 172 = .ok (.iconst 0, 1) := by decide +kernel
theorem dX9_init_181 : decode cX9_init 181 = .ok (.aload_n 0, 1) := by decide +kernel
theorem dX9_word_1 : decode cX9_word 1 = .ok (.ifCond .lt 9, 3) := by decide +kernel
theorem dX9_word_13 : decode cX9_word 13 = .ok (.dup, 1) := by decide +kernel
theorem dX9_word_21 : decode cX9_word 21 = .ok (.iconst 1, 1) := by decide +kernel
theorem dX9_word_31 : decode cX9_word 31 = .ok (.new 100, 3) := by decide +kernel
theorem dX9_word_41 : decode cX9_word 41 = .ok (.aload_n 0, 1) := by decide +kernel
theorem dX9_word_48 : decode cX9_word 48 = .ok (.iload_n 2, 1) := by decide +kernel
theorem dX9_word_58 : decode cX9_word 58 = .ok (.iload_n 1, 1) := by decide +kernel
theorem dX9_word_69 : decode cX9_word 69 = .ok (.aload_n 0, 1) := by decide +kernel
theorem dX9_word_78 : decode cX9_word 78 = .ok (.invokevirtual 119, 3) := by decide +kernel
theorem dX9_mark_5 : decode cX9_mark 5 = .ok (.iload_n 1, 1) := by decide +kernel
theorem dX9_mark_14 : decode cX9_mark 14 = .ok (.ldc 122, 2) := by decide +kernel
theorem dX9_mark_24 : decode cX9_mark 24 = .ok (.aload_n 0, 1) := by decide +kernel
theorem dX9_mark_33 : decode cX9_mark 33 = .ok (.invokevirtual 119, 3) := by decide +kernel
theorem dX9_nest_0 : decode cX9_nest 0 = .ok (.aload_n 0, 1) := by decide +kernel
theorem dX9_align_2 : decode cX9_align 2 = .ok (.invokevirtual 127, 3) := by decide +kernel
theorem dX9_fill_1 : decode cX9_fill 1 = .ok (.iload_n 1, 1) := by decide +kernel
theorem dX9_forget_7 : decode cX9_forget 7 = .ok (.istore_n 1, 1) := by decide +kernel
theorem dX9_forget_16 : decode cX9_forget 16 = .ok (.ireturn, 1) := by decide +kernel
theorem dX9_width_6 : decode cX9_width 6 = .ok (.getfield 84, 3) := by decide +kernel
theorem dX9_width_15 : decode cX9_width 15 = .ok (.iload_n 2, 1) := by decide +kernel
theorem dX9_ribbon_5 : decode cX9_ribbon 5 = .ok (.iload_n 1, 1) := by decide +kernel
theorem dX9_ribbon_15 : decode cX9_ribbon 15 = .ok (.ldc 173, 2) := by decide +kernel
theorem dX9_ribbon_25 : decode cX9_ribbon 25 = .ok (.istore_n 2, 1) := by decide +kernel
theorem dX9_ribbon_32 : decode cX9_ribbon 32 = .ok (.ireturn, 1) := by decide +kernel
theorem dX9_say_8 : decode cX9_say 8 = .ok (.getfield 25, 3) := by decide +kernel
theorem dX9_say_19 : decode cX9_say 19 = .ok (.iload_n 2, 1) := by decide +kernel
theorem dX9_say_28 : decode cX9_say 28 = .ok (.invokevirtual 176, 3) := by decide +kernel
theorem dX9_say_40 : decode cX9_say 40 = .ok (.aload_n 0, 1) := by decide +kernel
theorem dX9_say_50 : decode cX9_say 50 = .ok (.getfield 25, 3) := by decide +kernel
theorem dX9_say_62 : decode cX9_say 62 = .ok (.iconst 0, 1) := by decide +kernel
theorem dX9_say_71 : decode cX9_say 71 = .ok (.invokevirtual 182, 3) := by decide +kernel
theorem dX9_say_82 : decode cX9_say 82 = .ok (.iload 7, 2) := by decide +kernel
theorem dX9_say_96 : decode cX9_say 96 = .ok (.aload_n 0, 1) := by decide +kernel
theorem dX9_read_1 : decode cX9_read 1 = .ok (.invokevirtual 109, 3) := by decide +kernel
theorem dX9_read_12 : decode cX9_read 12 = .ok (.invokevirtual 191, 3) := by decide +kernel
theorem dX9_read_23 : decode cX9_read 23 = .ok (.getfield 31, 3) := by decide +kernel
theorem dX9_read_34 : decode cX9_read 34 = .ok (.invokevirtual 195, 3) := by decide +kernel
theorem dX9_code_4 : decode cX9_code 4 = .ok (.aload_n 0, 1) := by decide +kernel
theorem dX9_code_15 : decode cX9_code 15 = .ok (.iconst (-1), 1) := by decide +kernel
theorem dX9_blank_1 : decode cX9_blank 1 = .ok (.dup, 1) := by decide +kernel
theorem dX9_blank_10 : decode cX9_blank 10 = .ok (.bipush (-9), 2) := by decide +kernel
theorem dX9_knock_5 : decode cX9_knock 5 = .ok (.iconst 1, 1) := by decide +kernel
theorem dX9_knock_14 : decode cX9_knock 14 = .ok (.ireturn, 1) := by decide +kernel
theorem dX9_flat_1 : decode cX9_flat 1 = .ok (.iload_n 1, 1) := by decide +kernel
theorem dX9_measure_0 : decode cX9_measure 0 = .ok (.aload_n 0, 1) := by decide +kernel
theorem dX9_at_2 : decode cX9_at 2 = .ok (.invokevirtual 127, 3) := by decide +kernel
theorem dX9_isOne_1 : decode cX9_isOne 1 = .ok (.iload_n 1, 1) := by decide +kernel
theorem dX9_typed_0 : decode cX9_typed 0 = .ok (.aload_n 0, 1) := by decide +kernel
theorem dX9_fault_0 : decode cX9_fault 0 = .ok (.iload_n 1, 1) := by decide +kernel
theorem dX9_fault_9 : decode cX9_fault 9 = .ok (.getfield 21, 3) := by decide +kernel
theorem dX9_fault_22 : decode cX9_fault 22 = .ok (.aload_n 0, 1) := by decide +kernel
theorem dX9_fault_33 : decode cX9_fault 33 = .ok (.ireturn, 1) := by decide +kernel
theorem dX9_ofCode_7 : decode cX9_ofCode 7 = .ok (.if_icmp .le 14, 3) := by decide +kernel
theorem dX9_ofCode_20 : decode cX9_ofCode 20 = .ok (.athrow, 1) := by decide +kernel
theorem dX9_ofCode_31 : decode cX9_ofCode 31 = .ok (.iconst 0, 1) := by decide +kernel
theorem dX9_plain_5 : decode cX9_plain 5 = .ok (.invokevirtual 305, 3) := by decide +kernel
theorem dX9_codeLine_2 : decode cX9_codeLine 2 = .ok (.invokevirtual 239, 3) := by decide +kernel
theorem dX9_codeLine_15 : decode cX9_codeLine 15 = .ok (.ldc 228, 2) := by decide +kernel
theorem dX9_house_5 : decode cX9_house 5 = .ok (.bipush 7, 2) := by decide +kernel
theorem dX9_house_16 : decode cX9_house 16 = .ok (.invokespecial 104, 3) := by decide +kernel
theorem dX9_house_25 : decode cX9_house 25 = .ok (.ireturn, 1) := by decide +kernel
theorem dX9_would_1 : decode cX9_would 1 = .ok (.iload_n 1, 1) := by decide +kernel
theorem dX9_least_0 : decode cX9_least 0 = .ok (.aload_n 0, 1) := by decide +kernel
theorem dX9_leastLine_2 : decode cX9_leastLine 2 = .ok (.invokevirtual 127, 3) := by decide +kernel
theorem dX9_isSound_8 : decode cX9_isSound 8 = .ok (.aload_n 0, 1) := by decide +kernel
theorem dX9_isSound_17 : decode cX9_isSound 17 = .ok (.getfield 88, 3) := by decide +kernel
theorem dX9_digest_4 : decode cX9_digest 4 = .ok (.iconst 0, 1) := by decide +kernel
theorem dX9_digest_12 : decode cX9_digest 12 = .ok (.lload_n 1, 1) := by decide +kernel
theorem dX9_digest_19 : decode cX9_digest 19 = .ok (.invokevirtual 308, 3) := by decide +kernel
theorem dX9_digest_28 : decode cX9_digest 28 = .ok (.goto (-22), 3) := by decide +kernel
theorem dX9_digest_39 : decode cX9_digest 39 = .ok (.isub, 1) := by decide +kernel
theorem dX9_digest_46 : decode cX9_digest 46 = .ok (.ifCond .lt 25, 3) := by decide +kernel
theorem dX9_digest_133 : decode cX9_digest 133 = .ok (.lmul, 1) := by decide +kernel
theorem dX9_digest_142 : decode cX9_digest 142 = .ok (.ladd, 1) := by decide +kernel
theorem dX9_digest_149 : decode cX9_digest 149 = .ok (.aload_n 0, 1) := by decide +kernel
theorem dX9_digest_160 : decode cX9_digest 160 = .ok (.i2l, 1) := by decide +kernel
theorem dX9_digest_167 : decode cX9_digest 167 = .ok (.lmul, 1) := by decide +kernel
theorem dX9_digest_176 : decode cX9_digest 176 = .ok (.aload_n 0, 1) := by decide +kernel
theorem dX9_digest_185 : decode cX9_digest 185 = .ok (.lstore_n 1, 1) := by decide +kernel
theorem dX9_digest_192 : decode cX9_digest 192 = .ok (.lload_n 1, 1) := by decide +kernel
theorem dX9_digest_201 : decode cX9_digest 201 = .ok (.aload_n 0, 1) := by decide +kernel
theorem dX9_digest_210 : decode cX9_digest 210 = .ok (.getfield 84, 3) := by decide +kernel
theorem dX9_digest_223 : decode cX9_digest 223 = .ok (.iconst 1, 1) := by decide +kernel
theorem dX9_needNode_0 : decode cX9_needNode 0 = .ok (.aload_n 0, 1) := by decide +kernel
theorem dX9_needNode_11 : decode cX9_needNode 11 = .ok (.new 344, 3) := by decide +kernel
theorem dX9_needNumber_0 : decode cX9_needNumber 0 = .ok (.aload_n 0, 1) := by decide +kernel
theorem dX9_needNumber_23 : decode cX9_needNumber 23 = .ok (.return_, 1) := by decide +kernel
theorem dX9_needWidth_6 : decode cX9_needWidth 6 = .ok (.bipush 60, 2) := by decide +kernel
theorem dX9_needWidth_18 : decode cX9_needWidth 18 = .ok (.invokespecial 104, 3) := by decide +kernel
theorem dX9_needNth_4 : decode cX9_needNth 4 = .ok (.new 100, 3) := by decide +kernel
theorem dX9_needNth_15 : decode cX9_needNth 15 = .ok (.return_, 1) := by decide +kernel
theorem dX9_needCodes_4 : decode cX9_needCodes 4 = .ok (.getfield 25, 3) := by decide +kernel
theorem dX9_needCodes_17 : decode cX9_needCodes 17 = .ok (.iload_n 1, 1) := by decide +kernel
theorem dX9_needCodes_26 : decode cX9_needCodes 26 = .ok (.getfield 25, 3) := by decide +kernel
theorem dX9_needCodes_38 : decode cX9_needCodes 38 = .ok (.new 100, 3) := by decide +kernel
theorem dX9_needCodes_49 : decode cX9_needCodes 49 = .ok (.iinc 1 1, 3) := by decide +kernel
theorem dX9_needCodes_62 : decode cX9_needCodes 62 = .ok (.istore_n 1, 1) := by decide +kernel
theorem dX9_needCodes_67 : decode cX9_needCodes 67 = .ok (.getfield 25, 3) := by decide +kernel
theorem dX9_needCodes_78 : decode cX9_needCodes 78 = .ok (.getfield 25, 3) := by decide +kernel
theorem dX9_needCodes_89 : decode cX9_needCodes 89 = .ok (.iload_n 1, 1) := by decide +kernel
theorem dX9_needCodes_112 : decode cX9_needCodes 112 = .ok (.return_, 1) := by decide +kernel
theorem dX9_lengthAfter_6 : decode cX9_lengthAfter 6 = .ok (.ireturn, 1) := by decide +kernel
theorem dX9_lengthAfter_14 : decode cX9_lengthAfter 14 = .ok (.ireturn, 1) := by decide +kernel
theorem dX9_lengthAfter_22 : decode cX9_lengthAfter 22 = .ok (.ifCond .le 9, 3) := by decide +kernel
theorem dX9_lengthAfter_31 : decode cX9_lengthAfter 31 = .ok (.iconst 0, 1) := by decide +kernel
theorem dX9_lengthAfter_36 : decode cX9_lengthAfter 36 = .ok (.ireturn, 1) := by decide +kernel
theorem dX9_type_8 : decode cX9_type 8 = .ok (.invokevirtual 375, 3) := by decide +kernel
theorem dX9_type_21 : decode cX9_type 21 = .ok (.iload_n 1, 1) := by decide +kernel
theorem dX9_type_32 : decode cX9_type 32 = .ok (.getfield 21, 3) := by decide +kernel
theorem dX9_type_43 : decode cX9_type 43 = .ok (.invokestatic 368, 3) := by decide +kernel
theorem dX9_numbered_2 : decode cX9_numbered 2 = .ok (.getfield 97, 3) := by decide +kernel
theorem dX9_numbered_11 : decode cX9_numbered 11 = .ok (.getfield 12, 3) := by decide +kernel
theorem dX9_textOf_1 : decode cX9_textOf 1 = .ok (.getfield 70, 3) := by decide +kernel
theorem dX9_textOf_10 : decode cX9_textOf 10 = .ok (.iload_n 2, 1) := by decide +kernel
theorem dX9_textOf_39 : decode cX9_textOf 39 = .ok (.getfield 70, 3) := by decide +kernel
theorem dX9_stateOf_44 : decode cX9_stateOf 44 = .ok (.aload_n 0, 1) := by decide +kernel
theorem dX9_stateOf_53 : decode cX9_stateOf 53 = .ok (.getfield 84, 3) := by decide +kernel
theorem dX9_stateOf_62 : decode cX9_stateOf 62 = .ok (.aload_n 0, 1) := by decide +kernel
theorem dX9_stateOf_71 : decode cX9_stateOf 71 = .ok (.getfield 91, 3) := by decide +kernel
theorem dX9_stateOf_80 : decode cX9_stateOf 80 = .ok (.aload_n 0, 1) := by decide +kernel
theorem dX9_stateOf_89 : decode cX9_stateOf 89 = .ok (.invokevirtual 420, 3) := by decide +kernel
theorem dX9_withCode_3 : decode cX9_withCode 3 = .ok (.getfield 77, 3) := by decide +kernel
theorem dX9_withCode_15 : decode cX9_withCode 15 = .ok (.iload 5, 2) := by decide +kernel
theorem dX9_withCode_26 : decode cX9_withCode 26 = .ok (.lmul, 1) := by decide +kernel
theorem dX9_withCode_35 : decode cX9_withCode 35 = .ok (.lreturn, 1) := by decide +kernel
theorem dX11_init_1 : decode cX11_init 1 = .ok (.invokespecial 3, 3) := by decide +kernel
theorem dX11_init_12 : decode cX11_init 12 = .ok (.putfield 12, 3) := by decide +kernel
theorem dX11_init_21 : decode cX11_init 21 = .ok (.aload_n 2, 1) := by decide +kernel
theorem dX11_init_30 : decode cX11_init 30 = .ok (.return_, 1) := by decide +kernel
theorem dX11_weight_8 : decode cX11_weight 8 = .ok (.iconst 1, 1) := by decide +kernel
theorem dX11_weight_18 : decode cX11_weight 18 = .ok (.getfield 12, 3) := by decide +kernel
theorem dX11_weight_31 : decode cX11_weight 31 = .ok (.ifCond .eq 23, 3) := by decide +kernel
theorem dX11_depth_2 : decode cX11_depth 2 = .ok (.aload_n 0, 1) := by decide +kernel
theorem dX11_depth_11 : decode cX11_depth 11 = .ok (.invokeinterface 41 1, 5) := by decide +kernel
theorem dX11_depth_44 : decode cX11_depth 44 = .ok (.ireturn, 1) := by decide +kernel
theorem dX13_init_6 : decode cX13_init 6 = .ok (.putfield 9, 3) := by decide +kernel
theorem dX13_document_7 : decode cX13_document 7 = .ok (.astore_n 1, 1) := by decide +kernel
theorem dX13_document_16 : decode cX13_document 16 = .ok (.invokevirtual 19, 3) := by decide +kernel
theorem dX13_document_53 : decode cX13_document 53 = .ok (.new 69, 3) := by decide +kernel
theorem dX13_document_61 : decode cX13_document 61 = .ok (.invokespecial 73, 3) := by decide +kernel
theorem dX16_init_5 : decode cX16_init 5 = .ok (.new 7, 3) := by decide +kernel
theorem dX16_init_16 : decode cX16_init 16 = .ok (.bipush 20, 2) := by decide +kernel
theorem dX16_init_27 : decode cX16_init 27 = .ok (.aload_n 0, 1) := by decide +kernel
theorem dX16_isIn_1 : decode cX16_isIn 1 = .ok (.iload_n 1, 1) := by decide +kernel
theorem dX16_isIn_10 : decode cX16_isIn 10 = .ok (.iconst 1, 1) := by decide +kernel
theorem dX16_one_1 : decode cX16_one 1 = .ok (.ifCond .eq 7, 3) := by decide +kernel
theorem dX16_documented_0 : decode cX16_documented 0 = .ok (.ldc 23, 2) := by decide +kernel
theorem dX16_documented_6 : decode cX16_documented 6 = .ok (.aload_n 0, 1) := by decide +kernel
theorem dX16_documented_137 : decode cX16_documented 137 = .ok (.aload_n 1, 1) := by decide +kernel
theorem dX16_coded_0 : decode cX16_coded 0 = .ok (.ldc 23, 2) := by decide +kernel
theorem dX16_coded_6 : decode cX16_coded 6 = .ok (.istore_n 3, 1) := by decide +kernel
theorem dX16_coded_316 : decode cX16_coded 316 = .ok (.aload_n 0, 1) := by decide +kernel
theorem dX16_coded_327 : decode cX16_coded 327 = .ok (.iload_n 2, 1) := by decide +kernel
theorem dX16_coded_340 : decode cX16_coded 340 = .ok (.iadd, 1) := by decide +kernel
theorem dX16_refuse_0 : decode cX16_refuse 0 = .ok (.iload_n 1, 1) := by decide +kernel
theorem dX16_refuse_11 : decode cX16_refuse 11 = .ok (.aload_n 0, 1) := by decide +kernel
theorem dX16_refuse_20 : decode cX16_refuse 20 = .ok (.ifCond .le 7, 3) := by decide +kernel
theorem dX16_start_0 : decode cX16_start 0 = .ok (.aload_n 0, 1) := by decide +kernel
theorem dX16_start_7 : decode cX16_start 7 = .ok (.iload_n 2, 1) := by decide +kernel
theorem dX16_isNoNode_2 : decode cX16_isNoNode 2 = .ok (.aload_n 0, 1) := by decide +kernel
theorem dX16_isNoNode_11 : decode cX16_isNoNode 11 = .ok (.invokestatic 183, 3) := by decide +kernel
theorem dX16_isFull_0 : decode cX16_isFull 0 = .ok (.aload_n 0, 1) := by decide +kernel
theorem dX16_isFull_16 : decode cX16_isFull 16 = .ok (.iconst 0, 1) := by decide +kernel
theorem dX16_isGreat_6 : decode cX16_isGreat 6 = .ok (.if_icmp .gt 12, 3) := by decide +kernel
theorem dX16_isGreat_22 : decode cX16_isGreat 22 = .ok (.iconst 0, 1) := by decide +kernel
theorem dX16_made_5 : decode cX16_made 5 = .ok (.invokevirtual 65, 3) := by decide +kernel
theorem dX16_made_14 : decode cX16_made 14 = .ok (.iconst 1, 1) := by decide +kernel
theorem dX16_made_23 : decode cX16_made 23 = .ok (.invokevirtual 44, 3) := by decide +kernel
theorem dX16_word_1 : decode cX16_word 1 = .ok (.iload_n 1, 1) := by decide +kernel
theorem dX16_word_11 : decode cX16_word 11 = .ok (.iload_n 2, 1) := by decide +kernel
theorem dX16_word_21 : decode cX16_word 21 = .ok (.iconst 1, 1) := by decide +kernel
theorem dX16_word_30 : decode cX16_word 30 = .ok (.ifCond .ne 15, 3) := by decide +kernel
theorem dX16_word_39 : decode cX16_word 39 = .ok (.invokevirtual 179, 3) := by decide +kernel
theorem dX16_word_50 : decode cX16_word 50 = .ok (.dup, 1) := by decide +kernel
theorem dX16_word_58 : decode cX16_word 58 = .ok (.iload 4, 2) := by decide +kernel
theorem dX16_word_67 : decode cX16_word 67 = .ok (.iload_n 1, 1) := by decide +kernel
theorem dX16_word_74 : decode cX16_word 74 = .ok (.iinc 4 1, 3) := by decide +kernel
theorem dX16_word_85 : decode cX16_word 85 = .ok (.iconst 0, 1) := by decide +kernel
theorem dX16_word_94 : decode cX16_word 94 = .ok (.invokevirtual 205, 3) := by decide +kernel
theorem dX16_mark_3 : decode cX16_mark 3 = .ok (.iconst 4, 1) := by decide +kernel
theorem dX16_mark_14 : decode cX16_mark 14 = .ok (.iconst 0, 1) := by decide +kernel
theorem dX16_mark_23 : decode cX16_mark 23 = .ok (.aload_n 0, 1) := by decide +kernel
theorem dX16_mark_34 : decode cX16_mark 34 = .ok (.iconst 0, 1) := by decide +kernel
theorem dX16_mark_43 : decode cX16_mark 43 = .ok (.iload_n 1, 1) := by decide +kernel
theorem dX16_mark_53 : decode cX16_mark 53 = .ok (.ireturn, 1) := by decide +kernel
theorem dX16_join_6 : decode cX16_join 6 = .ok (.ifCond .ne 11, 3) := by decide +kernel
theorem dX16_join_26 : decode cX16_join 26 = .ok (.ifCond .eq 7, 3) := by decide +kernel
theorem dX16_nest_1 : decode cX16_nest 1 = .ok (.aload_n 0, 1) := by decide +kernel
theorem dX16_nest_10 : decode cX16_nest 10 = .ok (.ifCond .ne 26, 3) := by decide +kernel
theorem dX16_align_1 : decode cX16_align 1 = .ok (.aload_n 0, 1) := by decide +kernel
theorem dX16_align_10 : decode cX16_align 10 = .ok (.ifCond .eq 7, 3) := by decide +kernel
theorem dX16_group_1 : decode cX16_group 1 = .ok (.aload_n 0, 1) := by decide +kernel
theorem dX16_group_10 : decode cX16_group 10 = .ok (.ifCond .eq 7, 3) := by decide +kernel
theorem dX16_fill_1 : decode cX16_fill 1 = .ok (.aload_n 0, 1) := by decide +kernel
theorem dX16_fill_18 : decode cX16_fill 18 = .ok (.goto 4, 3) := by decide +kernel
theorem dX16_fill_48 : decode cX16_fill 48 = .ok (.ireturn, 1) := by decide +kernel
theorem dX16_forget_6 : decode cX16_forget 6 = .ok (.getfield 10, 3) := by decide +kernel
theorem dX16_forget_17 : decode cX16_forget 17 = .ok (.invokevirtual 225, 3) := by decide +kernel
theorem dX16_width_1 : decode cX16_width 1 = .ok (.iload_n 1, 1) := by decide +kernel
theorem dX16_width_11 : decode cX16_width 11 = .ok (.iconst 1, 1) := by decide +kernel
theorem dX16_width_20 : decode cX16_width 20 = .ok (.ifCond .eq 5, 3) := by decide +kernel
theorem dX16_width_29 : decode cX16_width 29 = .ok (.istore_n 2, 1) := by decide +kernel
theorem dX16_width_36 : decode cX16_width 36 = .ok (.ireturn, 1) := by decide +kernel
theorem dX16_ribbon_5 : decode cX16_ribbon 5 = .ok (.invokestatic 183, 3) := by decide +kernel
theorem dX16_ribbon_16 : decode cX16_ribbon 16 = .ok (.iconst 1, 1) := by decide +kernel
theorem dX16_ribbon_25 : decode cX16_ribbon 25 = .ok (.aload_n 0, 1) := by decide +kernel
theorem dX16_ribbon_32 : decode cX16_ribbon 32 = .ok (.putfield 20, 3) := by decide +kernel
theorem dX16_said_2 : decode cX16_said 2 = .ok (.if_icmp .ne 5, 3) := by decide +kernel
theorem dX16_said_10 : decode cX16_said 10 = .ok (.if_icmp .ge 27, 3) := by decide +kernel
theorem dX16_said_21 : decode cX16_said 21 = .ok (.invokevirtual 98, 3) := by decide +kernel
theorem dX16_said_33 : decode cX16_said 33 = .ok (.invokevirtual 36, 3) := by decide +kernel
theorem dX16_said_43 : decode cX16_said 43 = .ok (.aload_n 0, 1) := by decide +kernel
theorem dX16_said_55 : decode cX16_said 55 = .ok (.aload_n 0, 1) := by decide +kernel
theorem dX16_said_62 : decode cX16_said 62 = .ok (.isub, 1) := by decide +kernel
theorem dX16_say_4 : decode cX16_say 4 = .ok (.dup, 1) := by decide +kernel
theorem dX16_say_9 : decode cX16_say 9 = .ok (.iconst 1, 1) := by decide +kernel
theorem dX16_say_14 : decode cX16_say 14 = .ok (.iload_n 3, 1) := by decide +kernel
theorem dX16_say_20 : decode cX16_say 20 = .ok (.iastore, 1) := by decide +kernel
theorem dX16_say_26 : decode cX16_say 26 = .ok (.dup, 1) := by decide +kernel
theorem dX16_say_33 : decode cX16_say 33 = .ok (.iconst 0, 1) := by decide +kernel
theorem dX16_say_42 : decode cX16_say 42 = .ok (.arraylength, 1) := by decide +kernel
theorem dX16_say_50 : decode cX16_say 50 = .ok (.iload 10, 2) := by decide +kernel
theorem dX16_say_60 : decode cX16_say 60 = .ok (.istore 12, 2) := by decide +kernel
theorem dX16_say_69 : decode cX16_say 69 = .ok (.invokestatic 183, 3) := by decide +kernel
theorem dX16_say_80 : decode cX16_say 80 = .ok (.ior, 1) := by decide +kernel
theorem dX16_say_90 : decode cX16_say 90 = .ok (.iload 8, 2) := by decide +kernel
theorem dX16_say_100 : decode cX16_say 100 = .ok (.ireturn, 1) := by decide +kernel
theorem dX16_say_109 : decode cX16_say 109 = .ok (.astore 10, 2) := by decide +kernel
theorem dX16_say_117 : decode cX16_say 117 = .ok (.istore 12, 2) := by decide +kernel
theorem dX16_say_128 : decode cX16_say 128 = .ok (.iload 12, 2) := by decide +kernel
theorem dX16_say_137 : decode cX16_say 137 = .ok (.invokestatic 234, 3) := by decide +kernel
theorem dX16_say_148 : decode cX16_say 148 = .ok (.bipush 60, 2) := by decide +kernel
theorem dX16_say_162 : decode cX16_say 162 = .ok (.ifCond .eq 5, 3) := by decide +kernel
theorem dX16_say_176 : decode cX16_say 176 = .ok (.putfield 25, 3) := by decide +kernel
theorem dX16_isDocument_0 : decode cX16_isDocument 0 = .ok (.aload_n 0, 1) := by decide +kernel
theorem dX16_isDocument_11 : decode cX16_isDocument 11 = .ok (.invokevirtual 74, 3) := by decide +kernel
theorem dX16_isCode_0 : decode cX16_isCode 0 = .ok (.aload_n 0, 1) := by decide +kernel
theorem dX16_isCode_11 : decode cX16_isCode 11 = .ok (.invokevirtual 74, 3) := by decide +kernel
theorem dX16_read_1 : decode cX16_read 1 = .ok (.aload_n 0, 1) := by decide +kernel
theorem dX16_read_14 : decode cX16_read 14 = .ok (.aload_n 0, 1) := by decide +kernel
theorem dX16_read_27 : decode cX16_read 27 = .ok (.aload_n 0, 1) := by decide +kernel
theorem dX16_read_38 : decode cX16_read 38 = .ok (.aload_n 1, 1) := by decide +kernel
theorem dX16_read_51 : decode cX16_read 51 = .ok (.invokevirtual 205, 3) := by decide +kernel
theorem dX16_code_5 : decode cX16_code 5 = .ok (.aload_n 0, 1) := by decide +kernel
theorem dX16_blank_0 : decode cX16_blank 0 = .ok (.aload_n 0, 1) := by decide +kernel
theorem dX16_blank_7 : decode cX16_blank 7 = .ok (.getfield 272, 3) := by decide +kernel
theorem dX16_blank_17 : decode cX16_blank 17 = .ok (.ireturn, 1) := by decide +kernel
theorem dX16_knock_6 : decode cX16_knock 6 = .ok (.dup, 1) := by decide +kernel
theorem dX16_knock_15 : decode cX16_knock 15 = .ok (.aload_n 0, 1) := by decide +kernel
theorem dX16_ofNode_2 : decode cX16_ofNode 2 = .ok (.iload_n 1, 1) := by decide +kernel
theorem dX16_ofNode_36 : decode cX16_ofNode 36 = .ok (.iconst 0, 1) := by decide +kernel
theorem dX16_flat_2 : decode cX16_flat 2 = .ok (.iload_n 1, 1) := by decide +kernel
theorem dX16_flat_13 : decode cX16_flat 13 = .ok (.ldc 23, 2) := by decide +kernel
theorem dX16_line_2 : decode cX16_line 2 = .ok (.iload_n 1, 1) := by decide +kernel
theorem dX16_line_30 : decode cX16_line 30 = .ok (.ldc 23, 2) := by decide +kernel
theorem dX16_measure_2 : decode cX16_measure 2 = .ok (.iload_n 1, 1) := by decide +kernel
theorem dX16_measure_36 : decode cX16_measure 36 = .ok (.iconst 0, 1) := by decide +kernel
theorem dX16_at_2 : decode cX16_at 2 = .ok (.iload_n 1, 1) := by decide +kernel
theorem dX16_at_13 : decode cX16_at 13 = .ok (.iconst 0, 1) := by decide +kernel
theorem dX16_where_3 : decode cX16_where 3 = .ok (.invokevirtual 213, 3) := by decide +kernel
theorem dX16_where_31 : decode cX16_where 31 = .ok (.ireturn, 1) := by decide +kernel
theorem dX16_isOne_6 : decode cX16_isOne 6 = .ok (.iconst 1, 1) := by decide +kernel
theorem dX16_differ_0 : decode cX16_differ 0 = .ok (.aload_n 0, 1) := by decide +kernel
theorem dX16_differ_17 : decode cX16_differ 17 = .ok (.iconst 1, 1) := by decide +kernel
theorem dX16_differ_80 : decode cX16_differ 80 = .ok (.iconst 0, 1) := by decide +kernel
theorem dX16_typed_5 : decode cX16_typed 5 = .ok (.aload_n 0, 1) := by decide +kernel
theorem dX16_faulty_4 : decode cX16_faulty 4 = .ok (.aload_n 0, 1) := by decide +kernel
theorem dX16_faulty_15 : decode cX16_faulty 15 = .ok (.getfield 25, 3) := by decide +kernel
theorem dX16_faulty_24 : decode cX16_faulty 24 = .ok (.getfield 25, 3) := by decide +kernel
theorem dX16_faulty_37 : decode cX16_faulty 37 = .ok (.iload_n 2, 1) := by decide +kernel
theorem dX16_fault_5 : decode cX16_fault 5 = .ok (.aload_n 0, 1) := by decide +kernel
theorem dX16_codeTold_1 : decode cX16_codeTold 1 = .ok (.getfield 262, 3) := by decide +kernel
theorem dX16_ofCode_1 : decode cX16_ofCode 1 = .ok (.iload_n 1, 1) := by decide +kernel
theorem dX16_ofCode_11 : decode cX16_ofCode 11 = .ok (.iconst 1, 1) := by decide +kernel
theorem dX16_ofCode_20 : decode cX16_ofCode 20 = .ok (.ifCond .eq 7, 3) := by decide +kernel
theorem dX16_ofCode_29 : decode cX16_ofCode 29 = .ok (.invokevirtual 341, 3) := by decide +kernel
theorem dX16_plain_5 : decode cX16_plain 5 = .ok (.aload_n 0, 1) := by decide +kernel
theorem dX16_plain_24 : decode cX16_plain 24 = .ok (.areturn, 1) := by decide +kernel
theorem dX16_codeLine_6 : decode cX16_codeLine 6 = .ok (.goto 4, 3) := by decide +kernel
theorem dX16_codeLine_17 : decode cX16_codeLine 17 = .ok (.ldc 23, 2) := by decide +kernel
theorem dX16_codeLine_29 : decode cX16_codeLine 29 = .ok (.ldc_w 281, 3) := by decide +kernel
theorem dX16_houseTold_2 : decode cX16_houseTold 2 = .ok (.aload_n 0, 1) := by decide +kernel
theorem dX16_houseTold_11 : decode cX16_houseTold 11 = .ok (.invokeinterface 133 1, 5) := by decide +kernel
theorem dX16_houseTold_46 : decode cX16_houseTold 46 = .ok (.iconst 0, 1) := by decide +kernel
theorem dX16_houseTold_55 : decode cX16_houseTold 55 = .ok (.dup, 1) := by decide +kernel
theorem dX16_houseTold_62 : decode cX16_houseTold 62 = .ok (.dup, 1) := by decide +kernel
theorem dX16_houseTold_69 : decode cX16_houseTold 69 = .ok (.dup, 1) := by decide +kernel
theorem dX16_houseTold_78 : decode cX16_houseTold 78 = .ok (.iastore, 1) := by decide +kernel
theorem dX16_houseTold_85 : decode cX16_houseTold 85 = .ok (.iastore, 1) := by decide +kernel
theorem dX16_houseTold_92 : decode cX16_houseTold 92 = .ok (.iastore, 1) := by decide +kernel
theorem dX16_houseTold_100 : decode cX16_houseTold 100 = .ok (.iastore, 1) := by decide +kernel
theorem dX16_houseTold_106 : decode cX16_houseTold 106 = .ok (.astore_n 3, 1) := by decide +kernel
theorem dX16_house_0 : decode cX16_house 0 = .ok (.aload_n 0, 1) := by decide +kernel
theorem dX16_house_8 : decode cX16_house 8 = .ok (.ifCond .ne 7, 3) := by decide +kernel
theorem dX16_house_17 : decode cX16_house 17 = .ok (.invokevirtual 196, 3) := by decide +kernel
theorem dX16_house_28 : decode cX16_house 28 = .ok (.iload_n 1, 1) := by decide +kernel
theorem dX16_fits_2 : decode cX16_fits 2 = .ok (.iload_n 1, 1) := by decide +kernel
theorem dX16_fits_36 : decode cX16_fits 36 = .ok (.iconst 0, 1) := by decide +kernel
theorem dX16_would_3 : decode cX16_would 3 = .ok (.invokevirtual 213, 3) := by decide +kernel
theorem dX16_would_47 : decode cX16_would 47 = .ok (.goto 32, 3) := by decide +kernel
theorem dX16_narrowest_3 : decode cX16_narrowest 3 = .ok (.invokevirtual 213, 3) := by decide +kernel
theorem dX16_narrowest_14 : decode cX16_narrowest 14 = .ok (.ireturn, 1) := by decide +kernel
theorem dX16_least__6 : decode cX16_least_ 6 = .ok (.iconst 1, 1) := by decide +kernel
theorem dX16_least__77 : decode cX16_least_ 77 = .ok (.ireturn, 1) := by decide +kernel
theorem dX16_leastLine_6 : decode cX16_leastLine 6 = .ok (.iconst 1, 1) := by decide +kernel
theorem dX16_leastLine_76 : decode cX16_leastLine 76 = .ok (.areturn, 1) := by decide +kernel
theorem dX16_isWhole_8 : decode cX16_isWhole 8 = .ok (.iconst 2, 1) := by decide +kernel
theorem dX16_isWhole_15 : decode cX16_isWhole 15 = .ok (.aload_n 0, 1) := by decide +kernel
theorem dX16_isWhole_291 : decode cX16_isWhole 291 = .ok (.ireturn, 1) := by decide +kernel
theorem dX16_isSound_6 : decode cX16_isSound 6 = .ok (.invokevirtual 365, 3) := by decide +kernel
theorem dX16_add_5 : decode cX16_add 5 = .ok (.lload_n 2, 1) := by decide +kernel
theorem dX16_digest_2 : decode cX16_digest 2 = .ok (.putfield 176, 3) := by decide +kernel
theorem dX16_digest_11 : decode cX16_digest 11 = .ok (.iload_n 3, 1) := by decide +kernel
theorem dX16_digest_19 : decode cX16_digest 19 = .ok (.iload_n 3, 1) := by decide +kernel
theorem dX16_digest_28 : decode cX16_digest 28 = .ok (.iinc 3 1, 3) := by decide +kernel
theorem dX16_digest_41 : decode cX16_digest 41 = .ok (.iconst 1, 1) := by decide +kernel
theorem dX16_digest_201 : decode cX16_digest 201 = .ok (.aload_n 0, 1) := by decide +kernel
theorem dX16_digest_280 : decode cX16_digest 280 = .ok (.aload_n 0, 1) := by decide +kernel
theorem dX16_digest_291 : decode cX16_digest 291 = .ok (.aload_n 0, 1) := by decide +kernel
theorem dX16_digest_300 : decode cX16_digest 300 = .ok (.aload_n 0, 1) := by decide +kernel
theorem dX16_digest_309 : decode cX16_digest 309 = .ok (.lstore_n 1, 1) := by decide +kernel
theorem dX16_digest_315 : decode cX16_digest 315 = .ok (.if_icmp .ge 20, 3) := by decide +kernel
theorem dX16_digest_324 : decode cX16_digest 324 = .ok (.i2l, 1) := by decide +kernel
theorem dX16_digest_335 : decode cX16_digest 335 = .ok (.aload_n 0, 1) := by decide +kernel
theorem dX16_digest_396 : decode cX16_digest 396 = .ok (.invokevirtual 365, 3) := by decide +kernel
theorem dJ5_init_d00df_0 : decode cJ5_init_d00df 0 = .ok (.aload_n 0, 1) := by decide +kernel
theorem dJ5_init_d00df_11 : decode cJ5_init_d00df 11 = .ok (.iload_n 1, 1) := by decide +kernel
theorem dJ5_init_d00df_19 : decode cJ5_init_d00df 19 = .ok (.putfield 22, 3) := by decide +kernel
theorem dJ5_length_8abf5_4 : decode cJ5_length_8abf5 4 = .ok (.ireturn, 1) := by decide +kernel
theorem dJ5_ensureCapacityInternal_d00df_6 : decode cJ5_ensureCapacityInternal_d00df 6 = .ok (.getfield 22, 3) := by decide +kernel
theorem dJ5_ensureCapacityInternal_d00df_13 : decode cJ5_ensureCapacityInternal_d00df 13 = .ok (.isub, 1) := by decide +kernel
theorem dJ5_setLength_d00df_13 : decode cJ5_setLength_d00df 13 = .ok (.aload_n 0, 1) := by decide +kernel
theorem dJ5_setLength_d00df_22 : decode cJ5_setLength_d00df 22 = .ok (.iload_n 1, 1) := by decide +kernel
theorem dJ5_setLength_d00df_68 : decode cJ5_setLength_d00df 68 = .ok (.if_icmp .le 8, 3) := by decide +kernel
theorem dJ5_append_cf1ce_0 : decode cJ5_append_cf1ce 0 = .ok (.aload_n 1, 1) := by decide +kernel
theorem dJ5_append_cf1ce_14 : decode cJ5_append_cf1ce 14 = .ok (.aload_n 0, 1) := by decide +kernel
theorem dJ5_append_cf1ce_21 : decode cJ5_append_cf1ce 21 = .ok (.invokevirtual 100, 3) := by decide +kernel
theorem dJ5_append_cf1ce_30 : decode cJ5_append_cf1ce 30 = .ok (.invokevirtual 208, 3) := by decide +kernel
theorem dJ5_append_cf1ce_39 : decode cJ5_append_cf1ce 39 = .ok (.iadd, 1) := by decide +kernel
theorem dJ5_append_3fe6f_1 : decode cJ5_append_3fe6f 1 = .ok (.aload_n 0, 1) := by decide +kernel
theorem dJ5_append_3fe6f_10 : decode cJ5_append_3fe6f 10 = .ok (.aload_n 0, 1) := by decide +kernel
theorem dJ5_append_3fe6f_21 : decode cJ5_append_3fe6f 21 = .ok (.ifCond .eq 24, 3) := by decide +kernel
theorem dJ5_append_3fe6f_30 : decode cJ5_append_3fe6f 30 = .ok (.getfield 79, 3) := by decide +kernel
theorem dJ5_append_3fe6f_39 : decode cJ5_append_3fe6f 39 = .ok (.iload_n 1, 1) := by decide +kernel
theorem dJ5_append_3fe6f_76 : decode cJ5_append_3fe6f 76 = .ok (.areturn, 1) := by decide +kernel
theorem dJ5_isLatin1_aae02_3 : decode cJ5_isLatin1_aae02 3 = .ok (.ifCond .eq 14, 3) := by decide +kernel
theorem dJ5_isLatin1_aae02_14 : decode cJ5_isLatin1_aae02 14 = .ok (.goto 4, 3) := by decide +kernel
theorem dJ5_inflateIfNeededFor_a7421_7 : decode cJ5_inflateIfNeededFor_a7421 7 = .ok (.getfield 22, 3) := by decide +kernel
theorem dJ5_putStringAt_47b60_0 : decode cJ5_putStringAt_47b60 0 = .ok (.aload_n 0, 1) := by decide +kernel
theorem dJ5_putStringAt_47b60_7 : decode cJ5_putStringAt_47b60 7 = .ok (.getfield 15, 3) := by decide +kernel
theorem dJ5_putStringAt_47b60_18 : decode cJ5_putStringAt_47b60 18 = .ok (.return_, 1) := by decide +kernel
theorem dJ0_init_81219_6 : decode cJ0_init_81219 6 = .ok (.return_, 1) := by decide +kernel
theorem dJ0_length_8abf5_6 : decode cJ0_length_8abf5 6 = .ok (.invokevirtual 335, 3) := by decide +kernel
theorem dJ0_isEmpty_aae02_4 : decode cJ0_isEmpty_aae02 4 = .ok (.arraylength, 1) := by decide +kernel
theorem dJ0_isEmpty_aae02_13 : decode cJ0_isEmpty_aae02 13 = .ok (.ireturn, 1) := by decide +kernel
theorem dJ0_charAt_5068e_8 : decode cJ0_charAt_5068e 8 = .ok (.getfield 9, 3) := by decide +kernel
theorem dJ0_equals_9ea2d_1 : decode cJ0_equals_9ea2d 1 = .ok (.aload_n 1, 1) := by decide +kernel
theorem dJ0_equals_9ea2d_8 : decode cJ0_equals_9ea2d 8 = .ok (.instanceof 10, 3) := by decide +kernel
theorem dJ0_equals_9ea2d_19 : decode cJ0_equals_9ea2d 19 = .ok (.getstatic 38, 3) := by decide +kernel
theorem dJ0_equals_9ea2d_30 : decode cJ0_equals_9ea2d 30 = .ok (.getfield 15, 3) := by decide +kernel
theorem dJ0_equals_9ea2d_41 : decode cJ0_equals_9ea2d 41 = .ok (.getfield 9, 3) := by decide +kernel
theorem dJ0_equals_9ea2d_55 : decode cJ0_equals_9ea2d 55 = .ok (.ireturn, 1) := by decide +kernel
theorem dJ0_substring_37a41_6 : decode cJ0_substring_37a41 6 = .ok (.iload_n 2, 1) := by decide +kernel
theorem dJ0_substring_37a41_15 : decode cJ0_substring_37a41 15 = .ok (.iload_n 2, 1) := by decide +kernel
theorem dJ0_substring_37a41_24 : decode cJ0_substring_37a41 24 = .ok (.isub, 1) := by decide +kernel
theorem dJ0_substring_37a41_34 : decode cJ0_substring_37a41 34 = .ok (.aload_n 0, 1) := by decide +kernel
theorem dJ0_substring_37a41_44 : decode cJ0_substring_37a41 44 = .ok (.goto 13, 3) := by decide +kernel
theorem dJ0_getBytes_840e7_5 : decode cJ0_getBytes_840e7 5 = .ok (.if_icmp .ne 23, 3) := by decide +kernel
theorem dJ0_getBytes_840e7_14 : decode cJ0_getBytes_840e7 14 = .ok (.iload_n 2, 1) := by decide +kernel
theorem dJ0_getBytes_840e7_21 : decode cJ0_getBytes_840e7 21 = .ok (.arraylength, 1) := by decide +kernel
theorem dJ0_init_db425_1 : decode cJ0_init_db425 1 = .ok (.invokespecial 1, 3) := by decide +kernel
theorem dJ0_init_db425_10 : decode cJ0_init_db425 10 = .ok (.invokevirtual 549, 3) := by decide +kernel
theorem dJ0_init_db425_22 : decode cJ0_init_db425 22 = .ok (.aload_n 0, 1) := by decide +kernel
theorem dJ0_init_db425_29 : decode cJ0_init_db425 29 = .ok (.iconst 0, 1) := by decide +kernel
theorem dJ0_init_db425_97 : decode cJ0_init_db425 97 = .ok (.return_, 1) := by decide +kernel
theorem dJ0_init_031fb_6 : decode cJ0_init_031fb 6 = .ok (.putfield 9, 3) := by decide +kernel
theorem dJ0_coder_7d493_0 : decode cJ0_coder_7d493 0 = .ok (.getstatic 38, 3) := by decide +kernel
theorem dJ0_coder_7d493_14 : decode cJ0_coder_7d493 14 = .ok (.ireturn, 1) := by decide +kernel
theorem dJ0_isLatin1_aae02_10 : decode cJ0_isLatin1_aae02 10 = .ok (.ifCond .ne 7, 3) := by decide +kernel
theorem dJ0_checkIndex_df160_1 : decode cJ0_checkIndex_df160 1 = .ok (.iload_n 1, 1) := by decide +kernel
theorem dJ0_checkBoundsBeginEnd_23922_0 : decode cJ0_checkBoundsBeginEnd_23922 0 = .ok (.iload_n 0, 1) := by decide +kernel
theorem dJ0_checkBoundsBeginEnd_23922_9 : decode cJ0_checkBoundsBeginEnd_23922 9 = .ok (.pop, 1) := by decide +kernel
theorem dJ4_init_da8c8_6 : decode cJ4_init_da8c8 6 = .ok (.return_, 1) := by decide +kernel
theorem dJ4_append_15ec4_6 : decode cJ4_append_15ec4 6 = .ok (.aload_n 0, 1) := by decide +kernel
theorem dJ4_append_cf468_5 : decode cJ4_append_cf468 5 = .ok (.pop, 1) := by decide +kernel
theorem dJ4_toString_0e30d_4 : decode cJ4_toString_0e30d 4 = .ok (.aload_n 0, 1) := by decide +kernel
theorem dJ4_setLength_d00df_2 : decode cJ4_setLength_d00df 2 = .ok (.invokespecial 333, 3) := by decide +kernel
theorem dJ1_charAt_3b067_0 : decode cJ1_charAt_3b067 0 = .ok (.iload_n 1, 1) := by decide +kernel
theorem dJ1_charAt_3b067_7 : decode cJ1_charAt_3b067 7 = .ok (.iload_n 1, 1) := by decide +kernel
theorem dJ1_charAt_3b067_14 : decode cJ1_charAt_3b067 14 = .ok (.ireturn, 1) := by decide +kernel
theorem dJ1_canEncode_fc78d_8 : decode cJ1_canEncode_fc78d 8 = .ok (.goto 4, 3) := by decide +kernel
theorem dJ1_equals_b5fdf_3 : decode cJ1_equals_b5fdf 3 = .ok (.arraylength, 1) := by decide +kernel
theorem dJ1_equals_b5fdf_10 : decode cJ1_equals_b5fdf 10 = .ok (.aload_n 0, 1) := by decide +kernel
theorem dJ1_newString_b4f7a_0 : decode cJ1_newString_b4f7a 0 = .ok (.iload_n 2, 1) := by decide +kernel
theorem dJ1_newString_b4f7a_10 : decode cJ1_newString_b4f7a 10 = .ok (.dup, 1) := by decide +kernel
theorem dJ1_newString_b4f7a_15 : decode cJ1_newString_b4f7a 15 = .ok (.iadd, 1) := by decide +kernel
theorem dJxa1e45_init_da8c8_0 : decode cJxa1e45_init_da8c8 0 = .ok (.aload_n 0, 1) := by decide +kernel
theorem dJxc12de_init_da8c8_4 : decode cJxc12de_init_da8c8 4 = .ok (.aload_n 0, 1) := by decide +kernel
theorem dJx35411_init_45d68_1 : decode cJx35411_init_45d68 1 = .ok (.aload_n 1, 1) := by decide +kernel
theorem dJx35411_init_45d68_10 : decode cJx35411_init_45d68 10 = .ok (.iconst (-1), 1) := by decide +kernel
theorem dJx35411_init_45d68_19 : decode cJx35411_init_45d68 19 = .ok (.getfield 17, 3) := by decide +kernel
theorem dJx35411_hasNext_aae02_4 : decode cJx35411_hasNext_aae02 4 = .ok (.aload_n 0, 1) := by decide +kernel
theorem dJx35411_hasNext_aae02_19 : decode cJx35411_hasNext_aae02 19 = .ok (.ireturn, 1) := by decide +kernel
theorem dJx4a65c_init_da8c8_8 : decode cJx4a65c_init_da8c8 8 = .ok (.putfield 9, 3) := by decide +kernel
theorem dJx4a65c_grow_92f84_5 : decode cJx4a65c_grow_92f84 5 = .ok (.istore_n 2, 1) := by decide +kernel
theorem dJx4a65c_grow_92f84_14 : decode cJx4a65c_grow_92f84 14 = .ok (.getstatic 39, 3) := by decide +kernel
theorem dJx4a65c_grow_92f84_49 : decode cJx4a65c_grow_92f84 49 = .ok (.invokestatic 79, 3) := by decide +kernel
theorem dJx4a65c_grow_d5877_0 : decode cJx4a65c_grow_d5877 0 = .ok (.aload_n 0, 1) := by decide +kernel
theorem dJx4a65c_grow_d5877_7 : decode cJx4a65c_grow_d5877 7 = .ok (.invokevirtual 69, 3) := by decide +kernel
theorem dJx4a65c_isEmpty_aae02_0 : decode cJx4a65c_isEmpty_aae02 0 = .ok (.aload_n 0, 1) := by decide +kernel
theorem dJx4a65c_isEmpty_aae02_12 : decode cJx4a65c_isEmpty_aae02 12 = .ok (.ireturn, 1) := by decide +kernel
theorem dJx4a65c_add_72be8_6 : decode cJx4a65c_add_72be8 6 = .ok (.aload_n 0, 1) := by decide +kernel
theorem dJx4a65c_add_72be8_13 : decode cJx4a65c_add_72be8 13 = .ok (.aload_n 1, 1) := by decide +kernel
theorem dJx4a65c_add_72be8_18 : decode cJx4a65c_add_72be8 18 = .ok (.iadd, 1) := by decide +kernel
theorem dJx4a65c_add_9ea2d_2 : decode cJx4a65c_add_9ea2d 2 = .ok (.getfield 63, 3) := by decide +kernel
theorem dJx4a65c_add_9ea2d_11 : decode cJx4a65c_add_9ea2d 11 = .ok (.aload_n 1, 1) := by decide +kernel
theorem dJx4a65c_add_9ea2d_20 : decode cJx4a65c_add_9ea2d 20 = .ok (.invokevirtual 131, 3) := by decide +kernel
theorem dJx4a65c_iterator_32c93_4 : decode cJx4a65c_iterator_32c93 4 = .ok (.aload_n 0, 1) := by decide +kernel
theorem dJ7_checkLength_df160_2 : decode cJ7_checkLength_df160 2 = .ok (.if_icmp .ge 35, 3) := by decide +kernel
theorem dJ7_copyOfRange_39247_5 : decode cJ7_copyOfRange_39247 5 = .ok (.aload_n 0, 1) := by decide +kernel
theorem dJ7_copyOfRange_39247_12 : decode cJ7_copyOfRange_39247 12 = .ok (.iload_n 2, 1) := by decide +kernel
theorem dJ7_copyOfRangeByte_39247_2 : decode cJ7_copyOfRangeByte_39247 2 = .ok (.invokestatic 343, 3) := by decide +kernel
theorem dJ7_copyOfRangeByte_39247_9 : decode cJ7_copyOfRangeByte_39247 9 = .ok (.iload_n 3, 1) := by decide +kernel
theorem dJ7_copyOfRangeByte_39247_16 : decode cJ7_copyOfRangeByte_39247 16 = .ok (.aload 4, 2) := by decide +kernel
theorem dJ7_copyOfRangeByte_39247_22 : decode cJ7_copyOfRangeByte_39247 22 = .ok (.isub, 1) := by decide +kernel
theorem dJ7_copyOfRangeByte_39247_32 : decode cJ7_copyOfRangeByte_39247 32 = .ok (.areturn, 1) := by decide +kernel
theorem dJ3_checkIndex_8e157_6 : decode cJ3_checkIndex_8e157 6 = .ok (.if_icmp .lt 10, 3) := by decide +kernel
theorem dJ3_checkFromToIndex_8c36e_4 : decode cJ3_checkFromToIndex_8c36e 4 = .ok (.iload_n 0, 1) := by decide +kernel
theorem dJ3_checkFromToIndex_8c36e_11 : decode cJ3_checkFromToIndex_8c36e 11 = .ok (.if_icmp .le 11, 3) := by decide +kernel
theorem dL_word_2 : decode cL_word 2 = .ok (.iload_n 1, 1) := by decide +kernel
theorem dL_word_11 : decode cL_word 11 = .ok (.goto 11, 3) := by decide +kernel
theorem dL_word_23 : decode cL_word 23 = .ok (.ireturn, 1) := by decide +kernel
theorem dL_mark_6 : decode cL_mark 6 = .ok (.i2l, 1) := by decide +kernel
theorem dL_mark_15 : decode cL_mark 15 = .ok (.ireturn, 1) := by decide +kernel
theorem dL_join_2 : decode cL_join 2 = .ok (.iload_n 1, 1) := by decide +kernel
theorem dL_join_17 : decode cL_join 17 = .ok (.ireturn, 1) := by decide +kernel
theorem dL_nest_4 : decode cL_nest 4 = .ok (.invokevirtual 32, 3) := by decide +kernel
theorem dL_align_1 : decode cL_align 1 = .ok (.aload_n 0, 1) := by decide +kernel
theorem dL_align_15 : decode cL_align 15 = .ok (.ireturn, 1) := by decide +kernel
theorem dL_group_13 : decode cL_group 13 = .ok (.astore_n 3, 1) := by decide +kernel
theorem dL_fill_2 : decode cL_fill 2 = .ok (.iload_n 1, 1) := by decide +kernel
theorem dL_fill_17 : decode cL_fill 17 = .ok (.ireturn, 1) := by decide +kernel
theorem dL_width_6 : decode cL_width 6 = .ok (.i2l, 1) := by decide +kernel
theorem dL_width_15 : decode cL_width 15 = .ok (.ireturn, 1) := by decide +kernel
theorem dL_ribbon_2 : decode cL_ribbon 2 = .ok (.iload_n 1, 1) := by decide +kernel
theorem dL_ribbon_13 : decode cL_ribbon 13 = .ok (.astore_n 3, 1) := by decide +kernel
theorem dL_say_0 : decode cL_say 0 = .ok (.aload 7, 2) := by decide +kernel
theorem dL_say_6 : decode cL_say 6 = .ok (.iload 4, 2) := by decide +kernel
theorem dL_say_16 : decode cL_say 16 = .ok (.putfield 13, 3) := by decide +kernel
theorem dL_say_30 : decode cL_say 30 = .ok (.iconst 0, 1) := by decide +kernel
theorem dL_read_5 : decode cL_read 5 = .ok (.i2l, 1) := by decide +kernel
theorem dL_ofNode_0 : decode cL_ofNode 0 = .ok (.aload_n 3, 1) := by decide +kernel
theorem dL_ofNode_14 : decode cL_ofNode 14 = .ok (.astore 4, 2) := by decide +kernel
theorem dL_flat_2 : decode cL_flat 2 = .ok (.iload_n 1, 1) := by decide +kernel
theorem dL_line_0 : decode cL_line 0 = .ok (.aload_n 3, 1) := by decide +kernel
theorem dL_line_13 : decode cL_line 13 = .ok (.astore 4, 2) := by decide +kernel
theorem dL_measure_2 : decode cL_measure 2 = .ok (.iload_n 1, 1) := by decide +kernel
theorem dL_measure_17 : decode cL_measure 17 = .ok (.ireturn, 1) := by decide +kernel
theorem dL_at_5 : decode cL_at 5 = .ok (.iload_n 3, 1) := by decide +kernel
theorem dL_where_0 : decode cL_where 0 = .ok (.aload 4, 2) := by decide +kernel
theorem dL_where_6 : decode cL_where 6 = .ok (.invokevirtual 80, 3) := by decide +kernel
theorem dL_isOne_1 : decode cL_isOne 1 = .ok (.aload_n 0, 1) := by decide +kernel
theorem dL_isOne_16 : decode cL_isOne 16 = .ok (.iconst 1, 1) := by decide +kernel
theorem dL_differ_4 : decode cL_differ 4 = .ok (.iload_n 2, 1) := by decide +kernel
theorem dL_differ_19 : decode cL_differ 19 = .ok (.ireturn, 1) := by decide +kernel
theorem dL_ofCode_6 : decode cL_ofCode 6 = .ok (.i2l, 1) := by decide +kernel
theorem dL_ofCode_15 : decode cL_ofCode 15 = .ok (.ireturn, 1) := by decide +kernel
theorem dL_codeLine_2 : decode cL_codeLine 2 = .ok (.iload_n 1, 1) := by decide +kernel
theorem dL_codeLine_13 : decode cL_codeLine 13 = .ok (.iconst 1, 1) := by decide +kernel
theorem dL_house_1 : decode cL_house 1 = .ok (.aload_n 0, 1) := by decide +kernel
theorem dL_house_10 : decode cL_house 10 = .ok (.goto 6, 3) := by decide +kernel
theorem dL_house_17 : decode cL_house 17 = .ok (.ireturn, 1) := by decide +kernel
theorem dL_fits_4 : decode cL_fits 4 = .ok (.invokevirtual 99, 3) := by decide +kernel
theorem dL_would_2 : decode cL_would 2 = .ok (.aload_n 0, 1) := by decide +kernel
theorem dL_would_16 : decode cL_would 16 = .ok (.astore 5, 2) := by decide +kernel
theorem dL_narrowest_2 : decode cL_narrowest 2 = .ok (.iload_n 1, 1) := by decide +kernel
theorem dL_least_0 : decode cL_least 0 = .ok (.aload_n 3, 1) := by decide +kernel
theorem dL_least_14 : decode cL_least 14 = .ok (.astore 4, 2) := by decide +kernel
theorem dL_leastLine_2 : decode cL_leastLine 2 = .ok (.iload_n 1, 1) := by decide +kernel
theorem dL_leastLine_16 : decode cL_leastLine 16 = .ok (.ireturn, 1) := by decide +kernel
theorem dL_law_8 : decode cL_law 8 = .ok (.new 116, 3) := by decide +kernel
theorem dL_law_19 : decode cL_law 19 = .ok (.dup, 1) := by decide +kernel
theorem dL_law_27 : decode cL_law 27 = .ok (.iload 4, 2) := by decide +kernel
theorem dL_law_34 : decode cL_law 34 = .ok (.if_icmp .gt 2188, 3) := by decide +kernel
theorem dL_law_43 : decode cL_law 43 = .ok (.iand, 1) := by decide +kernel
theorem dL_law_208 : decode cL_law 208 = .ok (.iconst 1, 1) := by decide +kernel
theorem dL_law_214 : decode cL_law 214 = .ok (.iconst 2, 1) := by decide +kernel
theorem dL_law_221 : decode cL_law 221 = .ok (.istore 5, 2) := by decide +kernel
theorem dL_law_228 : decode cL_law 228 = .ok (.iadd, 1) := by decide +kernel
theorem dL_law_234 : decode cL_law 234 = .ok (.iadd, 1) := by decide +kernel
theorem dL_law_242 : decode cL_law 242 = .ok (.invokevirtual 126, 3) := by decide +kernel
theorem dL_law_257 : decode cL_law 257 = .ok (.aload_n 3, 1) := by decide +kernel
theorem dL_law_265 : decode cL_law 265 = .ok (.ifCond .eq 5, 3) := by decide +kernel
theorem dL_law_277 : decode cL_law 277 = .ok (.iconst 1, 1) := by decide +kernel
theorem dL_law_284 : decode cL_law 284 = .ok (.istore 5, 2) := by decide +kernel
theorem dL_law_291 : decode cL_law 291 = .ok (.iadd, 1) := by decide +kernel
theorem dL_law_299 : decode cL_law 299 = .ok (.invokevirtual 126, 3) := by decide +kernel
theorem dL_law_314 : decode cL_law 314 = .ok (.aload_n 3, 1) := by decide +kernel
theorem dL_law_322 : decode cL_law 322 = .ok (.ifCond .eq 5, 3) := by decide +kernel
theorem dL_law_334 : decode cL_law 334 = .ok (.iconst 1, 1) := by decide +kernel
theorem dL_law_340 : decode cL_law 340 = .ok (.iconst 2, 1) := by decide +kernel
theorem dL_law_347 : decode cL_law 347 = .ok (.istore 5, 2) := by decide +kernel
theorem dL_law_354 : decode cL_law 354 = .ok (.iadd, 1) := by decide +kernel
theorem dL_law_360 : decode cL_law 360 = .ok (.iadd, 1) := by decide +kernel
theorem dL_law_368 : decode cL_law 368 = .ok (.invokevirtual 126, 3) := by decide +kernel
theorem dL_law_396 : decode cL_law 396 = .ok (.goto 1820, 3) := by decide +kernel
theorem dL_law_404 : decode cL_law 404 = .ok (.iadd, 1) := by decide +kernel
theorem dL_law_410 : decode cL_law 410 = .ok (.iadd, 1) := by decide +kernel
theorem dL_law_418 : decode cL_law 418 = .ok (.aload_n 2, 1) := by decide +kernel
theorem dL_law_424 : decode cL_law 424 = .ok (.iaload, 1) := by decide +kernel
theorem dL_law_430 : decode cL_law 430 = .ok (.iaload, 1) := by decide +kernel
theorem dL_law_440 : decode cL_law 440 = .ok (.iload 5, 2) := by decide +kernel
theorem dL_law_468 : decode cL_law 468 = .ok (.aload_n 1, 1) := by decide +kernel
theorem dL_law_474 : decode cL_law 474 = .ok (.iaload, 1) := by decide +kernel
theorem dL_law_482 : decode cL_law 482 = .ok (.aload_n 0, 1) := by decide +kernel
theorem dL_law_488 : decode cL_law 488 = .ok (.invokevirtual 141, 3) := by decide +kernel
theorem dL_law_499 : decode cL_law 499 = .ok (.if_icmp .eq 5, 3) := by decide +kernel
theorem dL_law_526 : decode cL_law 526 = .ok (.aload_n 0, 1) := by decide +kernel
theorem dL_law_532 : decode cL_law 532 = .ok (.aload_n 3, 1) := by decide +kernel
theorem dL_law_540 : decode cL_law 540 = .ok (.iload 4, 2) := by decide +kernel
theorem dL_law_548 : decode cL_law 548 = .ok (.istore 6, 2) := by decide +kernel
theorem dL_law_561 : decode cL_law 561 = .ok (.iload 5, 2) := by decide +kernel
theorem dL_law_584 : decode cL_law 584 = .ok (.iload 4, 2) := by decide +kernel
theorem dL_law_590 : decode cL_law 590 = .ok (.iload 4, 2) := by decide +kernel
theorem dL_law_596 : decode cL_law 596 = .ok (.invokestatic 145, 3) := by decide +kernel
theorem dL_law_605 : decode cL_law 605 = .ok (.iconst 1, 1) := by decide +kernel
theorem dL_law_611 : decode cL_law 611 = .ok (.iconst 2, 1) := by decide +kernel
theorem dL_law_619 : decode cL_law 619 = .ok (.aload_n 2, 1) := by decide +kernel
theorem dL_law_632 : decode cL_law 632 = .ok (.ifCond .ne 16, 3) := by decide +kernel
theorem dL_law_656 : decode cL_law 656 = .ok (.invokevirtual 151, 3) := by decide +kernel
theorem dL_law_668 : decode cL_law 668 = .ok (.iconst 1, 1) := by decide +kernel
theorem dL_law_675 : decode cL_law 675 = .ok (.istore 5, 2) := by decide +kernel
theorem dL_law_682 : decode cL_law 682 = .ok (.iadd, 1) := by decide +kernel
theorem dL_law_690 : decode cL_law 690 = .ok (.invokevirtual 126, 3) := by decide +kernel
theorem dL_law_705 : decode cL_law 705 = .ok (.aload_n 3, 1) := by decide +kernel
theorem dL_law_713 : decode cL_law 713 = .ok (.ifCond .eq 5, 3) := by decide +kernel
theorem dL_law_725 : decode cL_law 725 = .ok (.iconst 1, 1) := by decide +kernel
theorem dL_law_732 : decode cL_law 732 = .ok (.istore 5, 2) := by decide +kernel
theorem dL_law_739 : decode cL_law 739 = .ok (.iadd, 1) := by decide +kernel
theorem dL_law_747 : decode cL_law 747 = .ok (.invokevirtual 126, 3) := by decide +kernel
theorem dL_law_762 : decode cL_law 762 = .ok (.aload_n 3, 1) := by decide +kernel
theorem dL_law_770 : decode cL_law 770 = .ok (.ifCond .eq 5, 3) := by decide +kernel
theorem dL_law_782 : decode cL_law 782 = .ok (.iconst 1, 1) := by decide +kernel
theorem dL_law_788 : decode cL_law 788 = .ok (.iconst 2, 1) := by decide +kernel
theorem dL_law_794 : decode cL_law 794 = .ok (.iconst 3, 1) := by decide +kernel
theorem dL_law_800 : decode cL_law 800 = .ok (.iconst 4, 1) := by decide +kernel
theorem dL_law_806 : decode cL_law 806 = .ok (.iconst 5, 1) := by decide +kernel
theorem dL_law_812 : decode cL_law 812 = .ok (.bipush 6, 2) := by decide +kernel
theorem dL_law_820 : decode cL_law 820 = .ok (.istore 5, 2) := by decide +kernel
theorem dL_law_827 : decode cL_law 827 = .ok (.iadd, 1) := by decide +kernel
theorem dL_law_833 : decode cL_law 833 = .ok (.iadd, 1) := by decide +kernel
theorem dL_law_839 : decode cL_law 839 = .ok (.iadd, 1) := by decide +kernel
theorem dL_law_845 : decode cL_law 845 = .ok (.iadd, 1) := by decide +kernel
theorem dL_law_851 : decode cL_law 851 = .ok (.iadd, 1) := by decide +kernel
theorem dL_law_858 : decode cL_law 858 = .ok (.iadd, 1) := by decide +kernel
theorem dL_law_866 : decode cL_law 866 = .ok (.invokevirtual 126, 3) := by decide +kernel
theorem dL_law_881 : decode cL_law 881 = .ok (.aload_n 3, 1) := by decide +kernel
theorem dL_law_889 : decode cL_law 889 = .ok (.ifCond .eq 5, 3) := by decide +kernel
theorem dL_law_902 : decode cL_law 902 = .ok (.istore 5, 2) := by decide +kernel
theorem dL_law_911 : decode cL_law 911 = .ok (.invokevirtual 126, 3) := by decide +kernel
theorem dL_law_926 : decode cL_law 926 = .ok (.aload_n 3, 1) := by decide +kernel
theorem dL_law_934 : decode cL_law 934 = .ok (.ifCond .eq 5, 3) := by decide +kernel
theorem dL_law_947 : decode cL_law 947 = .ok (.invokevirtual 169, 3) := by decide +kernel
theorem dL_law_960 : decode cL_law 960 = .ok (.invokevirtual 173, 3) := by decide +kernel
theorem dL_law_973 : decode cL_law 973 = .ok (.invokevirtual 177, 3) := by decide +kernel
theorem dL_law_985 : decode cL_law 985 = .ok (.iconst 1, 1) := by decide +kernel
theorem dL_law_991 : decode cL_law 991 = .ok (.iconst 2, 1) := by decide +kernel
theorem dL_law_998 : decode cL_law 998 = .ok (.istore 5, 2) := by decide +kernel
theorem dL_law_1005 : decode cL_law 1005 = .ok (.iadd, 1) := by decide +kernel
theorem dL_law_1011 : decode cL_law 1011 = .ok (.iadd, 1) := by decide +kernel
theorem dL_law_1019 : decode cL_law 1019 = .ok (.invokevirtual 126, 3) := by decide +kernel
theorem dL_law_1047 : decode cL_law 1047 = .ok (.goto 1169, 3) := by decide +kernel
theorem dL_law_1055 : decode cL_law 1055 = .ok (.iadd, 1) := by decide +kernel
theorem dL_law_1063 : decode cL_law 1063 = .ok (.aload_n 2, 1) := by decide +kernel
theorem dL_law_1069 : decode cL_law 1069 = .ok (.iaload, 1) := by decide +kernel
theorem dL_law_1079 : decode cL_law 1079 = .ok (.iload 5, 2) := by decide +kernel
theorem dL_law_1108 : decode cL_law 1108 = .ok (.aload_n 1, 1) := by decide +kernel
theorem dL_law_1114 : decode cL_law 1114 = .ok (.iaload, 1) := by decide +kernel
theorem dL_law_1120 : decode cL_law 1120 = .ok (.iaload, 1) := by decide +kernel
theorem dL_law_1128 : decode cL_law 1128 = .ok (.aload_n 0, 1) := by decide +kernel
theorem dL_law_1134 : decode cL_law 1134 = .ok (.aload_n 0, 1) := by decide +kernel
theorem dL_law_1140 : decode cL_law 1140 = .ok (.invokevirtual 192, 3) := by decide +kernel
theorem dL_law_1151 : decode cL_law 1151 = .ok (.if_icmp .eq 5, 3) := by decide +kernel
theorem dL_law_1179 : decode cL_law 1179 = .ok (.aload_n 0, 1) := by decide +kernel
theorem dL_law_1185 : decode cL_law 1185 = .ok (.aload_n 0, 1) := by decide +kernel
theorem dL_law_1191 : decode cL_law 1191 = .ok (.aload_n 3, 1) := by decide +kernel
theorem dL_law_1199 : decode cL_law 1199 = .ok (.iload 4, 2) := by decide +kernel
theorem dL_law_1205 : decode cL_law 1205 = .ok (.iload 4, 2) := by decide +kernel
theorem dL_law_1213 : decode cL_law 1213 = .ok (.istore 6, 2) := by decide +kernel
theorem dL_law_1226 : decode cL_law 1226 = .ok (.iload 5, 2) := by decide +kernel
theorem dL_law_1249 : decode cL_law 1249 = .ok (.iload 4, 2) := by decide +kernel
theorem dL_law_1255 : decode cL_law 1255 = .ok (.iload 4, 2) := by decide +kernel
theorem dL_law_1261 : decode cL_law 1261 = .ok (.iload 4, 2) := by decide +kernel
theorem dL_law_1267 : decode cL_law 1267 = .ok (.invokestatic 196, 3) := by decide +kernel
theorem dL_law_1276 : decode cL_law 1276 = .ok (.iconst 1, 1) := by decide +kernel
theorem dL_law_1282 : decode cL_law 1282 = .ok (.iconst 2, 1) := by decide +kernel
theorem dL_law_1288 : decode cL_law 1288 = .ok (.iconst 3, 1) := by decide +kernel
theorem dL_law_1296 : decode cL_law 1296 = .ok (.aload_n 2, 1) := by decide +kernel
theorem dL_law_1309 : decode cL_law 1309 = .ok (.ifCond .ne 16, 3) := by decide +kernel
theorem dL_law_1332 : decode cL_law 1332 = .ok (.iconst 1, 1) := by decide +kernel
theorem dL_law_1338 : decode cL_law 1338 = .ok (.iconst 2, 1) := by decide +kernel
theorem dL_law_1344 : decode cL_law 1344 = .ok (.iconst 3, 1) := by decide +kernel
theorem dL_law_1351 : decode cL_law 1351 = .ok (.goto 4, 3) := by decide +kernel
theorem dL_law_1361 : decode cL_law 1361 = .ok (.aload_n 2, 1) := by decide +kernel
theorem dL_law_1367 : decode cL_law 1367 = .ok (.iaload, 1) := by decide +kernel
theorem dL_law_1373 : decode cL_law 1373 = .ok (.iaload, 1) := by decide +kernel
theorem dL_law_1379 : decode cL_law 1379 = .ok (.iaload, 1) := by decide +kernel
theorem dL_law_1388 : decode cL_law 1388 = .ok (.invokevirtual 203, 3) := by decide +kernel
theorem dL_law_1399 : decode cL_law 1399 = .ok (.if_icmp .eq 5, 3) := by decide +kernel
theorem dL_law_1426 : decode cL_law 1426 = .ok (.aload_n 0, 1) := by decide +kernel
theorem dL_law_1432 : decode cL_law 1432 = .ok (.aload_n 0, 1) := by decide +kernel
theorem dL_law_1438 : decode cL_law 1438 = .ok (.aload_n 3, 1) := by decide +kernel
theorem dL_law_1446 : decode cL_law 1446 = .ok (.iload 4, 2) := by decide +kernel
theorem dL_law_1452 : decode cL_law 1452 = .ok (.iload 4, 2) := by decide +kernel
theorem dL_law_1460 : decode cL_law 1460 = .ok (.istore 6, 2) := by decide +kernel
theorem dL_law_1473 : decode cL_law 1473 = .ok (.iload 5, 2) := by decide +kernel
theorem dL_law_1496 : decode cL_law 1496 = .ok (.iload 4, 2) := by decide +kernel
theorem dL_law_1502 : decode cL_law 1502 = .ok (.iload 4, 2) := by decide +kernel
theorem dL_law_1508 : decode cL_law 1508 = .ok (.iload 4, 2) := by decide +kernel
theorem dL_law_1516 : decode cL_law 1516 = .ok (.iconst 1, 1) := by decide +kernel
theorem dL_law_1525 : decode cL_law 1525 = .ok (.istore 5, 2) := by decide +kernel
theorem dL_law_1532 : decode cL_law 1532 = .ok (.iadd, 1) := by decide +kernel
theorem dL_law_1538 : decode cL_law 1538 = .ok (.iadd, 1) := by decide +kernel
theorem dL_law_1544 : decode cL_law 1544 = .ok (.iadd, 1) := by decide +kernel
theorem dL_law_1553 : decode cL_law 1553 = .ok (.iconst 0, 1) := by decide +kernel
theorem dL_law_1563 : decode cL_law 1563 = .ok (.iload 5, 2) := by decide +kernel
theorem dL_law_1591 : decode cL_law 1591 = .ok (.aload_n 1, 1) := by decide +kernel
theorem dL_law_1602 : decode cL_law 1602 = .ok (.ifCond .ne 614, 3) := by decide +kernel
theorem dL_law_1612 : decode cL_law 1612 = .ok (.iadd, 1) := by decide +kernel
theorem dL_law_1621 : decode cL_law 1621 = .ok (.iconst 0, 1) := by decide +kernel
theorem dL_law_1629 : decode cL_law 1629 = .ok (.iconst 1, 1) := by decide +kernel
theorem dL_law_1636 : decode cL_law 1636 = .ok (.goto 4, 3) := by decide +kernel
theorem dL_law_1649 : decode cL_law 1649 = .ok (.aload_n 0, 1) := by decide +kernel
theorem dL_law_1655 : decode cL_law 1655 = .ok (.aload_n 3, 1) := by decide +kernel
theorem dL_law_1663 : decode cL_law 1663 = .ok (.iload 4, 2) := by decide +kernel
theorem dL_law_1671 : decode cL_law 1671 = .ok (.istore 6, 2) := by decide +kernel
theorem dL_law_1684 : decode cL_law 1684 = .ok (.iload 5, 2) := by decide +kernel
theorem dL_law_1695 : decode cL_law 1695 = .ok (.i2l, 1) := by decide +kernel
theorem dL_law_1706 : decode cL_law 1706 = .ok (.invokevirtual 223, 3) := by decide +kernel
theorem dL_law_1721 : decode cL_law 1721 = .ok (.aload_n 1, 1) := by decide +kernel
theorem dL_law_1727 : decode cL_law 1727 = .ok (.iaload, 1) := by decide +kernel
theorem dL_law_1735 : decode cL_law 1735 = .ok (.aload_n 0, 1) := by decide +kernel
theorem dL_law_1741 : decode cL_law 1741 = .ok (.invokevirtual 229, 3) := by decide +kernel
theorem dL_law_1752 : decode cL_law 1752 = .ok (.if_icmp .eq 5, 3) := by decide +kernel
theorem dL_law_1766 : decode cL_law 1766 = .ok (.aload 6, 2) := by decide +kernel
theorem dL_law_1780 : decode cL_law 1780 = .ok (.aload_n 0, 1) := by decide +kernel
theorem dL_law_1786 : decode cL_law 1786 = .ok (.aload_n 3, 1) := by decide +kernel
theorem dL_law_1794 : decode cL_law 1794 = .ok (.iload 4, 2) := by decide +kernel
theorem dL_law_1802 : decode cL_law 1802 = .ok (.istore 6, 2) := by decide +kernel
theorem dL_law_1815 : decode cL_law 1815 = .ok (.iload 5, 2) := by decide +kernel
theorem dL_law_1826 : decode cL_law 1826 = .ok (.i2l, 1) := by decide +kernel
theorem dL_law_1837 : decode cL_law 1837 = .ok (.aload_n 0, 1) := by decide +kernel
theorem dL_law_1843 : decode cL_law 1843 = .ok (.aload_n 0, 1) := by decide +kernel
theorem dL_law_1849 : decode cL_law 1849 = .ok (.aload_n 3, 1) := by decide +kernel
theorem dL_law_1857 : decode cL_law 1857 = .ok (.iload 4, 2) := by decide +kernel
theorem dL_law_1863 : decode cL_law 1863 = .ok (.iload 4, 2) := by decide +kernel
theorem dL_law_1871 : decode cL_law 1871 = .ok (.istore 6, 2) := by decide +kernel
theorem dL_law_1884 : decode cL_law 1884 = .ok (.iload 5, 2) := by decide +kernel
theorem dL_law_1914 : decode cL_law 1914 = .ok (.iload 4, 2) := by decide +kernel
theorem dL_law_1920 : decode cL_law 1920 = .ok (.iload 4, 2) := by decide +kernel
theorem dL_law_1926 : decode cL_law 1926 = .ok (.iload 4, 2) := by decide +kernel
theorem dL_law_1932 : decode cL_law 1932 = .ok (.invokestatic 236, 3) := by decide +kernel
theorem dL_law_1941 : decode cL_law 1941 = .ok (.iconst 1, 1) := by decide +kernel
theorem dL_law_1947 : decode cL_law 1947 = .ok (.iconst 2, 1) := by decide +kernel
theorem dL_law_1953 : decode cL_law 1953 = .ok (.iconst 3, 1) := by decide +kernel
theorem dL_law_1961 : decode cL_law 1961 = .ok (.aload_n 2, 1) := by decide +kernel
theorem dL_law_1974 : decode cL_law 1974 = .ok (.ifCond .ne 16, 3) := by decide +kernel
theorem dL_law_1997 : decode cL_law 1997 = .ok (.iconst 1, 1) := by decide +kernel
theorem dL_law_2004 : decode cL_law 2004 = .ok (.istore 5, 2) := by decide +kernel
theorem dL_law_2011 : decode cL_law 2011 = .ok (.iadd, 1) := by decide +kernel
theorem dL_law_2019 : decode cL_law 2019 = .ok (.invokevirtual 126, 3) := by decide +kernel
theorem dL_law_2047 : decode cL_law 2047 = .ok (.goto 169, 3) := by decide +kernel
theorem dL_law_2055 : decode cL_law 2055 = .ok (.iadd, 1) := by decide +kernel
theorem dL_law_2061 : decode cL_law 2061 = .ok (.iadd, 1) := by decide +kernel
theorem dL_law_2069 : decode cL_law 2069 = .ok (.aload_n 2, 1) := by decide +kernel
theorem dL_law_2075 : decode cL_law 2075 = .ok (.iaload, 1) := by decide +kernel
theorem dL_law_2081 : decode cL_law 2081 = .ok (.iaload, 1) := by decide +kernel
theorem dL_law_2091 : decode cL_law 2091 = .ok (.iload 5, 2) := by decide +kernel
theorem dL_law_2119 : decode cL_law 2119 = .ok (.aload_n 1, 1) := by decide +kernel
theorem dL_law_2125 : decode cL_law 2125 = .ok (.iaload, 1) := by decide +kernel
theorem dL_law_2131 : decode cL_law 2131 = .ok (.iaload, 1) := by decide +kernel
theorem dL_law_2139 : decode cL_law 2139 = .ok (.aload_n 0, 1) := by decide +kernel
theorem dL_law_2145 : decode cL_law 2145 = .ok (.aload_n 0, 1) := by decide +kernel
theorem dL_law_2151 : decode cL_law 2151 = .ok (.invokevirtual 247, 3) := by decide +kernel
theorem dL_law_2162 : decode cL_law 2162 = .ok (.if_icmp .eq 5, 3) := by decide +kernel
theorem dL_law_2190 : decode cL_law 2190 = .ok (.invokevirtual 248, 3) := by decide +kernel
theorem dL_law_2203 : decode cL_law 2203 = .ok (.invokevirtual 253, 3) := by decide +kernel
theorem dL_law_2216 : decode cL_law 2216 = .ok (.iinc 4 7, 3) := by decide +kernel

theorem dX0_init_1 : decode cX0_init 1 = .ok (.invokespecial 3, 3) := by decide +kernel
theorem dX0_init_10 : decode cX0_init 10 = .ok (.invokespecial 11, 3) := by decide +kernel
theorem dX0_init_21 : decode cX0_init 21 = .ok (.iconst 4, 1) := by decide +kernel
theorem dX0_init_32 : decode cX0_init 32 = .ok (.dup, 1) := by decide +kernel
theorem dX0_init_41 : decode cX0_init 41 = .ok (.new 9, 3) := by decide +kernel
theorem dX0_init_52 : decode cX0_init 52 = .ok (.aload_n 0, 1) := by decide +kernel
theorem dX0_init_61 : decode cX0_init 61 = .ok (.putfield 29, 3) := by decide +kernel
theorem dX0_init_70 : decode cX0_init 70 = .ok (.invokespecial 11, 3) := by decide +kernel
theorem dX0_init_81 : decode cX0_init 81 = .ok (.bipush 60, 2) := by decide +kernel
theorem dX0_init_91 : decode cX0_init 91 = .ok (.putfield 38, 3) := by decide +kernel
theorem dX0_init_100 : decode cX0_init 100 = .ok (.iconst 0, 1) := by decide +kernel
theorem dX0_init_109 : decode cX0_init 109 = .ok (.return_, 1) := by decide +kernel
theorem dX0_faultOf_6 : decode cX0_faultOf 6 = .ok (.invokevirtual 57, 3) := by decide +kernel
theorem dX0_faultOf_13 : decode cX0_faultOf 13 = .ok (.invokevirtual 60, 3) := by decide +kernel
theorem dX0_faultOf_109 : decode cX0_faultOf 109 = .ok (.ifCond .gt 10, 3) := by decide +kernel
theorem dX0_faultOf_120 : decode cX0_faultOf 120 = .ok (.invokevirtual 60, 3) := by decide +kernel
theorem dX0_begin_7 : decode cX0_begin 7 = .ok (.aload_n 0, 1) := by decide +kernel
theorem dX0_begin_18 : decode cX0_begin 18 = .ok (.invokevirtual 100, 3) := by decide +kernel
theorem dX0_begin_29 : decode cX0_begin 29 = .ok (.getfield 29, 3) := by decide +kernel
theorem dX0_begin_42 : decode cX0_begin 42 = .ok (.aload_n 0, 1) := by decide +kernel
theorem dX0_begin_51 : decode cX0_begin 51 = .ok (.putfield 38, 3) := by decide +kernel
theorem dX0_startSum_1 : decode cX0_startSum 1 = .ok (.aload_n 0, 1) := by decide +kernel
theorem dX0_startSum_12 : decode cX0_startSum 12 = .ok (.aload_n 0, 1) := by decide +kernel
theorem dX0_isBehindFactor_0 : decode cX0_isBehindFactor 0 = .ok (.aload_n 0, 1) := by decide +kernel
theorem dX0_isBehindFactor_9 : decode cX0_isBehindFactor 9 = .ok (.getfield 38, 3) := by decide +kernel
theorem dX1_init_0 : decode cX1_init 0 = .ok (.aload_n 0, 1) := by decide +kernel
theorem dX1_init_9 : decode cX1_init 9 = .ok (.iconst 4, 1) := by decide +kernel
theorem dX1_init_20 : decode cX1_init 20 = .ok (.dup, 1) := by decide +kernel
theorem dX1_init_29 : decode cX1_init 29 = .ok (.new 9, 3) := by decide +kernel
theorem dX1_init_41 : decode cX1_init 41 = .ok (.return_, 1) := by decide +kernel
theorem dX1_faultOf_8 : decode cX1_faultOf 8 = .ok (.istore_n 2, 1) := by decide +kernel
theorem dX1_faultOf_115 : decode cX1_faultOf 115 = .ok (.aload_n 0, 1) := by decide +kernel
theorem dX1_faultOf_126 : decode cX1_faultOf 126 = .ok (.goto 7, 3) := by decide +kernel
theorem dX1_build_7 : decode cX1_build 7 = .ok (.aload_n 0, 1) := by decide +kernel
theorem dX1_build_16 : decode cX1_build 16 = .ok (.iconst 0, 1) := by decide +kernel
theorem dX1_build_25 : decode cX1_build 25 = .ok (.if_icmp .ge 76, 3) := by decide +kernel
theorem dX1_build_107 : decode cX1_build 107 = .ok (.ireturn, 1) := by decide +kernel
theorem dX1_gathered_8 : decode cX1_gathered 8 = .ok (.isub, 1) := by decide +kernel
theorem dX1_gathered_15 : decode cX1_gathered 15 = .ok (.iconst 0, 1) := by decide +kernel
theorem dX2_init_4 : decode cX2_init 4 = .ok (.aload_n 0, 1) := by decide +kernel
theorem dX2_init_15 : decode cX2_init 15 = .ok (.aload_n 0, 1) := by decide +kernel
theorem dX2_init_26 : decode cX2_init 26 = .ok (.putfield 23, 3) := by decide +kernel
theorem dX2_init_37 : decode cX2_init 37 = .ok (.invokespecial 20, 3) := by decide +kernel
theorem dX2_init_48 : decode cX2_init 48 = .ok (.bipush 100, 2) := by decide +kernel
theorem dX2_init_60 : decode cX2_init 60 = .ok (.dup, 1) := by decide +kernel
theorem dX2_init_70 : decode cX2_init 70 = .ok (.new 18, 3) := by decide +kernel
theorem dX2_init_82 : decode cX2_init 82 = .ok (.aload_n 0, 1) := by decide +kernel
theorem dX2_init_92 : decode cX2_init 92 = .ok (.putfield 39, 3) := by decide +kernel
theorem dX2_init_103 : decode cX2_init 103 = .ok (.invokespecial 20, 3) := by decide +kernel
theorem dX2_init_114 : decode cX2_init 114 = .ok (.aload_n 0, 1) := by decide +kernel
theorem dX2_init_121 : decode cX2_init 121 = .ok (.putfield 52, 3) := by decide +kernel
theorem dX2_init_130 : decode cX2_init 130 = .ok (.iconst 0, 1) := by decide +kernel
theorem dX2_init_139 : decode cX2_init 139 = .ok (.aload_n 0, 1) := by decide +kernel
theorem dX2_init_146 : decode cX2_init 146 = .ok (.putfield 67, 3) := by decide +kernel
theorem dX2_init_155 : decode cX2_init 155 = .ok (.new 73, 3) := by decide +kernel
theorem dX2_init_166 : decode cX2_init 166 = .ok (.return_, 1) := by decide +kernel
theorem dX3_init_8 : decode cX3_init 8 = .ok (.dup, 1) := by decide +kernel
theorem dX3_init_18 : decode cX3_init 18 = .ok (.new 9, 3) := by decide +kernel
theorem dX3_init_31 : decode cX3_init 31 = .ok (.aload_n 0, 1) := by decide +kernel
theorem dX3_init_42 : decode cX3_init 42 = .ok (.putfield 23, 3) := by decide +kernel
theorem dX3_init_53 : decode cX3_init 53 = .ok (.invokespecial 11, 3) := by decide +kernel
theorem dX3_init_64 : decode cX3_init 64 = .ok (.sipush 4960, 3) := by decide +kernel
theorem dX3_init_77 : decode cX3_init 77 = .ok (.dup, 1) := by decide +kernel
theorem dX3_init_88 : decode cX3_init 88 = .ok (.new 9, 3) := by decide +kernel
theorem dX3_init_101 : decode cX3_init 101 = .ok (.aload_n 0, 1) := by decide +kernel
theorem dX3_init_112 : decode cX3_init 112 = .ok (.putfield 38, 3) := by decide +kernel
theorem dX3_init_123 : decode cX3_init 123 = .ok (.invokespecial 11, 3) := by decide +kernel
theorem dX3_count_4 : decode cX3_count 4 = .ok (.invokevirtual 44, 3) := by decide +kernel
theorem dX3_has_5 : decode cX3_has 5 = .ok (.aload_n 0, 1) := by decide +kernel
theorem dX3_has_20 : decode cX3_has 20 = .ok (.ireturn, 1) := by decide +kernel
theorem dX3_weightOfAll_1 : decode cX3_weightOfAll 1 = .ok (.istore_n 1, 1) := by decide +kernel
theorem dX3_weightOfAll_6 : decode cX3_weightOfAll 6 = .ok (.getfield 14, 3) := by decide +kernel
theorem dX3_clear_0 : decode cX3_clear 0 = .ok (.aload_n 0, 1) := by decide +kernel
theorem dX3_clear_11 : decode cX3_clear 11 = .ok (.invokevirtual 55, 3) := by decide +kernel
theorem dX3_clear_22 : decode cX3_clear 22 = .ok (.getfield 26, 3) := by decide +kernel
theorem dX3_clear_35 : decode cX3_clear 35 = .ok (.aload_n 0, 1) := by decide +kernel
theorem dX3_clear_46 : decode cX3_clear 46 = .ok (.invokevirtual 55, 3) := by decide +kernel
theorem dX3_clear_57 : decode cX3_clear 57 = .ok (.getfield 41, 3) := by decide +kernel
theorem dX3_number_4 : decode cX3_number 4 = .ok (.iload_n 1, 1) := by decide +kernel
theorem dX3_number_15 : decode cX3_number 15 = .ok (.iconst 1, 1) := by decide +kernel
theorem dX3_addSign_4 : decode cX3_addSign 4 = .ok (.iload_n 1, 1) := by decide +kernel
theorem dX3_addText_2 : decode cX3_addText 2 = .ok (.aload_n 0, 1) := by decide +kernel
theorem dX3_addText_11 : decode cX3_addText 11 = .ok (.iload_n 1, 1) := by decide +kernel
theorem dX3_addText_18 : decode cX3_addText 18 = .ok (.ireturn, 1) := by decide +kernel
theorem dX3_addMark_4 : decode cX3_addMark 4 = .ok (.iconst 0, 1) := by decide +kernel
theorem dX3_addPlace_0 : decode cX3_addPlace 0 = .ok (.aload_n 0, 1) := by decide +kernel
theorem dX3_addPlace_9 : decode cX3_addPlace 9 = .ok (.getfield 23, 3) := by decide +kernel
theorem dX3_addPlace_20 : decode cX3_addPlace 20 = .ok (.iload_n 3, 1) := by decide +kernel
theorem dX3_addPlace_30 : decode cX3_addPlace 30 = .ok (.invokevirtual 58, 3) := by decide +kernel
theorem dX3_addPlace_42 : decode cX3_addPlace 42 = .ok (.aload_n 0, 1) := by decide +kernel
theorem dX3_addPlace_52 : decode cX3_addPlace 52 = .ok (.getfield 20, 3) := by decide +kernel
theorem dX4_init_0 : decode cX4_init 0 = .ok (.aload_n 0, 1) := by decide +kernel
theorem dX4_init_9 : decode cX4_init 9 = .ok (.aload_n 0, 1) := by decide +kernel
theorem dX4_init_19 : decode cX4_init 19 = .ok (.newarray .int, 2) := by decide +kernel
theorem dX4_size_4 : decode cX4_size 4 = .ok (.ireturn, 1) := by decide +kernel
theorem dX4_get_6 : decode cX4_get 6 = .ok (.getfield 7, 3) := by decide +kernel
theorem dX4_get_17 : decode cX4_get 17 = .ok (.arraylength, 1) := by decide +kernel
theorem dX4_get_26 : decode cX4_get 26 = .ok (.iaload, 1) := by decide +kernel
theorem dX4_add_4 : decode cX4_add 4 = .ok (.ifCond .lt 35, 3) := by decide +kernel
theorem dX4_add_15 : decode cX4_add 15 = .ok (.arraylength, 1) := by decide +kernel
theorem dX4_add_24 : decode cX4_add 24 = .ok (.getfield 7, 3) := by decide +kernel
theorem dX4_add_31 : decode cX4_add 31 = .ok (.getfield 7, 3) := by decide +kernel
theorem dX4_cut_0 : decode cX4_cut 0 = .ok (.iload_n 1, 1) := by decide +kernel
theorem dX4_cut_9 : decode cX4_cut 9 = .ok (.if_icmp .ge 8, 3) := by decide +kernel
theorem dX4_clear_0 : decode cX4_clear 0 = .ok (.aload_n 0, 1) := by decide +kernel
theorem dX4_copy_1 : decode cX4_copy 1 = .ok (.iconst 0, 1) := by decide +kernel
theorem dX4_copy_8 : decode cX4_copy 8 = .ok (.aload_n 1, 1) := by decide +kernel
theorem dX5_init_1 : decode cX5_init 1 = .ok (.invokespecial 3, 3) := by decide +kernel
theorem dX5_init_12 : decode cX5_init 12 = .ok (.invokespecial 11, 3) := by decide +kernel
theorem dX5_init_23 : decode cX5_init 23 = .ok (.sipush 2500, 3) := by decide +kernel
theorem dX5_init_36 : decode cX5_init 36 = .ok (.dup, 1) := by decide +kernel
theorem dX5_init_47 : decode cX5_init 47 = .ok (.new 9, 3) := by decide +kernel
theorem dX5_init_60 : decode cX5_init 60 = .ok (.aload_n 0, 1) := by decide +kernel
theorem dX5_init_70 : decode cX5_init 70 = .ok (.putfield 29, 3) := by decide +kernel
theorem dX5_init_81 : decode cX5_init 81 = .ok (.invokespecial 11, 3) := by decide +kernel
theorem dX5_init_92 : decode cX5_init 92 = .ok (.sipush 2501, 3) := by decide +kernel
theorem dX5_init_105 : decode cX5_init 105 = .ok (.dup, 1) := by decide +kernel
theorem dX5_init_116 : decode cX5_init 116 = .ok (.new 9, 3) := by decide +kernel
theorem dX5_init_129 : decode cX5_init 129 = .ok (.aload_n 0, 1) := by decide +kernel
theorem dX6_init_1 : decode cX6_init 1 = .ok (.invokespecial 3, 3) := by decide +kernel
theorem dX6_init_12 : decode cX6_init 12 = .ok (.invokespecial 11, 3) := by decide +kernel
theorem dX6_init_23 : decode cX6_init 23 = .ok (.aload_n 0, 1) := by decide +kernel
theorem dX6_init_30 : decode cX6_init 30 = .ok (.putfield 28, 3) := by decide +kernel
theorem dX6_holds_0 : decode cX6_holds 0 = .ok (.iconst 1, 1) := by decide +kernel
theorem dX6_holds_8 : decode cX6_holds 8 = .ok (.invokevirtual 35, 3) := by decide +kernel
theorem dX6_holds_18 : decode cX6_holds 18 = .ok (.iload 6, 2) := by decide +kernel
theorem dX6_holds_84 : decode cX6_holds 84 = .ok (.aload_n 1, 1) := by decide +kernel
theorem dX7_init_0 : decode cX7_init 0 = .ok (.aload_n 0, 1) := by decide +kernel
theorem dX7_init_9 : decode cX7_init 9 = .ok (.bipush 120, 2) := by decide +kernel
theorem dX7_init_21 : decode cX7_init 21 = .ok (.dup, 1) := by decide +kernel
theorem dX7_init_31 : decode cX7_init 31 = .ok (.new 9, 3) := by decide +kernel
theorem dX7_init_43 : decode cX7_init 43 = .ok (.aload_n 0, 1) := by decide +kernel
theorem dX7_init_53 : decode cX7_init 53 = .ok (.putfield 26, 3) := by decide +kernel
theorem dX7_init_63 : decode cX7_init 63 = .ok (.invokespecial 11, 3) := by decide +kernel
theorem dX7_init_74 : decode cX7_init 74 = .ok (.bipush 120, 2) := by decide +kernel
theorem dX7_init_86 : decode cX7_init 86 = .ok (.dup, 1) := by decide +kernel
theorem dX7_init_96 : decode cX7_init 96 = .ok (.new 9, 3) := by decide +kernel
theorem dX7_init_108 : decode cX7_init 108 = .ok (.aload_n 0, 1) := by decide +kernel
theorem dX7_init_118 : decode cX7_init 118 = .ok (.putfield 41, 3) := by decide +kernel
theorem dX7_start_0 : decode cX7_start 0 = .ok (.aload_n 0, 1) := by decide +kernel
theorem dX7_start_11 : decode cX7_start 11 = .ok (.invokevirtual 48, 3) := by decide +kernel
theorem dX7_start_22 : decode cX7_start 22 = .ok (.getfield 26, 3) := by decide +kernel
theorem dX7_start_35 : decode cX7_start 35 = .ok (.aload_n 0, 1) := by decide +kernel
theorem dX7_start_46 : decode cX7_start 46 = .ok (.invokevirtual 48, 3) := by decide +kernel
theorem dX7_start_57 : decode cX7_start 57 = .ok (.aload_n 0, 1) := by decide +kernel
theorem dX7_start_66 : decode cX7_start 66 = .ok (.putfield 44, 3) := by decide +kernel
theorem dX7_isThere_5 : decode cX7_isThere 5 = .ok (.if_icmp .eq 7, 3) := by decide +kernel
theorem dX7_signsOfPlain_4 : decode cX7_signsOfPlain 4 = .ok (.areturn, 1) := by decide +kernel
theorem dX8_init_8 : decode cX8_init 8 = .ok (.dup, 1) := by decide +kernel
theorem dX8_init_19 : decode cX8_init 19 = .ok (.new 9, 3) := by decide +kernel
theorem dX8_init_32 : decode cX8_init 32 = .ok (.aload_n 0, 1) := by decide +kernel
theorem dX9_init_1 : decode cX9_init 1 = .ok (.invokespecial 3, 3) := by decide +kernel
theorem dX9_init_12 : decode cX9_init 12 = .ok (.putfield 12, 3) := by decide +kernel
theorem dX9_init_22 : decode cX9_init 22 = .ok (.invokespecial 18, 3) := by decide +kernel
theorem dX9_init_33 : decode cX9_init 33 = .ok (.bipush 6, 2) := by decide +kernel
theorem dX9_init_45 : decode cX9_init 45 = .ok (.dup, 1) := by decide +kernel
theorem dX9_init_56 : decode cX9_init 56 = .ok (.dup, 1) := by decide +kernel
theorem dX9_init_67 : decode cX9_init 67 = .ok (.dup, 1) := by decide +kernel
theorem dX9_init_78 : decode cX9_init 78 = .ok (.putfield 51, 3) := by decide +kernel
theorem dX9_init_87 : decode cX9_init 87 = .ok (.getfield 12, 3) := by decide +kernel
theorem dX9_init_100 : decode cX9_init 100 = .ok (.new 58, 3) := by decide +kernel
theorem dX9_init_109 : decode cX9_init 109 = .ok (.getfield 38, 3) := by decide +kernel
theorem dX9_init_120 : decode cX9_init 120 = .ok (.invokespecial 60, 3) := by decide +kernel
theorem dX9_init_131 : decode cX9_init 131 = .ok (.invokespecial 69, 3) := by decide +kernel
theorem dX9_init_142 : decode cX9_init 142 = .ok (.invokespecial 76, 3) := by decide +kernel
theorem dX9_init_153 : decode cX9_init 153 = .ok (.invokespecial 76, 3) := by decide +kernel
theorem dX9_init_165 : decode cX9_init 165 = .ok (.aload_n 0, 1) := by decide +kernel
theorem dX9_init_173 : decode cX9_init 173 = .ok (.putfield 91, 3) := by decide +kernel
theorem dX9_init_182 : decode cX9_init 182 = .ok (.iconst 0, 1) := by decide +kernel
theorem dX9_word_4 : decode cX9_word 4 = .ok (.iload_n 1, 1) := by decide +kernel
theorem dX9_word_14 : decode cX9_word 14 = .ok (.ldc 102, 2) := by decide +kernel
theorem dX9_word_22 : decode cX9_word 22 = .ok (.if_icmp .lt 9, 3) := by decide +kernel
theorem dX9_word_34 : decode cX9_word 34 = .ok (.dup, 1) := by decide +kernel
theorem dX9_word_42 : decode cX9_word 42 = .ok (.invokevirtual 109, 3) := by decide +kernel
theorem dX9_word_49 : decode cX9_word 49 = .ok (.if_icmp .ge 20, 3) := by decide +kernel
theorem dX9_word_59 : decode cX9_word 59 = .ok (.iadd, 1) := by decide +kernel
theorem dX9_word_70 : decode cX9_word 70 = .ok (.aload_n 0, 1) := by decide +kernel
theorem dX9_word_81 : decode cX9_word 81 = .ok (.ireturn, 1) := by decide +kernel
theorem dX9_mark_6 : decode cX9_mark 6 = .ok (.iconst 4, 1) := by decide +kernel
theorem dX9_mark_16 : decode cX9_mark 16 = .ok (.invokespecial 104, 3) := by decide +kernel
theorem dX9_mark_25 : decode cX9_mark 25 = .ok (.aload_n 0, 1) := by decide +kernel
theorem dX9_mark_36 : decode cX9_mark 36 = .ok (.ireturn, 1) := by decide +kernel
theorem dX9_nest_1 : decode cX9_nest 1 = .ok (.iload_n 1, 1) := by decide +kernel
theorem dX9_group_0 : decode cX9_group 0 = .ok (.aload_n 0, 1) := by decide +kernel
theorem dX9_fill_2 : decode cX9_fill 2 = .ok (.invokevirtual 127, 3) := by decide +kernel
theorem dX9_forget_8 : decode cX9_forget 8 = .ok (.aload_n 0, 1) := by decide +kernel
theorem dX9_width_0 : decode cX9_width 0 = .ok (.aload_n 0, 1) := by decide +kernel
theorem dX9_width_9 : decode cX9_width 9 = .ok (.istore_n 2, 1) := by decide +kernel
theorem dX9_width_16 : decode cX9_width 16 = .ok (.ireturn, 1) := by decide +kernel
theorem dX9_ribbon_6 : decode cX9_ribbon 6 = .ok (.bipush 60, 2) := by decide +kernel
theorem dX9_ribbon_17 : decode cX9_ribbon 17 = .ok (.invokespecial 104, 3) := by decide +kernel
theorem dX9_ribbon_26 : decode cX9_ribbon 26 = .ok (.aload_n 0, 1) := by decide +kernel
theorem dX9_say_0 : decode cX9_say 0 = .ok (.aload_n 0, 1) := by decide +kernel
theorem dX9_say_11 : decode cX9_say 11 = .ok (.iload_n 1, 1) := by decide +kernel
theorem dX9_say_20 : decode cX9_say 20 = .ok (.invokevirtual 176, 3) := by decide +kernel
theorem dX9_say_31 : decode cX9_say 31 = .ok (.aload_n 0, 1) := by decide +kernel
theorem dX9_say_41 : decode cX9_say 41 = .ok (.getfield 25, 3) := by decide +kernel
theorem dX9_say_53 : decode cX9_say 53 = .ok (.iload 6, 2) := by decide +kernel
theorem dX9_say_63 : decode cX9_say 63 = .ok (.istore 7, 2) := by decide +kernel
theorem dX9_say_74 : decode cX9_say 74 = .ok (.if_icmp .ge 22, 3) := by decide +kernel
theorem dX9_say_84 : decode cX9_say 84 = .ok (.invokevirtual 185, 3) := by decide +kernel
theorem dX9_say_97 : decode cX9_say 97 = .ok (.getfield 21, 3) := by decide +kernel
theorem dX9_read_4 : decode cX9_read 4 = .ok (.aload_n 0, 1) := by decide +kernel
theorem dX9_read_15 : decode cX9_read 15 = .ok (.iconst (-1), 1) := by decide +kernel
theorem dX9_read_26 : decode cX9_read 26 = .ok (.aload_n 0, 1) := by decide +kernel
theorem dX9_read_37 : decode cX9_read 37 = .ok (.invokevirtual 119, 3) := by decide +kernel
theorem dX9_code_5 : decode cX9_code 5 = .ok (.getfield 21, 3) := by decide +kernel
theorem dX9_code_16 : decode cX9_code 16 = .ok (.if_icmp .eq 5, 3) := by decide +kernel
theorem dX9_blank_2 : decode cX9_blank 2 = .ok (.getfield 91, 3) := by decide +kernel
theorem dX9_blank_12 : decode cX9_blank 12 = .ok (.ireturn, 1) := by decide +kernel
theorem dX9_knock_6 : decode cX9_knock 6 = .ok (.iadd, 1) := by decide +kernel
theorem dX9_ofNode_0 : decode cX9_ofNode 0 = .ok (.aload_n 0, 1) := by decide +kernel
theorem dX9_flat_2 : decode cX9_flat 2 = .ok (.invokevirtual 127, 3) := by decide +kernel
theorem dX9_measure_1 : decode cX9_measure 1 = .ok (.iload_n 1, 1) := by decide +kernel
theorem dX9_where_0 : decode cX9_where 0 = .ok (.aload_n 0, 1) := by decide +kernel
theorem dX9_isOne_2 : decode cX9_isOne 2 = .ok (.invokevirtual 127, 3) := by decide +kernel
theorem dX9_typed_1 : decode cX9_typed 1 = .ok (.aload_n 0, 1) := by decide +kernel
theorem dX9_fault_1 : decode cX9_fault 1 = .ok (.ifCond .eq 21, 3) := by decide +kernel
theorem dX9_fault_12 : decode cX9_fault 12 = .ok (.aload_n 0, 1) := by decide +kernel
theorem dX9_fault_23 : decode cX9_fault 23 = .ok (.getfield 31, 3) := by decide +kernel
theorem dX9_ofCode_0 : decode cX9_ofCode 0 = .ok (.iload_n 1, 1) := by decide +kernel
theorem dX9_ofCode_10 : decode cX9_ofCode 10 = .ok (.new 100, 3) := by decide +kernel
theorem dX9_ofCode_21 : decode cX9_ofCode 21 = .ok (.aload_n 0, 1) := by decide +kernel
theorem dX9_ofCode_32 : decode cX9_ofCode 32 = .ok (.ireturn, 1) := by decide +kernel
theorem dX9_plain_8 : decode cX9_plain 8 = .ok (.invokevirtual 290, 3) := by decide +kernel
theorem dX9_codeLine_5 : decode cX9_codeLine 5 = .ok (.aload_n 0, 1) := by decide +kernel
theorem dX9_codeLine_17 : decode cX9_codeLine 17 = .ok (.areturn, 1) := by decide +kernel
theorem dX9_house_7 : decode cX9_house 7 = .ok (.if_icmp .le 13, 3) := by decide +kernel
theorem dX9_house_19 : decode cX9_house 19 = .ok (.athrow, 1) := by decide +kernel
theorem dX9_fits_0 : decode cX9_fits 0 = .ok (.aload_n 0, 1) := by decide +kernel
theorem dX9_would_2 : decode cX9_would 2 = .ok (.invokevirtual 127, 3) := by decide +kernel
theorem dX9_least_1 : decode cX9_least 1 = .ok (.iload_n 1, 1) := by decide +kernel
theorem dX9_isSound_0 : decode cX9_isSound 0 = .ok (.aload_n 0, 1) := by decide +kernel
theorem dX9_isSound_9 : decode cX9_isSound 9 = .ok (.getfield 81, 3) := by decide +kernel
theorem dX9_isSound_20 : decode cX9_isSound 20 = .ok (.invokevirtual 324, 3) := by decide +kernel
theorem dX9_digest_5 : decode cX9_digest 5 = .ok (.istore_n 3, 1) := by decide +kernel
theorem dX9_digest_13 : decode cX9_digest 13 = .ok (.ldc2_w 330, 3) := by decide +kernel
theorem dX9_digest_22 : decode cX9_digest 22 = .ok (.i2l, 1) := by decide +kernel
theorem dX9_digest_31 : decode cX9_digest 31 = .ok (.aload_n 0, 1) := by decide +kernel
theorem dX9_digest_40 : decode cX9_digest 40 = .ok (.istore_n 3, 1) := by decide +kernel
theorem dX9_digest_71 : decode cX9_digest 71 = .ok (.iload_n 3, 1) := by decide +kernel
theorem dX9_digest_134 : decode cX9_digest 134 = .ok (.aload_n 0, 1) := by decide +kernel
theorem dX9_digest_143 : decode cX9_digest 143 = .ok (.lstore_n 1, 1) := by decide +kernel
theorem dX9_digest_150 : decode cX9_digest 150 = .ok (.getfield 31, 3) := by decide +kernel
theorem dX9_digest_161 : decode cX9_digest 161 = .ok (.ladd, 1) := by decide +kernel
theorem dX9_digest_168 : decode cX9_digest 168 = .ok (.aload_n 0, 1) := by decide +kernel
theorem dX9_digest_177 : decode cX9_digest 177 = .ok (.getfield 81, 3) := by decide +kernel
theorem dX9_digest_186 : decode cX9_digest 186 = .ok (.aload_n 0, 1) := by decide +kernel
theorem dX9_digest_193 : decode cX9_digest 193 = .ok (.ldc2_w 330, 3) := by decide +kernel
theorem dX9_digest_202 : decode cX9_digest 202 = .ok (.getfield 77, 3) := by decide +kernel
theorem dX9_digest_213 : decode cX9_digest 213 = .ok (.aload_n 0, 1) := by decide +kernel
theorem dX9_digest_224 : decode cX9_digest 224 = .ok (.goto 4, 3) := by decide +kernel
theorem dX9_needNode_1 : decode cX9_needNode 1 = .ok (.getfield 12, 3) := by decide +kernel
theorem dX9_needNode_14 : decode cX9_needNode 14 = .ok (.dup, 1) := by decide +kernel
theorem dX9_needNumber_1 : decode cX9_needNumber 1 = .ok (.getfield 12, 3) := by decide +kernel
theorem dX9_needWidth_0 : decode cX9_needWidth 0 = .ok (.iload_n 1, 1) := by decide +kernel
theorem dX9_needWidth_8 : decode cX9_needWidth 8 = .ok (.if_icmp .le 14, 3) := by decide +kernel
theorem dX9_needWidth_21 : decode cX9_needWidth 21 = .ok (.athrow, 1) := by decide +kernel
theorem dX9_needNth_7 : decode cX9_needNth 7 = .ok (.dup, 1) := by decide +kernel
theorem dX9_needCodes_0 : decode cX9_needCodes 0 = .ok (.iconst 0, 1) := by decide +kernel
theorem dX9_needCodes_7 : decode cX9_needCodes 7 = .ok (.invokevirtual 182, 3) := by decide +kernel
theorem dX9_needCodes_18 : decode cX9_needCodes 18 = .ok (.invokevirtual 185, 3) := by decide +kernel
theorem dX9_needCodes_29 : decode cX9_needCodes 29 = .ok (.iload_n 1, 1) := by decide +kernel
theorem dX9_needCodes_41 : decode cX9_needCodes 41 = .ok (.dup, 1) := by decide +kernel
theorem dX9_needCodes_52 : decode cX9_needCodes 52 = .ok (.goto (-50), 3) := by decide +kernel
theorem dX9_needCodes_63 : decode cX9_needCodes 63 = .ok (.iconst 0, 1) := by decide +kernel
theorem dX9_needCodes_70 : decode cX9_needCodes 70 = .ok (.invokevirtual 182, 3) := by decide +kernel
theorem dX9_needCodes_81 : decode cX9_needCodes 81 = .ok (.iload_n 2, 1) := by decide +kernel
theorem dX9_needCodes_90 : decode cX9_needCodes 90 = .ok (.bipush 60, 2) := by decide +kernel
theorem dX9_lengthAfter_0 : decode cX9_lengthAfter 0 = .ok (.iload_n 1, 1) := by decide +kernel
theorem dX9_lengthAfter_7 : decode cX9_lengthAfter 7 = .ok (.iload_n 1, 1) := by decide +kernel
theorem dX9_lengthAfter_15 : decode cX9_lengthAfter 15 = .ok (.iload_n 1, 1) := by decide +kernel
theorem dX9_lengthAfter_25 : decode cX9_lengthAfter 25 = .ok (.iload_n 0, 1) := by decide +kernel
theorem dX9_lengthAfter_32 : decode cX9_lengthAfter 32 = .ok (.ireturn, 1) := by decide +kernel
theorem dX9_type_0 : decode cX9_type 0 = .ok (.iload_n 1, 1) := by decide +kernel
theorem dX9_type_11 : decode cX9_type 11 = .ok (.if_icmp .ge 20, 3) := by decide +kernel
theorem dX9_type_22 : decode cX9_type 22 = .ok (.invokevirtual 380, 3) := by decide +kernel
theorem dX9_type_35 : decode cX9_type 35 = .ok (.aload_n 0, 1) := by decide +kernel
theorem dX9_type_46 : decode cX9_type 46 = .ok (.invokevirtual 384, 3) := by decide +kernel
theorem dX9_numbered_5 : decode cX9_numbered 5 = .ok (.iconst 1, 1) := by decide +kernel
theorem dX9_numbered_14 : decode cX9_numbered 14 = .ok (.iload_n 1, 1) := by decide +kernel
theorem dX9_textOf_4 : decode cX9_textOf 4 = .ok (.iconst 0, 1) := by decide +kernel
theorem dX9_textOf_11 : decode cX9_textOf 11 = .ok (.aload_n 1, 1) := by decide +kernel
theorem dX9_textOf_42 : decode cX9_textOf 42 = .ok (.invokevirtual 400, 3) := by decide +kernel
theorem dX9_stateOf_45 : decode cX9_stateOf 45 = .ok (.getfield 12, 3) := by decide +kernel
theorem dX9_stateOf_56 : decode cX9_stateOf 56 = .ok (.ireturn, 1) := by decide +kernel
theorem dX9_stateOf_63 : decode cX9_stateOf 63 = .ok (.getfield 21, 3) := by decide +kernel
theorem dX9_stateOf_74 : decode cX9_stateOf 74 = .ok (.ireturn, 1) := by decide +kernel
theorem dX9_stateOf_81 : decode cX9_stateOf 81 = .ok (.getfield 97, 3) := by decide +kernel
theorem dX9_stateOf_92 : decode cX9_stateOf 92 = .ok (.ireturn, 1) := by decide +kernel
theorem dX9_withCode_6 : decode cX9_withCode 6 = .ok (.invokevirtual 296, 3) := by decide +kernel
theorem dX9_withCode_17 : decode cX9_withCode 17 = .ok (.bipush 9, 2) := by decide +kernel
theorem dX9_withCode_27 : decode cX9_withCode 27 = .ok (.lstore_n 3, 1) := by decide +kernel
theorem dX10_init_0 : decode cX10_init 0 = .ok (.aload_n 0, 1) := by decide +kernel
theorem dX11_init_4 : decode cX11_init 4 = .ok (.aload_n 0, 1) := by decide +kernel
theorem dX11_init_15 : decode cX11_init 15 = .ok (.aload_n 0, 1) := by decide +kernel
theorem dX11_init_22 : decode cX11_init 22 = .ok (.putfield 22, 3) := by decide +kernel
theorem dX11_weight_0 : decode cX11_weight 0 = .ok (.aload_n 0, 1) := by decide +kernel
theorem dX11_weight_9 : decode cX11_weight 9 = .ok (.goto 4, 3) := by decide +kernel
theorem dX11_weight_21 : decode cX11_weight 21 = .ok (.invokevirtual 37, 3) := by decide +kernel
theorem dX11_weight_54 : decode cX11_weight 54 = .ok (.iload_n 1, 1) := by decide +kernel
theorem dX11_depth_3 : decode cX11_depth 3 = .ok (.getfield 12, 3) := by decide +kernel
theorem dX11_depth_16 : decode cX11_depth 16 = .ok (.ifCond .eq 25, 3) := by decide +kernel
theorem dX13_init_0 : decode cX13_init 0 = .ok (.aload_n 0, 1) := by decide +kernel
theorem dX13_init_9 : decode cX13_init 9 = .ok (.return_, 1) := by decide +kernel
theorem dX13_document_8 : decode cX13_document 8 = .ok (.aload_n 0, 1) := by decide +kernel
theorem dX13_document_19 : decode cX13_document 19 = .ok (.if_icmp .ge 27, 3) := by decide +kernel
theorem dX13_document_56 : decode cX13_document 56 = .ok (.dup, 1) := by decide +kernel
theorem dX13_document_64 : decode cX13_document 64 = .ok (.areturn, 1) := by decide +kernel
theorem dX16_init_8 : decode cX16_init 8 = .ok (.dup, 1) := by decide +kernel
theorem dX16_init_18 : decode cX16_init 18 = .ok (.putfield 16, 3) := by decide +kernel
theorem dX16_init_28 : decode cX16_init 28 = .ok (.ldc 23, 2) := by decide +kernel
theorem dX16_isIn_2 : decode cX16_isIn 2 = .ok (.if_icmp .lt 12, 3) := by decide +kernel
theorem dX16_isIn_11 : decode cX16_isIn 11 = .ok (.goto 4, 3) := by decide +kernel
theorem dX16_one_4 : decode cX16_one 4 = .ok (.iconst 1, 1) := by decide +kernel
theorem dX16_documented_2 : decode cX16_documented 2 = .ok (.astore_n 1, 1) := by decide +kernel
theorem dX16_documented_7 : decode cX16_documented 7 = .ok (.invokevirtual 74, 3) := by decide +kernel
theorem dX16_documented_138 : decode cX16_documented 138 = .ok (.invokevirtual 157, 3) := by decide +kernel
theorem dX16_coded_2 : decode cX16_coded 2 = .ok (.astore_n 1, 1) := by decide +kernel
theorem dX16_coded_7 : decode cX16_coded 7 = .ok (.iload_n 3, 1) := by decide +kernel
theorem dX16_coded_317 : decode cX16_coded 317 = .ok (.invokevirtual 74, 3) := by decide +kernel
theorem dX16_coded_328 : decode cX16_coded 328 = .ok (.iconst 1, 1) := by decide +kernel
theorem dX16_coded_341 : decode cX16_coded 341 = .ok (.ireturn, 1) := by decide +kernel
theorem dX16_refuse_1 : decode cX16_refuse 1 = .ok (.ifCond .eq 15, 3) := by decide +kernel
theorem dX16_refuse_12 : decode cX16_refuse 12 = .ok (.iload_n 2, 1) := by decide +kernel
theorem dX16_refuse_23 : decode cX16_refuse 23 = .ok (.iconst 1, 1) := by decide +kernel
theorem dX16_start_1 : decode cX16_start 1 = .ok (.iconst 0, 1) := by decide +kernel
theorem dX16_start_8 : decode cX16_start 8 = .ok (.invokevirtual 179, 3) := by decide +kernel
theorem dX16_isNoNode_3 : decode cX16_isNoNode 3 = .ok (.getfield 10, 3) := by decide +kernel
theorem dX16_isNoNode_14 : decode cX16_isNoNode 14 = .ok (.ifCond .ne 7, 3) := by decide +kernel
theorem dX16_isFull_1 : decode cX16_isFull 1 = .ok (.getfield 10, 3) := by decide +kernel
theorem dX16_isFull_17 : decode cX16_isFull 17 = .ok (.ireturn, 1) := by decide +kernel
theorem dX16_isGreat_9 : decode cX16_isGreat 9 = .ok (.aload_n 0, 1) := by decide +kernel
theorem dX16_isGreat_23 : decode cX16_isGreat 23 = .ok (.ireturn, 1) := by decide +kernel
theorem dX16_made_8 : decode cX16_made 8 = .ok (.pop, 1) := by decide +kernel
theorem dX16_made_15 : decode cX16_made 15 = .ok (.iadd, 1) := by decide +kernel
theorem dX16_made_26 : decode cX16_made 26 = .ok (.iconst 1, 1) := by decide +kernel
theorem dX16_word_2 : decode cX16_word 2 = .ok (.iconst 0, 1) := by decide +kernel
theorem dX16_word_12 : decode cX16_word 12 = .ok (.iconst 1, 1) := by decide +kernel
theorem dX16_word_22 : decode cX16_word 22 = .ok (.goto 4, 3) := by decide +kernel
theorem dX16_word_33 : decode cX16_word 33 = .ok (.aload_n 0, 1) := by decide +kernel
theorem dX16_word_42 : decode cX16_word 42 = .ok (.ifCond .eq 5, 3) := by decide +kernel
theorem dX16_word_51 : decode cX16_word 51 = .ok (.invokespecial 31, 3) := by decide +kernel
theorem dX16_word_60 : decode cX16_word 60 = .ok (.iload_n 2, 1) := by decide +kernel
theorem dX16_word_68 : decode cX16_word 68 = .ok (.iadd, 1) := by decide +kernel
theorem dX16_word_77 : decode cX16_word 77 = .ok (.goto (-19), 3) := by decide +kernel
theorem dX16_word_86 : decode cX16_word 86 = .ok (.aload_n 3, 1) := by decide +kernel
theorem dX16_word_97 : decode cX16_word 97 = .ok (.ireturn, 1) := by decide +kernel
theorem dX16_mark_4 : decode cX16_mark 4 = .ok (.invokestatic 183, 3) := by decide +kernel
theorem dX16_mark_15 : decode cX16_mark 15 = .ok (.iconst 1, 1) := by decide +kernel
theorem dX16_mark_24 : decode cX16_mark 24 = .ok (.invokevirtual 199, 3) := by decide +kernel
theorem dX16_mark_35 : decode cX16_mark 35 = .ok (.goto 18, 3) := by decide +kernel
theorem dX16_mark_44 : decode cX16_mark 44 = .ok (.ldc 23, 2) := by decide +kernel
theorem dX16_join_0 : decode cX16_join 0 = .ok (.aload_n 0, 1) := by decide +kernel
theorem dX16_join_17 : decode cX16_join 17 = .ok (.iconst 1, 1) := by decide +kernel
theorem dX16_join_29 : decode cX16_join 29 = .ok (.iconst 0, 1) := by decide +kernel
theorem dX16_nest_2 : decode cX16_nest 2 = .ok (.iload_n 1, 1) := by decide +kernel
theorem dX16_nest_36 : decode cX16_nest 36 = .ok (.iconst 0, 1) := by decide +kernel
theorem dX16_align_2 : decode cX16_align 2 = .ok (.iload_n 1, 1) := by decide +kernel
theorem dX16_align_13 : decode cX16_align 13 = .ok (.iconst 0, 1) := by decide +kernel
theorem dX16_group_2 : decode cX16_group 2 = .ok (.iload_n 1, 1) := by decide +kernel
theorem dX16_group_13 : decode cX16_group 13 = .ok (.iconst 0, 1) := by decide +kernel
theorem dX16_fill_2 : decode cX16_fill 2 = .ok (.iload_n 1, 1) := by decide +kernel
theorem dX16_fill_22 : decode cX16_fill 22 = .ok (.iconst 1, 1) := by decide +kernel
theorem dX16_forget_0 : decode cX16_forget 0 = .ok (.aload_n 0, 1) := by decide +kernel
theorem dX16_forget_9 : decode cX16_forget 9 = .ok (.invokevirtual 44, 3) := by decide +kernel
theorem dX16_forget_20 : decode cX16_forget 20 = .ok (.ifCond .ne 23, 3) := by decide +kernel
theorem dX16_width_2 : decode cX16_width 2 = .ok (.iconst 1, 1) := by decide +kernel
theorem dX16_width_12 : decode cX16_width 12 = .ok (.goto 4, 3) := by decide +kernel
theorem dX16_width_23 : decode cX16_width 23 = .ok (.iconst 0, 1) := by decide +kernel
theorem dX16_width_30 : decode cX16_width 30 = .ok (.aload_n 0, 1) := by decide +kernel
theorem dX16_ribbon_0 : decode cX16_ribbon 0 = .ok (.aload_n 0, 1) := by decide +kernel
theorem dX16_ribbon_8 : decode cX16_ribbon 8 = .ok (.ifCond .ne 7, 3) := by decide +kernel
theorem dX16_ribbon_17 : decode cX16_ribbon 17 = .ok (.invokevirtual 196, 3) := by decide +kernel
theorem dX16_ribbon_26 : decode cX16_ribbon 26 = .ok (.getfield 20, 3) := by decide +kernel
theorem dX16_ribbon_35 : decode cX16_ribbon 35 = .ok (.iload_n 2, 1) := by decide +kernel
theorem dX16_said_5 : decode cX16_said 5 = .ok (.aload_n 0, 1) := by decide +kernel
theorem dX16_said_13 : decode cX16_said 13 = .ok (.new 29, 3) := by decide +kernel
theorem dX16_said_24 : decode cX16_said 24 = .ok (.ldc 229, 2) := by decide +kernel
theorem dX16_said_36 : decode cX16_said 36 = .ok (.areturn, 1) := by decide +kernel
theorem dX16_said_44 : decode cX16_said 44 = .ok (.invokevirtual 157, 3) := by decide +kernel
theorem dX16_said_56 : decode cX16_said 56 = .ok (.iconst 0, 1) := by decide +kernel
theorem dX16_said_63 : decode cX16_said 63 = .ok (.invokevirtual 231, 3) := by decide +kernel
theorem dX16_say_5 : decode cX16_say 5 = .ok (.iconst 0, 1) := by decide +kernel
theorem dX16_say_10 : decode cX16_say 10 = .ok (.iload_n 2, 1) := by decide +kernel
theorem dX16_say_15 : decode cX16_say 15 = .ok (.iastore, 1) := by decide +kernel
theorem dX16_say_21 : decode cX16_say 21 = .ok (.dup, 1) := by decide +kernel
theorem dX16_say_27 : decode cX16_say 27 = .ok (.iconst 5, 1) := by decide +kernel
theorem dX16_say_34 : decode cX16_say 34 = .ok (.istore 8, 2) := by decide +kernel
theorem dX16_say_43 : decode cX16_say 43 = .ok (.istore 10, 2) := by decide +kernel
theorem dX16_say_52 : decode cX16_say 52 = .ok (.if_icmp .ge 37, 3) := by decide +kernel
theorem dX16_say_62 : decode cX16_say 62 = .ok (.iload 8, 2) := by decide +kernel
theorem dX16_say_72 : decode cX16_say 72 = .ok (.ifCond .ne 7, 3) := by decide +kernel
theorem dX16_say_81 : decode cX16_say 81 = .ok (.istore 8, 2) := by decide +kernel
theorem dX16_say_92 : decode cX16_say 92 = .ok (.iconst 1, 1) := by decide +kernel
theorem dX16_say_101 : decode cX16_say 101 = .ok (.aload_n 0, 1) := by decide +kernel
theorem dX16_say_111 : decode cX16_say 111 = .ok (.aload 10, 2) := by decide +kernel
theorem dX16_say_119 : decode cX16_say 119 = .ok (.iload 12, 2) := by decide +kernel
theorem dX16_say_130 : decode cX16_say 130 = .ok (.iaload, 1) := by decide +kernel
theorem dX16_say_140 : decode cX16_say 140 = .ok (.astore 9, 2) := by decide +kernel
theorem dX16_say_150 : decode cX16_say 150 = .ok (.if_icmp .le 7, 3) := by decide +kernel
theorem dX16_say_167 : decode cX16_say 167 = .ok (.iinc 12 1, 3) := by decide +kernel
theorem dX16_say_179 : decode cX16_say 179 = .ok (.aload_n 0, 1) := by decide +kernel
theorem dX16_isDocument_1 : decode cX16_isDocument 1 = .ok (.getfield 25, 3) := by decide +kernel
theorem dX16_isDocument_14 : decode cX16_isDocument 14 = .ok (.if_icmp .le 7, 3) := by decide +kernel
theorem dX16_isCode_1 : decode cX16_isCode 1 = .ok (.getfield 25, 3) := by decide +kernel
theorem dX16_isCode_14 : decode cX16_isCode 14 = .ok (.if_icmp .le 7, 3) := by decide +kernel
theorem dX16_read_2 : decode cX16_read 2 = .ok (.invokevirtual 199, 3) := by decide +kernel
theorem dX16_read_15 : decode cX16_read 15 = .ok (.invokevirtual 245, 3) := by decide +kernel
theorem dX16_read_28 : decode cX16_read 28 = .ok (.getfield 25, 3) := by decide +kernel
theorem dX16_read_39 : decode cX16_read 39 = .ok (.invokestatic 209, 3) := by decide +kernel
theorem dX16_read_54 : decode cX16_read 54 = .ok (.ireturn, 1) := by decide +kernel
theorem dX16_code_6 : decode cX16_code 6 = .ok (.invokevirtual 255, 3) := by decide +kernel
theorem dX16_blank_1 : decode cX16_blank 1 = .ok (.iconst 0, 1) := by decide +kernel
theorem dX16_blank_10 : decode cX16_blank 10 = .ok (.iconst 1, 1) := by decide +kernel
theorem dX16_knock_0 : decode cX16_knock 0 = .ok (.aload_n 0, 1) := by decide +kernel
theorem dX16_knock_7 : decode cX16_knock 7 = .ok (.getfield 275, 3) := by decide +kernel
theorem dX16_knock_16 : decode cX16_knock 16 = .ok (.getfield 275, 3) := by decide +kernel
theorem dX16_ofNode_3 : decode cX16_ofNode 3 = .ok (.invokevirtual 213, 3) := by decide +kernel
theorem dX16_ofNode_37 : decode cX16_ofNode 37 = .ok (.goto 18, 3) := by decide +kernel
theorem dX16_flat_3 : decode cX16_flat 3 = .ok (.invokevirtual 213, 3) := by decide +kernel
theorem dX16_flat_15 : decode cX16_flat 15 = .ok (.goto 40, 3) := by decide +kernel
theorem dX16_line_3 : decode cX16_line 3 = .ok (.invokevirtual 213, 3) := by decide +kernel
theorem dX16_line_32 : decode cX16_line 32 = .ok (.goto 22, 3) := by decide +kernel
theorem dX16_measure_3 : decode cX16_measure 3 = .ok (.invokevirtual 213, 3) := by decide +kernel
theorem dX16_measure_37 : decode cX16_measure 37 = .ok (.goto 26, 3) := by decide +kernel
theorem dX16_at_3 : decode cX16_at 3 = .ok (.invokevirtual 213, 3) := by decide +kernel
theorem dX16_at_14 : decode cX16_at 14 = .ok (.ireturn, 1) := by decide +kernel
theorem dX16_where_6 : decode cX16_where 6 = .ok (.iconst 1, 1) := by decide +kernel
theorem dX16_isOne_0 : decode cX16_isOne 0 = .ok (.aload_n 0, 1) := by decide +kernel
theorem dX16_isOne_7 : decode cX16_isOne 7 = .ok (.invokevirtual 196, 3) := by decide +kernel
theorem dX16_differ_1 : decode cX16_differ 1 = .ok (.aload_n 0, 1) := by decide +kernel
theorem dX16_differ_18 : decode cX16_differ 18 = .ok (.goto 4, 3) := by decide +kernel
theorem dX16_differ_81 : decode cX16_differ 81 = .ok (.ireturn, 1) := by decide +kernel
theorem dX16_typed_6 : decode cX16_typed 6 = .ok (.getfield 25, 3) := by decide +kernel
theorem dX16_faulty_5 : decode cX16_faulty 5 = .ok (.getfield 25, 3) := by decide +kernel
theorem dX16_faulty_18 : decode cX16_faulty 18 = .ok (.invokestatic 238, 3) := by decide +kernel
theorem dX16_faulty_27 : decode cX16_faulty 27 = .ok (.invokevirtual 74, 3) := by decide +kernel
theorem dX16_faulty_38 : decode cX16_faulty 38 = .ok (.ireturn, 1) := by decide +kernel
theorem dX16_fault_6 : decode cX16_fault 6 = .ok (.iload_n 1, 1) := by decide +kernel
theorem dX16_codeTold_4 : decode cX16_codeTold 4 = .ok (.ifnonnull 5, 3) := by decide +kernel
theorem dX16_ofCode_2 : decode cX16_ofCode 2 = .ok (.iconst 0, 1) := by decide +kernel
theorem dX16_ofCode_12 : decode cX16_ofCode 12 = .ok (.goto 4, 3) := by decide +kernel
theorem dX16_ofCode_23 : decode cX16_ofCode 23 = .ok (.iconst 0, 1) := by decide +kernel
theorem dX16_ofCode_32 : decode cX16_ofCode 32 = .ok (.ireturn, 1) := by decide +kernel
theorem dX16_plain_6 : decode cX16_plain 6 = .ok (.getfield 262, 3) := by decide +kernel
theorem dX16_codeLine_0 : decode cX16_codeLine 0 = .ok (.aload_n 0, 1) := by decide +kernel
theorem dX16_codeLine_9 : decode cX16_codeLine 9 = .ok (.iconst 0, 1) := by decide +kernel
theorem dX16_codeLine_19 : decode cX16_codeLine 19 = .ok (.goto 31, 3) := by decide +kernel
theorem dX16_codeLine_32 : decode cX16_codeLine 32 = .ok (.goto 18, 3) := by decide +kernel
theorem dX16_houseTold_3 : decode cX16_houseTold 3 = .ok (.getfield 10, 3) := by decide +kernel
theorem dX16_houseTold_16 : decode cX16_houseTold 16 = .ok (.ifCond .eq 25, 3) := by decide +kernel
theorem dX16_houseTold_47 : decode cX16_houseTold 47 = .ok (.aload_n 0, 1) := by decide +kernel
theorem dX16_houseTold_56 : decode cX16_houseTold 56 = .ok (.iconst 1, 1) := by decide +kernel
theorem dX16_houseTold_63 : decode cX16_houseTold 63 = .ok (.iconst 2, 1) := by decide +kernel
theorem dX16_houseTold_70 : decode cX16_houseTold 70 = .ok (.iconst 3, 1) := by decide +kernel
theorem dX16_houseTold_79 : decode cX16_houseTold 79 = .ok (.dup, 1) := by decide +kernel
theorem dX16_houseTold_86 : decode cX16_houseTold 86 = .ok (.dup, 1) := by decide +kernel
theorem dX16_houseTold_93 : decode cX16_houseTold 93 = .ok (.dup, 1) := by decide +kernel
theorem dX16_houseTold_101 : decode cX16_houseTold 101 = .ok (.dup, 1) := by decide +kernel
theorem dX16_houseTold_107 : decode cX16_houseTold 107 = .ok (.aload_n 3, 1) := by decide +kernel
theorem dX16_house_1 : decode cX16_house 1 = .ok (.iload_n 1, 1) := by decide +kernel
theorem dX16_house_11 : decode cX16_house 11 = .ok (.iconst 1, 1) := by decide +kernel
theorem dX16_house_20 : decode cX16_house 20 = .ok (.ifCond .eq 7, 3) := by decide +kernel
theorem dX16_house_29 : decode cX16_house 29 = .ok (.invokevirtual 344, 3) := by decide +kernel
theorem dX16_fits_3 : decode cX16_fits 3 = .ok (.invokevirtual 213, 3) := by decide +kernel
theorem dX16_fits_37 : decode cX16_fits 37 = .ok (.ireturn, 1) := by decide +kernel
theorem dX16_would_6 : decode cX16_would 6 = .ok (.iconst 1, 1) := by decide +kernel
theorem dX16_would_79 : decode cX16_would 79 = .ok (.ireturn, 1) := by decide +kernel
theorem dX16_narrowest_6 : decode cX16_narrowest 6 = .ok (.iconst 1, 1) := by decide +kernel
theorem dX16_least__0 : decode cX16_least_ 0 = .ok (.aload_n 0, 1) := by decide +kernel
theorem dX16_least__7 : decode cX16_least_ 7 = .ok (.invokevirtual 196, 3) := by decide +kernel
theorem dX16_leastLine_0 : decode cX16_leastLine 0 = .ok (.aload_n 0, 1) := by decide +kernel
theorem dX16_leastLine_7 : decode cX16_leastLine 7 = .ok (.invokevirtual 196, 3) := by decide +kernel
theorem dX16_isWhole_0 : decode cX16_isWhole 0 = .ok (.iconst 0, 1) := by decide +kernel
theorem dX16_isWhole_9 : decode cX16_isWhole 9 = .ok (.isub, 1) := by decide +kernel
theorem dX16_isWhole_16 : decode cX16_isWhole 16 = .ok (.getfield 10, 3) := by decide +kernel
theorem dX16_isSound_0 : decode cX16_isSound 0 = .ok (.aload_n 0, 1) := by decide +kernel
theorem dX16_isSound_9 : decode cX16_isSound 9 = .ok (.ireturn, 1) := by decide +kernel
theorem dX16_add_6 : decode cX16_add 6 = .ok (.ladd, 1) := by decide +kernel
theorem dX16_digest_5 : decode cX16_digest 5 = .ok (.ldc2_w 370, 3) := by decide +kernel
theorem dX16_digest_12 : decode cX16_digest 12 = .ok (.bipush 8, 2) := by decide +kernel
theorem dX16_digest_20 : decode cX16_digest 20 = .ok (.invokevirtual 344, 3) := by decide +kernel
theorem dX16_digest_31 : decode cX16_digest 31 = .ok (.goto (-20), 3) := by decide +kernel
theorem dX16_digest_42 : decode cX16_digest 42 = .ok (.isub, 1) := by decide +kernel
theorem dX16_digest_202 : decode cX16_digest 202 = .ok (.getfield 10, 3) := by decide +kernel
theorem dX16_digest_281 : decode cX16_digest 281 = .ok (.getfield 25, 3) := by decide +kernel
theorem dX16_digest_292 : decode cX16_digest 292 = .ok (.iconst 0, 1) := by decide +kernel
theorem dX16_digest_301 : decode cX16_digest 301 = .ok (.iconst 1, 1) := by decide +kernel
theorem dX16_digest_310 : decode cX16_digest 310 = .ok (.iconst 0, 1) := by decide +kernel
theorem dX16_digest_318 : decode cX16_digest 318 = .ok (.lload_n 1, 1) := by decide +kernel
theorem dX16_digest_325 : decode cX16_digest 325 = .ok (.invokestatic 372, 3) := by decide +kernel
theorem dX16_digest_336 : decode cX16_digest 336 = .ok (.getfield 262, 3) := by decide +kernel
theorem dX16_digest_399 : decode cX16_digest 399 = .ok (.invokestatic 40, 3) := by decide +kernel
theorem dJ5_init_d00df_1 : decode cJ5_init_d00df 1 = .ok (.invokespecial 3, 3) := by decide +kernel
theorem dJ5_init_d00df_12 : decode cJ5_init_d00df 12 = .ok (.newarray .byte, 2) := by decide +kernel
theorem dJ5_init_d00df_22 : decode cJ5_init_d00df 22 = .ok (.goto 16, 3) := by decide +kernel
theorem dJ5_ensureCapacityInternal_d00df_0 : decode cJ5_ensureCapacityInternal_d00df 0 = .ok (.aload_n 0, 1) := by decide +kernel
theorem dJ5_ensureCapacityInternal_d00df_9 : decode cJ5_ensureCapacityInternal_d00df 9 = .ok (.ishr, 1) := by decide +kernel
theorem dJ5_ensureCapacityInternal_d00df_14 : decode cJ5_ensureCapacityInternal_d00df 14 = .ok (.ifCond .le 24, 3) := by decide +kernel
theorem dJ5_setLength_d00df_14 : decode cJ5_setLength_d00df 14 = .ok (.iload_n 1, 1) := by decide +kernel
theorem dJ5_setLength_d00df_23 : decode cJ5_setLength_d00df 23 = .ok (.if_icmp .ge 40, 3) := by decide +kernel
theorem dJ5_setLength_d00df_76 : decode cJ5_setLength_d00df 76 = .ok (.aload_n 0, 1) := by decide +kernel
theorem dJ5_append_cf1ce_1 : decode cJ5_append_cf1ce 1 = .ok (.ifnonnull 8, 3) := by decide +kernel
theorem dJ5_append_cf1ce_15 : decode cJ5_append_cf1ce 15 = .ok (.aload_n 0, 1) := by decide +kernel
theorem dJ5_append_cf1ce_24 : decode cJ5_append_cf1ce 24 = .ok (.aload_n 0, 1) := by decide +kernel
theorem dJ5_append_cf1ce_33 : decode cJ5_append_cf1ce 33 = .ok (.aload_n 0, 1) := by decide +kernel
theorem dJ5_append_cf1ce_40 : decode cJ5_append_cf1ce 40 = .ok (.putfield 79, 3) := by decide +kernel
theorem dJ5_append_3fe6f_2 : decode cJ5_append_3fe6f 2 = .ok (.getfield 79, 3) := by decide +kernel
theorem dJ5_append_3fe6f_11 : decode cJ5_append_3fe6f 11 = .ok (.invokevirtual 83, 3) := by decide +kernel
theorem dJ5_append_3fe6f_24 : decode cJ5_append_3fe6f 24 = .ok (.aload_n 0, 1) := by decide +kernel
theorem dJ5_append_3fe6f_33 : decode cJ5_append_3fe6f 33 = .ok (.dup_x1, 1) := by decide +kernel
theorem dJ5_append_3fe6f_40 : decode cJ5_append_3fe6f 40 = .ok (.i2b, 1) := by decide +kernel
theorem dJ5_getValue_6d5f1_0 : decode cJ5_getValue_6d5f1 0 = .ok (.aload_n 0, 1) := by decide +kernel
theorem dJ5_isLatin1_aae02_6 : decode cJ5_isLatin1_aae02 6 = .ok (.aload_n 0, 1) := by decide +kernel
theorem dJ5_isLatin1_aae02_18 : decode cJ5_isLatin1_aae02 18 = .ok (.ireturn, 1) := by decide +kernel
theorem dJ5_inflateIfNeededFor_a7421_10 : decode cJ5_inflateIfNeededFor_a7421 10 = .ok (.aload_n 1, 1) := by decide +kernel
theorem dJ5_putStringAt_47b60_1 : decode cJ5_putStringAt_47b60 1 = .ok (.aload_n 2, 1) := by decide +kernel
theorem dJ5_putStringAt_47b60_10 : decode cJ5_putStringAt_47b60 10 = .ok (.iload_n 1, 1) := by decide +kernel
theorem dJ0_init_81219_0 : decode cJ0_init_81219 0 = .ok (.aload_n 0, 1) := by decide +kernel
theorem dJ0_length_8abf5_0 : decode cJ0_length_8abf5 0 = .ok (.aload_n 0, 1) := by decide +kernel
theorem dJ0_length_8abf5_9 : decode cJ0_length_8abf5 9 = .ok (.ishr, 1) := by decide +kernel
theorem dJ0_isEmpty_aae02_5 : decode cJ0_isEmpty_aae02 5 = .ok (.ifCond .ne 7, 3) := by decide +kernel
theorem dJ0_charAt_5068e_0 : decode cJ0_charAt_5068e 0 = .ok (.aload_n 0, 1) := by decide +kernel
theorem dJ0_charAt_5068e_11 : decode cJ0_charAt_5068e 11 = .ok (.iload_n 1, 1) := by decide +kernel
theorem dJ0_equals_9ea2d_2 : decode cJ0_equals_9ea2d 2 = .ok (.if_acmp .ne 5, 3) := by decide +kernel
theorem dJ0_equals_9ea2d_11 : decode cJ0_equals_9ea2d 11 = .ok (.ifCond .eq 43, 3) := by decide +kernel
theorem dJ0_equals_9ea2d_22 : decode cJ0_equals_9ea2d 22 = .ok (.ifCond .eq 14, 3) := by decide +kernel
theorem dJ0_equals_9ea2d_33 : decode cJ0_equals_9ea2d 33 = .ok (.if_icmp .ne 21, 3) := by decide +kernel
theorem dJ0_equals_9ea2d_44 : decode cJ0_equals_9ea2d 44 = .ok (.invokestatic 541, 3) := by decide +kernel
theorem dJ0_substring_37a41_0 : decode cJ0_substring_37a41 0 = .ok (.aload_n 0, 1) := by decide +kernel
theorem dJ0_substring_37a41_7 : decode cJ0_substring_37a41 7 = .ok (.iload_n 3, 1) := by decide +kernel
theorem dJ0_substring_37a41_16 : decode cJ0_substring_37a41 16 = .ok (.iload_n 3, 1) := by decide +kernel
theorem dJ0_substring_37a41_25 : decode cJ0_substring_37a41 25 = .ok (.istore 4, 2) := by decide +kernel
theorem dJ0_substring_37a41_35 : decode cJ0_substring_37a41 35 = .ok (.getfield 9, 3) := by decide +kernel
theorem dJ0_substring_37a41_57 : decode cJ0_substring_37a41 57 = .ok (.areturn, 1) := by decide +kernel
theorem dJ0_getBytes_840e7_8 : decode cJ0_getBytes_840e7 8 = .ok (.aload_n 0, 1) := by decide +kernel
theorem dJ0_getBytes_840e7_15 : decode cJ0_getBytes_840e7 15 = .ok (.iload_n 3, 1) := by decide +kernel
theorem dJ0_getBytes_840e7_22 : decode cJ0_getBytes_840e7 22 = .ok (.invokestatic 212, 3) := by decide +kernel
theorem dJ0_init_db425_4 : decode cJ0_init_db425 4 = .ok (.aload_n 1, 1) := by decide +kernel
theorem dJ0_init_db425_13 : decode cJ0_init_db425 13 = .ok (.istore 4, 2) := by decide +kernel
theorem dJ0_init_db425_23 : decode cJ0_init_db425 23 = .ok (.iconst 0, 1) := by decide +kernel
theorem dJ0_init_db425_30 : decode cJ0_init_db425 30 = .ok (.iload 4, 2) := by decide +kernel
theorem dJ0_init_031fb_0 : decode cJ0_init_031fb 0 = .ok (.aload_n 0, 1) := by decide +kernel
theorem dJ0_init_031fb_9 : decode cJ0_init_031fb 9 = .ok (.aload_n 0, 1) := by decide +kernel
theorem dJ0_coder_7d493_3 : decode cJ0_coder_7d493 3 = .ok (.ifCond .eq 10, 3) := by decide +kernel
theorem dJ0_isLatin1_aae02_0 : decode cJ0_isLatin1_aae02 0 = .ok (.getstatic 38, 3) := by decide +kernel
theorem dJ0_isLatin1_aae02_13 : decode cJ0_isLatin1_aae02 13 = .ok (.iconst 1, 1) := by decide +kernel
theorem dJ0_checkIndex_df160_2 : decode cJ0_checkIndex_df160 2 = .ok (.getstatic 1053, 3) := by decide +kernel
theorem dJ0_checkBoundsBeginEnd_23922_1 : decode cJ0_checkBoundsBeginEnd_23922 1 = .ok (.iload_n 1, 1) := by decide +kernel
theorem dJ0_checkBoundsBeginEnd_23922_10 : decode cJ0_checkBoundsBeginEnd_23922 10 = .ok (.return_, 1) := by decide +kernel
theorem dJ4_append_15ec4_0 : decode cJ4_append_15ec4 0 = .ok (.aload_n 0, 1) := by decide +kernel
theorem dJ4_append_15ec4_7 : decode cJ4_append_15ec4 7 = .ok (.areturn, 1) := by decide +kernel
theorem dJ4_append_cf468_6 : decode cJ4_append_cf468 6 = .ok (.aload_n 0, 1) := by decide +kernel
theorem dJ4_toString_0e30d_5 : decode cJ4_toString_0e30d 5 = .ok (.invokespecial 137, 3) := by decide +kernel
theorem dJ4_setLength_d00df_5 : decode cJ4_setLength_d00df 5 = .ok (.return_, 1) := by decide +kernel
theorem dJ1_charAt_3b067_1 : decode cJ1_charAt_3b067 1 = .ok (.aload_n 0, 1) := by decide +kernel
theorem dJ1_charAt_3b067_8 : decode cJ1_charAt_3b067 8 = .ok (.baload, 1) := by decide +kernel
theorem dJ1_canEncode_fc78d_0 : decode cJ1_canEncode_fc78d 0 = .ok (.iload_n 0, 1) := by decide +kernel
theorem dJ1_canEncode_fc78d_12 : decode cJ1_canEncode_fc78d 12 = .ok (.ireturn, 1) := by decide +kernel
theorem dJ1_equals_b5fdf_4 : decode cJ1_equals_b5fdf 4 = .ok (.if_icmp .ne 30, 3) := by decide +kernel
theorem dJ1_equals_b5fdf_11 : decode cJ1_equals_b5fdf 11 = .ok (.arraylength, 1) := by decide +kernel
theorem dJ1_newString_b4f7a_1 : decode cJ1_newString_b4f7a 1 = .ok (.ifCond .ne 6, 3) := by decide +kernel
theorem dJ1_newString_b4f7a_11 : decode cJ1_newString_b4f7a 11 = .ok (.aload_n 0, 1) := by decide +kernel
theorem dJ1_newString_b4f7a_16 : decode cJ1_newString_b4f7a 16 = .ok (.invokestatic 232, 3) := by decide +kernel
theorem dJxa1e45_init_da8c8_1 : decode cJxa1e45_init_da8c8 1 = .ok (.invokespecial 1, 3) := by decide +kernel
theorem dJxc12de_init_da8c8_5 : decode cJxc12de_init_da8c8 5 = .ok (.iconst 0, 1) := by decide +kernel
theorem dJx35411_init_45d68_2 : decode cJx35411_init_45d68 2 = .ok (.putfield 1, 3) := by decide +kernel
theorem dJx35411_init_45d68_11 : decode cJx35411_init_45d68 11 = .ok (.putfield 13, 3) := by decide +kernel
theorem dJx35411_init_45d68_22 : decode cJx35411_init_45d68 22 = .ok (.putfield 22, 3) := by decide +kernel
theorem dJx35411_hasNext_aae02_5 : decode cJx35411_hasNext_aae02 5 = .ok (.getfield 1, 3) := by decide +kernel
theorem dJx4a65c_init_da8c8_0 : decode cJx4a65c_init_da8c8 0 = .ok (.aload_n 0, 1) := by decide +kernel
theorem dJx4a65c_init_da8c8_11 : decode cJx4a65c_init_da8c8 11 = .ok (.return_, 1) := by decide +kernel
theorem dJx4a65c_grow_92f84_6 : decode cJx4a65c_grow_92f84 6 = .ok (.iload_n 2, 1) := by decide +kernel
theorem dJx4a65c_grow_92f84_17 : decode cJx4a65c_grow_92f84 17 = .ok (.if_acmp .eq 28, 3) := by decide +kernel
theorem dJx4a65c_grow_92f84_52 : decode cJx4a65c_grow_92f84 52 = .ok (.anewarray 7, 3) := by decide +kernel
theorem dJx4a65c_grow_d5877_1 : decode cJx4a65c_grow_d5877 1 = .ok (.aload_n 0, 1) := by decide +kernel
theorem dJx4a65c_grow_d5877_10 : decode cJx4a65c_grow_d5877 10 = .ok (.areturn, 1) := by decide +kernel
theorem dJx4a65c_isEmpty_aae02_1 : decode cJx4a65c_isEmpty_aae02 1 = .ok (.getfield 48, 3) := by decide +kernel
theorem dJx4a65c_add_72be8_0 : decode cJx4a65c_add_72be8 0 = .ok (.iload_n 3, 1) := by decide +kernel
theorem dJx4a65c_add_72be8_7 : decode cJx4a65c_add_72be8 7 = .ok (.invokevirtual 129, 3) := by decide +kernel
theorem dJx4a65c_add_72be8_14 : decode cJx4a65c_add_72be8 14 = .ok (.aastore, 1) := by decide +kernel
theorem dJx4a65c_add_72be8_19 : decode cJx4a65c_add_72be8 19 = .ok (.putfield 48, 3) := by decide +kernel
theorem dJx4a65c_add_9ea2d_5 : decode cJx4a65c_add_9ea2d 5 = .ok (.iconst 1, 1) := by decide +kernel
theorem dJx4a65c_add_9ea2d_12 : decode cJx4a65c_add_9ea2d 12 = .ok (.aload_n 0, 1) := by decide +kernel
theorem dJx4a65c_add_9ea2d_23 : decode cJx4a65c_add_9ea2d 23 = .ok (.iconst 1, 1) := by decide +kernel
theorem dJx4a65c_iterator_32c93_5 : decode cJx4a65c_iterator_32c93 5 = .ok (.invokespecial 269, 3) := by decide +kernel
theorem dJ7_checkLength_df160_37 : decode cJ7_checkLength_df160 37 = .ok (.return_, 1) := by decide +kernel
theorem dJ7_copyOfRange_39247_6 : decode cJ7_copyOfRange_39247 6 = .ok (.arraylength, 1) := by decide +kernel
theorem dJ7_copyOfRange_39247_13 : decode cJ7_copyOfRange_39247 13 = .ok (.invokestatic 339, 3) := by decide +kernel
theorem dJ7_copyOfRangeByte_39247_5 : decode cJ7_copyOfRangeByte_39247 5 = .ok (.iload_n 2, 1) := by decide +kernel
theorem dJ7_copyOfRangeByte_39247_10 : decode cJ7_copyOfRangeByte_39247 10 = .ok (.newarray .byte, 2) := by decide +kernel
theorem dJ7_copyOfRangeByte_39247_18 : decode cJ7_copyOfRangeByte_39247 18 = .ok (.iconst 0, 1) := by decide +kernel
theorem dJ7_copyOfRangeByte_39247_23 : decode cJ7_copyOfRangeByte_39247 23 = .ok (.iload_n 3, 1) := by decide +kernel
theorem dJ3_checkIndex_8e157_0 : decode cJ3_checkIndex_8e157 0 = .ok (.iload_n 0, 1) := by decide +kernel
theorem dJ3_checkIndex_8e157_16 : decode cJ3_checkIndex_8e157 16 = .ok (.iload_n 0, 1) := by decide +kernel
theorem dJ3_checkFromToIndex_8c36e_5 : decode cJ3_checkFromToIndex_8c36e 5 = .ok (.iload_n 1, 1) := by decide +kernel
theorem dJ3_checkFromToIndex_8c36e_22 : decode cJ3_checkFromToIndex_8c36e 22 = .ok (.iload_n 0, 1) := by decide +kernel
theorem dL_word_3 : decode cL_word 3 = .ok (.iload_n 2, 1) := by decide +kernel
theorem dL_word_14 : decode cL_word 14 = .ok (.astore 4, 2) := by decide +kernel
theorem dL_mark_0 : decode cL_mark 0 = .ok (.aload_n 2, 1) := by decide +kernel
theorem dL_mark_7 : decode cL_mark 7 = .ok (.putfield 13, 3) := by decide +kernel
theorem dL_mark_19 : decode cL_mark 19 = .ok (.iconst 0, 1) := by decide +kernel
theorem dL_join_3 : decode cL_join 3 = .ok (.iload_n 2, 1) := by decide +kernel
theorem dL_nest_0 : decode cL_nest 0 = .ok (.aload_n 3, 1) := by decide +kernel
theorem dL_nest_14 : decode cL_nest 14 = .ok (.astore 4, 2) := by decide +kernel
theorem dL_align_2 : decode cL_align 2 = .ok (.iload_n 1, 1) := by decide +kernel
theorem dL_group_0 : decode cL_group 0 = .ok (.aload_n 2, 1) := by decide +kernel
theorem dL_group_14 : decode cL_group 14 = .ok (.iconst 1, 1) := by decide +kernel
theorem dL_fill_3 : decode cL_fill 3 = .ok (.iload_n 2, 1) := by decide +kernel
theorem dL_width_0 : decode cL_width 0 = .ok (.aload_n 2, 1) := by decide +kernel
theorem dL_width_7 : decode cL_width 7 = .ok (.putfield 13, 3) := by decide +kernel
theorem dL_width_16 : decode cL_width 16 = .ok (.iconst 0, 1) := by decide +kernel
theorem dL_ribbon_3 : decode cL_ribbon 3 = .ok (.invokevirtual 47, 3) := by decide +kernel
theorem dL_ribbon_14 : decode cL_ribbon 14 = .ok (.iconst 1, 1) := by decide +kernel
theorem dL_say_2 : decode cL_say 2 = .ok (.aload_n 0, 1) := by decide +kernel
theorem dL_say_8 : decode cL_say 8 = .ok (.iload 5, 2) := by decide +kernel
theorem dL_say_19 : decode cL_say 19 = .ok (.goto 11, 3) := by decide +kernel
theorem dL_say_31 : decode cL_say 31 = .ok (.ireturn, 1) := by decide +kernel
theorem dL_read_6 : decode cL_read 6 = .ok (.putfield 13, 3) := by decide +kernel
theorem dL_ofNode_1 : decode cL_ofNode 1 = .ok (.aload_n 0, 1) := by decide +kernel
theorem dL_ofNode_16 : decode cL_ofNode 16 = .ok (.iconst 1, 1) := by decide +kernel
theorem dL_flat_3 : decode cL_flat 3 = .ok (.invokevirtual 61, 3) := by decide +kernel
theorem dL_line_1 : decode cL_line 1 = .ok (.aload_n 0, 1) := by decide +kernel
theorem dL_line_15 : decode cL_line 15 = .ok (.iconst 1, 1) := by decide +kernel
theorem dL_measure_3 : decode cL_measure 3 = .ok (.iload_n 2, 1) := by decide +kernel
theorem dL_at_0 : decode cL_at 0 = .ok (.aload 4, 2) := by decide +kernel
theorem dL_at_6 : decode cL_at 6 = .ok (.invokevirtual 76, 3) := by decide +kernel
theorem dL_where_2 : decode cL_where 2 = .ok (.aload_n 0, 1) := by decide +kernel
theorem dL_where_16 : decode cL_where 16 = .ok (.astore 5, 2) := by decide +kernel
theorem dL_isOne_2 : decode cL_isOne 2 = .ok (.iload_n 1, 1) := by decide +kernel
theorem dL_isOne_17 : decode cL_isOne 17 = .ok (.ireturn, 1) := by decide +kernel
theorem dL_differ_5 : decode cL_differ 5 = .ok (.iload_n 3, 1) := by decide +kernel
theorem dL_ofCode_0 : decode cL_ofCode 0 = .ok (.aload_n 2, 1) := by decide +kernel
theorem dL_ofCode_7 : decode cL_ofCode 7 = .ok (.putfield 13, 3) := by decide +kernel
theorem dL_ofCode_16 : decode cL_ofCode 16 = .ok (.iconst 0, 1) := by decide +kernel
theorem dL_codeLine_3 : decode cL_codeLine 3 = .ok (.invokevirtual 93, 3) := by decide +kernel
theorem dL_codeLine_14 : decode cL_codeLine 14 = .ok (.ireturn, 1) := by decide +kernel
theorem dL_house_2 : decode cL_house 2 = .ok (.iload_n 1, 1) := by decide +kernel
theorem dL_house_13 : decode cL_house 13 = .ok (.astore_n 3, 1) := by decide +kernel
theorem dL_fits_0 : decode cL_fits 0 = .ok (.aload_n 3, 1) := by decide +kernel
theorem dL_fits_21 : decode cL_fits 21 = .ok (.astore 4, 2) := by decide +kernel
theorem dL_would_3 : decode cL_would 3 = .ok (.iload_n 1, 1) := by decide +kernel
theorem dL_would_18 : decode cL_would 18 = .ok (.iconst 1, 1) := by decide +kernel
theorem dL_narrowest_3 : decode cL_narrowest 3 = .ok (.invokevirtual 106, 3) := by decide +kernel
theorem dL_least_1 : decode cL_least 1 = .ok (.aload_n 0, 1) := by decide +kernel
theorem dL_least_16 : decode cL_least 16 = .ok (.iconst 1, 1) := by decide +kernel
theorem dL_leastLine_3 : decode cL_leastLine 3 = .ok (.iload_n 2, 1) := by decide +kernel
theorem dL_law_0 : decode cL_law 0 = .ok (.new 8, 3) := by decide +kernel
theorem dL_law_11 : decode cL_law 11 = .ok (.dup, 1) := by decide +kernel
theorem dL_law_20 : decode cL_law 20 = .ok (.invokespecial 119, 3) := by decide +kernel
theorem dL_law_29 : decode cL_law 29 = .ok (.aload_n 0, 1) := by decide +kernel
theorem dL_law_37 : decode cL_law 37 = .ok (.aload_n 0, 1) := by decide +kernel
theorem dL_law_44 : decode cL_law 44 = .ok (.tableswitch 2172 0 35 #[160, 229, 286, 355, 424, 481, 538, 607, 620, 677, 734, 853, 898, 911, 924, 937, 1006, 1064, 1134, 1203, 1284, 1381, 1450, 1547, 1563, 1604, 1661, 1677, 1735, 1792, 1868, 1949, 2006, 2075, 2145, 2158], 160) := by decide +kernel
theorem dL_law_209 : decode cL_law 209 = .ok (.iadd, 1) := by decide +kernel
theorem dL_law_215 : decode cL_law 215 = .ok (.iadd, 1) := by decide +kernel
theorem dL_law_223 : decode cL_law 223 = .ok (.aload_n 2, 1) := by decide +kernel
theorem dL_law_229 : decode cL_law 229 = .ok (.iaload, 1) := by decide +kernel
theorem dL_law_235 : decode cL_law 235 = .ok (.iaload, 1) := by decide +kernel
theorem dL_law_245 : decode cL_law 245 = .ok (.iload 5, 2) := by decide +kernel
theorem dL_law_258 : decode cL_law 258 = .ok (.getfield 13, 3) := by decide +kernel
theorem dL_law_270 : decode cL_law 270 = .ok (.goto 1946, 3) := by decide +kernel
theorem dL_law_278 : decode cL_law 278 = .ok (.iadd, 1) := by decide +kernel
theorem dL_law_286 : decode cL_law 286 = .ok (.aload_n 2, 1) := by decide +kernel
theorem dL_law_292 : decode cL_law 292 = .ok (.iaload, 1) := by decide +kernel
theorem dL_law_302 : decode cL_law 302 = .ok (.iload 5, 2) := by decide +kernel
theorem dL_law_315 : decode cL_law 315 = .ok (.getfield 13, 3) := by decide +kernel
theorem dL_law_327 : decode cL_law 327 = .ok (.goto 1889, 3) := by decide +kernel
theorem dL_law_335 : decode cL_law 335 = .ok (.iadd, 1) := by decide +kernel
theorem dL_law_341 : decode cL_law 341 = .ok (.iadd, 1) := by decide +kernel
theorem dL_law_349 : decode cL_law 349 = .ok (.aload_n 2, 1) := by decide +kernel
theorem dL_law_355 : decode cL_law 355 = .ok (.iaload, 1) := by decide +kernel
theorem dL_law_361 : decode cL_law 361 = .ok (.iaload, 1) := by decide +kernel
theorem dL_law_371 : decode cL_law 371 = .ok (.iload 5, 2) := by decide +kernel
theorem dL_law_399 : decode cL_law 399 = .ok (.aload_n 1, 1) := by decide +kernel
theorem dL_law_405 : decode cL_law 405 = .ok (.iaload, 1) := by decide +kernel
theorem dL_law_411 : decode cL_law 411 = .ok (.iaload, 1) := by decide +kernel
theorem dL_law_419 : decode cL_law 419 = .ok (.aload_n 0, 1) := by decide +kernel
theorem dL_law_425 : decode cL_law 425 = .ok (.aload_n 0, 1) := by decide +kernel
theorem dL_law_431 : decode cL_law 431 = .ok (.invokevirtual 138, 3) := by decide +kernel
theorem dL_law_442 : decode cL_law 442 = .ok (.if_icmp .eq 5, 3) := by decide +kernel
theorem dL_law_469 : decode cL_law 469 = .ok (.aload_n 0, 1) := by decide +kernel
theorem dL_law_475 : decode cL_law 475 = .ok (.aload_n 3, 1) := by decide +kernel
theorem dL_law_483 : decode cL_law 483 = .ok (.iload 4, 2) := by decide +kernel
theorem dL_law_491 : decode cL_law 491 = .ok (.istore 6, 2) := by decide +kernel
theorem dL_law_504 : decode cL_law 504 = .ok (.iload 5, 2) := by decide +kernel
theorem dL_law_527 : decode cL_law 527 = .ok (.iload 4, 2) := by decide +kernel
theorem dL_law_533 : decode cL_law 533 = .ok (.invokestatic 142, 3) := by decide +kernel
theorem dL_law_542 : decode cL_law 542 = .ok (.iconst 1, 1) := by decide +kernel
theorem dL_law_550 : decode cL_law 550 = .ok (.aload_n 2, 1) := by decide +kernel
theorem dL_law_563 : decode cL_law 563 = .ok (.ifCond .ne 16, 3) := by decide +kernel
theorem dL_law_586 : decode cL_law 586 = .ok (.iconst 1, 1) := by decide +kernel
theorem dL_law_592 : decode cL_law 592 = .ok (.iconst 2, 1) := by decide +kernel
theorem dL_law_599 : decode cL_law 599 = .ok (.istore 5, 2) := by decide +kernel
theorem dL_law_606 : decode cL_law 606 = .ok (.iadd, 1) := by decide +kernel
theorem dL_law_612 : decode cL_law 612 = .ok (.iadd, 1) := by decide +kernel
theorem dL_law_620 : decode cL_law 620 = .ok (.invokevirtual 126, 3) := by decide +kernel
theorem dL_law_648 : decode cL_law 648 = .ok (.goto 1568, 3) := by decide +kernel
theorem dL_law_659 : decode cL_law 659 = .ok (.if_icmp .eq 1557, 3) := by decide +kernel
theorem dL_law_669 : decode cL_law 669 = .ok (.iadd, 1) := by decide +kernel
theorem dL_law_677 : decode cL_law 677 = .ok (.aload_n 2, 1) := by decide +kernel
theorem dL_law_683 : decode cL_law 683 = .ok (.iaload, 1) := by decide +kernel
theorem dL_law_693 : decode cL_law 693 = .ok (.iload 5, 2) := by decide +kernel
theorem dL_law_706 : decode cL_law 706 = .ok (.getfield 13, 3) := by decide +kernel
theorem dL_law_718 : decode cL_law 718 = .ok (.goto 1498, 3) := by decide +kernel
theorem dL_law_726 : decode cL_law 726 = .ok (.iadd, 1) := by decide +kernel
theorem dL_law_734 : decode cL_law 734 = .ok (.aload_n 2, 1) := by decide +kernel
theorem dL_law_740 : decode cL_law 740 = .ok (.iaload, 1) := by decide +kernel
theorem dL_law_750 : decode cL_law 750 = .ok (.iload 5, 2) := by decide +kernel
theorem dL_law_763 : decode cL_law 763 = .ok (.getfield 13, 3) := by decide +kernel
theorem dL_law_775 : decode cL_law 775 = .ok (.goto 1441, 3) := by decide +kernel
theorem dL_law_783 : decode cL_law 783 = .ok (.iadd, 1) := by decide +kernel
theorem dL_law_789 : decode cL_law 789 = .ok (.iadd, 1) := by decide +kernel
theorem dL_law_795 : decode cL_law 795 = .ok (.iadd, 1) := by decide +kernel
theorem dL_law_801 : decode cL_law 801 = .ok (.iadd, 1) := by decide +kernel
theorem dL_law_807 : decode cL_law 807 = .ok (.iadd, 1) := by decide +kernel
theorem dL_law_814 : decode cL_law 814 = .ok (.iadd, 1) := by decide +kernel
theorem dL_law_822 : decode cL_law 822 = .ok (.aload_n 2, 1) := by decide +kernel
theorem dL_law_828 : decode cL_law 828 = .ok (.iaload, 1) := by decide +kernel
theorem dL_law_834 : decode cL_law 834 = .ok (.iaload, 1) := by decide +kernel
theorem dL_law_840 : decode cL_law 840 = .ok (.iaload, 1) := by decide +kernel
theorem dL_law_846 : decode cL_law 846 = .ok (.iaload, 1) := by decide +kernel
theorem dL_law_852 : decode cL_law 852 = .ok (.iaload, 1) := by decide +kernel
theorem dL_law_859 : decode cL_law 859 = .ok (.iaload, 1) := by decide +kernel
theorem dL_law_869 : decode cL_law 869 = .ok (.iload 5, 2) := by decide +kernel
theorem dL_law_882 : decode cL_law 882 = .ok (.getfield 13, 3) := by decide +kernel
theorem dL_law_894 : decode cL_law 894 = .ok (.goto 1322, 3) := by decide +kernel
theorem dL_law_904 : decode cL_law 904 = .ok (.aload_n 2, 1) := by decide +kernel
theorem dL_law_914 : decode cL_law 914 = .ok (.iload 5, 2) := by decide +kernel
theorem dL_law_927 : decode cL_law 927 = .ok (.getfield 13, 3) := by decide +kernel
theorem dL_law_939 : decode cL_law 939 = .ok (.goto 1277, 3) := by decide +kernel
theorem dL_law_950 : decode cL_law 950 = .ok (.if_icmp .eq 1266, 3) := by decide +kernel
theorem dL_law_963 : decode cL_law 963 = .ok (.if_icmp .eq 1253, 3) := by decide +kernel
theorem dL_law_976 : decode cL_law 976 = .ok (.if_icmp .eq 1240, 3) := by decide +kernel
theorem dL_law_986 : decode cL_law 986 = .ok (.iadd, 1) := by decide +kernel
theorem dL_law_992 : decode cL_law 992 = .ok (.iadd, 1) := by decide +kernel
theorem dL_law_1000 : decode cL_law 1000 = .ok (.aload_n 2, 1) := by decide +kernel
theorem dL_law_1006 : decode cL_law 1006 = .ok (.iaload, 1) := by decide +kernel
theorem dL_law_1012 : decode cL_law 1012 = .ok (.iaload, 1) := by decide +kernel
theorem dL_law_1022 : decode cL_law 1022 = .ok (.iload 5, 2) := by decide +kernel
theorem dL_law_1050 : decode cL_law 1050 = .ok (.aload_n 1, 1) := by decide +kernel
theorem dL_law_1056 : decode cL_law 1056 = .ok (.iaload, 1) := by decide +kernel
theorem dL_law_1064 : decode cL_law 1064 = .ok (.aload_n 0, 1) := by decide +kernel
theorem dL_law_1070 : decode cL_law 1070 = .ok (.invokevirtual 183, 3) := by decide +kernel
theorem dL_law_1081 : decode cL_law 1081 = .ok (.if_icmp .eq 5, 3) := by decide +kernel
theorem dL_law_1109 : decode cL_law 1109 = .ok (.aload_n 0, 1) := by decide +kernel
theorem dL_law_1115 : decode cL_law 1115 = .ok (.aload_n 0, 1) := by decide +kernel
theorem dL_law_1121 : decode cL_law 1121 = .ok (.aload_n 3, 1) := by decide +kernel
theorem dL_law_1129 : decode cL_law 1129 = .ok (.iload 4, 2) := by decide +kernel
theorem dL_law_1135 : decode cL_law 1135 = .ok (.iload 4, 2) := by decide +kernel
theorem dL_law_1143 : decode cL_law 1143 = .ok (.astore 6, 2) := by decide +kernel
theorem dL_law_1156 : decode cL_law 1156 = .ok (.iload 5, 2) := by decide +kernel
theorem dL_law_1180 : decode cL_law 1180 = .ok (.iload 4, 2) := by decide +kernel
theorem dL_law_1186 : decode cL_law 1186 = .ok (.iload 4, 2) := by decide +kernel
theorem dL_law_1192 : decode cL_law 1192 = .ok (.invokestatic 193, 3) := by decide +kernel
theorem dL_law_1201 : decode cL_law 1201 = .ok (.iconst 1, 1) := by decide +kernel
theorem dL_law_1207 : decode cL_law 1207 = .ok (.iconst 2, 1) := by decide +kernel
theorem dL_law_1215 : decode cL_law 1215 = .ok (.aload_n 2, 1) := by decide +kernel
theorem dL_law_1228 : decode cL_law 1228 = .ok (.ifCond .ne 16, 3) := by decide +kernel
theorem dL_law_1251 : decode cL_law 1251 = .ok (.iconst 1, 1) := by decide +kernel
theorem dL_law_1257 : decode cL_law 1257 = .ok (.iconst 2, 1) := by decide +kernel
theorem dL_law_1263 : decode cL_law 1263 = .ok (.iconst 3, 1) := by decide +kernel
theorem dL_law_1270 : decode cL_law 1270 = .ok (.istore 5, 2) := by decide +kernel
theorem dL_law_1277 : decode cL_law 1277 = .ok (.iadd, 1) := by decide +kernel
theorem dL_law_1283 : decode cL_law 1283 = .ok (.iadd, 1) := by decide +kernel
theorem dL_law_1289 : decode cL_law 1289 = .ok (.iadd, 1) := by decide +kernel
theorem dL_law_1297 : decode cL_law 1297 = .ok (.invokevirtual 126, 3) := by decide +kernel
theorem dL_law_1325 : decode cL_law 1325 = .ok (.goto 891, 3) := by decide +kernel
theorem dL_law_1333 : decode cL_law 1333 = .ok (.iadd, 1) := by decide +kernel
theorem dL_law_1339 : decode cL_law 1339 = .ok (.iadd, 1) := by decide +kernel
theorem dL_law_1345 : decode cL_law 1345 = .ok (.iadd, 1) := by decide +kernel
theorem dL_law_1354 : decode cL_law 1354 = .ok (.iconst 0, 1) := by decide +kernel
theorem dL_law_1362 : decode cL_law 1362 = .ok (.aload_n 0, 1) := by decide +kernel
theorem dL_law_1368 : decode cL_law 1368 = .ok (.aload_n 0, 1) := by decide +kernel
theorem dL_law_1374 : decode cL_law 1374 = .ok (.aload_n 0, 1) := by decide +kernel
theorem dL_law_1380 : decode cL_law 1380 = .ok (.ifCond .eq 7, 3) := by decide +kernel
theorem dL_law_1391 : decode cL_law 1391 = .ok (.istore 6, 2) := by decide +kernel
theorem dL_law_1404 : decode cL_law 1404 = .ok (.iload 5, 2) := by decide +kernel
theorem dL_law_1427 : decode cL_law 1427 = .ok (.iload 4, 2) := by decide +kernel
theorem dL_law_1433 : decode cL_law 1433 = .ok (.iload 4, 2) := by decide +kernel
theorem dL_law_1439 : decode cL_law 1439 = .ok (.invokestatic 204, 3) := by decide +kernel
theorem dL_law_1448 : decode cL_law 1448 = .ok (.iconst 1, 1) := by decide +kernel
theorem dL_law_1454 : decode cL_law 1454 = .ok (.iconst 2, 1) := by decide +kernel
theorem dL_law_1462 : decode cL_law 1462 = .ok (.aload_n 2, 1) := by decide +kernel
theorem dL_law_1475 : decode cL_law 1475 = .ok (.ifCond .ne 16, 3) := by decide +kernel
theorem dL_law_1498 : decode cL_law 1498 = .ok (.iconst 1, 1) := by decide +kernel
theorem dL_law_1504 : decode cL_law 1504 = .ok (.iconst 2, 1) := by decide +kernel
theorem dL_law_1510 : decode cL_law 1510 = .ok (.iconst 3, 1) := by decide +kernel
theorem dL_law_1517 : decode cL_law 1517 = .ok (.goto 4, 3) := by decide +kernel
theorem dL_law_1527 : decode cL_law 1527 = .ok (.aload_n 2, 1) := by decide +kernel
theorem dL_law_1533 : decode cL_law 1533 = .ok (.iaload, 1) := by decide +kernel
theorem dL_law_1539 : decode cL_law 1539 = .ok (.iaload, 1) := by decide +kernel
theorem dL_law_1545 : decode cL_law 1545 = .ok (.iaload, 1) := by decide +kernel
theorem dL_law_1554 : decode cL_law 1554 = .ok (.invokevirtual 209, 3) := by decide +kernel
theorem dL_law_1565 : decode cL_law 1565 = .ok (.if_icmp .eq 5, 3) := by decide +kernel
theorem dL_law_1592 : decode cL_law 1592 = .ok (.invokevirtual 210, 3) := by decide +kernel
theorem dL_law_1607 : decode cL_law 1607 = .ok (.aload_n 1, 1) := by decide +kernel
theorem dL_law_1613 : decode cL_law 1613 = .ok (.iaload, 1) := by decide +kernel
theorem dL_law_1622 : decode cL_law 1622 = .ok (.invokevirtual 215, 3) := by decide +kernel
theorem dL_law_1630 : decode cL_law 1630 = .ok (.iadd, 1) := by decide +kernel
theorem dL_law_1639 : decode cL_law 1639 = .ok (.iconst 0, 1) := by decide +kernel
theorem dL_law_1650 : decode cL_law 1650 = .ok (.iload 4, 2) := by decide +kernel
theorem dL_law_1656 : decode cL_law 1656 = .ok (.invokestatic 220, 3) := by decide +kernel
theorem dL_law_1665 : decode cL_law 1665 = .ok (.iconst 1, 1) := by decide +kernel
theorem dL_law_1673 : decode cL_law 1673 = .ok (.aload_n 2, 1) := by decide +kernel
theorem dL_law_1686 : decode cL_law 1686 = .ok (.ifCond .ne 16, 3) := by decide +kernel
theorem dL_law_1696 : decode cL_law 1696 = .ok (.lcmp, 1) := by decide +kernel
theorem dL_law_1709 : decode cL_law 1709 = .ok (.aload_n 2, 1) := by decide +kernel
theorem dL_law_1722 : decode cL_law 1722 = .ok (.aload_n 0, 1) := by decide +kernel
theorem dL_law_1728 : decode cL_law 1728 = .ok (.aload_n 3, 1) := by decide +kernel
theorem dL_law_1736 : decode cL_law 1736 = .ok (.iload 4, 2) := by decide +kernel
theorem dL_law_1744 : decode cL_law 1744 = .ok (.astore 6, 2) := by decide +kernel
theorem dL_law_1757 : decode cL_law 1757 = .ok (.iload 5, 2) := by decide +kernel
theorem dL_law_1768 : decode cL_law 1768 = .ok (.invokevirtual 184, 3) := by decide +kernel
theorem dL_law_1781 : decode cL_law 1781 = .ok (.iload 4, 2) := by decide +kernel
theorem dL_law_1787 : decode cL_law 1787 = .ok (.invokestatic 230, 3) := by decide +kernel
theorem dL_law_1796 : decode cL_law 1796 = .ok (.iconst 1, 1) := by decide +kernel
theorem dL_law_1804 : decode cL_law 1804 = .ok (.aload_n 2, 1) := by decide +kernel
theorem dL_law_1817 : decode cL_law 1817 = .ok (.ifCond .ne 16, 3) := by decide +kernel
theorem dL_law_1827 : decode cL_law 1827 = .ok (.lcmp, 1) := by decide +kernel
theorem dL_law_1838 : decode cL_law 1838 = .ok (.iload 4, 2) := by decide +kernel
theorem dL_law_1844 : decode cL_law 1844 = .ok (.iload 4, 2) := by decide +kernel
theorem dL_law_1850 : decode cL_law 1850 = .ok (.invokestatic 233, 3) := by decide +kernel
theorem dL_law_1859 : decode cL_law 1859 = .ok (.iconst 1, 1) := by decide +kernel
theorem dL_law_1865 : decode cL_law 1865 = .ok (.iconst 2, 1) := by decide +kernel
theorem dL_law_1873 : decode cL_law 1873 = .ok (.aload_n 2, 1) := by decide +kernel
theorem dL_law_1886 : decode cL_law 1886 = .ok (.ifCond .ne 23, 3) := by decide +kernel
theorem dL_law_1916 : decode cL_law 1916 = .ok (.iconst 1, 1) := by decide +kernel
theorem dL_law_1922 : decode cL_law 1922 = .ok (.iconst 2, 1) := by decide +kernel
theorem dL_law_1928 : decode cL_law 1928 = .ok (.iconst 3, 1) := by decide +kernel
theorem dL_law_1935 : decode cL_law 1935 = .ok (.istore 5, 2) := by decide +kernel
theorem dL_law_1942 : decode cL_law 1942 = .ok (.iadd, 1) := by decide +kernel
theorem dL_law_1948 : decode cL_law 1948 = .ok (.iadd, 1) := by decide +kernel
theorem dL_law_1954 : decode cL_law 1954 = .ok (.iadd, 1) := by decide +kernel
theorem dL_law_1962 : decode cL_law 1962 = .ok (.invokevirtual 126, 3) := by decide +kernel
theorem dL_law_1990 : decode cL_law 1990 = .ok (.goto 226, 3) := by decide +kernel
theorem dL_law_1998 : decode cL_law 1998 = .ok (.iadd, 1) := by decide +kernel
theorem dL_law_2006 : decode cL_law 2006 = .ok (.aload_n 2, 1) := by decide +kernel
theorem dL_law_2012 : decode cL_law 2012 = .ok (.iaload, 1) := by decide +kernel
theorem dL_law_2022 : decode cL_law 2022 = .ok (.iload 5, 2) := by decide +kernel
theorem dL_law_2050 : decode cL_law 2050 = .ok (.aload_n 1, 1) := by decide +kernel
theorem dL_law_2056 : decode cL_law 2056 = .ok (.iaload, 1) := by decide +kernel
theorem dL_law_2062 : decode cL_law 2062 = .ok (.iaload, 1) := by decide +kernel
theorem dL_law_2070 : decode cL_law 2070 = .ok (.aload_n 0, 1) := by decide +kernel
theorem dL_law_2076 : decode cL_law 2076 = .ok (.aload_n 0, 1) := by decide +kernel
theorem dL_law_2082 : decode cL_law 2082 = .ok (.invokevirtual 244, 3) := by decide +kernel
theorem dL_law_2093 : decode cL_law 2093 = .ok (.if_icmp .eq 5, 3) := by decide +kernel
theorem dL_law_2120 : decode cL_law 2120 = .ok (.aload_n 0, 1) := by decide +kernel
theorem dL_law_2126 : decode cL_law 2126 = .ok (.aload_n 0, 1) := by decide +kernel
theorem dL_law_2132 : decode cL_law 2132 = .ok (.aload_n 3, 1) := by decide +kernel
theorem dL_law_2140 : decode cL_law 2140 = .ok (.iload 4, 2) := by decide +kernel
theorem dL_law_2146 : decode cL_law 2146 = .ok (.iload 4, 2) := by decide +kernel
theorem dL_law_2154 : decode cL_law 2154 = .ok (.astore 6, 2) := by decide +kernel
theorem dL_law_2167 : decode cL_law 2167 = .ok (.iload 5, 2) := by decide +kernel
theorem dL_law_2193 : decode cL_law 2193 = .ok (.aload_n 2, 1) := by decide +kernel
theorem dL_law_2206 : decode cL_law 2206 = .ok (.aload_n 2, 1) := by decide +kernel
theorem dL_law_2219 : decode cL_law 2219 = .ok (.goto (-2192), 3) := by decide +kernel

theorem dX0_init_4 : decode cX0_init 4 = .ok (.aload_n 0, 1) := by decide +kernel
theorem dX0_init_13 : decode cX0_init 13 = .ok (.putfield 14, 3) := by decide +kernel
theorem dX0_init_22 : decode cX0_init 22 = .ok (.invokespecial 11, 3) := by decide +kernel
theorem dX0_init_33 : decode cX0_init 33 = .ok (.iconst 4, 1) := by decide +kernel
theorem dX0_init_44 : decode cX0_init 44 = .ok (.dup, 1) := by decide +kernel
theorem dX0_init_53 : decode cX0_init 53 = .ok (.new 9, 3) := by decide +kernel
theorem dX0_init_64 : decode cX0_init 64 = .ok (.aload_n 0, 1) := by decide +kernel
theorem dX0_init_73 : decode cX0_init 73 = .ok (.putfield 32, 3) := by decide +kernel
theorem dX0_init_83 : decode cX0_init 83 = .ok (.invokespecial 11, 3) := by decide +kernel
theorem dX0_init_94 : decode cX0_init 94 = .ok (.aload_n 0, 1) := by decide +kernel
theorem dX0_init_101 : decode cX0_init 101 = .ok (.putfield 45, 3) := by decide +kernel
theorem dX0_faultOf_0 : decode cX0_faultOf 0 = .ok (.aload_n 2, 1) := by decide +kernel
theorem dX0_faultOf_9 : decode cX0_faultOf 9 = .ok (.iconst 0, 1) := by decide +kernel
theorem dX0_faultOf_16 : decode cX0_faultOf 16 = .ok (.if_icmp .ge 86, 3) := by decide +kernel
theorem dX0_faultOf_112 : decode cX0_faultOf 112 = .ok (.aload_n 0, 1) := by decide +kernel
theorem dX0_faultOf_123 : decode cX0_faultOf 123 = .ok (.ireturn, 1) := by decide +kernel
theorem dX0_begin_8 : decode cX0_begin 8 = .ok (.getfield 20, 3) := by decide +kernel
theorem dX0_begin_21 : decode cX0_begin 21 = .ok (.aload_n 0, 1) := by decide +kernel
theorem dX0_begin_32 : decode cX0_begin 32 = .ok (.invokevirtual 100, 3) := by decide +kernel
theorem dX0_begin_43 : decode cX0_begin 43 = .ok (.getfield 35, 3) := by decide +kernel
theorem dX0_begin_54 : decode cX0_begin 54 = .ok (.aload_n 0, 1) := by decide +kernel
theorem dX0_startSum_2 : decode cX0_startSum 2 = .ok (.getfield 35, 3) := by decide +kernel
theorem dX0_startSum_13 : decode cX0_startSum 13 = .ok (.getfield 35, 3) := by decide +kernel
theorem dX0_isBehindFactor_1 : decode cX0_isBehindFactor 1 = .ok (.getfield 38, 3) := by decide +kernel
theorem dX0_isBehindFactor_12 : decode cX0_isBehindFactor 12 = .ok (.iconst 3, 1) := by decide +kernel
theorem dX1_init_1 : decode cX1_init 1 = .ok (.invokespecial 3, 3) := by decide +kernel
theorem dX1_init_10 : decode cX1_init 10 = .ok (.invokespecial 11, 3) := by decide +kernel
theorem dX1_init_21 : decode cX1_init 21 = .ok (.iconst 4, 1) := by decide +kernel
theorem dX1_init_32 : decode cX1_init 32 = .ok (.dup, 1) := by decide +kernel
theorem dX1_faultOf_0 : decode cX1_faultOf 0 = .ok (.aload_n 0, 1) := by decide +kernel
theorem dX1_faultOf_9 : decode cX1_faultOf 9 = .ok (.iload_n 2, 1) := by decide +kernel
theorem dX1_faultOf_116 : decode cX1_faultOf 116 = .ok (.getfield 14, 3) := by decide +kernel
theorem dX1_faultOf_133 : decode cX1_faultOf 133 = .ok (.ireturn, 1) := by decide +kernel
theorem dX1_build_8 : decode cX1_build 8 = .ok (.getfield 23, 3) := by decide +kernel
theorem dX1_build_17 : decode cX1_build 17 = .ok (.istore 4, 2) := by decide +kernel
theorem dX1_build_101 : decode cX1_build 101 = .ok (.aload_n 0, 1) := by decide +kernel
theorem dX1_gathered_0 : decode cX1_gathered 0 = .ok (.aload_n 0, 1) := by decide +kernel
theorem dX1_gathered_9 : decode cX1_gathered 9 = .ok (.istore_n 3, 1) := by decide +kernel
theorem dX1_gathered_16 : decode cX1_gathered 16 = .ok (.invokevirtual 76, 3) := by decide +kernel
theorem dX2_init_5 : decode cX2_init 5 = .ok (.new 9, 3) := by decide +kernel
theorem dX2_init_16 : decode cX2_init 16 = .ok (.new 18, 3) := by decide +kernel
theorem dX2_init_29 : decode cX2_init 29 = .ok (.aload_n 0, 1) := by decide +kernel
theorem dX2_init_40 : decode cX2_init 40 = .ok (.putfield 27, 3) := by decide +kernel
theorem dX2_init_50 : decode cX2_init 50 = .ok (.invokespecial 20, 3) := by decide +kernel
theorem dX2_init_61 : decode cX2_init 61 = .ok (.bipush 100, 2) := by decide +kernel
theorem dX2_init_73 : decode cX2_init 73 = .ok (.dup, 1) := by decide +kernel
theorem dX2_init_83 : decode cX2_init 83 = .ok (.new 18, 3) := by decide +kernel
theorem dX2_init_95 : decode cX2_init 95 = .ok (.aload_n 0, 1) := by decide +kernel
theorem dX2_init_106 : decode cX2_init 106 = .ok (.putfield 42, 3) := by decide +kernel
theorem dX2_init_115 : decode cX2_init 115 = .ok (.iconst 1, 1) := by decide +kernel
theorem dX2_init_124 : decode cX2_init 124 = .ok (.aload_n 0, 1) := by decide +kernel
theorem dX2_init_131 : decode cX2_init 131 = .ok (.putfield 58, 3) := by decide +kernel
theorem dX2_init_140 : decode cX2_init 140 = .ok (.iconst 0, 1) := by decide +kernel
theorem dX2_init_149 : decode cX2_init 149 = .ok (.aload_n 0, 1) := by decide +kernel
theorem dX2_init_158 : decode cX2_init 158 = .ok (.dup, 1) := by decide +kernel
theorem dX3_init_0 : decode cX3_init 0 = .ok (.aload_n 0, 1) := by decide +kernel
theorem dX3_init_9 : decode cX3_init 9 = .ok (.bipush 80, 2) := by decide +kernel
theorem dX3_init_21 : decode cX3_init 21 = .ok (.dup, 1) := by decide +kernel
theorem dX3_init_32 : decode cX3_init 32 = .ok (.new 9, 3) := by decide +kernel
theorem dX3_init_45 : decode cX3_init 45 = .ok (.aload_n 0, 1) := by decide +kernel
theorem dX3_init_56 : decode cX3_init 56 = .ok (.putfield 26, 3) := by decide +kernel
theorem dX3_init_67 : decode cX3_init 67 = .ok (.invokespecial 11, 3) := by decide +kernel
theorem dX3_init_78 : decode cX3_init 78 = .ok (.sipush 4960, 3) := by decide +kernel
theorem dX3_init_91 : decode cX3_init 91 = .ok (.dup, 1) := by decide +kernel
theorem dX3_init_102 : decode cX3_init 102 = .ok (.new 9, 3) := by decide +kernel
theorem dX3_init_115 : decode cX3_init 115 = .ok (.aload_n 0, 1) := by decide +kernel
theorem dX3_init_126 : decode cX3_init 126 = .ok (.putfield 41, 3) := by decide +kernel
theorem dX3_count_7 : decode cX3_count 7 = .ok (.ireturn, 1) := by decide +kernel
theorem dX3_has_6 : decode cX3_has 6 = .ok (.getfield 14, 3) := by decide +kernel
theorem dX3_signs_0 : decode cX3_signs 0 = .ok (.aload_n 0, 1) := by decide +kernel
theorem dX3_weightOfAll_2 : decode cX3_weightOfAll 2 = .ok (.iconst 0, 1) := by decide +kernel
theorem dX3_weightOfAll_9 : decode cX3_weightOfAll 9 = .ok (.invokevirtual 44, 3) := by decide +kernel
theorem dX3_clear_1 : decode cX3_clear 1 = .ok (.getfield 14, 3) := by decide +kernel
theorem dX3_clear_14 : decode cX3_clear 14 = .ok (.aload_n 0, 1) := by decide +kernel
theorem dX3_clear_25 : decode cX3_clear 25 = .ok (.invokevirtual 55, 3) := by decide +kernel
theorem dX3_clear_36 : decode cX3_clear 36 = .ok (.getfield 32, 3) := by decide +kernel
theorem dX3_clear_49 : decode cX3_clear 49 = .ok (.aload_n 0, 1) := by decide +kernel
theorem dX3_clear_60 : decode cX3_clear 60 = .ok (.invokevirtual 55, 3) := by decide +kernel
theorem dX3_number_5 : decode cX3_number 5 = .ok (.invokevirtual 58, 3) := by decide +kernel
theorem dX3_number_16 : decode cX3_number 16 = .ok (.isub, 1) := by decide +kernel
theorem dX3_addSign_5 : decode cX3_addSign 5 = .ok (.invokevirtual 58, 3) := by decide +kernel
theorem dX3_addText_3 : decode cX3_addText 3 = .ok (.getfield 41, 3) := by decide +kernel
theorem dX3_addText_12 : decode cX3_addText 12 = .ok (.iconst 0, 1) := by decide +kernel
theorem dX3_addMark_0 : decode cX3_addMark 0 = .ok (.aload_n 0, 1) := by decide +kernel
theorem dX3_addMark_5 : decode cX3_addMark 5 = .ok (.iconst 1, 1) := by decide +kernel
theorem dX3_addPlace_1 : decode cX3_addPlace 1 = .ok (.getfield 20, 3) := by decide +kernel
theorem dX3_addPlace_12 : decode cX3_addPlace 12 = .ok (.iload_n 2, 1) := by decide +kernel
theorem dX3_addPlace_21 : decode cX3_addPlace 21 = .ok (.invokevirtual 58, 3) := by decide +kernel
theorem dX3_addPlace_33 : decode cX3_addPlace 33 = .ok (.aload_n 0, 1) := by decide +kernel
theorem dX3_addPlace_43 : decode cX3_addPlace 43 = .ok (.getfield 35, 3) := by decide +kernel
theorem dX3_addPlace_55 : decode cX3_addPlace 55 = .ok (.invokevirtual 44, 3) := by decide +kernel
theorem dX4_init_1 : decode cX4_init 1 = .ok (.invokespecial 1, 3) := by decide +kernel
theorem dX4_init_10 : decode cX4_init 10 = .ok (.iload_n 1, 1) := by decide +kernel
theorem dX4_init_21 : decode cX4_init 21 = .ok (.putfield 13, 3) := by decide +kernel
theorem dX4_get_0 : decode cX4_get 0 = .ok (.iload_n 1, 1) := by decide +kernel
theorem dX4_get_9 : decode cX4_get 9 = .ok (.if_icmp .ge 21, 3) := by decide +kernel
theorem dX4_get_18 : decode cX4_get 18 = .ok (.if_icmp .ge 12, 3) := by decide +kernel
theorem dX4_get_27 : decode cX4_get 27 = .ok (.goto 4, 3) := by decide +kernel
theorem dX4_add_7 : decode cX4_add 7 = .ok (.aload_n 0, 1) := by decide +kernel
theorem dX4_add_16 : decode cX4_add 16 = .ok (.if_icmp .ge 23, 3) := by decide +kernel
theorem dX4_add_27 : decode cX4_add 27 = .ok (.iload_n 1, 1) := by decide +kernel
theorem dX4_add_34 : decode cX4_add 34 = .ok (.iconst 1, 1) := by decide +kernel
theorem dX4_cut_1 : decode cX4_cut 1 = .ok (.ifCond .lt 16, 3) := by decide +kernel
theorem dX4_cut_12 : decode cX4_cut 12 = .ok (.aload_n 0, 1) := by decide +kernel
theorem dX4_clear_1 : decode cX4_clear 1 = .ok (.iconst 0, 1) := by decide +kernel
theorem dX4_copy_2 : decode cX4_copy 2 = .ok (.putfield 7, 3) := by decide +kernel
theorem dX4_copy_9 : decode cX4_copy 9 = .ok (.getfield 7, 3) := by decide +kernel
theorem dX5_init_4 : decode cX5_init 4 = .ok (.aload_n 0, 1) := by decide +kernel
theorem dX5_init_15 : decode cX5_init 15 = .ok (.putfield 14, 3) := by decide +kernel
theorem dX5_init_26 : decode cX5_init 26 = .ok (.invokespecial 11, 3) := by decide +kernel
theorem dX5_init_37 : decode cX5_init 37 = .ok (.sipush 2500, 3) := by decide +kernel
theorem dX5_init_50 : decode cX5_init 50 = .ok (.dup, 1) := by decide +kernel
theorem dX5_init_61 : decode cX5_init 61 = .ok (.new 9, 3) := by decide +kernel
theorem dX5_init_73 : decode cX5_init 73 = .ok (.aload_n 0, 1) := by decide +kernel
theorem dX5_init_84 : decode cX5_init 84 = .ok (.putfield 32, 3) := by decide +kernel
theorem dX5_init_95 : decode cX5_init 95 = .ok (.invokespecial 11, 3) := by decide +kernel
theorem dX5_init_106 : decode cX5_init 106 = .ok (.sipush 2501, 3) := by decide +kernel
theorem dX5_init_119 : decode cX5_init 119 = .ok (.dup, 1) := by decide +kernel
theorem dX5_init_130 : decode cX5_init 130 = .ok (.aload_n 1, 1) := by decide +kernel
theorem dX6_init_4 : decode cX6_init 4 = .ok (.aload_n 0, 1) := by decide +kernel
theorem dX6_init_15 : decode cX6_init 15 = .ok (.putfield 14, 3) := by decide +kernel
theorem dX6_init_24 : decode cX6_init 24 = .ok (.aload_n 2, 1) := by decide +kernel
theorem dX6_init_33 : decode cX6_init 33 = .ok (.aload_n 0, 1) := by decide +kernel
theorem dX6_holds_1 : decode cX6_holds 1 = .ok (.istore 5, 2) := by decide +kernel
theorem dX6_holds_11 : decode cX6_holds 11 = .ok (.iconst 2, 1) := by decide +kernel
theorem dX6_holds_20 : decode cX6_holds 20 = .ok (.aload_n 0, 1) := by decide +kernel
theorem dX6_holds_85 : decode cX6_holds 85 = .ok (.invokevirtual 57, 3) := by decide +kernel
theorem dX7_init_1 : decode cX7_init 1 = .ok (.invokespecial 3, 3) := by decide +kernel
theorem dX7_init_11 : decode cX7_init 11 = .ok (.invokespecial 11, 3) := by decide +kernel
theorem dX7_init_22 : decode cX7_init 22 = .ok (.bipush 120, 2) := by decide +kernel
theorem dX7_init_34 : decode cX7_init 34 = .ok (.dup, 1) := by decide +kernel
theorem dX7_init_44 : decode cX7_init 44 = .ok (.new 9, 3) := by decide +kernel
theorem dX7_init_56 : decode cX7_init 56 = .ok (.aload_n 0, 1) := by decide +kernel
theorem dX7_init_66 : decode cX7_init 66 = .ok (.putfield 29, 3) := by decide +kernel
theorem dX7_init_76 : decode cX7_init 76 = .ok (.invokespecial 11, 3) := by decide +kernel
theorem dX7_init_87 : decode cX7_init 87 = .ok (.bipush 120, 2) := by decide +kernel
theorem dX7_init_99 : decode cX7_init 99 = .ok (.dup, 1) := by decide +kernel
theorem dX7_init_109 : decode cX7_init 109 = .ok (.new 9, 3) := by decide +kernel
theorem dX7_init_121 : decode cX7_init 121 = .ok (.aload_n 0, 1) := by decide +kernel
theorem dX7_start_1 : decode cX7_start 1 = .ok (.getfield 14, 3) := by decide +kernel
theorem dX7_start_14 : decode cX7_start 14 = .ok (.aload_n 0, 1) := by decide +kernel
theorem dX7_start_25 : decode cX7_start 25 = .ok (.invokevirtual 48, 3) := by decide +kernel
theorem dX7_start_36 : decode cX7_start 36 = .ok (.getfield 32, 3) := by decide +kernel
theorem dX7_start_49 : decode cX7_start 49 = .ok (.aload_n 0, 1) := by decide +kernel
theorem dX7_start_58 : decode cX7_start 58 = .ok (.getfield 41, 3) := by decide +kernel
theorem dX7_start_69 : decode cX7_start 69 = .ok (.return_, 1) := by decide +kernel
theorem dX7_isThere_12 : decode cX7_isThere 12 = .ok (.iconst 0, 1) := by decide +kernel
theorem dX8_init_0 : decode cX8_init 0 = .ok (.aload_n 0, 1) := by decide +kernel
theorem dX8_init_9 : decode cX8_init 9 = .ok (.sipush 300, 3) := by decide +kernel
theorem dX8_init_22 : decode cX8_init 22 = .ok (.dup, 1) := by decide +kernel
theorem dX8_init_33 : decode cX8_init 33 = .ok (.iconst 0, 1) := by decide +kernel
theorem dX9_init_4 : decode cX9_init 4 = .ok (.aload_n 0, 1) := by decide +kernel
theorem dX9_init_15 : decode cX9_init 15 = .ok (.aload_n 0, 1) := by decide +kernel
theorem dX9_init_25 : decode cX9_init 25 = .ok (.putfield 21, 3) := by decide +kernel
theorem dX9_init_35 : decode cX9_init 35 = .ok (.invokespecial 18, 3) := by decide +kernel
theorem dX9_init_46 : decode cX9_init 46 = .ok (.invokespecial 30, 3) := by decide +kernel
theorem dX9_init_57 : decode cX9_init 57 = .ok (.invokespecial 37, 3) := by decide +kernel
theorem dX9_init_68 : decode cX9_init 68 = .ok (.aload_n 0, 1) := by decide +kernel
theorem dX9_init_81 : decode cX9_init 81 = .ok (.aload_n 0, 1) := by decide +kernel
theorem dX9_init_90 : decode cX9_init 90 = .ok (.invokevirtual 44, 3) := by decide +kernel
theorem dX9_init_103 : decode cX9_init 103 = .ok (.dup, 1) := by decide +kernel
theorem dX9_init_112 : decode cX9_init 112 = .ok (.aload_n 0, 1) := by decide +kernel
theorem dX9_init_123 : decode cX9_init 123 = .ok (.putfield 63, 3) := by decide +kernel
theorem dX9_init_134 : decode cX9_init 134 = .ok (.putfield 70, 3) := by decide +kernel
theorem dX9_init_145 : decode cX9_init 145 = .ok (.putfield 77, 3) := by decide +kernel
theorem dX9_init_156 : decode cX9_init 156 = .ok (.putfield 81, 3) := by decide +kernel
theorem dX9_init_166 : decode cX9_init 166 = .ok (.bipush 60, 2) := by decide +kernel
theorem dX9_init_176 : decode cX9_init 176 = .ok (.aload_n 0, 1) := by decide +kernel
theorem dX9_init_183 : decode cX9_init 183 = .ok (.putfield 97, 3) := by decide +kernel
theorem dX9_word_5 : decode cX9_word 5 = .ok (.bipush 25, 2) := by decide +kernel
theorem dX9_word_16 : decode cX9_word 16 = .ok (.invokespecial 104, 3) := by decide +kernel
theorem dX9_word_25 : decode cX9_word 25 = .ok (.iload_n 2, 1) := by decide +kernel
theorem dX9_word_35 : decode cX9_word 35 = .ok (.ldc 107, 2) := by decide +kernel
theorem dX9_word_45 : decode cX9_word 45 = .ok (.iconst 0, 1) := by decide +kernel
theorem dX9_word_52 : decode cX9_word 52 = .ok (.aload_n 0, 1) := by decide +kernel
theorem dX9_word_60 : decode cX9_word 60 = .ok (.invokevirtual 112, 3) := by decide +kernel
theorem dX9_word_71 : decode cX9_word 71 = .ok (.getfield 12, 3) := by decide +kernel
theorem dX9_mark_0 : decode cX9_mark 0 = .ok (.iload_n 1, 1) := by decide +kernel
theorem dX9_mark_7 : decode cX9_mark 7 = .ok (.if_icmp .le 13, 3) := by decide +kernel
theorem dX9_mark_19 : decode cX9_mark 19 = .ok (.athrow, 1) := by decide +kernel
theorem dX9_mark_26 : decode cX9_mark 26 = .ok (.getfield 12, 3) := by decide +kernel
theorem dX9_join_0 : decode cX9_join 0 = .ok (.aload_n 0, 1) := by decide +kernel
theorem dX9_nest_2 : decode cX9_nest 2 = .ok (.invokevirtual 127, 3) := by decide +kernel
theorem dX9_group_1 : decode cX9_group 1 = .ok (.iload_n 1, 1) := by decide +kernel
theorem dX9_forget_0 : decode cX9_forget 0 = .ok (.aload_n 0, 1) := by decide +kernel
theorem dX9_forget_9 : decode cX9_forget 9 = .ok (.getfield 12, 3) := by decide +kernel
theorem dX9_width_1 : decode cX9_width 1 = .ok (.iload_n 1, 1) := by decide +kernel
theorem dX9_width_10 : decode cX9_width 10 = .ok (.aload_n 0, 1) := by decide +kernel
theorem dX9_ribbon_0 : decode cX9_ribbon 0 = .ok (.iload_n 1, 1) := by decide +kernel
theorem dX9_ribbon_8 : decode cX9_ribbon 8 = .ok (.if_icmp .le 13, 3) := by decide +kernel
theorem dX9_ribbon_20 : decode cX9_ribbon 20 = .ok (.athrow, 1) := by decide +kernel
theorem dX9_ribbon_27 : decode cX9_ribbon 27 = .ok (.iload_n 1, 1) := by decide +kernel
theorem dX9_say_1 : decode cX9_say 1 = .ok (.getfield 25, 3) := by decide +kernel
theorem dX9_say_12 : decode cX9_say 12 = .ok (.invokevirtual 176, 3) := by decide +kernel
theorem dX9_say_23 : decode cX9_say 23 = .ok (.aload_n 0, 1) := by decide +kernel
theorem dX9_say_32 : decode cX9_say 32 = .ok (.getfield 25, 3) := by decide +kernel
theorem dX9_say_44 : decode cX9_say 44 = .ok (.iload 5, 2) := by decide +kernel
theorem dX9_say_55 : decode cX9_say 55 = .ok (.invokevirtual 176, 3) := by decide +kernel
theorem dX9_say_65 : decode cX9_say 65 = .ok (.iload 7, 2) := by decide +kernel
theorem dX9_say_77 : decode cX9_say 77 = .ok (.aload_n 0, 1) := by decide +kernel
theorem dX9_say_87 : decode cX9_say 87 = .ok (.invokevirtual 188, 3) := by decide +kernel
theorem dX9_say_100 : decode cX9_say 100 = .ok (.invokevirtual 182, 3) := by decide +kernel
theorem dX9_read_5 : decode cX9_read 5 = .ok (.getfield 31, 3) := by decide +kernel
theorem dX9_read_16 : decode cX9_read 16 = .ok (.if_icmp .eq 5, 3) := by decide +kernel
theorem dX9_read_27 : decode cX9_read 27 = .ok (.getfield 21, 3) := by decide +kernel
theorem dX9_read_40 : decode cX9_read 40 = .ok (.ireturn, 1) := by decide +kernel
theorem dX9_code_8 : decode cX9_code 8 = .ok (.aload_n 0, 1) := by decide +kernel
theorem dX9_code_19 : decode cX9_code 19 = .ok (.iconst (-1), 1) := by decide +kernel
theorem dX9_blank_5 : decode cX9_blank 5 = .ok (.iconst 1, 1) := by decide +kernel
theorem dX9_knock_0 : decode cX9_knock 0 = .ok (.aload_n 0, 1) := by decide +kernel
theorem dX9_knock_7 : decode cX9_knock 7 = .ok (.putfield 94, 3) := by decide +kernel
theorem dX9_ofNode_1 : decode cX9_ofNode 1 = .ok (.iload_n 1, 1) := by decide +kernel
theorem dX9_line_0 : decode cX9_line 0 = .ok (.aload_n 0, 1) := by decide +kernel
theorem dX9_measure_2 : decode cX9_measure 2 = .ok (.invokevirtual 127, 3) := by decide +kernel
theorem dX9_where_1 : decode cX9_where 1 = .ok (.iload_n 1, 1) := by decide +kernel
theorem dX9_differ_0 : decode cX9_differ 0 = .ok (.aload_n 0, 1) := by decide +kernel
theorem dX9_typed_2 : decode cX9_typed 2 = .ok (.getfield 21, 3) := by decide +kernel
theorem dX9_fault_4 : decode cX9_fault 4 = .ok (.aload_n 0, 1) := by decide +kernel
theorem dX9_fault_13 : decode cX9_fault 13 = .ok (.getfield 81, 3) := by decide +kernel
theorem dX9_fault_26 : decode cX9_fault 26 = .ok (.aload_n 0, 1) := by decide +kernel
theorem dX9_ofCode_1 : decode cX9_ofCode 1 = .ok (.ifCond .lt 9, 3) := by decide +kernel
theorem dX9_ofCode_13 : decode cX9_ofCode 13 = .ok (.dup, 1) := by decide +kernel
theorem dX9_ofCode_22 : decode cX9_ofCode 22 = .ok (.getfield 77, 3) := by decide +kernel
theorem dX9_plain_0 : decode cX9_plain 0 = .ok (.aload_n 0, 1) := by decide +kernel
theorem dX9_plain_11 : decode cX9_plain 11 = .ok (.areturn, 1) := by decide +kernel
theorem dX9_codeLine_6 : decode cX9_codeLine 6 = .ok (.getfield 77, 3) := by decide +kernel
theorem dX9_house_0 : decode cX9_house 0 = .ok (.iload_n 1, 1) := by decide +kernel
theorem dX9_house_10 : decode cX9_house 10 = .ok (.new 100, 3) := by decide +kernel
theorem dX9_house_20 : decode cX9_house 20 = .ok (.aload_n 0, 1) := by decide +kernel
theorem dX9_fits_1 : decode cX9_fits 1 = .ok (.iload_n 1, 1) := by decide +kernel
theorem dX9_narrowest_0 : decode cX9_narrowest 0 = .ok (.aload_n 0, 1) := by decide +kernel
theorem dX9_least_2 : decode cX9_least 2 = .ok (.invokevirtual 127, 3) := by decide +kernel
theorem dX9_isSound_1 : decode cX9_isSound 1 = .ok (.getfield 63, 3) := by decide +kernel
theorem dX9_isSound_12 : decode cX9_isSound 12 = .ok (.aload_n 0, 1) := by decide +kernel
theorem dX9_isSound_23 : decode cX9_isSound 23 = .ok (.ireturn, 1) := by decide +kernel
theorem dX9_digest_6 : decode cX9_digest 6 = .ok (.iload_n 3, 1) := by decide +kernel
theorem dX9_digest_16 : decode cX9_digest 16 = .ok (.lmul, 1) := by decide +kernel
theorem dX9_digest_23 : decode cX9_digest 23 = .ok (.ladd, 1) := by decide +kernel
theorem dX9_digest_32 : decode cX9_digest 32 = .ok (.getfield 12, 3) := by decide +kernel
theorem dX9_digest_41 : decode cX9_digest 41 = .ok (.iload_n 3, 1) := by decide +kernel
theorem dX9_digest_72 : decode cX9_digest 72 = .ok (.ifCond .lt 57, 3) := by decide +kernel
theorem dX9_digest_135 : decode cX9_digest 135 = .ok (.getfield 21, 3) := by decide +kernel
theorem dX9_digest_144 : decode cX9_digest 144 = .ok (.lload_n 1, 1) := by decide +kernel
theorem dX9_digest_153 : decode cX9_digest 153 = .ok (.aload_n 0, 1) := by decide +kernel
theorem dX9_digest_162 : decode cX9_digest 162 = .ok (.lstore_n 1, 1) := by decide +kernel
theorem dX9_digest_169 : decode cX9_digest 169 = .ok (.getfield 38, 3) := by decide +kernel
theorem dX9_digest_180 : decode cX9_digest 180 = .ok (.invokevirtual 199, 3) := by decide +kernel
theorem dX9_digest_187 : decode cX9_digest 187 = .ok (.lload_n 1, 1) := by decide +kernel
theorem dX9_digest_196 : decode cX9_digest 196 = .ok (.lmul, 1) := by decide +kernel
theorem dX9_digest_205 : decode cX9_digest 205 = .ok (.aload_n 0, 1) := by decide +kernel
theorem dX9_digest_214 : decode cX9_digest 214 = .ok (.getfield 88, 3) := by decide +kernel
theorem dX9_digest_228 : decode cX9_digest 228 = .ok (.i2l, 1) := by decide +kernel
theorem dX9_needNode_4 : decode cX9_needNode 4 = .ok (.iload_n 1, 1) := by decide +kernel
theorem dX9_needNode_15 : decode cX9_needNode 15 = .ok (.ldc_w 346, 3) := by decide +kernel
theorem dX9_needNumber_4 : decode cX9_needNumber 4 = .ok (.invokevirtual 163, 3) := by decide +kernel
theorem dX9_needWidth_1 : decode cX9_needWidth 1 = .ok (.iconst 1, 1) := by decide +kernel
theorem dX9_needWidth_11 : decode cX9_needWidth 11 = .ok (.new 100, 3) := by decide +kernel
theorem dX9_needWidth_22 : decode cX9_needWidth 22 = .ok (.return_, 1) := by decide +kernel
theorem dX9_needNth_8 : decode cX9_needNth 8 = .ok (.ldc_w 364, 3) := by decide +kernel
theorem dX9_needCodes_1 : decode cX9_needCodes 1 = .ok (.istore_n 1, 1) := by decide +kernel
theorem dX9_needCodes_10 : decode cX9_needCodes 10 = .ok (.if_icmp .ge 45, 3) := by decide +kernel
theorem dX9_needCodes_21 : decode cX9_needCodes 21 = .ok (.iconst (-1), 1) := by decide +kernel
theorem dX9_needCodes_30 : decode cX9_needCodes 30 = .ok (.invokevirtual 185, 3) := by decide +kernel
theorem dX9_needCodes_42 : decode cX9_needCodes 42 = .ok (.ldc_w 366, 3) := by decide +kernel
theorem dX9_needCodes_55 : decode cX9_needCodes 55 = .ok (.aload_n 0, 1) := by decide +kernel
theorem dX9_needCodes_64 : decode cX9_needCodes 64 = .ok (.istore_n 2, 1) := by decide +kernel
theorem dX9_needCodes_73 : decode cX9_needCodes 73 = .ok (.if_icmp .ge 39, 3) := by decide +kernel
theorem dX9_needCodes_82 : decode cX9_needCodes 82 = .ok (.invokevirtual 185, 3) := by decide +kernel
theorem dX9_needCodes_92 : decode cX9_needCodes 92 = .ok (.if_icmp .le 14, 3) := by decide +kernel
theorem dX9_lengthAfter_1 : decode cX9_lengthAfter 1 = .ok (.iconst (-1), 1) := by decide +kernel
theorem dX9_lengthAfter_8 : decode cX9_lengthAfter 8 = .ok (.bipush 21, 2) := by decide +kernel
theorem dX9_lengthAfter_16 : decode cX9_lengthAfter 16 = .ok (.bipush 20, 2) := by decide +kernel
theorem dX9_lengthAfter_26 : decode cX9_lengthAfter 26 = .ok (.iconst 1, 1) := by decide +kernel
theorem dX9_lengthAfter_33 : decode cX9_lengthAfter 33 = .ok (.iload_n 0, 1) := by decide +kernel
theorem dX9_type_1 : decode cX9_type 1 = .ok (.ifCond .lt 30, 3) := by decide +kernel
theorem dX9_type_14 : decode cX9_type 14 = .ok (.aload_n 0, 1) := by decide +kernel
theorem dX9_type_25 : decode cX9_type 25 = .ok (.invokevirtual 176, 3) := by decide +kernel
theorem dX9_type_36 : decode cX9_type 36 = .ok (.getfield 21, 3) := by decide +kernel
theorem dX9_type_49 : decode cX9_type 49 = .ok (.return_, 1) := by decide +kernel
theorem dX9_numbered_6 : decode cX9_numbered 6 = .ok (.iadd, 1) := by decide +kernel
theorem dX9_numbered_15 : decode cX9_numbered 15 = .ok (.invokevirtual 387, 3) := by decide +kernel
theorem dX9_textOf_5 : decode cX9_textOf 5 = .ok (.invokevirtual 393, 3) := by decide +kernel
theorem dX9_textOf_12 : decode cX9_textOf 12 = .ok (.invokevirtual 182, 3) := by decide +kernel
theorem dX9_textOf_45 : decode cX9_textOf 45 = .ok (.areturn, 1) := by decide +kernel
theorem dX9_stateOf_48 : decode cX9_stateOf 48 = .ok (.invokevirtual 163, 3) := by decide +kernel
theorem dX9_stateOf_57 : decode cX9_stateOf 57 = .ok (.aload_n 0, 1) := by decide +kernel
theorem dX9_stateOf_66 : decode cX9_stateOf 66 = .ok (.invokevirtual 182, 3) := by decide +kernel
theorem dX9_stateOf_75 : decode cX9_stateOf 75 = .ok (.aload_n 0, 1) := by decide +kernel
theorem dX9_stateOf_84 : decode cX9_stateOf 84 = .ok (.ireturn, 1) := by decide +kernel
theorem dX9_withCode_0 : decode cX9_withCode 0 = .ok (.lload_n 1, 1) := by decide +kernel
theorem dX9_withCode_9 : decode cX9_withCode 9 = .ok (.ifCond .ne 27, 3) := by decide +kernel
theorem dX9_withCode_19 : decode cX9_withCode 19 = .ok (.if_icmp .gt 15, 3) := by decide +kernel
theorem dX9_withCode_28 : decode cX9_withCode 28 = .ok (.iinc 5 1, 3) := by decide +kernel
theorem dX10_init_1 : decode cX10_init 1 = .ok (.invokespecial 1, 3) := by decide +kernel
theorem dX11_init_5 : decode cX11_init 5 = .ok (.new 9, 3) := by decide +kernel
theorem dX11_init_16 : decode cX11_init 16 = .ok (.iload_n 1, 1) := by decide +kernel
theorem dX11_init_25 : decode cX11_init 25 = .ok (.aload_n 0, 1) := by decide +kernel
theorem dX11_weight_1 : decode cX11_weight 1 = .ok (.getfield 18, 3) := by decide +kernel
theorem dX11_weight_13 : decode cX11_weight 13 = .ok (.invokestatic 33, 3) := by decide +kernel
theorem dX11_weight_24 : decode cX11_weight 24 = .ok (.astore_n 2, 1) := by decide +kernel
theorem dX11_weight_55 : decode cX11_weight 55 = .ok (.ireturn, 1) := by decide +kernel
theorem dX11_depth_6 : decode cX11_depth 6 = .ok (.invokevirtual 37, 3) := by decide +kernel
theorem dX11_depth_41 : decode cX11_depth 41 = .ok (.iload_n 1, 1) := by decide +kernel
theorem dX13_init_1 : decode cX13_init 1 = .ok (.invokespecial 3, 3) := by decide +kernel
theorem dX13_document_0 : decode cX13_document 0 = .ok (.new 48, 3) := by decide +kernel
theorem dX13_document_9 : decode cX13_document 9 = .ok (.getfield 15, 3) := by decide +kernel
theorem dX13_document_46 : decode cX13_document 46 = .ok (.aload_n 1, 1) := by decide +kernel
theorem dX13_document_57 : decode cX13_document 57 = .ok (.iconst 0, 1) := by decide +kernel
theorem dX16_init_0 : decode cX16_init 0 = .ok (.aload_n 0, 1) := by decide +kernel
theorem dX16_init_9 : decode cX16_init 9 = .ok (.invokespecial 9, 3) := by decide +kernel
theorem dX16_init_21 : decode cX16_init 21 = .ok (.aload_n 0, 1) := by decide +kernel
theorem dX16_init_30 : decode cX16_init 30 = .ok (.putfield 25, 3) := by decide +kernel
theorem dX16_isIn_5 : decode cX16_isIn 5 = .ok (.iload_n 0, 1) := by decide +kernel
theorem dX16_isIn_14 : decode cX16_isIn 14 = .ok (.iconst 0, 1) := by decide +kernel
theorem dX16_one_5 : decode cX16_one 5 = .ok (.goto 4, 3) := by decide +kernel
theorem dX16_documented_3 : decode cX16_documented 3 = .ok (.iconst 0, 1) := by decide +kernel
theorem dX16_documented_10 : decode cX16_documented 10 = .ok (.if_icmp .ge 123, 3) := by decide +kernel
theorem dX16_documented_141 : decode cX16_documented 141 = .ok (.invokestatic 40, 3) := by decide +kernel
theorem dX16_coded_3 : decode cX16_coded 3 = .ok (.iconst 0, 1) := by decide +kernel
theorem dX16_coded_8 : decode cX16_coded 8 = .ok (.aload_n 0, 1) := by decide +kernel
theorem dX16_coded_320 : decode cX16_coded 320 = .ok (.aload_n 1, 1) := by decide +kernel
theorem dX16_coded_329 : decode cX16_coded 329 = .ok (.if_icmp .le 7, 3) := by decide +kernel
theorem dX16_thrown_0 : decode cX16_thrown 0 = .ok (.aload_n 0, 1) := by decide +kernel
theorem dX16_refuse_4 : decode cX16_refuse 4 = .ok (.aload_n 0, 1) := by decide +kernel
theorem dX16_refuse_13 : decode cX16_refuse 13 = .ok (.putfield 176, 3) := by decide +kernel
theorem dX16_refuse_24 : decode cX16_refuse 24 = .ok (.goto 4, 3) := by decide +kernel
theorem dX16_start_2 : decode cX16_start 2 = .ok (.putfield 176, 3) := by decide +kernel
theorem dX16_start_11 : decode cX16_start 11 = .ok (.ireturn, 1) := by decide +kernel
theorem dX16_isNoNode_6 : decode cX16_isNoNode 6 = .ok (.invokevirtual 44, 3) := by decide +kernel
theorem dX16_isNoNode_17 : decode cX16_isNoNode 17 = .ok (.iconst 1, 1) := by decide +kernel
theorem dX16_isFull_4 : decode cX16_isFull 4 = .ok (.invokevirtual 44, 3) := by decide +kernel
theorem dX16_isGreat_0 : decode cX16_isGreat 0 = .ok (.aload_n 0, 1) := by decide +kernel
theorem dX16_isGreat_10 : decode cX16_isGreat 10 = .ok (.invokevirtual 190, 3) := by decide +kernel
theorem dX16_made_0 : decode cX16_made 0 = .ok (.aload_n 0, 1) := by decide +kernel
theorem dX16_made_9 : decode cX16_made 9 = .ok (.aload_n 0, 1) := by decide +kernel
theorem dX16_made_16 : decode cX16_made 16 = .ok (.putfield 193, 3) := by decide +kernel
theorem dX16_made_27 : decode cX16_made 27 = .ok (.isub, 1) := by decide +kernel
theorem dX16_word_3 : decode cX16_word 3 = .ok (.bipush 25, 2) := by decide +kernel
theorem dX16_word_13 : decode cX16_word 13 = .ok (.bipush 9, 2) := by decide +kernel
theorem dX16_word_25 : decode cX16_word 25 = .ok (.iconst 0, 1) := by decide +kernel
theorem dX16_word_34 : decode cX16_word 34 = .ok (.aload_n 0, 1) := by decide +kernel
theorem dX16_word_45 : decode cX16_word 45 = .ok (.iconst 0, 1) := by decide +kernel
theorem dX16_word_54 : decode cX16_word 54 = .ok (.astore_n 3, 1) := by decide +kernel
theorem dX16_word_61 : decode cX16_word 61 = .ok (.if_icmp .ge 19, 3) := by decide +kernel
theorem dX16_word_69 : decode cX16_word 69 = .ok (.i2c, 1) := by decide +kernel
theorem dX16_word_80 : decode cX16_word 80 = .ok (.aload_n 0, 1) := by decide +kernel
theorem dX16_word_87 : decode cX16_word 87 = .ok (.invokevirtual 36, 3) := by decide +kernel
theorem dX16_mark_0 : decode cX16_mark 0 = .ok (.aload_n 0, 1) := by decide +kernel
theorem dX16_mark_7 : decode cX16_mark 7 = .ok (.ifCond .ne 7, 3) := by decide +kernel
theorem dX16_mark_16 : decode cX16_mark 16 = .ok (.invokevirtual 196, 3) := by decide +kernel
theorem dX16_mark_27 : decode cX16_mark 27 = .ok (.iconst 2, 1) := by decide +kernel
theorem dX16_mark_38 : decode cX16_mark 38 = .ok (.aload_n 0, 1) := by decide +kernel
theorem dX16_mark_46 : decode cX16_mark 46 = .ok (.iconst 0, 1) := by decide +kernel
theorem dX16_join_1 : decode cX16_join 1 = .ok (.aload_n 0, 1) := by decide +kernel
theorem dX16_join_18 : decode cX16_join 18 = .ok (.goto 4, 3) := by decide +kernel
theorem dX16_join_30 : decode cX16_join 30 = .ok (.goto 47, 3) := by decide +kernel
theorem dX16_nest_3 : decode cX16_nest 3 = .ok (.invokevirtual 213, 3) := by decide +kernel
theorem dX16_nest_37 : decode cX16_nest 37 = .ok (.goto 34, 3) := by decide +kernel
theorem dX16_align_3 : decode cX16_align 3 = .ok (.invokevirtual 213, 3) := by decide +kernel
theorem dX16_align_14 : decode cX16_align 14 = .ok (.goto 34, 3) := by decide +kernel
theorem dX16_group_3 : decode cX16_group 3 = .ok (.invokevirtual 213, 3) := by decide +kernel
theorem dX16_group_14 : decode cX16_group 14 = .ok (.goto 34, 3) := by decide +kernel
theorem dX16_fill_3 : decode cX16_fill 3 = .ok (.invokevirtual 213, 3) := by decide +kernel
theorem dX16_fill_23 : decode cX16_fill 23 = .ok (.invokevirtual 196, 3) := by decide +kernel
theorem dX16_forget_1 : decode cX16_forget 1 = .ok (.iconst 0, 1) := by decide +kernel
theorem dX16_forget_12 : decode cX16_forget 12 = .ok (.istore_n 1, 1) := by decide +kernel
theorem dX16_forget_43 : decode cX16_forget 43 = .ok (.iload_n 1, 1) := by decide +kernel
theorem dX16_width_3 : decode cX16_width 3 = .ok (.bipush 60, 2) := by decide +kernel
theorem dX16_width_15 : decode cX16_width 15 = .ok (.iconst 0, 1) := by decide +kernel
theorem dX16_width_24 : decode cX16_width 24 = .ok (.ireturn, 1) := by decide +kernel
theorem dX16_width_31 : decode cX16_width 31 = .ok (.iload_n 1, 1) := by decide +kernel
theorem dX16_ribbon_1 : decode cX16_ribbon 1 = .ok (.iload_n 1, 1) := by decide +kernel
theorem dX16_ribbon_11 : decode cX16_ribbon 11 = .ok (.iconst 1, 1) := by decide +kernel
theorem dX16_ribbon_20 : decode cX16_ribbon 20 = .ok (.ifCond .eq 5, 3) := by decide +kernel
theorem dX16_ribbon_29 : decode cX16_ribbon 29 = .ok (.istore_n 2, 1) := by decide +kernel
theorem dX16_ribbon_36 : decode cX16_ribbon 36 = .ok (.ireturn, 1) := by decide +kernel
theorem dX16_said_6 : decode cX16_said 6 = .ok (.areturn, 1) := by decide +kernel
theorem dX16_said_16 : decode cX16_said 16 = .ok (.dup, 1) := by decide +kernel
theorem dX16_said_26 : decode cX16_said 26 = .ok (.iload_n 1, 1) := by decide +kernel
theorem dX16_said_37 : decode cX16_said 37 = .ok (.iload_n 1, 1) := by decide +kernel
theorem dX16_said_47 : decode cX16_said 47 = .ok (.ifCond .eq 8, 3) := by decide +kernel
theorem dX16_said_57 : decode cX16_said 57 = .ok (.aload_n 0, 1) := by decide +kernel
theorem dX16_said_66 : decode cX16_said 66 = .ok (.areturn, 1) := by decide +kernel
theorem dX16_say_6 : decode cX16_say 6 = .ok (.iload_n 1, 1) := by decide +kernel
theorem dX16_say_11 : decode cX16_say 11 = .ok (.iastore, 1) := by decide +kernel
theorem dX16_say_16 : decode cX16_say 16 = .ok (.dup, 1) := by decide +kernel
theorem dX16_say_22 : decode cX16_say 22 = .ok (.iconst 4, 1) := by decide +kernel
theorem dX16_say_28 : decode cX16_say 28 = .ok (.iload 6, 2) := by decide +kernel
theorem dX16_say_36 : decode cX16_say 36 = .ok (.aload 7, 2) := by decide +kernel
theorem dX16_say_45 : decode cX16_say 45 = .ok (.iconst 0, 1) := by decide +kernel
theorem dX16_say_55 : decode cX16_say 55 = .ok (.aload 9, 2) := by decide +kernel
theorem dX16_say_64 : decode cX16_say 64 = .ok (.iload 12, 2) := by decide +kernel
theorem dX16_say_75 : decode cX16_say 75 = .ok (.iconst 1, 1) := by decide +kernel
theorem dX16_say_83 : decode cX16_say 83 = .ok (.iinc 11 1, 3) := by decide +kernel
theorem dX16_say_93 : decode cX16_say 93 = .ok (.invokevirtual 196, 3) := by decide +kernel
theorem dX16_say_102 : decode cX16_say 102 = .ok (.getfield 25, 3) := by decide +kernel
theorem dX16_say_113 : decode cX16_say 113 = .ok (.arraylength, 1) := by decide +kernel
theorem dX16_say_121 : decode cX16_say 121 = .ok (.iload 11, 2) := by decide +kernel
theorem dX16_say_131 : decode cX16_say 131 = .ok (.istore 13, 2) := by decide +kernel
theorem dX16_say_142 : decode cX16_say 142 = .ok (.aload_n 0, 1) := by decide +kernel
theorem dX16_say_157 : decode cX16_say 157 = .ok (.iconst 0, 1) := by decide +kernel
theorem dX16_say_170 : decode cX16_say 170 = .ok (.goto (-51), 3) := by decide +kernel
theorem dX16_say_180 : decode cX16_say 180 = .ok (.getfield 25, 3) := by decide +kernel
theorem dX16_isDocument_4 : decode cX16_isDocument 4 = .ok (.invokestatic 238, 3) := by decide +kernel
theorem dX16_isDocument_17 : decode cX16_isDocument 17 = .ok (.iconst 1, 1) := by decide +kernel
theorem dX16_isCode_4 : decode cX16_isCode 4 = .ok (.invokestatic 242, 3) := by decide +kernel
theorem dX16_isCode_21 : decode cX16_isCode 21 = .ok (.iconst 0, 1) := by decide +kernel
theorem dX16_read_5 : decode cX16_read 5 = .ok (.iconst 1, 1) := by decide +kernel
theorem dX16_read_18 : decode cX16_read 18 = .ok (.ifCond .ne 5, 3) := by decide +kernel
theorem dX16_read_31 : decode cX16_read 31 = .ok (.invokespecial 250, 3) := by decide +kernel
theorem dX16_read_42 : decode cX16_read 42 = .ok (.ifCond .eq 7, 3) := by decide +kernel
theorem dX16_code_0 : decode cX16_code 0 = .ok (.aload_n 0, 1) := by decide +kernel
theorem dX16_code_9 : decode cX16_code 9 = .ok (.ifCond .ne 5, 3) := by decide +kernel
theorem dX16_blank_2 : decode cX16_blank 2 = .ok (.putfield 176, 3) := by decide +kernel
theorem dX16_blank_11 : decode cX16_blank 11 = .ok (.iadd, 1) := by decide +kernel
theorem dX16_knock_1 : decode cX16_knock 1 = .ok (.iconst 0, 1) := by decide +kernel
theorem dX16_knock_10 : decode cX16_knock 10 = .ok (.iconst 1, 1) := by decide +kernel
theorem dX16_knock_19 : decode cX16_knock 19 = .ok (.ireturn, 1) := by decide +kernel
theorem dX16_ofNode_6 : decode cX16_ofNode 6 = .ok (.iconst 1, 1) := by decide +kernel
theorem dX16_ofNode_55 : decode cX16_ofNode 55 = .ok (.ireturn, 1) := by decide +kernel
theorem dX16_flat_6 : decode cX16_flat 6 = .ok (.iconst 1, 1) := by decide +kernel
theorem dX16_flat_55 : decode cX16_flat 55 = .ok (.areturn, 1) := by decide +kernel
theorem dX16_line_6 : decode cX16_line 6 = .ok (.iconst 1, 1) := by decide +kernel
theorem dX16_line_54 : decode cX16_line 54 = .ok (.areturn, 1) := by decide +kernel
theorem dX16_measure_6 : decode cX16_measure 6 = .ok (.iconst 1, 1) := by decide +kernel
theorem dX16_measure_63 : decode cX16_measure 63 = .ok (.ireturn, 1) := by decide +kernel
theorem dX16_at_6 : decode cX16_at 6 = .ok (.iconst 1, 1) := by decide +kernel
theorem dX16_where_0 : decode cX16_where 0 = .ok (.aload_n 0, 1) := by decide +kernel
theorem dX16_where_7 : decode cX16_where 7 = .ok (.invokevirtual 196, 3) := by decide +kernel
theorem dX16_isOne_1 : decode cX16_isOne 1 = .ok (.aload_n 0, 1) := by decide +kernel
theorem dX16_isOne_10 : decode cX16_isOne 10 = .ok (.ifCond .ne 20, 3) := by decide +kernel
theorem dX16_differ_2 : decode cX16_differ 2 = .ok (.iload_n 1, 1) := by decide +kernel
theorem dX16_differ_22 : decode cX16_differ 22 = .ok (.iconst 1, 1) := by decide +kernel
theorem dX16_typed_0 : decode cX16_typed 0 = .ok (.aload_n 0, 1) := by decide +kernel
theorem dX16_typed_9 : decode cX16_typed 9 = .ok (.areturn, 1) := by decide +kernel
theorem dX16_faulty_8 : decode cX16_faulty 8 = .ok (.invokestatic 242, 3) := by decide +kernel
theorem dX16_faulty_21 : decode cX16_faulty 21 = .ok (.istore_n 2, 1) := by decide +kernel
theorem dX16_faulty_30 : decode cX16_faulty 30 = .ok (.if_icmp .le 7, 3) := by decide +kernel
theorem dX16_fault_0 : decode cX16_fault 0 = .ok (.aload_n 0, 1) := by decide +kernel
theorem dX16_fault_7 : decode cX16_fault 7 = .ok (.invokevirtual 329, 3) := by decide +kernel
theorem dX16_codeTold_7 : decode cX16_codeTold 7 = .ok (.iconst 0, 1) := by decide +kernel
theorem dX16_ofCode_3 : decode cX16_ofCode 3 = .ok (.bipush 9, 2) := by decide +kernel
theorem dX16_ofCode_15 : decode cX16_ofCode 15 = .ok (.iconst 0, 1) := by decide +kernel
theorem dX16_ofCode_24 : decode cX16_ofCode 24 = .ok (.goto 8, 3) := by decide +kernel
theorem dX16_plain_0 : decode cX16_plain 0 = .ok (.aload_n 0, 1) := by decide +kernel
theorem dX16_plain_9 : decode cX16_plain 9 = .ok (.ifnonnull 8, 3) := by decide +kernel
theorem dX16_codeLine_1 : decode cX16_codeLine 1 = .ok (.iload_n 1, 1) := by decide +kernel
theorem dX16_codeLine_10 : decode cX16_codeLine 10 = .ok (.iconst 1, 1) := by decide +kernel
theorem dX16_codeLine_22 : decode cX16_codeLine 22 = .ok (.aload_n 0, 1) := by decide +kernel
theorem dX16_codeLine_50 : decode cX16_codeLine 50 = .ok (.areturn, 1) := by decide +kernel
theorem dX16_houseTold_6 : decode cX16_houseTold 6 = .ok (.invokevirtual 129, 3) := by decide +kernel
theorem dX16_houseTold_41 : decode cX16_houseTold 41 = .ok (.bipush 8, 2) := by decide +kernel
theorem dX16_houseTold_48 : decode cX16_houseTold 48 = .ok (.getfield 10, 3) := by decide +kernel
theorem dX16_houseTold_57 : decode cX16_houseTold 57 = .ok (.aload_n 0, 1) := by decide +kernel
theorem dX16_houseTold_64 : decode cX16_houseTold 64 = .ok (.aload_n 0, 1) := by decide +kernel
theorem dX16_houseTold_71 : decode cX16_houseTold 71 = .ok (.aload_n 0, 1) := by decide +kernel
theorem dX16_houseTold_80 : decode cX16_houseTold 80 = .ok (.iconst 4, 1) := by decide +kernel
theorem dX16_houseTold_87 : decode cX16_houseTold 87 = .ok (.iconst 5, 1) := by decide +kernel
theorem dX16_houseTold_94 : decode cX16_houseTold 94 = .ok (.bipush 6, 2) := by decide +kernel
theorem dX16_houseTold_102 : decode cX16_houseTold 102 = .ok (.bipush 7, 2) := by decide +kernel
theorem dX16_houseTold_108 : decode cX16_houseTold 108 = .ok (.iload_n 1, 1) := by decide +kernel
theorem dX16_house_2 : decode cX16_house 2 = .ok (.iconst 0, 1) := by decide +kernel
theorem dX16_house_12 : decode cX16_house 12 = .ok (.goto 4, 3) := by decide +kernel
theorem dX16_house_23 : decode cX16_house 23 = .ok (.iconst 0, 1) := by decide +kernel
theorem dX16_house_32 : decode cX16_house 32 = .ok (.ireturn, 1) := by decide +kernel
theorem dX16_fits_6 : decode cX16_fits 6 = .ok (.iconst 1, 1) := by decide +kernel
theorem dX16_would_0 : decode cX16_would 0 = .ok (.aload_n 0, 1) := by decide +kernel
theorem dX16_would_7 : decode cX16_would 7 = .ok (.invokevirtual 196, 3) := by decide +kernel
theorem dX16_narrowest_0 : decode cX16_narrowest 0 = .ok (.aload_n 0, 1) := by decide +kernel
theorem dX16_narrowest_7 : decode cX16_narrowest 7 = .ok (.invokevirtual 196, 3) := by decide +kernel
theorem dX16_least__1 : decode cX16_least_ 1 = .ok (.aload_n 0, 1) := by decide +kernel
theorem dX16_least__10 : decode cX16_least_ 10 = .ok (.ifCond .ne 47, 3) := by decide +kernel
theorem dX16_leastLine_1 : decode cX16_leastLine 1 = .ok (.aload_n 0, 1) := by decide +kernel
theorem dX16_leastLine_10 : decode cX16_leastLine 10 = .ok (.ifCond .ne 42, 3) := by decide +kernel
theorem dX16_isWhole_1 : decode cX16_isWhole 1 = .ok (.aload_n 0, 1) := by decide +kernel
theorem dX16_isWhole_10 : decode cX16_isWhole 10 = .ok (.invokestatic 353, 3) := by decide +kernel
theorem dX16_isWhole_19 : decode cX16_isWhole 19 = .ok (.invokevirtual 44, 3) := by decide +kernel
theorem dX16_isSound_1 : decode cX16_isSound 1 = .ok (.iconst 0, 1) := by decide +kernel
theorem dX16_add_0 : decode cX16_add 0 = .ok (.lload_n 0, 1) := by decide +kernel
theorem dX16_add_7 : decode cX16_add 7 = .ok (.lreturn, 1) := by decide +kernel
theorem dX16_digest_8 : decode cX16_digest 8 = .ok (.lstore_n 1, 1) := by decide +kernel
theorem dX16_digest_14 : decode cX16_digest 14 = .ok (.if_icmp .ge 20, 3) := by decide +kernel
theorem dX16_digest_23 : decode cX16_digest 23 = .ok (.i2l, 1) := by decide +kernel
theorem dX16_digest_34 : decode cX16_digest 34 = .ok (.aload_n 0, 1) := by decide +kernel
theorem dX16_digest_43 : decode cX16_digest 43 = .ok (.istore_n 3, 1) := by decide +kernel
theorem dX16_digest_205 : decode cX16_digest 205 = .ok (.invokevirtual 225, 3) := by decide +kernel
theorem dX16_digest_284 : decode cX16_digest 284 = .ok (.invokevirtual 74, 3) := by decide +kernel
theorem dX16_digest_293 : decode cX16_digest 293 = .ok (.invokevirtual 329, 3) := by decide +kernel
theorem dX16_digest_302 : decode cX16_digest 302 = .ok (.invokevirtual 329, 3) := by decide +kernel
theorem dX16_digest_311 : decode cX16_digest 311 = .ok (.istore_n 3, 1) := by decide +kernel
theorem dX16_digest_319 : decode cX16_digest 319 = .ok (.aload_n 0, 1) := by decide +kernel
theorem dX16_digest_328 : decode cX16_digest 328 = .ok (.lstore_n 1, 1) := by decide +kernel
theorem dX16_digest_339 : decode cX16_digest 339 = .ok (.ifnull 55, 3) := by decide +kernel
theorem dX16_digest_402 : decode cX16_digest 402 = .ok (.i2l, 1) := by decide +kernel
theorem dJ5_init_d00df_4 : decode cJ5_init_d00df 4 = .ok (.getstatic 18, 3) := by decide +kernel
theorem dJ5_init_d00df_14 : decode cJ5_init_d00df 14 = .ok (.putfield 15, 3) := by decide +kernel
theorem dJ5_init_d00df_38 : decode cJ5_init_d00df 38 = .ok (.return_, 1) := by decide +kernel
theorem dJ5_ensureCapacityInternal_d00df_1 : decode cJ5_ensureCapacityInternal_d00df 1 = .ok (.getfield 15, 3) := by decide +kernel
theorem dJ5_ensureCapacityInternal_d00df_10 : decode cJ5_ensureCapacityInternal_d00df 10 = .ok (.istore_n 2, 1) := by decide +kernel
theorem dJ5_ensureCapacityInternal_d00df_38 : decode cJ5_ensureCapacityInternal_d00df 38 = .ok (.return_, 1) := by decide +kernel
theorem dJ5_setLength_d00df_15 : decode cJ5_setLength_d00df 15 = .ok (.invokevirtual 100, 3) := by decide +kernel
theorem dJ5_setLength_d00df_63 : decode cJ5_setLength_d00df 63 = .ok (.aload_n 0, 1) := by decide +kernel
theorem dJ5_setLength_d00df_77 : decode cJ5_setLength_d00df 77 = .ok (.iload_n 1, 1) := by decide +kernel
theorem dJ5_append_cf1ce_9 : decode cJ5_append_cf1ce 9 = .ok (.aload_n 1, 1) := by decide +kernel
theorem dJ5_append_cf1ce_16 : decode cJ5_append_cf1ce 16 = .ok (.getfield 79, 3) := by decide +kernel
theorem dJ5_append_cf1ce_25 : decode cJ5_append_cf1ce 25 = .ok (.aload_n 0, 1) := by decide +kernel
theorem dJ5_append_cf1ce_34 : decode cJ5_append_cf1ce 34 = .ok (.dup, 1) := by decide +kernel
theorem dJ5_append_cf1ce_43 : decode cJ5_append_cf1ce 43 = .ok (.aload_n 0, 1) := by decide +kernel
theorem dJ5_append_3fe6f_5 : decode cJ5_append_3fe6f 5 = .ok (.iconst 1, 1) := by decide +kernel
theorem dJ5_append_3fe6f_14 : decode cJ5_append_3fe6f 14 = .ok (.ifCond .eq 31, 3) := by decide +kernel
theorem dJ5_append_3fe6f_25 : decode cJ5_append_3fe6f 25 = .ok (.getfield 15, 3) := by decide +kernel
theorem dJ5_append_3fe6f_34 : decode cJ5_append_3fe6f 34 = .ok (.iconst 1, 1) := by decide +kernel
theorem dJ5_append_3fe6f_41 : decode cJ5_append_3fe6f 41 = .ok (.bastore, 1) := by decide +kernel
theorem dJ5_getValue_6d5f1_1 : decode cJ5_getValue_6d5f1 1 = .ok (.getfield 15, 3) := by decide +kernel
theorem dJ5_isLatin1_aae02_7 : decode cJ5_isLatin1_aae02 7 = .ok (.getfield 22, 3) := by decide +kernel
theorem dJ5_inflateIfNeededFor_a7421_0 : decode cJ5_inflateIfNeededFor_a7421 0 = .ok (.getstatic 18, 3) := by decide +kernel
theorem dJ5_inflateIfNeededFor_a7421_11 : decode cJ5_inflateIfNeededFor_a7421 11 = .ok (.invokevirtual 40, 3) := by decide +kernel
theorem dJ5_putStringAt_47b60_2 : decode cJ5_putStringAt_47b60 2 = .ok (.invokevirtual 397, 3) := by decide +kernel
theorem dJ5_putStringAt_47b60_11 : decode cJ5_putStringAt_47b60 11 = .ok (.aload_n 0, 1) := by decide +kernel
theorem dJ0_init_81219_1 : decode cJ0_init_81219 1 = .ok (.aload_n 1, 1) := by decide +kernel
theorem dJ0_length_8abf5_1 : decode cJ0_length_8abf5 1 = .ok (.getfield 9, 3) := by decide +kernel
theorem dJ0_length_8abf5_10 : decode cJ0_length_8abf5 10 = .ok (.ireturn, 1) := by decide +kernel
theorem dJ0_isEmpty_aae02_8 : decode cJ0_isEmpty_aae02 8 = .ok (.iconst 1, 1) := by decide +kernel
theorem dJ0_charAt_5068e_1 : decode cJ0_charAt_5068e 1 = .ok (.invokevirtual 492, 3) := by decide +kernel
theorem dJ0_charAt_5068e_12 : decode cJ0_charAt_5068e 12 = .ok (.invokestatic 495, 3) := by decide +kernel
theorem dJ0_equals_9ea2d_5 : decode cJ0_equals_9ea2d 5 = .ok (.iconst 1, 1) := by decide +kernel
theorem dJ0_equals_9ea2d_14 : decode cJ0_equals_9ea2d 14 = .ok (.aload_n 1, 1) := by decide +kernel
theorem dJ0_equals_9ea2d_25 : decode cJ0_equals_9ea2d 25 = .ok (.aload_n 0, 1) := by decide +kernel
theorem dJ0_equals_9ea2d_36 : decode cJ0_equals_9ea2d 36 = .ok (.aload_n 0, 1) := by decide +kernel
theorem dJ0_equals_9ea2d_47 : decode cJ0_equals_9ea2d 47 = .ok (.ifCond .eq 7, 3) := by decide +kernel
theorem dJ0_substring_37a41_1 : decode cJ0_substring_37a41 1 = .ok (.invokevirtual 505, 3) := by decide +kernel
theorem dJ0_substring_37a41_8 : decode cJ0_substring_37a41 8 = .ok (.invokestatic 521, 3) := by decide +kernel
theorem dJ0_substring_37a41_17 : decode cJ0_substring_37a41 17 = .ok (.if_icmp .ne 5, 3) := by decide +kernel
theorem dJ0_substring_37a41_27 : decode cJ0_substring_37a41 27 = .ok (.aload_n 0, 1) := by decide +kernel
theorem dJ0_substring_37a41_38 : decode cJ0_substring_37a41 38 = .ok (.iload_n 1, 1) := by decide +kernel
theorem dJ0_getBytes_840e7_0 : decode cJ0_getBytes_840e7 0 = .ok (.aload_n 0, 1) := by decide +kernel
theorem dJ0_getBytes_840e7_9 : decode cJ0_getBytes_840e7 9 = .ok (.getfield 9, 3) := by decide +kernel
theorem dJ0_getBytes_840e7_16 : decode cJ0_getBytes_840e7 16 = .ok (.ishl, 1) := by decide +kernel
theorem dJ0_getBytes_840e7_25 : decode cJ0_getBytes_840e7 25 = .ok (.goto 18, 3) := by decide +kernel
theorem dJ0_init_db425_5 : decode cJ0_init_db425 5 = .ok (.invokevirtual 552, 3) := by decide +kernel
theorem dJ0_init_db425_15 : decode cJ0_init_db425 15 = .ok (.aload_n 1, 1) := by decide +kernel
theorem dJ0_init_db425_24 : decode cJ0_init_db425 24 = .ok (.putfield 15, 3) := by decide +kernel
theorem dJ0_init_db425_32 : decode cJ0_init_db425 32 = .ok (.invokestatic 54, 3) := by decide +kernel
theorem dJ0_init_031fb_1 : decode cJ0_init_031fb 1 = .ok (.invokespecial 1, 3) := by decide +kernel
theorem dJ0_init_031fb_10 : decode cJ0_init_031fb 10 = .ok (.iload_n 2, 1) := by decide +kernel
theorem dJ0_coder_7d493_6 : decode cJ0_coder_7d493 6 = .ok (.aload_n 0, 1) := by decide +kernel
theorem dJ0_isLatin1_aae02_3 : decode cJ0_isLatin1_aae02 3 = .ok (.ifCond .eq 14, 3) := by decide +kernel
theorem dJ0_isLatin1_aae02_14 : decode cJ0_isLatin1_aae02 14 = .ok (.goto 4, 3) := by decide +kernel
theorem dJ0_checkIndex_df160_5 : decode cJ0_checkIndex_df160 5 = .ok (.invokestatic 1059, 3) := by decide +kernel
theorem dJ0_checkBoundsBeginEnd_23922_2 : decode cJ0_checkBoundsBeginEnd_23922 2 = .ok (.iload_n 2, 1) := by decide +kernel
theorem dJ4_init_da8c8_0 : decode cJ4_init_da8c8 0 = .ok (.aload_n 0, 1) := by decide +kernel
theorem dJ4_append_15ec4_1 : decode cJ4_append_15ec4 1 = .ok (.aload_n 1, 1) := by decide +kernel
theorem dJ4_append_cf468_0 : decode cJ4_append_cf468 0 = .ok (.aload_n 0, 1) := by decide +kernel
theorem dJ4_append_cf468_7 : decode cJ4_append_cf468 7 = .ok (.areturn, 1) := by decide +kernel
theorem dJ4_toString_0e30d_8 : decode cJ4_toString_0e30d 8 = .ok (.areturn, 1) := by decide +kernel
theorem dJ4_length_8abf5_0 : decode cJ4_length_8abf5 0 = .ok (.aload_n 0, 1) := by decide +kernel
theorem dJ1_charAt_3b067_2 : decode cJ1_charAt_3b067 2 = .ok (.arraylength, 1) := by decide +kernel
theorem dJ1_charAt_3b067_9 : decode cJ1_charAt_3b067 9 = .ok (.sipush 255, 3) := by decide +kernel
theorem dJ1_canEncode_fc78d_1 : decode cJ1_canEncode_fc78d 1 = .ok (.sipush 255, 3) := by decide +kernel
theorem dJ1_equals_b5fdf_0 : decode cJ1_equals_b5fdf 0 = .ok (.aload_n 0, 1) := by decide +kernel
theorem dJ1_equals_b5fdf_7 : decode cJ1_equals_b5fdf 7 = .ok (.iconst 0, 1) := by decide +kernel
theorem dJ1_equals_b5fdf_12 : decode cJ1_equals_b5fdf 12 = .ok (.if_icmp .ge 20, 3) := by decide +kernel
theorem dJ1_newString_b4f7a_4 : decode cJ1_newString_b4f7a 4 = .ok (.ldc 151, 2) := by decide +kernel
theorem dJ1_newString_b4f7a_12 : decode cJ1_newString_b4f7a 12 = .ok (.iload_n 1, 1) := by decide +kernel
theorem dJ1_newString_b4f7a_19 : decode cJ1_newString_b4f7a 19 = .ok (.iconst 0, 1) := by decide +kernel
theorem dJxa1e45_init_da8c8_4 : decode cJxa1e45_init_da8c8 4 = .ok (.return_, 1) := by decide +kernel
theorem dJxc12de_init_da8c8_6 : decode cJxc12de_init_da8c8 6 = .ok (.putfield 7, 3) := by decide +kernel
theorem dJx35411_init_45d68_5 : decode cJx35411_init_45d68 5 = .ok (.aload_n 0, 1) := by decide +kernel
theorem dJx35411_init_45d68_14 : decode cJx35411_init_45d68 14 = .ok (.aload_n 0, 1) := by decide +kernel
theorem dJx35411_init_45d68_25 : decode cJx35411_init_45d68 25 = .ok (.return_, 1) := by decide +kernel
theorem dJx35411_hasNext_aae02_8 : decode cJx35411_hasNext_aae02 8 = .ok (.getfield 28, 3) := by decide +kernel
theorem dJx4a65c_init_da8c8_1 : decode cJx4a65c_init_da8c8 1 = .ok (.invokespecial 1, 3) := by decide +kernel
theorem dJx4a65c_grow_92f84_0 : decode cJx4a65c_grow_92f84 0 = .ok (.aload_n 0, 1) := by decide +kernel
theorem dJx4a65c_grow_92f84_7 : decode cJx4a65c_grow_92f84 7 = .ok (.ifCond .gt 13, 3) := by decide +kernel
theorem dJx4a65c_grow_92f84_45 : decode cJx4a65c_grow_92f84 45 = .ok (.aload_n 0, 1) := by decide +kernel
theorem dJx4a65c_grow_92f84_55 : decode cJx4a65c_grow_92f84 55 = .ok (.dup_x1, 1) := by decide +kernel
theorem dJx4a65c_grow_d5877_2 : decode cJx4a65c_grow_d5877 2 = .ok (.getfield 48, 3) := by decide +kernel
theorem dJx4a65c_size_8abf5_0 : decode cJx4a65c_size_8abf5 0 = .ok (.aload_n 0, 1) := by decide +kernel
theorem dJx4a65c_isEmpty_aae02_4 : decode cJx4a65c_isEmpty_aae02 4 = .ok (.ifCond .ne 7, 3) := by decide +kernel
theorem dJx4a65c_add_72be8_1 : decode cJx4a65c_add_72be8 1 = .ok (.aload_n 2, 1) := by decide +kernel
theorem dJx4a65c_add_72be8_10 : decode cJx4a65c_add_72be8 10 = .ok (.astore_n 2, 1) := by decide +kernel
theorem dJx4a65c_add_72be8_15 : decode cJx4a65c_add_72be8 15 = .ok (.aload_n 0, 1) := by decide +kernel
theorem dJx4a65c_add_72be8_22 : decode cJx4a65c_add_72be8 22 = .ok (.return_, 1) := by decide +kernel
theorem dJx4a65c_add_9ea2d_6 : decode cJx4a65c_add_9ea2d 6 = .ok (.iadd, 1) := by decide +kernel
theorem dJx4a65c_add_9ea2d_13 : decode cJx4a65c_add_9ea2d 13 = .ok (.getfield 9, 3) := by decide +kernel
theorem dJx4a65c_add_9ea2d_24 : decode cJx4a65c_add_9ea2d 24 = .ok (.ireturn, 1) := by decide +kernel
theorem dJx4a65c_iterator_32c93_8 : decode cJx4a65c_iterator_32c93 8 = .ok (.areturn, 1) := by decide +kernel
theorem dJ7_copyOfRange_39247_0 : decode cJ7_copyOfRange_39247 0 = .ok (.iload_n 1, 1) := by decide +kernel
theorem dJ7_copyOfRange_39247_7 : decode cJ7_copyOfRange_39247 7 = .ok (.if_icmp .eq 10, 3) := by decide +kernel
theorem dJ7_copyOfRange_39247_16 : decode cJ7_copyOfRange_39247 16 = .ok (.areturn, 1) := by decide +kernel
theorem dJ7_copyOfRangeByte_39247_6 : decode cJ7_copyOfRangeByte_39247 6 = .ok (.iload_n 1, 1) := by decide +kernel
theorem dJ7_copyOfRangeByte_39247_12 : decode cJ7_copyOfRangeByte_39247 12 = .ok (.astore 4, 2) := by decide +kernel
theorem dJ7_copyOfRangeByte_39247_19 : decode cJ7_copyOfRangeByte_39247 19 = .ok (.aload_n 0, 1) := by decide +kernel
theorem dJ7_copyOfRangeByte_39247_24 : decode cJ7_copyOfRangeByte_39247 24 = .ok (.invokestatic 304, 3) := by decide +kernel
theorem dJ3_checkIndex_8e157_1 : decode cJ3_checkIndex_8e157 1 = .ok (.ifCond .lt 8, 3) := by decide +kernel
theorem dJ3_checkIndex_8e157_17 : decode cJ3_checkIndex_8e157 17 = .ok (.ireturn, 1) := by decide +kernel
theorem dJ3_checkFromToIndex_8c36e_6 : decode cJ3_checkFromToIndex_8c36e 6 = .ok (.if_icmp .gt 8, 3) := by decide +kernel
theorem dJ3_checkFromToIndex_8c36e_23 : decode cJ3_checkFromToIndex_8c36e 23 = .ok (.ireturn, 1) := by decide +kernel
theorem dL_word_4 : decode cL_word 4 = .ok (.invokevirtual 7, 3) := by decide +kernel
theorem dL_word_16 : decode cL_word 16 = .ok (.iconst 1, 1) := by decide +kernel
theorem dL_mark_1 : decode cL_mark 1 = .ok (.aload_n 0, 1) := by decide +kernel
theorem dL_mark_10 : decode cL_mark 10 = .ok (.goto 9, 3) := by decide +kernel
theorem dL_mark_20 : decode cL_mark 20 = .ok (.ireturn, 1) := by decide +kernel
theorem dL_join_4 : decode cL_join 4 = .ok (.invokevirtual 27, 3) := by decide +kernel
theorem dL_nest_1 : decode cL_nest 1 = .ok (.aload_n 0, 1) := by decide +kernel
theorem dL_nest_16 : decode cL_nest 16 = .ok (.iconst 1, 1) := by decide +kernel
theorem dL_align_3 : decode cL_align 3 = .ok (.invokevirtual 35, 3) := by decide +kernel
theorem dL_group_1 : decode cL_group 1 = .ok (.aload_n 0, 1) := by decide +kernel
theorem dL_group_15 : decode cL_group 15 = .ok (.ireturn, 1) := by decide +kernel
theorem dL_fill_4 : decode cL_fill 4 = .ok (.invokevirtual 41, 3) := by decide +kernel
theorem dL_width_1 : decode cL_width 1 = .ok (.aload_n 0, 1) := by decide +kernel
theorem dL_width_10 : decode cL_width 10 = .ok (.goto 6, 3) := by decide +kernel
theorem dL_width_17 : decode cL_width 17 = .ok (.ireturn, 1) := by decide +kernel
theorem dL_ribbon_6 : decode cL_ribbon 6 = .ok (.i2l, 1) := by decide +kernel
theorem dL_ribbon_15 : decode cL_ribbon 15 = .ok (.ireturn, 1) := by decide +kernel
theorem dL_say_3 : decode cL_say 3 = .ok (.iload_n 1, 1) := by decide +kernel
theorem dL_say_10 : decode cL_say 10 = .ok (.iload 6, 2) := by decide +kernel
theorem dL_say_22 : decode cL_say 22 = .ok (.astore 8, 2) := by decide +kernel
theorem dL_read_0 : decode cL_read 0 = .ok (.aload_n 1, 1) := by decide +kernel
theorem dL_read_9 : decode cL_read 9 = .ok (.goto 6, 3) := by decide +kernel
theorem dL_ofNode_2 : decode cL_ofNode 2 = .ok (.iload_n 1, 1) := by decide +kernel
theorem dL_ofNode_17 : decode cL_ofNode 17 = .ok (.ireturn, 1) := by decide +kernel
theorem dL_flat_12 : decode cL_flat 12 = .ok (.astore_n 3, 1) := by decide +kernel
theorem dL_line_2 : decode cL_line 2 = .ok (.iload_n 1, 1) := by decide +kernel
theorem dL_line_16 : decode cL_line 16 = .ok (.ireturn, 1) := by decide +kernel
theorem dL_measure_4 : decode cL_measure 4 = .ok (.invokevirtual 73, 3) := by decide +kernel
theorem dL_at_2 : decode cL_at 2 = .ok (.aload_n 0, 1) := by decide +kernel
theorem dL_at_16 : decode cL_at 16 = .ok (.astore 5, 2) := by decide +kernel
theorem dL_where_3 : decode cL_where 3 = .ok (.iload_n 1, 1) := by decide +kernel
theorem dL_where_18 : decode cL_where 18 = .ok (.iconst 1, 1) := by decide +kernel
theorem dL_isOne_3 : decode cL_isOne 3 = .ok (.iload_n 2, 1) := by decide +kernel
theorem dL_differ_0 : decode cL_differ 0 = .ok (.aload 4, 2) := by decide +kernel
theorem dL_differ_6 : decode cL_differ 6 = .ok (.invokevirtual 87, 3) := by decide +kernel
theorem dL_ofCode_1 : decode cL_ofCode 1 = .ok (.aload_n 0, 1) := by decide +kernel
theorem dL_ofCode_10 : decode cL_ofCode 10 = .ok (.goto 6, 3) := by decide +kernel
theorem dL_ofCode_17 : decode cL_ofCode 17 = .ok (.ireturn, 1) := by decide +kernel
theorem dL_codeLine_6 : decode cL_codeLine 6 = .ok (.putfield 65, 3) := by decide +kernel
theorem dL_codeLine_15 : decode cL_codeLine 15 = .ok (.iconst 0, 1) := by decide +kernel
theorem dL_house_3 : decode cL_house 3 = .ok (.invokevirtual 96, 3) := by decide +kernel
theorem dL_house_14 : decode cL_house 14 = .ok (.iconst 1, 1) := by decide +kernel
theorem dL_fits_1 : decode cL_fits 1 = .ok (.aload_n 0, 1) := by decide +kernel
theorem dL_fits_23 : decode cL_fits 23 = .ok (.iconst 1, 1) := by decide +kernel
theorem dL_would_4 : decode cL_would 4 = .ok (.iload_n 2, 1) := by decide +kernel
theorem dL_would_19 : decode cL_would 19 = .ok (.ireturn, 1) := by decide +kernel
theorem dL_narrowest_13 : decode cL_narrowest 13 = .ok (.astore_n 3, 1) := by decide +kernel
theorem dL_least_2 : decode cL_least 2 = .ok (.iload_n 1, 1) := by decide +kernel
theorem dL_least_17 : decode cL_least 17 = .ok (.ireturn, 1) := by decide +kernel
theorem dL_leastLine_4 : decode cL_leastLine 4 = .ok (.invokevirtual 112, 3) := by decide +kernel
theorem dL_law_3 : decode cL_law 3 = .ok (.dup, 1) := by decide +kernel
theorem dL_law_12 : decode cL_law 12 = .ok (.invokespecial 118, 3) := by decide +kernel
theorem dL_law_23 : decode cL_law 23 = .ok (.astore_n 3, 1) := by decide +kernel
theorem dL_law_30 : decode cL_law 30 = .ok (.arraylength, 1) := by decide +kernel
theorem dL_law_38 : decode cL_law 38 = .ok (.iload 4, 2) := by decide +kernel
theorem dL_law_204 : decode cL_law 204 = .ok (.aload_n 1, 1) := by decide +kernel
theorem dL_law_210 : decode cL_law 210 = .ok (.iaload, 1) := by decide +kernel
theorem dL_law_216 : decode cL_law 216 = .ok (.iaload, 1) := by decide +kernel
theorem dL_law_224 : decode cL_law 224 = .ok (.aload_n 0, 1) := by decide +kernel
theorem dL_law_230 : decode cL_law 230 = .ok (.aload_n 0, 1) := by decide +kernel
theorem dL_law_236 : decode cL_law 236 = .ok (.invokevirtual 125, 3) := by decide +kernel
theorem dL_law_247 : decode cL_law 247 = .ok (.if_icmp .eq 5, 3) := by decide +kernel
theorem dL_law_261 : decode cL_law 261 = .ok (.iload 6, 2) := by decide +kernel
theorem dL_law_273 : decode cL_law 273 = .ok (.aload_n 1, 1) := by decide +kernel
theorem dL_law_279 : decode cL_law 279 = .ok (.iaload, 1) := by decide +kernel
theorem dL_law_287 : decode cL_law 287 = .ok (.aload_n 0, 1) := by decide +kernel
theorem dL_law_293 : decode cL_law 293 = .ok (.invokevirtual 132, 3) := by decide +kernel
theorem dL_law_304 : decode cL_law 304 = .ok (.if_icmp .eq 5, 3) := by decide +kernel
theorem dL_law_318 : decode cL_law 318 = .ok (.iload 6, 2) := by decide +kernel
theorem dL_law_330 : decode cL_law 330 = .ok (.aload_n 1, 1) := by decide +kernel
theorem dL_law_336 : decode cL_law 336 = .ok (.iaload, 1) := by decide +kernel
theorem dL_law_342 : decode cL_law 342 = .ok (.iaload, 1) := by decide +kernel
theorem dL_law_350 : decode cL_law 350 = .ok (.aload_n 0, 1) := by decide +kernel
theorem dL_law_356 : decode cL_law 356 = .ok (.aload_n 0, 1) := by decide +kernel
theorem dL_law_362 : decode cL_law 362 = .ok (.invokevirtual 135, 3) := by decide +kernel
theorem dL_law_373 : decode cL_law 373 = .ok (.if_icmp .eq 5, 3) := by decide +kernel
theorem dL_law_400 : decode cL_law 400 = .ok (.aload_n 0, 1) := by decide +kernel
theorem dL_law_406 : decode cL_law 406 = .ok (.aload_n 0, 1) := by decide +kernel
theorem dL_law_412 : decode cL_law 412 = .ok (.aload_n 3, 1) := by decide +kernel
theorem dL_law_420 : decode cL_law 420 = .ok (.iload 4, 2) := by decide +kernel
theorem dL_law_426 : decode cL_law 426 = .ok (.iload 4, 2) := by decide +kernel
theorem dL_law_434 : decode cL_law 434 = .ok (.istore 6, 2) := by decide +kernel
theorem dL_law_447 : decode cL_law 447 = .ok (.iload 5, 2) := by decide +kernel
theorem dL_law_470 : decode cL_law 470 = .ok (.iload 4, 2) := by decide +kernel
theorem dL_law_476 : decode cL_law 476 = .ok (.invokestatic 139, 3) := by decide +kernel
theorem dL_law_485 : decode cL_law 485 = .ok (.iconst 1, 1) := by decide +kernel
theorem dL_law_493 : decode cL_law 493 = .ok (.aload_n 2, 1) := by decide +kernel
theorem dL_law_506 : decode cL_law 506 = .ok (.ifCond .ne 16, 3) := by decide +kernel
theorem dL_law_529 : decode cL_law 529 = .ok (.iconst 1, 1) := by decide +kernel
theorem dL_law_536 : decode cL_law 536 = .ok (.istore 5, 2) := by decide +kernel
theorem dL_law_543 : decode cL_law 543 = .ok (.iadd, 1) := by decide +kernel
theorem dL_law_551 : decode cL_law 551 = .ok (.invokevirtual 126, 3) := by decide +kernel
theorem dL_law_579 : decode cL_law 579 = .ok (.goto 1637, 3) := by decide +kernel
theorem dL_law_587 : decode cL_law 587 = .ok (.iadd, 1) := by decide +kernel
theorem dL_law_593 : decode cL_law 593 = .ok (.iadd, 1) := by decide +kernel
theorem dL_law_601 : decode cL_law 601 = .ok (.aload_n 2, 1) := by decide +kernel
theorem dL_law_607 : decode cL_law 607 = .ok (.iaload, 1) := by decide +kernel
theorem dL_law_613 : decode cL_law 613 = .ok (.iaload, 1) := by decide +kernel
theorem dL_law_623 : decode cL_law 623 = .ok (.iload 5, 2) := by decide +kernel
theorem dL_law_651 : decode cL_law 651 = .ok (.aload_n 1, 1) := by decide +kernel
theorem dL_law_664 : decode cL_law 664 = .ok (.aload_n 1, 1) := by decide +kernel
theorem dL_law_670 : decode cL_law 670 = .ok (.iaload, 1) := by decide +kernel
theorem dL_law_678 : decode cL_law 678 = .ok (.aload_n 0, 1) := by decide +kernel
theorem dL_law_684 : decode cL_law 684 = .ok (.invokevirtual 154, 3) := by decide +kernel
theorem dL_law_695 : decode cL_law 695 = .ok (.if_icmp .eq 5, 3) := by decide +kernel
theorem dL_law_709 : decode cL_law 709 = .ok (.iload 6, 2) := by decide +kernel
theorem dL_law_721 : decode cL_law 721 = .ok (.aload_n 1, 1) := by decide +kernel
theorem dL_law_727 : decode cL_law 727 = .ok (.iaload, 1) := by decide +kernel
theorem dL_law_735 : decode cL_law 735 = .ok (.aload_n 0, 1) := by decide +kernel
theorem dL_law_741 : decode cL_law 741 = .ok (.invokevirtual 157, 3) := by decide +kernel
theorem dL_law_752 : decode cL_law 752 = .ok (.if_icmp .eq 5, 3) := by decide +kernel
theorem dL_law_766 : decode cL_law 766 = .ok (.iload 6, 2) := by decide +kernel
theorem dL_law_778 : decode cL_law 778 = .ok (.aload_n 1, 1) := by decide +kernel
theorem dL_law_784 : decode cL_law 784 = .ok (.iaload, 1) := by decide +kernel
theorem dL_law_790 : decode cL_law 790 = .ok (.iaload, 1) := by decide +kernel
theorem dL_law_796 : decode cL_law 796 = .ok (.iaload, 1) := by decide +kernel
theorem dL_law_802 : decode cL_law 802 = .ok (.iaload, 1) := by decide +kernel
theorem dL_law_808 : decode cL_law 808 = .ok (.iaload, 1) := by decide +kernel
theorem dL_law_815 : decode cL_law 815 = .ok (.iaload, 1) := by decide +kernel
theorem dL_law_823 : decode cL_law 823 = .ok (.aload_n 0, 1) := by decide +kernel
theorem dL_law_829 : decode cL_law 829 = .ok (.aload_n 0, 1) := by decide +kernel
theorem dL_law_835 : decode cL_law 835 = .ok (.aload_n 0, 1) := by decide +kernel
theorem dL_law_841 : decode cL_law 841 = .ok (.aload_n 0, 1) := by decide +kernel
theorem dL_law_847 : decode cL_law 847 = .ok (.aload_n 0, 1) := by decide +kernel
theorem dL_law_853 : decode cL_law 853 = .ok (.aload_n 0, 1) := by decide +kernel
theorem dL_law_860 : decode cL_law 860 = .ok (.invokevirtual 161, 3) := by decide +kernel
theorem dL_law_871 : decode cL_law 871 = .ok (.if_icmp .eq 5, 3) := by decide +kernel
theorem dL_law_885 : decode cL_law 885 = .ok (.iload 6, 2) := by decide +kernel
theorem dL_law_897 : decode cL_law 897 = .ok (.aload_n 1, 1) := by decide +kernel
theorem dL_law_905 : decode cL_law 905 = .ok (.invokevirtual 165, 3) := by decide +kernel
theorem dL_law_916 : decode cL_law 916 = .ok (.if_icmp .eq 5, 3) := by decide +kernel
theorem dL_law_930 : decode cL_law 930 = .ok (.iload 6, 2) := by decide +kernel
theorem dL_law_942 : decode cL_law 942 = .ok (.aload_n 1, 1) := by decide +kernel
theorem dL_law_955 : decode cL_law 955 = .ok (.aload_n 1, 1) := by decide +kernel
theorem dL_law_968 : decode cL_law 968 = .ok (.aload_n 1, 1) := by decide +kernel
theorem dL_law_981 : decode cL_law 981 = .ok (.aload_n 1, 1) := by decide +kernel
theorem dL_law_987 : decode cL_law 987 = .ok (.iaload, 1) := by decide +kernel
theorem dL_law_993 : decode cL_law 993 = .ok (.iaload, 1) := by decide +kernel
theorem dL_law_1001 : decode cL_law 1001 = .ok (.aload_n 0, 1) := by decide +kernel
theorem dL_law_1007 : decode cL_law 1007 = .ok (.aload_n 0, 1) := by decide +kernel
theorem dL_law_1013 : decode cL_law 1013 = .ok (.invokevirtual 180, 3) := by decide +kernel
theorem dL_law_1024 : decode cL_law 1024 = .ok (.if_icmp .eq 5, 3) := by decide +kernel
theorem dL_law_1051 : decode cL_law 1051 = .ok (.aload_n 0, 1) := by decide +kernel
theorem dL_law_1057 : decode cL_law 1057 = .ok (.aload_n 3, 1) := by decide +kernel
theorem dL_law_1065 : decode cL_law 1065 = .ok (.iload 4, 2) := by decide +kernel
theorem dL_law_1073 : decode cL_law 1073 = .ok (.astore 6, 2) := by decide +kernel
theorem dL_law_1086 : decode cL_law 1086 = .ok (.iload 5, 2) := by decide +kernel
theorem dL_law_1110 : decode cL_law 1110 = .ok (.iload 4, 2) := by decide +kernel
theorem dL_law_1116 : decode cL_law 1116 = .ok (.iload 4, 2) := by decide +kernel
theorem dL_law_1122 : decode cL_law 1122 = .ok (.invokestatic 190, 3) := by decide +kernel
theorem dL_law_1131 : decode cL_law 1131 = .ok (.iconst 1, 1) := by decide +kernel
theorem dL_law_1137 : decode cL_law 1137 = .ok (.iconst 2, 1) := by decide +kernel
theorem dL_law_1145 : decode cL_law 1145 = .ok (.aload_n 2, 1) := by decide +kernel
theorem dL_law_1158 : decode cL_law 1158 = .ok (.ifCond .ne 17, 3) := by decide +kernel
theorem dL_law_1182 : decode cL_law 1182 = .ok (.iconst 1, 1) := by decide +kernel
theorem dL_law_1188 : decode cL_law 1188 = .ok (.iconst 2, 1) := by decide +kernel
theorem dL_law_1195 : decode cL_law 1195 = .ok (.istore 5, 2) := by decide +kernel
theorem dL_law_1202 : decode cL_law 1202 = .ok (.iadd, 1) := by decide +kernel
theorem dL_law_1208 : decode cL_law 1208 = .ok (.iadd, 1) := by decide +kernel
theorem dL_law_1216 : decode cL_law 1216 = .ok (.invokevirtual 126, 3) := by decide +kernel
theorem dL_law_1244 : decode cL_law 1244 = .ok (.goto 972, 3) := by decide +kernel
theorem dL_law_1252 : decode cL_law 1252 = .ok (.iadd, 1) := by decide +kernel
theorem dL_law_1258 : decode cL_law 1258 = .ok (.iadd, 1) := by decide +kernel
theorem dL_law_1264 : decode cL_law 1264 = .ok (.iadd, 1) := by decide +kernel
theorem dL_law_1272 : decode cL_law 1272 = .ok (.aload_n 2, 1) := by decide +kernel
theorem dL_law_1278 : decode cL_law 1278 = .ok (.iaload, 1) := by decide +kernel
theorem dL_law_1284 : decode cL_law 1284 = .ok (.iaload, 1) := by decide +kernel
theorem dL_law_1290 : decode cL_law 1290 = .ok (.iaload, 1) := by decide +kernel
theorem dL_law_1300 : decode cL_law 1300 = .ok (.iload 5, 2) := by decide +kernel
theorem dL_law_1328 : decode cL_law 1328 = .ok (.aload_n 1, 1) := by decide +kernel
theorem dL_law_1334 : decode cL_law 1334 = .ok (.iaload, 1) := by decide +kernel
theorem dL_law_1340 : decode cL_law 1340 = .ok (.iaload, 1) := by decide +kernel
theorem dL_law_1346 : decode cL_law 1346 = .ok (.iaload, 1) := by decide +kernel
theorem dL_law_1355 : decode cL_law 1355 = .ok (.aload_n 3, 1) := by decide +kernel
theorem dL_law_1363 : decode cL_law 1363 = .ok (.iload 4, 2) := by decide +kernel
theorem dL_law_1369 : decode cL_law 1369 = .ok (.iload 4, 2) := by decide +kernel
theorem dL_law_1375 : decode cL_law 1375 = .ok (.iload 4, 2) := by decide +kernel
theorem dL_law_1383 : decode cL_law 1383 = .ok (.iconst 1, 1) := by decide +kernel
theorem dL_law_1393 : decode cL_law 1393 = .ok (.aload_n 2, 1) := by decide +kernel
theorem dL_law_1406 : decode cL_law 1406 = .ok (.ifCond .ne 16, 3) := by decide +kernel
theorem dL_law_1429 : decode cL_law 1429 = .ok (.iconst 1, 1) := by decide +kernel
theorem dL_law_1435 : decode cL_law 1435 = .ok (.iconst 2, 1) := by decide +kernel
theorem dL_law_1442 : decode cL_law 1442 = .ok (.istore 5, 2) := by decide +kernel
theorem dL_law_1449 : decode cL_law 1449 = .ok (.iadd, 1) := by decide +kernel
theorem dL_law_1455 : decode cL_law 1455 = .ok (.iadd, 1) := by decide +kernel
theorem dL_law_1463 : decode cL_law 1463 = .ok (.invokevirtual 126, 3) := by decide +kernel
theorem dL_law_1491 : decode cL_law 1491 = .ok (.goto 725, 3) := by decide +kernel
theorem dL_law_1499 : decode cL_law 1499 = .ok (.iadd, 1) := by decide +kernel
theorem dL_law_1505 : decode cL_law 1505 = .ok (.iadd, 1) := by decide +kernel
theorem dL_law_1511 : decode cL_law 1511 = .ok (.iadd, 1) := by decide +kernel
theorem dL_law_1520 : decode cL_law 1520 = .ok (.iconst 0, 1) := by decide +kernel
theorem dL_law_1528 : decode cL_law 1528 = .ok (.aload_n 0, 1) := by decide +kernel
theorem dL_law_1534 : decode cL_law 1534 = .ok (.aload_n 0, 1) := by decide +kernel
theorem dL_law_1540 : decode cL_law 1540 = .ok (.aload_n 0, 1) := by decide +kernel
theorem dL_law_1546 : decode cL_law 1546 = .ok (.ifCond .eq 7, 3) := by decide +kernel
theorem dL_law_1557 : decode cL_law 1557 = .ok (.istore 6, 2) := by decide +kernel
theorem dL_law_1570 : decode cL_law 1570 = .ok (.iload 5, 2) := by decide +kernel
theorem dL_law_1595 : decode cL_law 1595 = .ok (.aload_n 2, 1) := by decide +kernel
theorem dL_law_1608 : decode cL_law 1608 = .ok (.aload_n 0, 1) := by decide +kernel
theorem dL_law_1614 : decode cL_law 1614 = .ok (.ifCond .eq 7, 3) := by decide +kernel
theorem dL_law_1625 : decode cL_law 1625 = .ok (.aload_n 2, 1) := by decide +kernel
theorem dL_law_1631 : decode cL_law 1631 = .ok (.iaload, 1) := by decide +kernel
theorem dL_law_1640 : decode cL_law 1640 = .ok (.invokevirtual 219, 3) := by decide +kernel
theorem dL_law_1652 : decode cL_law 1652 = .ok (.iconst 1, 1) := by decide +kernel
theorem dL_law_1659 : decode cL_law 1659 = .ok (.istore 5, 2) := by decide +kernel
theorem dL_law_1666 : decode cL_law 1666 = .ok (.iadd, 1) := by decide +kernel
theorem dL_law_1674 : decode cL_law 1674 = .ok (.invokevirtual 126, 3) := by decide +kernel
theorem dL_law_1689 : decode cL_law 1689 = .ok (.aload_n 3, 1) := by decide +kernel
theorem dL_law_1697 : decode cL_law 1697 = .ok (.ifCond .eq 5, 3) := by decide +kernel
theorem dL_law_1710 : decode cL_law 1710 = .ok (.invokevirtual 226, 3) := by decide +kernel
theorem dL_law_1723 : decode cL_law 1723 = .ok (.iload 4, 2) := by decide +kernel
theorem dL_law_1729 : decode cL_law 1729 = .ok (.invokestatic 227, 3) := by decide +kernel
theorem dL_law_1738 : decode cL_law 1738 = .ok (.iconst 1, 1) := by decide +kernel
theorem dL_law_1746 : decode cL_law 1746 = .ok (.aload_n 2, 1) := by decide +kernel
theorem dL_law_1759 : decode cL_law 1759 = .ok (.ifCond .ne 17, 3) := by decide +kernel
theorem dL_law_1771 : decode cL_law 1771 = .ok (.ifCond .ne 5, 3) := by decide +kernel
theorem dL_law_1783 : decode cL_law 1783 = .ok (.iconst 1, 1) := by decide +kernel
theorem dL_law_1790 : decode cL_law 1790 = .ok (.istore 5, 2) := by decide +kernel
theorem dL_law_1797 : decode cL_law 1797 = .ok (.iadd, 1) := by decide +kernel
theorem dL_law_1805 : decode cL_law 1805 = .ok (.invokevirtual 126, 3) := by decide +kernel
theorem dL_law_1820 : decode cL_law 1820 = .ok (.aload_n 3, 1) := by decide +kernel
theorem dL_law_1828 : decode cL_law 1828 = .ok (.ifCond .eq 5, 3) := by decide +kernel
theorem dL_law_1840 : decode cL_law 1840 = .ok (.iconst 1, 1) := by decide +kernel
theorem dL_law_1846 : decode cL_law 1846 = .ok (.iconst 2, 1) := by decide +kernel
theorem dL_law_1853 : decode cL_law 1853 = .ok (.istore 5, 2) := by decide +kernel
theorem dL_law_1860 : decode cL_law 1860 = .ok (.iadd, 1) := by decide +kernel
theorem dL_law_1866 : decode cL_law 1866 = .ok (.iadd, 1) := by decide +kernel
theorem dL_law_1874 : decode cL_law 1874 = .ok (.invokevirtual 126, 3) := by decide +kernel
theorem dL_law_1909 : decode cL_law 1909 = .ok (.goto 307, 3) := by decide +kernel
theorem dL_law_1917 : decode cL_law 1917 = .ok (.iadd, 1) := by decide +kernel
theorem dL_law_1923 : decode cL_law 1923 = .ok (.iadd, 1) := by decide +kernel
theorem dL_law_1929 : decode cL_law 1929 = .ok (.iadd, 1) := by decide +kernel
theorem dL_law_1937 : decode cL_law 1937 = .ok (.aload_n 2, 1) := by decide +kernel
theorem dL_law_1943 : decode cL_law 1943 = .ok (.iaload, 1) := by decide +kernel
theorem dL_law_1949 : decode cL_law 1949 = .ok (.iaload, 1) := by decide +kernel
theorem dL_law_1955 : decode cL_law 1955 = .ok (.iaload, 1) := by decide +kernel
theorem dL_law_1965 : decode cL_law 1965 = .ok (.iload 5, 2) := by decide +kernel
theorem dL_law_1993 : decode cL_law 1993 = .ok (.aload_n 1, 1) := by decide +kernel
theorem dL_law_1999 : decode cL_law 1999 = .ok (.iaload, 1) := by decide +kernel
theorem dL_law_2007 : decode cL_law 2007 = .ok (.aload_n 0, 1) := by decide +kernel
theorem dL_law_2013 : decode cL_law 2013 = .ok (.invokevirtual 241, 3) := by decide +kernel
theorem dL_law_2024 : decode cL_law 2024 = .ok (.if_icmp .eq 5, 3) := by decide +kernel
theorem dL_law_2051 : decode cL_law 2051 = .ok (.aload_n 0, 1) := by decide +kernel
theorem dL_law_2057 : decode cL_law 2057 = .ok (.aload_n 0, 1) := by decide +kernel
theorem dL_law_2063 : decode cL_law 2063 = .ok (.aload_n 3, 1) := by decide +kernel
theorem dL_law_2071 : decode cL_law 2071 = .ok (.iload 4, 2) := by decide +kernel
theorem dL_law_2077 : decode cL_law 2077 = .ok (.iload 4, 2) := by decide +kernel
theorem dL_law_2085 : decode cL_law 2085 = .ok (.istore 6, 2) := by decide +kernel
theorem dL_law_2098 : decode cL_law 2098 = .ok (.iload 5, 2) := by decide +kernel
theorem dL_law_2121 : decode cL_law 2121 = .ok (.iload 4, 2) := by decide +kernel
theorem dL_law_2127 : decode cL_law 2127 = .ok (.iload 4, 2) := by decide +kernel
theorem dL_law_2133 : decode cL_law 2133 = .ok (.invokestatic 245, 3) := by decide +kernel
theorem dL_law_2142 : decode cL_law 2142 = .ok (.iconst 1, 1) := by decide +kernel
theorem dL_law_2148 : decode cL_law 2148 = .ok (.iconst 2, 1) := by decide +kernel
theorem dL_law_2156 : decode cL_law 2156 = .ok (.aload_n 2, 1) := by decide +kernel
theorem dL_law_2169 : decode cL_law 2169 = .ok (.ifCond .ne 17, 3) := by decide +kernel
theorem dL_law_2194 : decode cL_law 2194 = .ok (.invokevirtual 252, 3) := by decide +kernel
theorem dL_law_2207 : decode cL_law 2207 = .ok (.invokevirtual 257, 3) := by decide +kernel
theorem dL_law_2222 : decode cL_law 2222 = .ok (.iconst 1, 1) := by decide +kernel

theorem dX0_init_5 : decode cX0_init 5 = .ok (.new 9, 3) := by decide +kernel
theorem dX0_init_16 : decode cX0_init 16 = .ok (.aload_n 0, 1) := by decide +kernel
theorem dX0_init_25 : decode cX0_init 25 = .ok (.putfield 20, 3) := by decide +kernel
theorem dX0_init_34 : decode cX0_init 34 = .ok (.invokespecial 11, 3) := by decide +kernel
theorem dX0_init_45 : decode cX0_init 45 = .ok (.iconst 4, 1) := by decide +kernel
theorem dX0_init_56 : decode cX0_init 56 = .ok (.dup, 1) := by decide +kernel
theorem dX0_init_65 : decode cX0_init 65 = .ok (.new 9, 3) := by decide +kernel
theorem dX0_init_76 : decode cX0_init 76 = .ok (.aload_n 0, 1) := by decide +kernel
theorem dX0_init_86 : decode cX0_init 86 = .ok (.putfield 35, 3) := by decide +kernel
theorem dX0_init_95 : decode cX0_init 95 = .ok (.iconst 0, 1) := by decide +kernel
theorem dX0_init_104 : decode cX0_init 104 = .ok (.aload_n 0, 1) := by decide +kernel
theorem dX0_faultOf_1 : decode cX0_faultOf 1 = .ok (.aload_n 1, 1) := by decide +kernel
theorem dX0_faultOf_10 : decode cX0_faultOf 10 = .ok (.istore_n 3, 1) := by decide +kernel
theorem dX0_faultOf_102 : decode cX0_faultOf 102 = .ok (.aload_n 0, 1) := by decide +kernel
theorem dX0_faultOf_113 : decode cX0_faultOf 113 = .ok (.invokevirtual 87, 3) := by decide +kernel
theorem dX0_begin_0 : decode cX0_begin 0 = .ok (.aload_n 0, 1) := by decide +kernel
theorem dX0_begin_11 : decode cX0_begin 11 = .ok (.invokevirtual 100, 3) := by decide +kernel
theorem dX0_begin_22 : decode cX0_begin 22 = .ok (.getfield 26, 3) := by decide +kernel
theorem dX0_begin_35 : decode cX0_begin 35 = .ok (.aload_n 0, 1) := by decide +kernel
theorem dX0_begin_46 : decode cX0_begin 46 = .ok (.invokevirtual 100, 3) := by decide +kernel
theorem dX0_begin_55 : decode cX0_begin 55 = .ok (.invokevirtual 103, 3) := by decide +kernel
theorem dX0_startSum_5 : decode cX0_startSum 5 = .ok (.invokevirtual 60, 3) := by decide +kernel
theorem dX0_startSum_16 : decode cX0_startSum 16 = .ok (.invokevirtual 60, 3) := by decide +kernel
theorem dX0_isBehindFactor_4 : decode cX0_isBehindFactor 4 = .ok (.iconst 2, 1) := by decide +kernel
theorem dX0_isBehindFactor_13 : decode cX0_isBehindFactor 13 = .ok (.if_icmp .ne 7, 3) := by decide +kernel
theorem dX1_init_4 : decode cX1_init 4 = .ok (.aload_n 0, 1) := by decide +kernel
theorem dX1_init_13 : decode cX1_init 13 = .ok (.putfield 14, 3) := by decide +kernel
theorem dX1_init_22 : decode cX1_init 22 = .ok (.invokespecial 11, 3) := by decide +kernel
theorem dX1_init_33 : decode cX1_init 33 = .ok (.bipush 61, 2) := by decide +kernel
theorem dX1_faultOf_1 : decode cX1_faultOf 1 = .ok (.getfield 14, 3) := by decide +kernel
theorem dX1_faultOf_10 : decode cX1_faultOf 10 = .ok (.aload_n 1, 1) := by decide +kernel
theorem dX1_faultOf_119 : decode cX1_faultOf 119 = .ok (.invokevirtual 41, 3) := by decide +kernel
theorem dX1_build_0 : decode cX1_build 0 = .ok (.aload_n 0, 1) := by decide +kernel
theorem dX1_build_11 : decode cX1_build 11 = .ok (.invokevirtual 38, 3) := by decide +kernel
theorem dX1_build_19 : decode cX1_build 19 = .ok (.iload 4, 2) := by decide +kernel
theorem dX1_build_102 : decode cX1_build 102 = .ok (.iconst 0, 1) := by decide +kernel
theorem dX1_gathered_1 : decode cX1_gathered 1 = .ok (.getfield 23, 3) := by decide +kernel
theorem dX1_gathered_10 : decode cX1_gathered 10 = .ok (.iload_n 3, 1) := by decide +kernel
theorem dX1_gathered_19 : decode cX1_gathered 19 = .ok (.ireturn, 1) := by decide +kernel
theorem dX2_init_8 : decode cX2_init 8 = .ok (.dup, 1) := by decide +kernel
theorem dX2_init_19 : decode cX2_init 19 = .ok (.dup, 1) := by decide +kernel
theorem dX2_init_30 : decode cX2_init 30 = .ok (.new 18, 3) := by decide +kernel
theorem dX2_init_43 : decode cX2_init 43 = .ok (.aload_n 0, 1) := by decide +kernel
theorem dX2_init_53 : decode cX2_init 53 = .ok (.putfield 30, 3) := by decide +kernel
theorem dX2_init_63 : decode cX2_init 63 = .ok (.invokespecial 20, 3) := by decide +kernel
theorem dX2_init_74 : decode cX2_init 74 = .ok (.bipush 100, 2) := by decide +kernel
theorem dX2_init_86 : decode cX2_init 86 = .ok (.dup, 1) := by decide +kernel
theorem dX2_init_96 : decode cX2_init 96 = .ok (.new 18, 3) := by decide +kernel
theorem dX2_init_109 : decode cX2_init 109 = .ok (.aload_n 0, 1) := by decide +kernel
theorem dX2_init_116 : decode cX2_init 116 = .ok (.putfield 49, 3) := by decide +kernel
theorem dX2_init_125 : decode cX2_init 125 = .ok (.iconst 1, 1) := by decide +kernel
theorem dX2_init_134 : decode cX2_init 134 = .ok (.aload_n 0, 1) := by decide +kernel
theorem dX2_init_141 : decode cX2_init 141 = .ok (.putfield 64, 3) := by decide +kernel
theorem dX2_init_150 : decode cX2_init 150 = .ok (.iconst (-1), 1) := by decide +kernel
theorem dX2_init_159 : decode cX2_init 159 = .ok (.aload_n 1, 1) := by decide +kernel
theorem dX3_init_1 : decode cX3_init 1 = .ok (.invokespecial 3, 3) := by decide +kernel
theorem dX3_init_11 : decode cX3_init 11 = .ok (.invokespecial 11, 3) := by decide +kernel
theorem dX3_init_22 : decode cX3_init 22 = .ok (.sipush 4960, 3) := by decide +kernel
theorem dX3_init_35 : decode cX3_init 35 = .ok (.dup, 1) := by decide +kernel
theorem dX3_init_46 : decode cX3_init 46 = .ok (.new 9, 3) := by decide +kernel
theorem dX3_init_59 : decode cX3_init 59 = .ok (.aload_n 0, 1) := by decide +kernel
theorem dX3_init_70 : decode cX3_init 70 = .ok (.putfield 29, 3) := by decide +kernel
theorem dX3_init_81 : decode cX3_init 81 = .ok (.invokespecial 11, 3) := by decide +kernel
theorem dX3_init_92 : decode cX3_init 92 = .ok (.sipush 4960, 3) := by decide +kernel
theorem dX3_init_105 : decode cX3_init 105 = .ok (.dup, 1) := by decide +kernel
theorem dX3_init_116 : decode cX3_init 116 = .ok (.new 9, 3) := by decide +kernel
theorem dX3_init_129 : decode cX3_init 129 = .ok (.return_, 1) := by decide +kernel
theorem dX3_has_0 : decode cX3_has 0 = .ok (.iload_n 1, 1) := by decide +kernel
theorem dX3_has_9 : decode cX3_has 9 = .ok (.invokevirtual 44, 3) := by decide +kernel
theorem dX3_signs_1 : decode cX3_signs 1 = .ok (.getfield 41, 3) := by decide +kernel
theorem dX3_weightOfAll_3 : decode cX3_weightOfAll 3 = .ok (.istore_n 2, 1) := by decide +kernel
theorem dX3_weightOfAll_12 : decode cX3_weightOfAll 12 = .ok (.if_icmp .ge 17, 3) := by decide +kernel
theorem dX3_clear_4 : decode cX3_clear 4 = .ok (.invokevirtual 55, 3) := by decide +kernel
theorem dX3_clear_15 : decode cX3_clear 15 = .ok (.getfield 23, 3) := by decide +kernel
theorem dX3_clear_28 : decode cX3_clear 28 = .ok (.aload_n 0, 1) := by decide +kernel
theorem dX3_clear_39 : decode cX3_clear 39 = .ok (.invokevirtual 55, 3) := by decide +kernel
theorem dX3_clear_50 : decode cX3_clear 50 = .ok (.getfield 38, 3) := by decide +kernel
theorem dX3_clear_63 : decode cX3_clear 63 = .ok (.return_, 1) := by decide +kernel
theorem dX3_number_8 : decode cX3_number 8 = .ok (.aload_n 0, 1) := by decide +kernel
theorem dX3_number_17 : decode cX3_number 17 = .ok (.ireturn, 1) := by decide +kernel
theorem dX3_addSign_8 : decode cX3_addSign 8 = .ok (.return_, 1) := by decide +kernel
theorem dX3_addText_6 : decode cX3_addText 6 = .ok (.invokevirtual 44, 3) := by decide +kernel
theorem dX3_addText_13 : decode cX3_addText 13 = .ok (.iconst 1, 1) := by decide +kernel
theorem dX3_addMark_1 : decode cX3_addMark 1 = .ok (.iload_n 1, 1) := by decide +kernel
theorem dX3_addMark_6 : decode cX3_addMark 6 = .ok (.iconst 1, 1) := by decide +kernel
theorem dX3_addPlace_4 : decode cX3_addPlace 4 = .ok (.iload_n 1, 1) := by decide +kernel
theorem dX3_addPlace_13 : decode cX3_addPlace 13 = .ok (.invokevirtual 58, 3) := by decide +kernel
theorem dX3_addPlace_24 : decode cX3_addPlace 24 = .ok (.aload_n 0, 1) := by decide +kernel
theorem dX3_addPlace_34 : decode cX3_addPlace 34 = .ok (.getfield 32, 3) := by decide +kernel
theorem dX3_addPlace_46 : decode cX3_addPlace 46 = .ok (.iload 6, 2) := by decide +kernel
theorem dX3_addPlace_58 : decode cX3_addPlace 58 = .ok (.iconst 1, 1) := by decide +kernel
theorem dX4_init_4 : decode cX4_init 4 = .ok (.aload_n 0, 1) := by decide +kernel
theorem dX4_init_11 : decode cX4_init 11 = .ok (.ifCond .le 7, 3) := by decide +kernel
theorem dX4_init_24 : decode cX4_init 24 = .ok (.return_, 1) := by decide +kernel
theorem dX4_get_1 : decode cX4_get 1 = .ok (.ifCond .lt 29, 3) := by decide +kernel
theorem dX4_get_12 : decode cX4_get 12 = .ok (.iload_n 1, 1) := by decide +kernel
theorem dX4_get_21 : decode cX4_get 21 = .ok (.aload_n 0, 1) := by decide +kernel
theorem dX4_get_31 : decode cX4_get 31 = .ok (.ireturn, 1) := by decide +kernel
theorem dX4_add_8 : decode cX4_add 8 = .ok (.getfield 7, 3) := by decide +kernel
theorem dX4_add_19 : decode cX4_add 19 = .ok (.aload_n 0, 1) := by decide +kernel
theorem dX4_add_28 : decode cX4_add 28 = .ok (.iastore, 1) := by decide +kernel
theorem dX4_add_35 : decode cX4_add 35 = .ok (.iadd, 1) := by decide +kernel
theorem dX4_cut_4 : decode cX4_cut 4 = .ok (.iload_n 1, 1) := by decide +kernel
theorem dX4_cut_13 : decode cX4_cut 13 = .ok (.iload_n 1, 1) := by decide +kernel
theorem dX4_clear_2 : decode cX4_clear 2 = .ok (.putfield 7, 3) := by decide +kernel
theorem dX4_copy_5 : decode cX4_copy 5 = .ok (.iconst 0, 1) := by decide +kernel
theorem dX4_copy_12 : decode cX4_copy 12 = .ok (.if_icmp .ge 18, 3) := by decide +kernel
theorem dX5_init_5 : decode cX5_init 5 = .ok (.new 9, 3) := by decide +kernel
theorem dX5_init_18 : decode cX5_init 18 = .ok (.aload_n 0, 1) := by decide +kernel
theorem dX5_init_29 : decode cX5_init 29 = .ok (.putfield 20, 3) := by decide +kernel
theorem dX5_init_40 : decode cX5_init 40 = .ok (.invokespecial 11, 3) := by decide +kernel
theorem dX5_init_51 : decode cX5_init 51 = .ok (.sipush 2500, 3) := by decide +kernel
theorem dX5_init_64 : decode cX5_init 64 = .ok (.dup, 1) := by decide +kernel
theorem dX5_init_74 : decode cX5_init 74 = .ok (.new 9, 3) := by decide +kernel
theorem dX5_init_87 : decode cX5_init 87 = .ok (.aload_n 0, 1) := by decide +kernel
theorem dX5_init_98 : decode cX5_init 98 = .ok (.putfield 35, 3) := by decide +kernel
theorem dX5_init_109 : decode cX5_init 109 = .ok (.invokespecial 11, 3) := by decide +kernel
theorem dX5_init_120 : decode cX5_init 120 = .ok (.sipush 2501, 3) := by decide +kernel
theorem dX5_init_131 : decode cX5_init 131 = .ok (.putfield 44, 3) := by decide +kernel
theorem dX6_init_5 : decode cX6_init 5 = .ok (.new 9, 3) := by decide +kernel
theorem dX6_init_18 : decode cX6_init 18 = .ok (.aload_n 0, 1) := by decide +kernel
theorem dX6_init_25 : decode cX6_init 25 = .ok (.putfield 24, 3) := by decide +kernel
theorem dX6_init_34 : decode cX6_init 34 = .ok (.aload 4, 2) := by decide +kernel
theorem dX6_holds_3 : decode cX6_holds 3 = .ok (.iconst 0, 1) := by decide +kernel
theorem dX6_holds_12 : decode cX6_holds 12 = .ok (.isub, 1) := by decide +kernel
theorem dX6_holds_21 : decode cX6_holds 21 = .ok (.getfield 20, 3) := by decide +kernel
theorem dX6_holds_88 : decode cX6_holds 88 = .ok (.ifCond .ne 6, 3) := by decide +kernel
theorem dX7_init_4 : decode cX7_init 4 = .ok (.aload_n 0, 1) := by decide +kernel
theorem dX7_init_14 : decode cX7_init 14 = .ok (.putfield 14, 3) := by decide +kernel
theorem dX7_init_24 : decode cX7_init 24 = .ok (.invokespecial 11, 3) := by decide +kernel
theorem dX7_init_35 : decode cX7_init 35 = .ok (.bipush 120, 2) := by decide +kernel
theorem dX7_init_47 : decode cX7_init 47 = .ok (.dup, 1) := by decide +kernel
theorem dX7_init_57 : decode cX7_init 57 = .ok (.new 9, 3) := by decide +kernel
theorem dX7_init_69 : decode cX7_init 69 = .ok (.aload_n 0, 1) := by decide +kernel
theorem dX7_init_79 : decode cX7_init 79 = .ok (.putfield 32, 3) := by decide +kernel
theorem dX7_init_89 : decode cX7_init 89 = .ok (.invokespecial 11, 3) := by decide +kernel
theorem dX7_init_100 : decode cX7_init 100 = .ok (.bipush 60, 2) := by decide +kernel
theorem dX7_init_112 : decode cX7_init 112 = .ok (.dup, 1) := by decide +kernel
theorem dX7_init_122 : decode cX7_init 122 = .ok (.iconst (-1), 1) := by decide +kernel
theorem dX7_start_4 : decode cX7_start 4 = .ok (.invokevirtual 48, 3) := by decide +kernel
theorem dX7_start_15 : decode cX7_start 15 = .ok (.getfield 23, 3) := by decide +kernel
theorem dX7_start_28 : decode cX7_start 28 = .ok (.aload_n 0, 1) := by decide +kernel
theorem dX7_start_39 : decode cX7_start 39 = .ok (.invokevirtual 48, 3) := by decide +kernel
theorem dX7_start_50 : decode cX7_start 50 = .ok (.getfield 38, 3) := by decide +kernel
theorem dX7_start_61 : decode cX7_start 61 = .ok (.invokevirtual 48, 3) := by decide +kernel
theorem dX7_isThere_0 : decode cX7_isThere 0 = .ok (.aload_n 0, 1) := by decide +kernel
theorem dX7_isThere_13 : decode cX7_isThere 13 = .ok (.ireturn, 1) := by decide +kernel
theorem dX8_init_1 : decode cX8_init 1 = .ok (.invokespecial 3, 3) := by decide +kernel
theorem dX8_init_12 : decode cX8_init 12 = .ok (.invokespecial 11, 3) := by decide +kernel
theorem dX8_init_23 : decode cX8_init 23 = .ok (.sipush 300, 3) := by decide +kernel
theorem dX8_init_34 : decode cX8_init 34 = .ok (.putfield 23, 3) := by decide +kernel
theorem dX9_init_5 : decode cX9_init 5 = .ok (.new 9, 3) := by decide +kernel
theorem dX9_init_16 : decode cX9_init 16 = .ok (.new 16, 3) := by decide +kernel
theorem dX9_init_28 : decode cX9_init 28 = .ok (.aload_n 0, 1) := by decide +kernel
theorem dX9_init_38 : decode cX9_init 38 = .ok (.putfield 25, 3) := by decide +kernel
theorem dX9_init_49 : decode cX9_init 49 = .ok (.putfield 31, 3) := by decide +kernel
theorem dX9_init_60 : decode cX9_init 60 = .ok (.putfield 38, 3) := by decide +kernel
theorem dX9_init_69 : decode cX9_init 69 = .ok (.getfield 12, 3) := by decide +kernel
theorem dX9_init_82 : decode cX9_init 82 = .ok (.new 42, 3) := by decide +kernel
theorem dX9_init_93 : decode cX9_init 93 = .ok (.invokespecial 48, 3) := by decide +kernel
theorem dX9_init_104 : decode cX9_init 104 = .ok (.aload_n 0, 1) := by decide +kernel
theorem dX9_init_113 : decode cX9_init 113 = .ok (.getfield 51, 3) := by decide +kernel
theorem dX9_init_126 : decode cX9_init 126 = .ok (.aload_n 0, 1) := by decide +kernel
theorem dX9_init_137 : decode cX9_init 137 = .ok (.aload_n 0, 1) := by decide +kernel
theorem dX9_init_148 : decode cX9_init 148 = .ok (.aload_n 0, 1) := by decide +kernel
theorem dX9_init_159 : decode cX9_init 159 = .ok (.aload_n 0, 1) := by decide +kernel
theorem dX9_init_168 : decode cX9_init 168 = .ok (.putfield 88, 3) := by decide +kernel
theorem dX9_init_177 : decode cX9_init 177 = .ok (.iconst 0, 1) := by decide +kernel
theorem dX9_init_186 : decode cX9_init 186 = .ok (.return_, 1) := by decide +kernel
theorem dX9_word_7 : decode cX9_word 7 = .ok (.if_icmp .le 13, 3) := by decide +kernel
theorem dX9_word_19 : decode cX9_word 19 = .ok (.athrow, 1) := by decide +kernel
theorem dX9_word_26 : decode cX9_word 26 = .ok (.bipush 9, 2) := by decide +kernel
theorem dX9_word_37 : decode cX9_word 37 = .ok (.invokespecial 104, 3) := by decide +kernel
theorem dX9_word_46 : decode cX9_word 46 = .ok (.istore_n 3, 1) := by decide +kernel
theorem dX9_word_53 : decode cX9_word 53 = .ok (.getfield 12, 3) := by decide +kernel
theorem dX9_word_63 : decode cX9_word 63 = .ok (.iinc 3 1, 3) := by decide +kernel
theorem dX9_word_74 : decode cX9_word 74 = .ok (.iload_n 2, 1) := by decide +kernel
theorem dX9_mark_1 : decode cX9_mark 1 = .ok (.iconst 1, 1) := by decide +kernel
theorem dX9_mark_10 : decode cX9_mark 10 = .ok (.new 100, 3) := by decide +kernel
theorem dX9_mark_20 : decode cX9_mark 20 = .ok (.aload_n 0, 1) := by decide +kernel
theorem dX9_mark_29 : decode cX9_mark 29 = .ok (.iload_n 1, 1) := by decide +kernel
theorem dX9_join_1 : decode cX9_join 1 = .ok (.iload_n 1, 1) := by decide +kernel
theorem dX9_align_0 : decode cX9_align 0 = .ok (.aload_n 0, 1) := by decide +kernel
theorem dX9_group_2 : decode cX9_group 2 = .ok (.invokevirtual 127, 3) := by decide +kernel
theorem dX9_forget_1 : decode cX9_forget 1 = .ok (.getfield 12, 3) := by decide +kernel
theorem dX9_forget_12 : decode cX9_forget 12 = .ok (.invokevirtual 167, 3) := by decide +kernel
theorem dX9_width_2 : decode cX9_width 2 = .ok (.invokevirtual 170, 3) := by decide +kernel
theorem dX9_width_11 : decode cX9_width 11 = .ok (.iload_n 1, 1) := by decide +kernel
theorem dX9_ribbon_1 : decode cX9_ribbon 1 = .ok (.iconst 1, 1) := by decide +kernel
theorem dX9_ribbon_11 : decode cX9_ribbon 11 = .ok (.new 100, 3) := by decide +kernel
theorem dX9_ribbon_21 : decode cX9_ribbon 21 = .ok (.aload_n 0, 1) := by decide +kernel
theorem dX9_ribbon_28 : decode cX9_ribbon 28 = .ok (.putfield 88, 3) := by decide +kernel
theorem dX9_say_4 : decode cX9_say 4 = .ok (.invokevirtual 175, 3) := by decide +kernel
theorem dX9_say_15 : decode cX9_say 15 = .ok (.aload_n 0, 1) := by decide +kernel
theorem dX9_say_24 : decode cX9_say 24 = .ok (.getfield 25, 3) := by decide +kernel
theorem dX9_say_35 : decode cX9_say 35 = .ok (.iload 4, 2) := by decide +kernel
theorem dX9_say_46 : decode cX9_say 46 = .ok (.invokevirtual 176, 3) := by decide +kernel
theorem dX9_say_58 : decode cX9_say 58 = .ok (.aload_n 0, 1) := by decide +kernel
theorem dX9_say_67 : decode cX9_say 67 = .ok (.aload_n 0, 1) := by decide +kernel
theorem dX9_say_78 : decode cX9_say 78 = .ok (.aload_n 0, 1) := by decide +kernel
theorem dX9_say_90 : decode cX9_say 90 = .ok (.iinc 7 1, 3) := by decide +kernel
theorem dX9_say_103 : decode cX9_say 103 = .ok (.ireturn, 1) := by decide +kernel
theorem dX9_read_8 : decode cX9_read 8 = .ok (.aload_n 0, 1) := by decide +kernel
theorem dX9_read_21 : decode cX9_read 21 = .ok (.aload_n 0, 1) := by decide +kernel
theorem dX9_read_30 : decode cX9_read 30 = .ok (.aload_n 0, 1) := by decide +kernel
theorem dX9_code_0 : decode cX9_code 0 = .ok (.aload_n 0, 1) := by decide +kernel
theorem dX9_code_9 : decode cX9_code 9 = .ok (.getfield 81, 3) := by decide +kernel
theorem dX9_code_20 : decode cX9_code 20 = .ok (.ireturn, 1) := by decide +kernel
theorem dX9_blank_6 : decode cX9_blank 6 = .ok (.iadd, 1) := by decide +kernel
theorem dX9_knock_1 : decode cX9_knock 1 = .ok (.dup, 1) := by decide +kernel
theorem dX9_knock_10 : decode cX9_knock 10 = .ok (.aload_n 0, 1) := by decide +kernel
theorem dX9_ofNode_2 : decode cX9_ofNode 2 = .ok (.invokevirtual 127, 3) := by decide +kernel
theorem dX9_line_1 : decode cX9_line 1 = .ok (.iload_n 1, 1) := by decide +kernel
theorem dX9_at_0 : decode cX9_at 0 = .ok (.aload_n 0, 1) := by decide +kernel
theorem dX9_where_2 : decode cX9_where 2 = .ok (.invokevirtual 127, 3) := by decide +kernel
theorem dX9_differ_1 : decode cX9_differ 1 = .ok (.iload_n 1, 1) := by decide +kernel
theorem dX9_typed_5 : decode cX9_typed 5 = .ok (.invokevirtual 290, 3) := by decide +kernel
theorem dX9_fault_5 : decode cX9_fault 5 = .ok (.getfield 38, 3) := by decide +kernel
theorem dX9_fault_16 : decode cX9_fault 16 = .ok (.invokevirtual 199, 3) := by decide +kernel
theorem dX9_fault_27 : decode cX9_fault 27 = .ok (.getfield 21, 3) := by decide +kernel
theorem dX9_ofCode_4 : decode cX9_ofCode 4 = .ok (.iload_n 1, 1) := by decide +kernel
theorem dX9_ofCode_14 : decode cX9_ofCode 14 = .ok (.ldc_w 294, 3) := by decide +kernel
theorem dX9_ofCode_25 : decode cX9_ofCode 25 = .ok (.invokevirtual 296, 3) := by decide +kernel
theorem dX9_plain_1 : decode cX9_plain 1 = .ok (.aload_n 0, 1) := by decide +kernel
theorem dX9_codeLine_0 : decode cX9_codeLine 0 = .ok (.aload_n 0, 1) := by decide +kernel
theorem dX9_codeLine_9 : decode cX9_codeLine 9 = .ok (.invokevirtual 296, 3) := by decide +kernel
theorem dX9_house_1 : decode cX9_house 1 = .ok (.ifCond .lt 9, 3) := by decide +kernel
theorem dX9_house_13 : decode cX9_house 13 = .ok (.dup, 1) := by decide +kernel
theorem dX9_house_21 : decode cX9_house 21 = .ok (.iload_n 1, 1) := by decide +kernel
theorem dX9_fits_2 : decode cX9_fits 2 = .ok (.invokevirtual 127, 3) := by decide +kernel
theorem dX9_narrowest_1 : decode cX9_narrowest 1 = .ok (.iload_n 1, 1) := by decide +kernel
theorem dX9_leastLine_0 : decode cX9_leastLine 0 = .ok (.aload_n 0, 1) := by decide +kernel
theorem dX9_isSound_4 : decode cX9_isSound 4 = .ok (.aload_n 0, 1) := by decide +kernel
theorem dX9_isSound_13 : decode cX9_isSound 13 = .ok (.getfield 84, 3) := by decide +kernel
theorem dX9_digest_0 : decode cX9_digest 0 = .ok (.ldc2_w 328, 3) := by decide +kernel
theorem dX9_digest_7 : decode cX9_digest 7 = .ok (.bipush 7, 2) := by decide +kernel
theorem dX9_digest_17 : decode cX9_digest 17 = .ok (.aload_n 0, 1) := by decide +kernel
theorem dX9_digest_24 : decode cX9_digest 24 = .ok (.lstore_n 1, 1) := by decide +kernel
theorem dX9_digest_35 : decode cX9_digest 35 = .ok (.invokevirtual 163, 3) := by decide +kernel
theorem dX9_digest_42 : decode cX9_digest 42 = .ok (.istore 4, 2) := by decide +kernel
theorem dX9_digest_129 : decode cX9_digest 129 = .ok (.lload_n 1, 1) := by decide +kernel
theorem dX9_digest_138 : decode cX9_digest 138 = .ok (.invokevirtual 182, 3) := by decide +kernel
theorem dX9_digest_145 : decode cX9_digest 145 = .ok (.ldc2_w 330, 3) := by decide +kernel
theorem dX9_digest_154 : decode cX9_digest 154 = .ok (.getfield 21, 3) := by decide +kernel
theorem dX9_digest_163 : decode cX9_digest 163 = .ok (.lload_n 1, 1) := by decide +kernel
theorem dX9_digest_172 : decode cX9_digest 172 = .ok (.aload_n 0, 1) := by decide +kernel
theorem dX9_digest_183 : decode cX9_digest 183 = .ok (.i2l, 1) := by decide +kernel
theorem dX9_digest_188 : decode cX9_digest 188 = .ok (.invokevirtual 336, 3) := by decide +kernel
theorem dX9_digest_197 : decode cX9_digest 197 = .ok (.aload_n 0, 1) := by decide +kernel
theorem dX9_digest_206 : decode cX9_digest 206 = .ok (.getfield 81, 3) := by decide +kernel
theorem dX9_digest_217 : decode cX9_digest 217 = .ok (.invokevirtual 324, 3) := by decide +kernel
theorem dX9_digest_229 : decode cX9_digest 229 = .ok (.ladd, 1) := by decide +kernel
theorem dX9_needNode_5 : decode cX9_needNode 5 = .ok (.invokevirtual 340, 3) := by decide +kernel
theorem dX9_needNode_18 : decode cX9_needNode 18 = .ok (.invokespecial 348, 3) := by decide +kernel
theorem dX9_needNumber_7 : decode cX9_needNumber 7 = .ok (.bipush 80, 2) := by decide +kernel
theorem dX9_needWidth_2 : decode cX9_needWidth 2 = .ok (.if_icmp .lt 9, 3) := by decide +kernel
theorem dX9_needWidth_14 : decode cX9_needWidth 14 = .ok (.dup, 1) := by decide +kernel
theorem dX9_needNth_0 : decode cX9_needNth 0 = .ok (.iload_n 1, 1) := by decide +kernel
theorem dX9_needNth_11 : decode cX9_needNth 11 = .ok (.invokespecial 104, 3) := by decide +kernel
theorem dX9_needCodes_2 : decode cX9_needCodes 2 = .ok (.iload_n 1, 1) := by decide +kernel
theorem dX9_needCodes_13 : decode cX9_needCodes 13 = .ok (.aload_n 0, 1) := by decide +kernel
theorem dX9_needCodes_22 : decode cX9_needCodes 22 = .ok (.if_icmp .lt 16, 3) := by decide +kernel
theorem dX9_needCodes_33 : decode cX9_needCodes 33 = .ok (.bipush 21, 2) := by decide +kernel
theorem dX9_needCodes_45 : decode cX9_needCodes 45 = .ok (.invokespecial 104, 3) := by decide +kernel
theorem dX9_needCodes_56 : decode cX9_needCodes 56 = .ok (.getfield 21, 3) := by decide +kernel
theorem dX9_needCodes_65 : decode cX9_needCodes 65 = .ok (.iload_n 2, 1) := by decide +kernel
theorem dX9_needCodes_76 : decode cX9_needCodes 76 = .ok (.iload_n 1, 1) := by decide +kernel
theorem dX9_needCodes_85 : decode cX9_needCodes 85 = .ok (.invokestatic 368, 3) := by decide +kernel
theorem dX9_needCodes_106 : decode cX9_needCodes 106 = .ok (.iinc 2 1, 3) := by decide +kernel
theorem dX9_lengthAfter_2 : decode cX9_lengthAfter 2 = .ok (.if_icmp .ne 5, 3) := by decide +kernel
theorem dX9_lengthAfter_10 : decode cX9_lengthAfter 10 = .ok (.if_icmp .ne 5, 3) := by decide +kernel
theorem dX9_lengthAfter_18 : decode cX9_lengthAfter 18 = .ok (.if_icmp .ne 15, 3) := by decide +kernel
theorem dX9_lengthAfter_27 : decode cX9_lengthAfter 27 = .ok (.isub, 1) := by decide +kernel
theorem dX9_lengthAfter_34 : decode cX9_lengthAfter 34 = .ok (.iconst 1, 1) := by decide +kernel
theorem dX9_type_4 : decode cX9_type 4 = .ok (.iload_n 1, 1) := by decide +kernel
theorem dX9_type_15 : decode cX9_type 15 = .ok (.getfield 21, 3) := by decide +kernel
theorem dX9_type_28 : decode cX9_type 28 = .ok (.goto 21, 3) := by decide +kernel
theorem dX9_type_39 : decode cX9_type 39 = .ok (.invokevirtual 182, 3) := by decide +kernel
theorem dX9_numbered_0 : decode cX9_numbered 0 = .ok (.aload_n 0, 1) := by decide +kernel
theorem dX9_numbered_7 : decode cX9_numbered 7 = .ok (.putfield 97, 3) := by decide +kernel
theorem dX9_numbered_18 : decode cX9_numbered 18 = .ok (.ireturn, 1) := by decide +kernel
theorem dX9_textOf_8 : decode cX9_textOf 8 = .ok (.iconst 0, 1) := by decide +kernel
theorem dX9_textOf_15 : decode cX9_textOf 15 = .ok (.if_icmp .ge 23, 3) := by decide +kernel
theorem dX9_stateOf_0 : decode cX9_stateOf 0 = .ok (.iload_n 1, 1) := by decide +kernel
theorem dX9_stateOf_51 : decode cX9_stateOf 51 = .ok (.ireturn, 1) := by decide +kernel
theorem dX9_stateOf_58 : decode cX9_stateOf 58 = .ok (.getfield 88, 3) := by decide +kernel
theorem dX9_stateOf_69 : decode cX9_stateOf 69 = .ok (.ireturn, 1) := by decide +kernel
theorem dX9_stateOf_76 : decode cX9_stateOf 76 = .ok (.getfield 94, 3) := by decide +kernel
theorem dX9_stateOf_85 : decode cX9_stateOf 85 = .ok (.aload_n 0, 1) := by decide +kernel
theorem dX9_withCode_1 : decode cX9_withCode 1 = .ok (.lstore_n 3, 1) := by decide +kernel
theorem dX9_withCode_12 : decode cX9_withCode 12 = .ok (.iconst 0, 1) := by decide +kernel
theorem dX9_withCode_22 : decode cX9_withCode 22 = .ok (.lload_n 3, 1) := by decide +kernel
theorem dX9_withCode_31 : decode cX9_withCode 31 = .ok (.goto (-16), 3) := by decide +kernel
theorem dX10_init_4 : decode cX10_init 4 = .ok (.return_, 1) := by decide +kernel
theorem dX11_init_8 : decode cX11_init 8 = .ok (.dup, 1) := by decide +kernel
theorem dX11_init_17 : decode cX11_init 17 = .ok (.putfield 18, 3) := by decide +kernel
theorem dX11_init_26 : decode cX11_init 26 = .ok (.iload_n 3, 1) := by decide +kernel
theorem dX11_weight_4 : decode cX11_weight 4 = .ok (.iconst 5, 1) := by decide +kernel
theorem dX11_weight_16 : decode cX11_weight 16 = .ok (.istore_n 1, 1) := by decide +kernel
theorem dX11_weight_25 : decode cX11_weight 25 = .ok (.aload_n 2, 1) := by decide +kernel
theorem dX11_depth_0 : decode cX11_depth 0 = .ok (.iconst 0, 1) := by decide +kernel
theorem dX11_depth_9 : decode cX11_depth 9 = .ok (.astore_n 2, 1) := by decide +kernel
theorem dX11_depth_42 : decode cX11_depth 42 = .ok (.iconst 1, 1) := by decide +kernel
theorem dX13_init_4 : decode cX13_init 4 = .ok (.aload_n 0, 1) := by decide +kernel
theorem dX13_document_3 : decode cX13_document 3 = .ok (.dup, 1) := by decide +kernel
theorem dX13_document_12 : decode cX13_document 12 = .ok (.aload_n 0, 1) := by decide +kernel
theorem dX13_document_47 : decode cX13_document 47 = .ok (.invokevirtual 65, 3) := by decide +kernel
theorem dX13_document_58 : decode cX13_document 58 = .ok (.ldc 71, 2) := by decide +kernel
theorem dX16_init_1 : decode cX16_init 1 = .ok (.invokespecial 1, 3) := by decide +kernel
theorem dX16_init_12 : decode cX16_init 12 = .ok (.putfield 10, 3) := by decide +kernel
theorem dX16_init_22 : decode cX16_init 22 = .ok (.bipush 60, 2) := by decide +kernel
theorem dX16_init_33 : decode cX16_init 33 = .ok (.return_, 1) := by decide +kernel
theorem dX16_isIn_6 : decode cX16_isIn 6 = .ok (.iload_n 2, 1) := by decide +kernel
theorem dX16_isIn_15 : decode cX16_isIn 15 = .ok (.ireturn, 1) := by decide +kernel
theorem dX16_one_8 : decode cX16_one 8 = .ok (.iconst 0, 1) := by decide +kernel
theorem dX16_documented_4 : decode cX16_documented 4 = .ok (.istore_n 2, 1) := by decide +kernel
theorem dX16_documented_133 : decode cX16_documented 133 = .ok (.aload_n 0, 1) := by decide +kernel
theorem dX16_documented_144 : decode cX16_documented 144 = .ok (.iadd, 1) := by decide +kernel
theorem dX16_coded_4 : decode cX16_coded 4 = .ok (.istore_n 2, 1) := by decide +kernel
theorem dX16_coded_9 : decode cX16_coded 9 = .ok (.invokevirtual 74, 3) := by decide +kernel
theorem dX16_coded_321 : decode cX16_coded 321 = .ok (.invokevirtual 157, 3) := by decide +kernel
theorem dX16_coded_336 : decode cX16_coded 336 = .ok (.iconst 0, 1) := by decide +kernel
theorem dX16_thrown_1 : decode cX16_thrown 1 = .ok (.getfield 176, 3) := by decide +kernel
theorem dX16_refuse_5 : decode cX16_refuse 5 = .ok (.getfield 176, 3) := by decide +kernel
theorem dX16_refuse_16 : decode cX16_refuse 16 = .ok (.aload_n 0, 1) := by decide +kernel
theorem dX16_refuse_27 : decode cX16_refuse 27 = .ok (.iconst 0, 1) := by decide +kernel
theorem dX16_start_5 : decode cX16_start 5 = .ok (.aload_n 0, 1) := by decide +kernel
theorem dX16_isNoNode_0 : decode cX16_isNoNode 0 = .ok (.iload_n 1, 1) := by decide +kernel
theorem dX16_isNoNode_9 : decode cX16_isNoNode 9 = .ok (.iconst 1, 1) := by decide +kernel
theorem dX16_isNoNode_18 : decode cX16_isNoNode 18 = .ok (.goto 4, 3) := by decide +kernel
theorem dX16_isFull_7 : decode cX16_isFull 7 = .ok (.bipush 80, 2) := by decide +kernel
theorem dX16_isGreat_1 : decode cX16_isGreat 1 = .ok (.invokevirtual 187, 3) := by decide +kernel
theorem dX16_isGreat_13 : decode cX16_isGreat 13 = .ok (.bipush 20, 2) := by decide +kernel
theorem dX16_made_1 : decode cX16_made 1 = .ok (.getfield 10, 3) := by decide +kernel
theorem dX16_made_10 : decode cX16_made 10 = .ok (.dup, 1) := by decide +kernel
theorem dX16_made_19 : decode cX16_made 19 = .ok (.aload_n 0, 1) := by decide +kernel
theorem dX16_made_28 : decode cX16_made 28 = .ok (.ireturn, 1) := by decide +kernel
theorem dX16_word_5 : decode cX16_word 5 = .ok (.invokestatic 183, 3) := by decide +kernel
theorem dX16_word_15 : decode cX16_word 15 = .ok (.invokestatic 183, 3) := by decide +kernel
theorem dX16_word_26 : decode cX16_word 26 = .ok (.iconst 1, 1) := by decide +kernel
theorem dX16_word_35 : decode cX16_word 35 = .ok (.invokevirtual 199, 3) := by decide +kernel
theorem dX16_word_46 : decode cX16_word 46 = .ok (.ireturn, 1) := by decide +kernel
theorem dX16_word_55 : decode cX16_word 55 = .ok (.iconst 0, 1) := by decide +kernel
theorem dX16_word_64 : decode cX16_word 64 = .ok (.aload_n 3, 1) := by decide +kernel
theorem dX16_word_70 : decode cX16_word 70 = .ok (.invokevirtual 32, 3) := by decide +kernel
theorem dX16_word_81 : decode cX16_word 81 = .ok (.new 70, 3) := by decide +kernel
theorem dX16_word_90 : decode cX16_word 90 = .ok (.iconst 0, 1) := by decide +kernel
theorem dX16_mark_1 : decode cX16_mark 1 = .ok (.iload_n 1, 1) := by decide +kernel
theorem dX16_mark_10 : decode cX16_mark 10 = .ok (.iconst 1, 1) := by decide +kernel
theorem dX16_mark_19 : decode cX16_mark 19 = .ok (.ifCond .ne 15, 3) := by decide +kernel
theorem dX16_mark_28 : decode cX16_mark 28 = .ok (.invokevirtual 179, 3) := by decide +kernel
theorem dX16_mark_39 : decode cX16_mark 39 = .ok (.new 70, 3) := by decide +kernel
theorem dX16_mark_47 : decode cX16_mark 47 = .ok (.invokespecial 202, 3) := by decide +kernel
theorem dX16_join_2 : decode cX16_join 2 = .ok (.iload_n 1, 1) := by decide +kernel
theorem dX16_join_22 : decode cX16_join 22 = .ok (.iconst 1, 1) := by decide +kernel
theorem dX16_join_77 : decode cX16_join 77 = .ok (.ireturn, 1) := by decide +kernel
theorem dX16_nest_6 : decode cX16_nest 6 = .ok (.iconst 1, 1) := by decide +kernel
theorem dX16_nest_71 : decode cX16_nest 71 = .ok (.ireturn, 1) := by decide +kernel
theorem dX16_align_6 : decode cX16_align 6 = .ok (.iconst 1, 1) := by decide +kernel
theorem dX16_align_48 : decode cX16_align 48 = .ok (.ireturn, 1) := by decide +kernel
theorem dX16_group_6 : decode cX16_group 6 = .ok (.iconst 1, 1) := by decide +kernel
theorem dX16_group_48 : decode cX16_group 48 = .ok (.ireturn, 1) := by decide +kernel
theorem dX16_fill_6 : decode cX16_fill 6 = .ok (.ifCond .ne 11, 3) := by decide +kernel
theorem dX16_fill_26 : decode cX16_fill 26 = .ok (.ifCond .ne 21, 3) := by decide +kernel
theorem dX16_forget_2 : decode cX16_forget 2 = .ok (.putfield 176, 3) := by decide +kernel
theorem dX16_forget_13 : decode cX16_forget 13 = .ok (.aload_n 0, 1) := by decide +kernel
theorem dX16_forget_44 : decode cX16_forget 44 = .ok (.ireturn, 1) := by decide +kernel
theorem dX16_width_5 : decode cX16_width 5 = .ok (.invokestatic 183, 3) := by decide +kernel
theorem dX16_width_16 : decode cX16_width 16 = .ok (.iconst 1, 1) := by decide +kernel
theorem dX16_width_25 : decode cX16_width 25 = .ok (.aload_n 0, 1) := by decide +kernel
theorem dX16_width_32 : decode cX16_width 32 = .ok (.putfield 16, 3) := by decide +kernel
theorem dX16_ribbon_2 : decode cX16_ribbon 2 = .ok (.iconst 1, 1) := by decide +kernel
theorem dX16_ribbon_12 : decode cX16_ribbon 12 = .ok (.goto 4, 3) := by decide +kernel
theorem dX16_ribbon_23 : decode cX16_ribbon 23 = .ok (.iconst 0, 1) := by decide +kernel
theorem dX16_ribbon_30 : decode cX16_ribbon 30 = .ok (.aload_n 0, 1) := by decide +kernel
theorem dX16_said_0 : decode cX16_said 0 = .ok (.iload_n 1, 1) := by decide +kernel
theorem dX16_said_7 : decode cX16_said 7 = .ok (.iload_n 1, 1) := by decide +kernel
theorem dX16_said_17 : decode cX16_said 17 = .ok (.invokespecial 31, 3) := by decide +kernel
theorem dX16_said_27 : decode cX16_said 27 = .ok (.invokevirtual 145, 3) := by decide +kernel
theorem dX16_said_38 : decode cX16_said 38 = .ok (.bipush 21, 2) := by decide +kernel
theorem dX16_said_50 : decode cX16_said 50 = .ok (.ldc 23, 2) := by decide +kernel
theorem dX16_said_58 : decode cX16_said 58 = .ok (.invokevirtual 74, 3) := by decide +kernel
theorem dX16_say_0 : decode cX16_say 0 = .ok (.bipush 6, 2) := by decide +kernel
theorem dX16_say_7 : decode cX16_say 7 = .ok (.iastore, 1) := by decide +kernel
theorem dX16_say_12 : decode cX16_say 12 = .ok (.dup, 1) := by decide +kernel
theorem dX16_say_17 : decode cX16_say 17 = .ok (.iconst 3, 1) := by decide +kernel
theorem dX16_say_23 : decode cX16_say 23 = .ok (.iload 5, 2) := by decide +kernel
theorem dX16_say_30 : decode cX16_say 30 = .ok (.iastore, 1) := by decide +kernel
theorem dX16_say_38 : decode cX16_say 38 = .ok (.astore 9, 2) := by decide +kernel
theorem dX16_say_46 : decode cX16_say 46 = .ok (.istore 11, 2) := by decide +kernel
theorem dX16_say_57 : decode cX16_say 57 = .ok (.iload 11, 2) := by decide +kernel
theorem dX16_say_66 : decode cX16_say 66 = .ok (.iconst (-1), 1) := by decide +kernel
theorem dX16_say_76 : decode cX16_say 76 = .ok (.goto 4, 3) := by decide +kernel
theorem dX16_say_86 : decode cX16_say 86 = .ok (.goto (-38), 3) := by decide +kernel
theorem dX16_say_96 : decode cX16_say 96 = .ok (.ifCond .eq 5, 3) := by decide +kernel
theorem dX16_say_105 : decode cX16_say 105 = .ok (.astore 9, 2) := by decide +kernel
theorem dX16_say_114 : decode cX16_say 114 = .ok (.istore 11, 2) := by decide +kernel
theorem dX16_say_123 : decode cX16_say 123 = .ok (.if_icmp .ge 50, 3) := by decide +kernel
theorem dX16_say_133 : decode cX16_say 133 = .ok (.aload 9, 2) := by decide +kernel
theorem dX16_say_143 : decode cX16_say 143 = .ok (.aload 9, 2) := by decide +kernel
theorem dX16_say_158 : decode cX16_say 158 = .ok (.iconst 2, 1) := by decide +kernel
theorem dX16_say_173 : decode cX16_say 173 = .ok (.aload_n 0, 1) := by decide +kernel
theorem dX16_say_183 : decode cX16_say 183 = .ok (.invokevirtual 74, 3) := by decide +kernel
theorem dX16_isDocument_7 : decode cX16_isDocument 7 = .ok (.aload_n 0, 1) := by decide +kernel
theorem dX16_isDocument_18 : decode cX16_isDocument 18 = .ok (.goto 4, 3) := by decide +kernel
theorem dX16_isCode_7 : decode cX16_isCode 7 = .ok (.aload_n 0, 1) := by decide +kernel
theorem dX16_isCode_22 : decode cX16_isCode 22 = .ok (.ireturn, 1) := by decide +kernel
theorem dX16_read_6 : decode cX16_read 6 = .ok (.invokevirtual 196, 3) := by decide +kernel
theorem dX16_read_23 : decode cX16_read 23 = .ok (.new 248, 3) := by decide +kernel
theorem dX16_read_34 : decode cX16_read 34 = .ok (.invokevirtual 251, 3) := by decide +kernel
theorem dX16_read_49 : decode cX16_read 49 = .ok (.aload_n 0, 1) := by decide +kernel
theorem dX16_code_1 : decode cX16_code 1 = .ok (.iconst 0, 1) := by decide +kernel
theorem dX16_code_12 : decode cX16_code 12 = .ok (.iconst (-1), 1) := by decide +kernel
theorem dX16_blank_5 : decode cX16_blank 5 = .ok (.aload_n 0, 1) := by decide +kernel
theorem dX16_blank_12 : decode cX16_blank 12 = .ok (.putfield 272, 3) := by decide +kernel
theorem dX16_knock_2 : decode cX16_knock 2 = .ok (.putfield 176, 3) := by decide +kernel
theorem dX16_knock_11 : decode cX16_knock 11 = .ok (.iadd, 1) := by decide +kernel
theorem dX16_ofNode_0 : decode cX16_ofNode 0 = .ok (.aload_n 0, 1) := by decide +kernel
theorem dX16_ofNode_7 : decode cX16_ofNode 7 = .ok (.invokevirtual 196, 3) := by decide +kernel
theorem dX16_flat_0 : decode cX16_flat 0 = .ok (.aload_n 0, 1) := by decide +kernel
theorem dX16_flat_7 : decode cX16_flat 7 = .ok (.invokevirtual 196, 3) := by decide +kernel
theorem dX16_line_0 : decode cX16_line 0 = .ok (.aload_n 0, 1) := by decide +kernel
theorem dX16_line_7 : decode cX16_line 7 = .ok (.invokevirtual 196, 3) := by decide +kernel
theorem dX16_measure_0 : decode cX16_measure 0 = .ok (.aload_n 0, 1) := by decide +kernel
theorem dX16_measure_7 : decode cX16_measure 7 = .ok (.invokevirtual 196, 3) := by decide +kernel
theorem dX16_at_0 : decode cX16_at 0 = .ok (.aload_n 0, 1) := by decide +kernel
theorem dX16_at_7 : decode cX16_at 7 = .ok (.invokevirtual 196, 3) := by decide +kernel
theorem dX16_where_1 : decode cX16_where 1 = .ok (.aload_n 0, 1) := by decide +kernel
theorem dX16_where_10 : decode cX16_where 10 = .ok (.ifCond .ne 20, 3) := by decide +kernel
theorem dX16_isOne_2 : decode cX16_isOne 2 = .ok (.iload_n 1, 1) := by decide +kernel
theorem dX16_isOne_30 : decode cX16_isOne 30 = .ok (.iconst 0, 1) := by decide +kernel
theorem dX16_differ_3 : decode cX16_differ 3 = .ok (.invokevirtual 213, 3) := by decide +kernel
theorem dX16_differ_23 : decode cX16_differ 23 = .ok (.invokevirtual 196, 3) := by decide +kernel
theorem dX16_typed_1 : decode cX16_typed 1 = .ok (.iconst 0, 1) := by decide +kernel
theorem dX16_faulty_0 : decode cX16_faulty 0 = .ok (.iload_n 1, 1) := by decide +kernel
theorem dX16_faulty_11 : decode cX16_faulty 11 = .ok (.goto 10, 3) := by decide +kernel
theorem dX16_faulty_22 : decode cX16_faulty 22 = .ok (.iload_n 2, 1) := by decide +kernel
theorem dX16_faulty_33 : decode cX16_faulty 33 = .ok (.iconst (-1), 1) := by decide +kernel
theorem dX16_fault_1 : decode cX16_fault 1 = .ok (.iconst 0, 1) := by decide +kernel
theorem dX16_fault_10 : decode cX16_fault 10 = .ok (.ireturn, 1) := by decide +kernel
theorem dX16_codeTold_8 : decode cX16_codeTold 8 = .ok (.ireturn, 1) := by decide +kernel
theorem dX16_ofCode_5 : decode cX16_ofCode 5 = .ok (.invokestatic 183, 3) := by decide +kernel
theorem dX16_ofCode_16 : decode cX16_ofCode 16 = .ok (.iconst 1, 1) := by decide +kernel
theorem dX16_ofCode_27 : decode cX16_ofCode 27 = .ok (.aload_n 0, 1) := by decide +kernel
theorem dX16_plain_1 : decode cX16_plain 1 = .ok (.iconst 0, 1) := by decide +kernel
theorem dX16_plain_12 : decode cX16_plain 12 = .ok (.ldc 23, 2) := by decide +kernel
theorem dX16_codeLine_2 : decode cX16_codeLine 2 = .ok (.ifCond .ge 7, 3) := by decide +kernel
theorem dX16_codeLine_11 : decode cX16_codeLine 11 = .ok (.invokevirtual 196, 3) := by decide +kernel
theorem dX16_codeLine_23 : decode cX16_codeLine 23 = .ok (.getfield 262, 3) := by decide +kernel
theorem dX16_houseTold_0 : decode cX16_houseTold 0 = .ok (.iconst 0, 1) := by decide +kernel
theorem dX16_houseTold_9 : decode cX16_houseTold 9 = .ok (.astore_n 3, 1) := by decide +kernel
theorem dX16_houseTold_43 : decode cX16_houseTold 43 = .ok (.newarray .int, 2) := by decide +kernel
theorem dX16_houseTold_51 : decode cX16_houseTold 51 = .ok (.invokevirtual 44, 3) := by decide +kernel
theorem dX16_houseTold_58 : decode cX16_houseTold 58 = .ok (.getfield 16, 3) := by decide +kernel
theorem dX16_houseTold_65 : decode cX16_houseTold 65 = .ok (.getfield 20, 3) := by decide +kernel
theorem dX16_houseTold_72 : decode cX16_houseTold 72 = .ok (.getfield 25, 3) := by decide +kernel
theorem dX16_houseTold_81 : decode cX16_houseTold 81 = .ok (.aload_n 0, 1) := by decide +kernel
theorem dX16_houseTold_88 : decode cX16_houseTold 88 = .ok (.aload_n 0, 1) := by decide +kernel
theorem dX16_houseTold_96 : decode cX16_houseTold 96 = .ok (.aload_n 0, 1) := by decide +kernel
theorem dX16_houseTold_104 : decode cX16_houseTold 104 = .ok (.iload_n 2, 1) := by decide +kernel
theorem dX16_houseTold_109 : decode cX16_houseTold 109 = .ok (.iaload, 1) := by decide +kernel
theorem dX16_house_3 : decode cX16_house 3 = .ok (.bipush 7, 2) := by decide +kernel
theorem dX16_house_15 : decode cX16_house 15 = .ok (.iconst 0, 1) := by decide +kernel
theorem dX16_house_24 : decode cX16_house 24 = .ok (.goto 8, 3) := by decide +kernel
theorem dX16_fits_0 : decode cX16_fits 0 = .ok (.aload_n 0, 1) := by decide +kernel
theorem dX16_fits_7 : decode cX16_fits 7 = .ok (.invokevirtual 196, 3) := by decide +kernel
theorem dX16_would_1 : decode cX16_would 1 = .ok (.aload_n 0, 1) := by decide +kernel
theorem dX16_would_10 : decode cX16_would 10 = .ok (.ifCond .ne 36, 3) := by decide +kernel
theorem dX16_narrowest_1 : decode cX16_narrowest 1 = .ok (.aload_n 0, 1) := by decide +kernel
theorem dX16_narrowest_10 : decode cX16_narrowest 10 = .ok (.ifCond .eq 5, 3) := by decide +kernel
theorem dX16_least__2 : decode cX16_least_ 2 = .ok (.iload_n 1, 1) := by decide +kernel
theorem dX16_least__57 : decode cX16_least_ 57 = .ok (.iconst 0, 1) := by decide +kernel
theorem dX16_leastLine_2 : decode cX16_leastLine 2 = .ok (.iload_n 1, 1) := by decide +kernel
theorem dX16_leastLine_52 : decode cX16_leastLine 52 = .ok (.ldc 23, 2) := by decide +kernel
theorem dX16_isWhole_2 : decode cX16_isWhole 2 = .ok (.getfield 10, 3) := by decide +kernel
theorem dX16_isWhole_13 : decode cX16_isWhole 13 = .ok (.istore_n 1, 1) := by decide +kernel
theorem dX16_isWhole_22 : decode cX16_isWhole 22 = .ok (.if_icmp .ge 268, 3) := by decide +kernel
theorem dX16_isSound_2 : decode cX16_isSound 2 = .ok (.putfield 176, 3) := by decide +kernel
theorem dX16_add_1 : decode cX16_add 1 = .ok (.ldc2_w 368, 3) := by decide +kernel
theorem dX16_digest_0 : decode cX16_digest 0 = .ok (.aload_n 0, 1) := by decide +kernel
theorem dX16_digest_9 : decode cX16_digest 9 = .ok (.iconst 0, 1) := by decide +kernel
theorem dX16_digest_17 : decode cX16_digest 17 = .ok (.lload_n 1, 1) := by decide +kernel
theorem dX16_digest_24 : decode cX16_digest 24 = .ok (.invokestatic 372, 3) := by decide +kernel
theorem dX16_digest_35 : decode cX16_digest 35 = .ok (.getfield 10, 3) := by decide +kernel
theorem dX16_digest_44 : decode cX16_digest 44 = .ok (.iload_n 3, 1) := by decide +kernel
theorem dX16_digest_208 : decode cX16_digest 208 = .ok (.ifCond .ne 71, 3) := by decide +kernel
theorem dX16_digest_287 : decode cX16_digest 287 = .ok (.i2l, 1) := by decide +kernel
theorem dX16_digest_296 : decode cX16_digest 296 = .ok (.i2l, 1) := by decide +kernel
theorem dX16_digest_305 : decode cX16_digest 305 = .ok (.i2l, 1) := by decide +kernel
theorem dX16_digest_312 : decode cX16_digest 312 = .ok (.iload_n 3, 1) := by decide +kernel
theorem dX16_digest_320 : decode cX16_digest 320 = .ok (.iload_n 3, 1) := by decide +kernel
theorem dX16_digest_329 : decode cX16_digest 329 = .ok (.iinc 3 1, 3) := by decide +kernel
theorem dX16_digest_394 : decode cX16_digest 394 = .ok (.lload_n 1, 1) := by decide +kernel
theorem dX16_digest_403 : decode cX16_digest 403 = .ok (.invokestatic 372, 3) := by decide +kernel
theorem dJ5_init_d00df_7 : decode cJ5_init_d00df 7 = .ok (.ifCond .eq 18, 3) := by decide +kernel
theorem dJ5_init_d00df_17 : decode cJ5_init_d00df 17 = .ok (.aload_n 0, 1) := by decide +kernel
theorem dJ5_length_8abf5_0 : decode cJ5_length_8abf5 0 = .ok (.aload_n 0, 1) := by decide +kernel
theorem dJ5_ensureCapacityInternal_d00df_4 : decode cJ5_ensureCapacityInternal_d00df 4 = .ok (.arraylength, 1) := by decide +kernel
theorem dJ5_ensureCapacityInternal_d00df_11 : decode cJ5_ensureCapacityInternal_d00df 11 = .ok (.iload_n 1, 1) := by decide +kernel
theorem dJ5_setLength_d00df_0 : decode cJ5_setLength_d00df 0 = .ok (.iload_n 1, 1) := by decide +kernel
theorem dJ5_setLength_d00df_18 : decode cJ5_setLength_d00df 18 = .ok (.aload_n 0, 1) := by decide +kernel
theorem dJ5_setLength_d00df_64 : decode cJ5_setLength_d00df 64 = .ok (.getfield 79, 3) := by decide +kernel
theorem dJ5_setLength_d00df_78 : decode cJ5_setLength_d00df 78 = .ok (.putfield 79, 3) := by decide +kernel
theorem dJ5_append_cf1ce_10 : decode cJ5_append_cf1ce 10 = .ok (.invokevirtual 32, 3) := by decide +kernel
theorem dJ5_append_cf1ce_19 : decode cJ5_append_cf1ce 19 = .ok (.iload_n 2, 1) := by decide +kernel
theorem dJ5_append_cf1ce_26 : decode cJ5_append_cf1ce 26 = .ok (.getfield 79, 3) := by decide +kernel
theorem dJ5_append_cf1ce_35 : decode cJ5_append_cf1ce 35 = .ok (.getfield 79, 3) := by decide +kernel
theorem dJ5_append_cf1ce_44 : decode cJ5_append_cf1ce 44 = .ok (.areturn, 1) := by decide +kernel
theorem dJ5_append_3fe6f_6 : decode cJ5_append_3fe6f 6 = .ok (.iadd, 1) := by decide +kernel
theorem dJ5_append_3fe6f_17 : decode cJ5_append_3fe6f 17 = .ok (.iload_n 1, 1) := by decide +kernel
theorem dJ5_append_3fe6f_28 : decode cJ5_append_3fe6f 28 = .ok (.aload_n 0, 1) := by decide +kernel
theorem dJ5_append_3fe6f_35 : decode cJ5_append_3fe6f 35 = .ok (.iadd, 1) := by decide +kernel
theorem dJ5_append_3fe6f_42 : decode cJ5_append_3fe6f 42 = .ok (.goto 33, 3) := by decide +kernel
theorem dJ5_getValue_6d5f1_4 : decode cJ5_getValue_6d5f1 4 = .ok (.areturn, 1) := by decide +kernel
theorem dJ5_isLatin1_aae02_10 : decode cJ5_isLatin1_aae02 10 = .ok (.ifCond .ne 7, 3) := by decide +kernel
theorem dJ5_inflateIfNeededFor_a7421_3 : decode cJ5_inflateIfNeededFor_a7421 3 = .ok (.ifCond .eq 18, 3) := by decide +kernel
theorem dJ5_inflateIfNeededFor_a7421_14 : decode cJ5_inflateIfNeededFor_a7421 14 = .ok (.if_icmp .eq 7, 3) := by decide +kernel
theorem dJ5_putStringAt_47b60_5 : decode cJ5_putStringAt_47b60 5 = .ok (.aload_n 2, 1) := by decide +kernel
theorem dJ5_putStringAt_47b60_12 : decode cJ5_putStringAt_47b60 12 = .ok (.getfield 22, 3) := by decide +kernel
theorem dJ0_init_81219_2 : decode cJ0_init_81219 2 = .ok (.aconst_null, 1) := by decide +kernel
theorem dJ0_length_8abf5_4 : decode cJ0_length_8abf5 4 = .ok (.arraylength, 1) := by decide +kernel
theorem dJ0_isEmpty_aae02_0 : decode cJ0_isEmpty_aae02 0 = .ok (.aload_n 0, 1) := by decide +kernel
theorem dJ0_isEmpty_aae02_9 : decode cJ0_isEmpty_aae02 9 = .ok (.goto 4, 3) := by decide +kernel
theorem dJ0_charAt_5068e_4 : decode cJ0_charAt_5068e 4 = .ok (.ifCond .eq 12, 3) := by decide +kernel
theorem dJ0_charAt_5068e_15 : decode cJ0_charAt_5068e 15 = .ok (.ireturn, 1) := by decide +kernel
theorem dJ0_equals_9ea2d_6 : decode cJ0_equals_9ea2d 6 = .ok (.ireturn, 1) := by decide +kernel
theorem dJ0_equals_9ea2d_15 : decode cJ0_equals_9ea2d 15 = .ok (.checkcast 10, 3) := by decide +kernel
theorem dJ0_equals_9ea2d_26 : decode cJ0_equals_9ea2d 26 = .ok (.getfield 15, 3) := by decide +kernel
theorem dJ0_equals_9ea2d_37 : decode cJ0_equals_9ea2d 37 = .ok (.getfield 9, 3) := by decide +kernel
theorem dJ0_equals_9ea2d_50 : decode cJ0_equals_9ea2d 50 = .ok (.iconst 1, 1) := by decide +kernel
theorem dJ0_substring_37a41_4 : decode cJ0_substring_37a41 4 = .ok (.istore_n 3, 1) := by decide +kernel
theorem dJ0_substring_37a41_11 : decode cJ0_substring_37a41 11 = .ok (.iload_n 1, 1) := by decide +kernel
theorem dJ0_substring_37a41_22 : decode cJ0_substring_37a41 22 = .ok (.iload_n 2, 1) := by decide +kernel
theorem dJ0_substring_37a41_28 : decode cJ0_substring_37a41 28 = .ok (.invokevirtual 492, 3) := by decide +kernel
theorem dJ0_substring_37a41_39 : decode cJ0_substring_37a41 39 = .ok (.iload 4, 2) := by decide +kernel
theorem dJ0_getBytes_840e7_1 : decode cJ0_getBytes_840e7 1 = .ok (.invokevirtual 335, 3) := by decide +kernel
theorem dJ0_getBytes_840e7_12 : decode cJ0_getBytes_840e7 12 = .ok (.iconst 0, 1) := by decide +kernel
theorem dJ0_getBytes_840e7_17 : decode cJ0_getBytes_840e7 17 = .ok (.aload_n 0, 1) := by decide +kernel
theorem dJ0_getBytes_840e7_43 : decode cJ0_getBytes_840e7 43 = .ok (.return_, 1) := by decide +kernel
theorem dJ0_init_db425_8 : decode cJ0_init_db425 8 = .ok (.astore_n 3, 1) := by decide +kernel
theorem dJ0_init_db425_16 : decode cJ0_init_db425 16 = .ok (.invokevirtual 1047, 3) := by decide +kernel
theorem dJ0_init_db425_27 : decode cJ0_init_db425 27 = .ok (.aload_n 0, 1) := by decide +kernel
theorem dJ0_init_db425_35 : decode cJ0_init_db425 35 = .ok (.putfield 9, 3) := by decide +kernel
theorem dJ0_init_031fb_4 : decode cJ0_init_031fb 4 = .ok (.aload_n 0, 1) := by decide +kernel
theorem dJ0_init_031fb_11 : decode cJ0_init_031fb 11 = .ok (.putfield 15, 3) := by decide +kernel
theorem dJ0_coder_7d493_7 : decode cJ0_coder_7d493 7 = .ok (.getfield 15, 3) := by decide +kernel
theorem dJ0_isLatin1_aae02_6 : decode cJ0_isLatin1_aae02 6 = .ok (.aload_n 0, 1) := by decide +kernel
theorem dJ0_isLatin1_aae02_18 : decode cJ0_isLatin1_aae02 18 = .ok (.ireturn, 1) := by decide +kernel
theorem dJ0_checkIndex_df160_8 : decode cJ0_checkIndex_df160 8 = .ok (.pop, 1) := by decide +kernel
theorem dJ0_checkBoundsBeginEnd_23922_3 : decode cJ0_checkBoundsBeginEnd_23922 3 = .ok (.getstatic 1053, 3) := by decide +kernel
theorem dJ4_init_da8c8_1 : decode cJ4_init_da8c8 1 = .ok (.bipush 16, 2) := by decide +kernel
theorem dJ4_append_15ec4_2 : decode cJ4_append_15ec4 2 = .ok (.invokespecial 29, 3) := by decide +kernel
theorem dJ4_append_cf468_1 : decode cJ4_append_cf468 1 = .ok (.iload_n 1, 1) := by decide +kernel
theorem dJ4_toString_0e30d_0 : decode cJ4_toString_0e30d 0 = .ok (.new 18, 3) := by decide +kernel
theorem dJ4_setLength_d00df_0 : decode cJ4_setLength_d00df 0 = .ok (.aload_n 0, 1) := by decide +kernel
theorem dJ4_length_8abf5_1 : decode cJ4_length_8abf5 1 = .ok (.invokespecial 343, 3) := by decide +kernel
theorem dJ1_charAt_3b067_3 : decode cJ1_charAt_3b067 3 = .ok (.invokestatic 9, 3) := by decide +kernel
theorem dJ1_charAt_3b067_12 : decode cJ1_charAt_3b067 12 = .ok (.iand, 1) := by decide +kernel
theorem dJ1_canEncode_fc78d_4 : decode cJ1_canEncode_fc78d 4 = .ok (.if_icmp .gt 7, 3) := by decide +kernel
theorem dJ1_equals_b5fdf_1 : decode cJ1_equals_b5fdf 1 = .ok (.arraylength, 1) := by decide +kernel
theorem dJ1_equals_b5fdf_8 : decode cJ1_equals_b5fdf 8 = .ok (.istore_n 2, 1) := by decide +kernel
theorem dJ1_equals_b5fdf_32 : decode cJ1_equals_b5fdf 32 = .ok (.iconst 1, 1) := by decide +kernel
theorem dJ1_newString_b4f7a_6 : decode cJ1_newString_b4f7a 6 = .ok (.areturn, 1) := by decide +kernel
theorem dJ1_newString_b4f7a_13 : decode cJ1_newString_b4f7a 13 = .ok (.iload_n 1, 1) := by decide +kernel
theorem dJ1_newString_b4f7a_20 : decode cJ1_newString_b4f7a 20 = .ok (.invokespecial 112, 3) := by decide +kernel
theorem dJxc12de_init_da8c8_0 : decode cJxc12de_init_da8c8 0 = .ok (.aload_n 0, 1) := by decide +kernel
theorem dJxc12de_init_da8c8_9 : decode cJxc12de_init_da8c8 9 = .ok (.return_, 1) := by decide +kernel
theorem dJx35411_init_45d68_6 : decode cJx35411_init_45d68 6 = .ok (.invokespecial 7, 3) := by decide +kernel
theorem dJx35411_init_45d68_15 : decode cJx35411_init_45d68 15 = .ok (.aload_n 0, 1) := by decide +kernel
theorem dJx35411_hasNext_aae02_0 : decode cJx35411_hasNext_aae02 0 = .ok (.aload_n 0, 1) := by decide +kernel
theorem dJx35411_hasNext_aae02_11 : decode cJx35411_hasNext_aae02 11 = .ok (.if_icmp .eq 7, 3) := by decide +kernel
theorem dJx4a65c_init_da8c8_4 : decode cJx4a65c_init_da8c8 4 = .ok (.aload_n 0, 1) := by decide +kernel
theorem dJx4a65c_grow_92f84_1 : decode cJx4a65c_grow_92f84 1 = .ok (.getfield 9, 3) := by decide +kernel
theorem dJx4a65c_grow_92f84_10 : decode cJx4a65c_grow_92f84 10 = .ok (.aload_n 0, 1) := by decide +kernel
theorem dJx4a65c_grow_92f84_46 : decode cJx4a65c_grow_92f84 46 = .ok (.bipush 10, 2) := by decide +kernel
theorem dJx4a65c_grow_92f84_56 : decode cJx4a65c_grow_92f84 56 = .ok (.putfield 9, 3) := by decide +kernel
theorem dJx4a65c_grow_d5877_5 : decode cJx4a65c_grow_d5877 5 = .ok (.iconst 1, 1) := by decide +kernel
theorem dJx4a65c_size_8abf5_1 : decode cJx4a65c_size_8abf5 1 = .ok (.getfield 48, 3) := by decide +kernel
theorem dJx4a65c_isEmpty_aae02_7 : decode cJx4a65c_isEmpty_aae02 7 = .ok (.iconst 1, 1) := by decide +kernel
theorem dJx4a65c_add_72be8_2 : decode cJx4a65c_add_72be8 2 = .ok (.arraylength, 1) := by decide +kernel
theorem dJx4a65c_add_72be8_11 : decode cJx4a65c_add_72be8 11 = .ok (.aload_n 2, 1) := by decide +kernel
theorem dJx4a65c_add_72be8_16 : decode cJx4a65c_add_72be8 16 = .ok (.iload_n 3, 1) := by decide +kernel
theorem dJx4a65c_add_9ea2d_0 : decode cJx4a65c_add_9ea2d 0 = .ok (.aload_n 0, 1) := by decide +kernel
theorem dJx4a65c_add_9ea2d_7 : decode cJx4a65c_add_9ea2d 7 = .ok (.putfield 63, 3) := by decide +kernel
theorem dJx4a65c_add_9ea2d_16 : decode cJx4a65c_add_9ea2d 16 = .ok (.aload_n 0, 1) := by decide +kernel
theorem dJx4a65c_iterator_32c93_0 : decode cJx4a65c_iterator_32c93 0 = .ok (.new 267, 3) := by decide +kernel
theorem dJ7_checkLength_df160_0 : decode cJ7_checkLength_df160 0 = .ok (.iload_n 1, 1) := by decide +kernel
theorem dJ7_copyOfRange_39247_1 : decode cJ7_copyOfRange_39247 1 = .ok (.ifCond .ne 9, 3) := by decide +kernel
theorem dJ7_copyOfRange_39247_10 : decode cJ7_copyOfRange_39247 10 = .ok (.aload_n 0, 1) := by decide +kernel
theorem dJ7_copyOfRangeByte_39247_0 : decode cJ7_copyOfRangeByte_39247 0 = .ok (.iload_n 1, 1) := by decide +kernel
theorem dJ7_copyOfRangeByte_39247_7 : decode cJ7_copyOfRangeByte_39247 7 = .ok (.isub, 1) := by decide +kernel
theorem dJ7_copyOfRangeByte_39247_14 : decode cJ7_copyOfRangeByte_39247 14 = .ok (.aload_n 0, 1) := by decide +kernel
theorem dJ7_copyOfRangeByte_39247_20 : decode cJ7_copyOfRangeByte_39247 20 = .ok (.arraylength, 1) := by decide +kernel
theorem dJ7_copyOfRangeByte_39247_27 : decode cJ7_copyOfRangeByte_39247 27 = .ok (.invokestatic 150, 3) := by decide +kernel
theorem dJ3_checkIndex_8e157_4 : decode cJ3_checkIndex_8e157 4 = .ok (.iload_n 0, 1) := by decide +kernel
theorem dJ3_checkFromToIndex_8c36e_0 : decode cJ3_checkFromToIndex_8c36e 0 = .ok (.iload_n 0, 1) := by decide +kernel
theorem dJ3_checkFromToIndex_8c36e_9 : decode cJ3_checkFromToIndex_8c36e 9 = .ok (.iload_n 1, 1) := by decide +kernel
theorem dL_word_0 : decode cL_word 0 = .ok (.aload_n 3, 1) := by decide +kernel
theorem dL_word_7 : decode cL_word 7 = .ok (.i2l, 1) := by decide +kernel
theorem dL_word_17 : decode cL_word 17 = .ok (.ireturn, 1) := by decide +kernel
theorem dL_mark_2 : decode cL_mark 2 = .ok (.iload_n 1, 1) := by decide +kernel
theorem dL_mark_13 : decode cL_mark 13 = .ok (.astore_n 3, 1) := by decide +kernel
theorem dL_join_0 : decode cL_join 0 = .ok (.aload_n 3, 1) := by decide +kernel
theorem dL_join_14 : decode cL_join 14 = .ok (.astore 4, 2) := by decide +kernel
theorem dL_nest_2 : decode cL_nest 2 = .ok (.iload_n 1, 1) := by decide +kernel
theorem dL_nest_17 : decode cL_nest 17 = .ok (.ireturn, 1) := by decide +kernel
theorem dL_align_13 : decode cL_align 13 = .ok (.astore_n 3, 1) := by decide +kernel
theorem dL_group_2 : decode cL_group 2 = .ok (.iload_n 1, 1) := by decide +kernel
theorem dL_fill_0 : decode cL_fill 0 = .ok (.aload_n 3, 1) := by decide +kernel
theorem dL_fill_14 : decode cL_fill 14 = .ok (.astore 4, 2) := by decide +kernel
theorem dL_width_2 : decode cL_width 2 = .ok (.iload_n 1, 1) := by decide +kernel
theorem dL_width_13 : decode cL_width 13 = .ok (.astore_n 3, 1) := by decide +kernel
theorem dL_ribbon_0 : decode cL_ribbon 0 = .ok (.aload_n 2, 1) := by decide +kernel
theorem dL_ribbon_7 : decode cL_ribbon 7 = .ok (.putfield 13, 3) := by decide +kernel
theorem dL_ribbon_16 : decode cL_ribbon 16 = .ok (.iconst 0, 1) := by decide +kernel
theorem dL_say_4 : decode cL_say 4 = .ok (.iload_n 2, 1) := by decide +kernel
theorem dL_say_12 : decode cL_say 12 = .ok (.invokevirtual 50, 3) := by decide +kernel
theorem dL_say_24 : decode cL_say 24 = .ok (.iconst 1, 1) := by decide +kernel
theorem dL_read_1 : decode cL_read 1 = .ok (.aload_n 0, 1) := by decide +kernel
theorem dL_read_15 : decode cL_read 15 = .ok (.iconst 0, 1) := by decide +kernel
theorem dL_ofNode_3 : decode cL_ofNode 3 = .ok (.iload_n 2, 1) := by decide +kernel
theorem dL_flat_0 : decode cL_flat 0 = .ok (.aload_n 2, 1) := by decide +kernel
theorem dL_flat_13 : decode cL_flat 13 = .ok (.iconst 1, 1) := by decide +kernel
theorem dL_line_3 : decode cL_line 3 = .ok (.iload_n 2, 1) := by decide +kernel
theorem dL_measure_0 : decode cL_measure 0 = .ok (.aload_n 3, 1) := by decide +kernel
theorem dL_measure_14 : decode cL_measure 14 = .ok (.astore 4, 2) := by decide +kernel
theorem dL_at_3 : decode cL_at 3 = .ok (.iload_n 1, 1) := by decide +kernel
theorem dL_at_18 : decode cL_at 18 = .ok (.iconst 1, 1) := by decide +kernel
theorem dL_where_4 : decode cL_where 4 = .ok (.iload_n 2, 1) := by decide +kernel
theorem dL_where_19 : decode cL_where 19 = .ok (.ireturn, 1) := by decide +kernel
theorem dL_isOne_4 : decode cL_isOne 4 = .ok (.invokevirtual 84, 3) := by decide +kernel
theorem dL_differ_2 : decode cL_differ 2 = .ok (.aload_n 0, 1) := by decide +kernel
theorem dL_differ_16 : decode cL_differ 16 = .ok (.astore 5, 2) := by decide +kernel
theorem dL_ofCode_2 : decode cL_ofCode 2 = .ok (.iload_n 1, 1) := by decide +kernel
theorem dL_ofCode_13 : decode cL_ofCode 13 = .ok (.astore_n 3, 1) := by decide +kernel
theorem dL_codeLine_0 : decode cL_codeLine 0 = .ok (.aload_n 2, 1) := by decide +kernel
theorem dL_codeLine_9 : decode cL_codeLine 9 = .ok (.goto 6, 3) := by decide +kernel
theorem dL_codeLine_16 : decode cL_codeLine 16 = .ok (.ireturn, 1) := by decide +kernel
theorem dL_house_6 : decode cL_house 6 = .ok (.i2l, 1) := by decide +kernel
theorem dL_house_15 : decode cL_house 15 = .ok (.ireturn, 1) := by decide +kernel
theorem dL_fits_2 : decode cL_fits 2 = .ok (.iload_n 1, 1) := by decide +kernel
theorem dL_fits_24 : decode cL_fits 24 = .ok (.ireturn, 1) := by decide +kernel
theorem dL_would_5 : decode cL_would 5 = .ok (.iload_n 3, 1) := by decide +kernel
theorem dL_narrowest_0 : decode cL_narrowest 0 = .ok (.aload_n 2, 1) := by decide +kernel
theorem dL_narrowest_14 : decode cL_narrowest 14 = .ok (.iconst 1, 1) := by decide +kernel
theorem dL_least_3 : decode cL_least 3 = .ok (.iload_n 2, 1) := by decide +kernel
theorem dL_leastLine_0 : decode cL_leastLine 0 = .ok (.aload_n 3, 1) := by decide +kernel
theorem dL_leastLine_13 : decode cL_leastLine 13 = .ok (.astore 4, 2) := by decide +kernel
theorem dL_law_4 : decode cL_law 4 = .ok (.invokespecial 115, 3) := by decide +kernel
theorem dL_law_15 : decode cL_law 15 = .ok (.astore_n 2, 1) := by decide +kernel
theorem dL_law_24 : decode cL_law 24 = .ok (.iconst 0, 1) := by decide +kernel
theorem dL_law_31 : decode cL_law 31 = .ok (.bipush 7, 2) := by decide +kernel
theorem dL_law_40 : decode cL_law 40 = .ok (.iaload, 1) := by decide +kernel
theorem dL_law_205 : decode cL_law 205 = .ok (.aload_n 0, 1) := by decide +kernel
theorem dL_law_211 : decode cL_law 211 = .ok (.aload_n 0, 1) := by decide +kernel
theorem dL_law_217 : decode cL_law 217 = .ok (.aload_n 3, 1) := by decide +kernel
theorem dL_law_225 : decode cL_law 225 = .ok (.iload 4, 2) := by decide +kernel
theorem dL_law_231 : decode cL_law 231 = .ok (.iload 4, 2) := by decide +kernel
theorem dL_law_239 : decode cL_law 239 = .ok (.istore 6, 2) := by decide +kernel
theorem dL_law_252 : decode cL_law 252 = .ok (.iload 5, 2) := by decide +kernel
theorem dL_law_263 : decode cL_law 263 = .ok (.i2l, 1) := by decide +kernel
theorem dL_law_274 : decode cL_law 274 = .ok (.aload_n 0, 1) := by decide +kernel
theorem dL_law_280 : decode cL_law 280 = .ok (.aload_n 3, 1) := by decide +kernel
theorem dL_law_288 : decode cL_law 288 = .ok (.iload 4, 2) := by decide +kernel
theorem dL_law_296 : decode cL_law 296 = .ok (.istore 6, 2) := by decide +kernel
theorem dL_law_309 : decode cL_law 309 = .ok (.iload 5, 2) := by decide +kernel
theorem dL_law_320 : decode cL_law 320 = .ok (.i2l, 1) := by decide +kernel
theorem dL_law_331 : decode cL_law 331 = .ok (.aload_n 0, 1) := by decide +kernel
theorem dL_law_337 : decode cL_law 337 = .ok (.aload_n 0, 1) := by decide +kernel
theorem dL_law_343 : decode cL_law 343 = .ok (.aload_n 3, 1) := by decide +kernel
theorem dL_law_351 : decode cL_law 351 = .ok (.iload 4, 2) := by decide +kernel
theorem dL_law_357 : decode cL_law 357 = .ok (.iload 4, 2) := by decide +kernel
theorem dL_law_365 : decode cL_law 365 = .ok (.istore 6, 2) := by decide +kernel
theorem dL_law_378 : decode cL_law 378 = .ok (.iload 5, 2) := by decide +kernel
theorem dL_law_401 : decode cL_law 401 = .ok (.iload 4, 2) := by decide +kernel
theorem dL_law_407 : decode cL_law 407 = .ok (.iload 4, 2) := by decide +kernel
theorem dL_law_413 : decode cL_law 413 = .ok (.invokestatic 136, 3) := by decide +kernel
theorem dL_law_422 : decode cL_law 422 = .ok (.iconst 1, 1) := by decide +kernel
theorem dL_law_428 : decode cL_law 428 = .ok (.iconst 2, 1) := by decide +kernel
theorem dL_law_436 : decode cL_law 436 = .ok (.aload_n 2, 1) := by decide +kernel
theorem dL_law_449 : decode cL_law 449 = .ok (.ifCond .ne 16, 3) := by decide +kernel
theorem dL_law_472 : decode cL_law 472 = .ok (.iconst 1, 1) := by decide +kernel
theorem dL_law_479 : decode cL_law 479 = .ok (.istore 5, 2) := by decide +kernel
theorem dL_law_486 : decode cL_law 486 = .ok (.iadd, 1) := by decide +kernel
theorem dL_law_494 : decode cL_law 494 = .ok (.invokevirtual 126, 3) := by decide +kernel
theorem dL_law_522 : decode cL_law 522 = .ok (.goto 1694, 3) := by decide +kernel
theorem dL_law_530 : decode cL_law 530 = .ok (.iadd, 1) := by decide +kernel
theorem dL_law_538 : decode cL_law 538 = .ok (.aload_n 2, 1) := by decide +kernel
theorem dL_law_544 : decode cL_law 544 = .ok (.iaload, 1) := by decide +kernel
theorem dL_law_554 : decode cL_law 554 = .ok (.iload 5, 2) := by decide +kernel
theorem dL_law_582 : decode cL_law 582 = .ok (.aload_n 1, 1) := by decide +kernel
theorem dL_law_588 : decode cL_law 588 = .ok (.iaload, 1) := by decide +kernel
theorem dL_law_594 : decode cL_law 594 = .ok (.iaload, 1) := by decide +kernel
theorem dL_law_602 : decode cL_law 602 = .ok (.aload_n 0, 1) := by decide +kernel
theorem dL_law_608 : decode cL_law 608 = .ok (.aload_n 0, 1) := by decide +kernel
theorem dL_law_614 : decode cL_law 614 = .ok (.invokevirtual 147, 3) := by decide +kernel
theorem dL_law_625 : decode cL_law 625 = .ok (.if_icmp .eq 5, 3) := by decide +kernel
theorem dL_law_652 : decode cL_law 652 = .ok (.invokevirtual 148, 3) := by decide +kernel
theorem dL_law_665 : decode cL_law 665 = .ok (.aload_n 0, 1) := by decide +kernel
theorem dL_law_671 : decode cL_law 671 = .ok (.aload_n 3, 1) := by decide +kernel
theorem dL_law_679 : decode cL_law 679 = .ok (.iload 4, 2) := by decide +kernel
theorem dL_law_687 : decode cL_law 687 = .ok (.istore 6, 2) := by decide +kernel
theorem dL_law_700 : decode cL_law 700 = .ok (.iload 5, 2) := by decide +kernel
theorem dL_law_711 : decode cL_law 711 = .ok (.i2l, 1) := by decide +kernel
theorem dL_law_722 : decode cL_law 722 = .ok (.aload_n 0, 1) := by decide +kernel
theorem dL_law_728 : decode cL_law 728 = .ok (.aload_n 3, 1) := by decide +kernel
theorem dL_law_736 : decode cL_law 736 = .ok (.iload 4, 2) := by decide +kernel
theorem dL_law_744 : decode cL_law 744 = .ok (.istore 6, 2) := by decide +kernel
theorem dL_law_757 : decode cL_law 757 = .ok (.iload 5, 2) := by decide +kernel
theorem dL_law_768 : decode cL_law 768 = .ok (.i2l, 1) := by decide +kernel
theorem dL_law_779 : decode cL_law 779 = .ok (.aload_n 0, 1) := by decide +kernel
theorem dL_law_785 : decode cL_law 785 = .ok (.aload_n 0, 1) := by decide +kernel
theorem dL_law_791 : decode cL_law 791 = .ok (.aload_n 0, 1) := by decide +kernel
theorem dL_law_797 : decode cL_law 797 = .ok (.aload_n 0, 1) := by decide +kernel
theorem dL_law_803 : decode cL_law 803 = .ok (.aload_n 0, 1) := by decide +kernel
theorem dL_law_809 : decode cL_law 809 = .ok (.aload_n 0, 1) := by decide +kernel
theorem dL_law_816 : decode cL_law 816 = .ok (.aload_n 3, 1) := by decide +kernel
theorem dL_law_824 : decode cL_law 824 = .ok (.iload 4, 2) := by decide +kernel
theorem dL_law_830 : decode cL_law 830 = .ok (.iload 4, 2) := by decide +kernel
theorem dL_law_836 : decode cL_law 836 = .ok (.iload 4, 2) := by decide +kernel
theorem dL_law_842 : decode cL_law 842 = .ok (.iload 4, 2) := by decide +kernel
theorem dL_law_848 : decode cL_law 848 = .ok (.iload 4, 2) := by decide +kernel
theorem dL_law_854 : decode cL_law 854 = .ok (.iload 4, 2) := by decide +kernel
theorem dL_law_863 : decode cL_law 863 = .ok (.istore 6, 2) := by decide +kernel
theorem dL_law_876 : decode cL_law 876 = .ok (.iload 5, 2) := by decide +kernel
theorem dL_law_887 : decode cL_law 887 = .ok (.i2l, 1) := by decide +kernel
theorem dL_law_898 : decode cL_law 898 = .ok (.aload_n 3, 1) := by decide +kernel
theorem dL_law_908 : decode cL_law 908 = .ok (.istore 6, 2) := by decide +kernel
theorem dL_law_921 : decode cL_law 921 = .ok (.iload 5, 2) := by decide +kernel
theorem dL_law_932 : decode cL_law 932 = .ok (.i2l, 1) := by decide +kernel
theorem dL_law_943 : decode cL_law 943 = .ok (.invokevirtual 166, 3) := by decide +kernel
theorem dL_law_956 : decode cL_law 956 = .ok (.invokevirtual 170, 3) := by decide +kernel
theorem dL_law_969 : decode cL_law 969 = .ok (.invokevirtual 174, 3) := by decide +kernel
theorem dL_law_982 : decode cL_law 982 = .ok (.aload_n 0, 1) := by decide +kernel
theorem dL_law_988 : decode cL_law 988 = .ok (.aload_n 0, 1) := by decide +kernel
theorem dL_law_994 : decode cL_law 994 = .ok (.aload_n 3, 1) := by decide +kernel
theorem dL_law_1002 : decode cL_law 1002 = .ok (.iload 4, 2) := by decide +kernel
theorem dL_law_1008 : decode cL_law 1008 = .ok (.iload 4, 2) := by decide +kernel
theorem dL_law_1016 : decode cL_law 1016 = .ok (.istore 6, 2) := by decide +kernel
theorem dL_law_1029 : decode cL_law 1029 = .ok (.iload 5, 2) := by decide +kernel
theorem dL_law_1052 : decode cL_law 1052 = .ok (.iload 4, 2) := by decide +kernel
theorem dL_law_1058 : decode cL_law 1058 = .ok (.invokestatic 181, 3) := by decide +kernel
theorem dL_law_1067 : decode cL_law 1067 = .ok (.iconst 1, 1) := by decide +kernel
theorem dL_law_1075 : decode cL_law 1075 = .ok (.aload_n 2, 1) := by decide +kernel
theorem dL_law_1088 : decode cL_law 1088 = .ok (.ifCond .ne 17, 3) := by decide +kernel
theorem dL_law_1112 : decode cL_law 1112 = .ok (.iconst 1, 1) := by decide +kernel
theorem dL_law_1118 : decode cL_law 1118 = .ok (.iconst 2, 1) := by decide +kernel
theorem dL_law_1125 : decode cL_law 1125 = .ok (.istore 5, 2) := by decide +kernel
theorem dL_law_1132 : decode cL_law 1132 = .ok (.iadd, 1) := by decide +kernel
theorem dL_law_1138 : decode cL_law 1138 = .ok (.iadd, 1) := by decide +kernel
theorem dL_law_1146 : decode cL_law 1146 = .ok (.invokevirtual 126, 3) := by decide +kernel
theorem dL_law_1175 : decode cL_law 1175 = .ok (.goto 1041, 3) := by decide +kernel
theorem dL_law_1183 : decode cL_law 1183 = .ok (.iadd, 1) := by decide +kernel
theorem dL_law_1189 : decode cL_law 1189 = .ok (.iadd, 1) := by decide +kernel
theorem dL_law_1197 : decode cL_law 1197 = .ok (.aload_n 2, 1) := by decide +kernel
theorem dL_law_1203 : decode cL_law 1203 = .ok (.iaload, 1) := by decide +kernel
theorem dL_law_1209 : decode cL_law 1209 = .ok (.iaload, 1) := by decide +kernel
theorem dL_law_1219 : decode cL_law 1219 = .ok (.iload 5, 2) := by decide +kernel
theorem dL_law_1247 : decode cL_law 1247 = .ok (.aload_n 1, 1) := by decide +kernel
theorem dL_law_1253 : decode cL_law 1253 = .ok (.iaload, 1) := by decide +kernel
theorem dL_law_1259 : decode cL_law 1259 = .ok (.iaload, 1) := by decide +kernel
theorem dL_law_1265 : decode cL_law 1265 = .ok (.iaload, 1) := by decide +kernel
theorem dL_law_1273 : decode cL_law 1273 = .ok (.aload_n 0, 1) := by decide +kernel
theorem dL_law_1279 : decode cL_law 1279 = .ok (.aload_n 0, 1) := by decide +kernel
theorem dL_law_1285 : decode cL_law 1285 = .ok (.aload_n 0, 1) := by decide +kernel
theorem dL_law_1291 : decode cL_law 1291 = .ok (.invokevirtual 199, 3) := by decide +kernel
theorem dL_law_1302 : decode cL_law 1302 = .ok (.if_icmp .eq 5, 3) := by decide +kernel
theorem dL_law_1329 : decode cL_law 1329 = .ok (.aload_n 0, 1) := by decide +kernel
theorem dL_law_1335 : decode cL_law 1335 = .ok (.aload_n 0, 1) := by decide +kernel
theorem dL_law_1341 : decode cL_law 1341 = .ok (.aload_n 0, 1) := by decide +kernel
theorem dL_law_1347 : decode cL_law 1347 = .ok (.ifCond .eq 7, 3) := by decide +kernel
theorem dL_law_1356 : decode cL_law 1356 = .ok (.invokestatic 200, 3) := by decide +kernel
theorem dL_law_1365 : decode cL_law 1365 = .ok (.iconst 1, 1) := by decide +kernel
theorem dL_law_1371 : decode cL_law 1371 = .ok (.iconst 2, 1) := by decide +kernel
theorem dL_law_1377 : decode cL_law 1377 = .ok (.iconst 3, 1) := by decide +kernel
theorem dL_law_1384 : decode cL_law 1384 = .ok (.goto 4, 3) := by decide +kernel
theorem dL_law_1394 : decode cL_law 1394 = .ok (.invokevirtual 126, 3) := by decide +kernel
theorem dL_law_1422 : decode cL_law 1422 = .ok (.goto 794, 3) := by decide +kernel
theorem dL_law_1430 : decode cL_law 1430 = .ok (.iadd, 1) := by decide +kernel
theorem dL_law_1436 : decode cL_law 1436 = .ok (.iadd, 1) := by decide +kernel
theorem dL_law_1444 : decode cL_law 1444 = .ok (.aload_n 2, 1) := by decide +kernel
theorem dL_law_1450 : decode cL_law 1450 = .ok (.iaload, 1) := by decide +kernel
theorem dL_law_1456 : decode cL_law 1456 = .ok (.iaload, 1) := by decide +kernel
theorem dL_law_1466 : decode cL_law 1466 = .ok (.iload 5, 2) := by decide +kernel
theorem dL_law_1494 : decode cL_law 1494 = .ok (.aload_n 1, 1) := by decide +kernel
theorem dL_law_1500 : decode cL_law 1500 = .ok (.iaload, 1) := by decide +kernel
theorem dL_law_1506 : decode cL_law 1506 = .ok (.iaload, 1) := by decide +kernel
theorem dL_law_1512 : decode cL_law 1512 = .ok (.iaload, 1) := by decide +kernel
theorem dL_law_1521 : decode cL_law 1521 = .ok (.aload_n 3, 1) := by decide +kernel
theorem dL_law_1529 : decode cL_law 1529 = .ok (.iload 4, 2) := by decide +kernel
theorem dL_law_1535 : decode cL_law 1535 = .ok (.iload 4, 2) := by decide +kernel
theorem dL_law_1541 : decode cL_law 1541 = .ok (.iload 4, 2) := by decide +kernel
theorem dL_law_1549 : decode cL_law 1549 = .ok (.iconst 1, 1) := by decide +kernel
theorem dL_law_1559 : decode cL_law 1559 = .ok (.aload_n 2, 1) := by decide +kernel
theorem dL_law_1572 : decode cL_law 1572 = .ok (.ifCond .ne 16, 3) := by decide +kernel
theorem dL_law_1596 : decode cL_law 1596 = .ok (.invokevirtual 214, 3) := by decide +kernel
theorem dL_law_1609 : decode cL_law 1609 = .ok (.iload 4, 2) := by decide +kernel
theorem dL_law_1617 : decode cL_law 1617 = .ok (.iconst 1, 1) := by decide +kernel
theorem dL_law_1626 : decode cL_law 1626 = .ok (.aload_n 0, 1) := by decide +kernel
theorem dL_law_1632 : decode cL_law 1632 = .ok (.ifCond .eq 7, 3) := by decide +kernel
theorem dL_law_1643 : decode cL_law 1643 = .ok (.if_icmp .eq 573, 3) := by decide +kernel
theorem dL_law_1653 : decode cL_law 1653 = .ok (.iadd, 1) := by decide +kernel
theorem dL_law_1661 : decode cL_law 1661 = .ok (.aload_n 2, 1) := by decide +kernel
theorem dL_law_1667 : decode cL_law 1667 = .ok (.iaload, 1) := by decide +kernel
theorem dL_law_1677 : decode cL_law 1677 = .ok (.iload 5, 2) := by decide +kernel
theorem dL_law_1690 : decode cL_law 1690 = .ok (.getfield 13, 3) := by decide +kernel
theorem dL_law_1702 : decode cL_law 1702 = .ok (.goto 514, 3) := by decide +kernel
theorem dL_law_1713 : decode cL_law 1713 = .ok (.invokevirtual 184, 3) := by decide +kernel
theorem dL_law_1725 : decode cL_law 1725 = .ok (.iconst 1, 1) := by decide +kernel
theorem dL_law_1732 : decode cL_law 1732 = .ok (.istore 5, 2) := by decide +kernel
theorem dL_law_1739 : decode cL_law 1739 = .ok (.iadd, 1) := by decide +kernel
theorem dL_law_1747 : decode cL_law 1747 = .ok (.invokevirtual 126, 3) := by decide +kernel
theorem dL_law_1762 : decode cL_law 1762 = .ok (.aload_n 3, 1) := by decide +kernel
theorem dL_law_1776 : decode cL_law 1776 = .ok (.goto 440, 3) := by decide +kernel
theorem dL_law_1784 : decode cL_law 1784 = .ok (.iadd, 1) := by decide +kernel
theorem dL_law_1792 : decode cL_law 1792 = .ok (.aload_n 2, 1) := by decide +kernel
theorem dL_law_1798 : decode cL_law 1798 = .ok (.iaload, 1) := by decide +kernel
theorem dL_law_1808 : decode cL_law 1808 = .ok (.iload 5, 2) := by decide +kernel
theorem dL_law_1821 : decode cL_law 1821 = .ok (.getfield 13, 3) := by decide +kernel
theorem dL_law_1833 : decode cL_law 1833 = .ok (.goto 383, 3) := by decide +kernel
theorem dL_law_1841 : decode cL_law 1841 = .ok (.iadd, 1) := by decide +kernel
theorem dL_law_1847 : decode cL_law 1847 = .ok (.iadd, 1) := by decide +kernel
theorem dL_law_1855 : decode cL_law 1855 = .ok (.aload_n 2, 1) := by decide +kernel
theorem dL_law_1861 : decode cL_law 1861 = .ok (.iaload, 1) := by decide +kernel
theorem dL_law_1867 : decode cL_law 1867 = .ok (.iaload, 1) := by decide +kernel
theorem dL_law_1877 : decode cL_law 1877 = .ok (.iload 5, 2) := by decide +kernel
theorem dL_law_1912 : decode cL_law 1912 = .ok (.aload_n 1, 1) := by decide +kernel
theorem dL_law_1918 : decode cL_law 1918 = .ok (.iaload, 1) := by decide +kernel
theorem dL_law_1924 : decode cL_law 1924 = .ok (.iaload, 1) := by decide +kernel
theorem dL_law_1930 : decode cL_law 1930 = .ok (.iaload, 1) := by decide +kernel
theorem dL_law_1938 : decode cL_law 1938 = .ok (.aload_n 0, 1) := by decide +kernel
theorem dL_law_1944 : decode cL_law 1944 = .ok (.aload_n 0, 1) := by decide +kernel
theorem dL_law_1950 : decode cL_law 1950 = .ok (.aload_n 0, 1) := by decide +kernel
theorem dL_law_1956 : decode cL_law 1956 = .ok (.invokevirtual 238, 3) := by decide +kernel
theorem dL_law_1967 : decode cL_law 1967 = .ok (.if_icmp .eq 5, 3) := by decide +kernel
theorem dL_law_1994 : decode cL_law 1994 = .ok (.aload_n 0, 1) := by decide +kernel
theorem dL_law_2000 : decode cL_law 2000 = .ok (.aload_n 3, 1) := by decide +kernel
theorem dL_law_2008 : decode cL_law 2008 = .ok (.iload 4, 2) := by decide +kernel
theorem dL_law_2016 : decode cL_law 2016 = .ok (.istore 6, 2) := by decide +kernel
theorem dL_law_2029 : decode cL_law 2029 = .ok (.iload 5, 2) := by decide +kernel
theorem dL_law_2052 : decode cL_law 2052 = .ok (.iload 4, 2) := by decide +kernel
theorem dL_law_2058 : decode cL_law 2058 = .ok (.iload 4, 2) := by decide +kernel
theorem dL_law_2064 : decode cL_law 2064 = .ok (.invokestatic 242, 3) := by decide +kernel
theorem dL_law_2073 : decode cL_law 2073 = .ok (.iconst 1, 1) := by decide +kernel
theorem dL_law_2079 : decode cL_law 2079 = .ok (.iconst 2, 1) := by decide +kernel
theorem dL_law_2087 : decode cL_law 2087 = .ok (.aload_n 2, 1) := by decide +kernel
theorem dL_law_2100 : decode cL_law 2100 = .ok (.ifCond .ne 16, 3) := by decide +kernel
theorem dL_law_2123 : decode cL_law 2123 = .ok (.iconst 1, 1) := by decide +kernel
theorem dL_law_2129 : decode cL_law 2129 = .ok (.iconst 2, 1) := by decide +kernel
theorem dL_law_2136 : decode cL_law 2136 = .ok (.istore 5, 2) := by decide +kernel
theorem dL_law_2143 : decode cL_law 2143 = .ok (.iadd, 1) := by decide +kernel
theorem dL_law_2149 : decode cL_law 2149 = .ok (.iadd, 1) := by decide +kernel
theorem dL_law_2157 : decode cL_law 2157 = .ok (.invokevirtual 126, 3) := by decide +kernel
theorem dL_law_2186 : decode cL_law 2186 = .ok (.goto 30, 3) := by decide +kernel
theorem dL_law_2197 : decode cL_law 2197 = .ok (.if_icmp .eq 19, 3) := by decide +kernel
theorem dL_law_2210 : decode cL_law 2210 = .ok (.lcmp, 1) := by decide +kernel
theorem dL_law_2223 : decode cL_law 2223 = .ok (.ireturn, 1) := by decide +kernel

theorem dX0_init_8 : decode cX0_init 8 = .ok (.dup, 1) := by decide +kernel
theorem dX0_init_17 : decode cX0_init 17 = .ok (.new 9, 3) := by decide +kernel
theorem dX0_init_28 : decode cX0_init 28 = .ok (.aload_n 0, 1) := by decide +kernel
theorem dX0_init_37 : decode cX0_init 37 = .ok (.putfield 23, 3) := by decide +kernel
theorem dX0_init_46 : decode cX0_init 46 = .ok (.invokespecial 11, 3) := by decide +kernel
theorem dX0_init_57 : decode cX0_init 57 = .ok (.iconst 4, 1) := by decide +kernel
theorem dX0_init_68 : decode cX0_init 68 = .ok (.dup, 1) := by decide +kernel
theorem dX0_init_77 : decode cX0_init 77 = .ok (.new 9, 3) := by decide +kernel
theorem dX0_init_89 : decode cX0_init 89 = .ok (.aload_n 0, 1) := by decide +kernel
theorem dX0_init_96 : decode cX0_init 96 = .ok (.putfield 42, 3) := by decide +kernel
theorem dX0_init_105 : decode cX0_init 105 = .ok (.iconst 0, 1) := by decide +kernel
theorem dX0_faultOf_2 : decode cX0_faultOf 2 = .ok (.invokevirtual 51, 3) := by decide +kernel
theorem dX0_faultOf_11 : decode cX0_faultOf 11 = .ok (.iload_n 3, 1) := by decide +kernel
theorem dX0_faultOf_103 : decode cX0_faultOf 103 = .ok (.getfield 14, 3) := by decide +kernel
theorem dX0_faultOf_116 : decode cX0_faultOf 116 = .ok (.ifCond .ne 8, 3) := by decide +kernel
theorem dX0_begin_1 : decode cX0_begin 1 = .ok (.getfield 14, 3) := by decide +kernel
theorem dX0_begin_14 : decode cX0_begin 14 = .ok (.aload_n 0, 1) := by decide +kernel
theorem dX0_begin_25 : decode cX0_begin 25 = .ok (.invokevirtual 100, 3) := by decide +kernel
theorem dX0_begin_36 : decode cX0_begin 36 = .ok (.getfield 32, 3) := by decide +kernel
theorem dX0_begin_49 : decode cX0_begin 49 = .ok (.aload_n 0, 1) := by decide +kernel
theorem dX0_begin_58 : decode cX0_begin 58 = .ok (.return_, 1) := by decide +kernel
theorem dX0_startSum_8 : decode cX0_startSum 8 = .ok (.putfield 45, 3) := by decide +kernel
theorem dX0_startSum_19 : decode cX0_startSum 19 = .ok (.putfield 48, 3) := by decide +kernel
theorem dX0_isBehindFactor_5 : decode cX0_isBehindFactor 5 = .ok (.if_icmp .eq 11, 3) := by decide +kernel
theorem dX0_isBehindFactor_20 : decode cX0_isBehindFactor 20 = .ok (.iconst 0, 1) := by decide +kernel
theorem dX1_init_5 : decode cX1_init 5 = .ok (.new 9, 3) := by decide +kernel
theorem dX1_init_16 : decode cX1_init 16 = .ok (.aload_n 0, 1) := by decide +kernel
theorem dX1_init_25 : decode cX1_init 25 = .ok (.putfield 20, 3) := by decide +kernel
theorem dX1_init_35 : decode cX1_init 35 = .ok (.invokespecial 11, 3) := by decide +kernel
theorem dX1_faultOf_4 : decode cX1_faultOf 4 = .ok (.invokevirtual 38, 3) := by decide +kernel
theorem dX1_faultOf_11 : decode cX1_faultOf 11 = .ok (.invokevirtual 41, 3) := by decide +kernel
theorem dX1_faultOf_122 : decode cX1_faultOf 122 = .ok (.ifCond .ne 7, 3) := by decide +kernel
theorem dX1_build_1 : decode cX1_build 1 = .ok (.getfield 20, 3) := by decide +kernel
theorem dX1_build_14 : decode cX1_build 14 = .ok (.iconst 0, 1) := by decide +kernel
theorem dX1_build_21 : decode cX1_build 21 = .ok (.aload_n 1, 1) := by decide +kernel
theorem dX1_build_103 : decode cX1_build 103 = .ok (.aload_n 2, 1) := by decide +kernel
theorem dX1_gathered_4 : decode cX1_gathered 4 = .ok (.invokevirtual 41, 3) := by decide +kernel
theorem dX1_gathered_11 : decode cX1_gathered 11 = .ok (.ifCond .ne 9, 3) := by decide +kernel
theorem dX2_init_0 : decode cX2_init 0 = .ok (.aload_n 0, 1) := by decide +kernel
theorem dX2_init_9 : decode cX2_init 9 = .ok (.invokespecial 11, 3) := by decide +kernel
theorem dX2_init_20 : decode cX2_init 20 = .ok (.sipush 2500, 3) := by decide +kernel
theorem dX2_init_33 : decode cX2_init 33 = .ok (.dup, 1) := by decide +kernel
theorem dX2_init_44 : decode cX2_init 44 = .ok (.new 18, 3) := by decide +kernel
theorem dX2_init_56 : decode cX2_init 56 = .ok (.aload_n 0, 1) := by decide +kernel
theorem dX2_init_66 : decode cX2_init 66 = .ok (.putfield 33, 3) := by decide +kernel
theorem dX2_init_76 : decode cX2_init 76 = .ok (.invokespecial 20, 3) := by decide +kernel
theorem dX2_init_87 : decode cX2_init 87 = .ok (.bipush 100, 2) := by decide +kernel
theorem dX2_init_99 : decode cX2_init 99 = .ok (.dup, 1) := by decide +kernel
theorem dX2_init_110 : decode cX2_init 110 = .ok (.iconst 1, 1) := by decide +kernel
theorem dX2_init_119 : decode cX2_init 119 = .ok (.aload_n 0, 1) := by decide +kernel
theorem dX2_init_126 : decode cX2_init 126 = .ok (.putfield 55, 3) := by decide +kernel
theorem dX2_init_135 : decode cX2_init 135 = .ok (.iconst 0, 1) := by decide +kernel
theorem dX2_init_144 : decode cX2_init 144 = .ok (.aload_n 0, 1) := by decide +kernel
theorem dX2_init_151 : decode cX2_init 151 = .ok (.putfield 70, 3) := by decide +kernel
theorem dX2_init_160 : decode cX2_init 160 = .ok (.invokespecial 75, 3) := by decide +kernel
theorem dX3_init_4 : decode cX3_init 4 = .ok (.aload_n 0, 1) := by decide +kernel
theorem dX3_init_14 : decode cX3_init 14 = .ok (.putfield 14, 3) := by decide +kernel
theorem dX3_init_25 : decode cX3_init 25 = .ok (.invokespecial 11, 3) := by decide +kernel
theorem dX3_init_36 : decode cX3_init 36 = .ok (.sipush 4960, 3) := by decide +kernel
theorem dX3_init_49 : decode cX3_init 49 = .ok (.dup, 1) := by decide +kernel
theorem dX3_init_60 : decode cX3_init 60 = .ok (.new 9, 3) := by decide +kernel
theorem dX3_init_73 : decode cX3_init 73 = .ok (.aload_n 0, 1) := by decide +kernel
theorem dX3_init_84 : decode cX3_init 84 = .ok (.putfield 32, 3) := by decide +kernel
theorem dX3_init_95 : decode cX3_init 95 = .ok (.invokespecial 11, 3) := by decide +kernel
theorem dX3_init_106 : decode cX3_init 106 = .ok (.sipush 4960, 3) := by decide +kernel
theorem dX3_init_119 : decode cX3_init 119 = .ok (.dup, 1) := by decide +kernel
theorem dX3_count_0 : decode cX3_count 0 = .ok (.aload_n 0, 1) := by decide +kernel
theorem dX3_has_1 : decode cX3_has 1 = .ok (.ifCond .lt 18, 3) := by decide +kernel
theorem dX3_has_12 : decode cX3_has 12 = .ok (.if_icmp .ge 7, 3) := by decide +kernel
theorem dX3_signs_4 : decode cX3_signs 4 = .ok (.areturn, 1) := by decide +kernel
theorem dX3_weightOfAll_4 : decode cX3_weightOfAll 4 = .ok (.iload_n 2, 1) := by decide +kernel
theorem dX3_weightOfAll_29 : decode cX3_weightOfAll 29 = .ok (.iload_n 1, 1) := by decide +kernel
theorem dX3_clear_7 : decode cX3_clear 7 = .ok (.aload_n 0, 1) := by decide +kernel
theorem dX3_clear_18 : decode cX3_clear 18 = .ok (.invokevirtual 55, 3) := by decide +kernel
theorem dX3_clear_29 : decode cX3_clear 29 = .ok (.getfield 29, 3) := by decide +kernel
theorem dX3_clear_42 : decode cX3_clear 42 = .ok (.aload_n 0, 1) := by decide +kernel
theorem dX3_clear_53 : decode cX3_clear 53 = .ok (.invokevirtual 55, 3) := by decide +kernel
theorem dX3_number_0 : decode cX3_number 0 = .ok (.aload_n 0, 1) := by decide +kernel
theorem dX3_number_9 : decode cX3_number 9 = .ok (.getfield 14, 3) := by decide +kernel
theorem dX3_addSign_0 : decode cX3_addSign 0 = .ok (.aload_n 0, 1) := by decide +kernel
theorem dX3_addText_0 : decode cX3_addText 0 = .ok (.aload_n 0, 1) := by decide +kernel
theorem dX3_addText_9 : decode cX3_addText 9 = .ok (.iload_n 1, 1) := by decide +kernel
theorem dX3_addText_14 : decode cX3_addText 14 = .ok (.iconst 1, 1) := by decide +kernel
theorem dX3_addMark_2 : decode cX3_addMark 2 = .ok (.iconst 0, 1) := by decide +kernel
theorem dX3_addMark_7 : decode cX3_addMark 7 = .ok (.invokevirtual 61, 3) := by decide +kernel
theorem dX3_addPlace_5 : decode cX3_addPlace 5 = .ok (.invokevirtual 58, 3) := by decide +kernel
theorem dX3_addPlace_16 : decode cX3_addPlace 16 = .ok (.aload_n 0, 1) := by decide +kernel
theorem dX3_addPlace_25 : decode cX3_addPlace 25 = .ok (.getfield 29, 3) := by decide +kernel
theorem dX3_addPlace_37 : decode cX3_addPlace 37 = .ok (.iload 5, 2) := by decide +kernel
theorem dX3_addPlace_48 : decode cX3_addPlace 48 = .ok (.invokevirtual 58, 3) := by decide +kernel
theorem dX3_addPlace_59 : decode cX3_addPlace 59 = .ok (.isub, 1) := by decide +kernel
theorem dX4_init_5 : decode cX4_init 5 = .ok (.iconst 0, 1) := by decide +kernel
theorem dX4_init_14 : decode cX4_init 14 = .ok (.iload_n 1, 1) := by decide +kernel
theorem dX4_size_0 : decode cX4_size 0 = .ok (.aload_n 0, 1) := by decide +kernel
theorem dX4_get_4 : decode cX4_get 4 = .ok (.iload_n 1, 1) := by decide +kernel
theorem dX4_get_13 : decode cX4_get 13 = .ok (.aload_n 0, 1) := by decide +kernel
theorem dX4_get_22 : decode cX4_get 22 = .ok (.getfield 13, 3) := by decide +kernel
theorem dX4_add_0 : decode cX4_add 0 = .ok (.aload_n 0, 1) := by decide +kernel
theorem dX4_add_11 : decode cX4_add 11 = .ok (.aload_n 0, 1) := by decide +kernel
theorem dX4_add_20 : decode cX4_add 20 = .ok (.getfield 13, 3) := by decide +kernel
theorem dX4_add_29 : decode cX4_add 29 = .ok (.aload_n 0, 1) := by decide +kernel
theorem dX4_add_36 : decode cX4_add 36 = .ok (.putfield 7, 3) := by decide +kernel
theorem dX4_cut_5 : decode cX4_cut 5 = .ok (.aload_n 0, 1) := by decide +kernel
theorem dX4_cut_14 : decode cX4_cut 14 = .ok (.putfield 7, 3) := by decide +kernel
theorem dX4_clear_5 : decode cX4_clear 5 = .ok (.return_, 1) := by decide +kernel
theorem dX4_copy_6 : decode cX4_copy 6 = .ok (.istore_n 2, 1) := by decide +kernel
theorem dX4_copy_30 : decode cX4_copy 30 = .ok (.return_, 1) := by decide +kernel
theorem dX5_init_8 : decode cX5_init 8 = .ok (.dup, 1) := by decide +kernel
theorem dX5_init_19 : decode cX5_init 19 = .ok (.new 9, 3) := by decide +kernel
theorem dX5_init_32 : decode cX5_init 32 = .ok (.aload_n 0, 1) := by decide +kernel
theorem dX5_init_43 : decode cX5_init 43 = .ok (.putfield 23, 3) := by decide +kernel
theorem dX5_init_54 : decode cX5_init 54 = .ok (.invokespecial 11, 3) := by decide +kernel
theorem dX5_init_65 : decode cX5_init 65 = .ok (.bipush 100, 2) := by decide +kernel
theorem dX5_init_77 : decode cX5_init 77 = .ok (.dup, 1) := by decide +kernel
theorem dX5_init_88 : decode cX5_init 88 = .ok (.new 9, 3) := by decide +kernel
theorem dX5_init_101 : decode cX5_init 101 = .ok (.aload_n 0, 1) := by decide +kernel
theorem dX5_init_112 : decode cX5_init 112 = .ok (.putfield 38, 3) := by decide +kernel
theorem dX5_init_123 : decode cX5_init 123 = .ok (.invokespecial 11, 3) := by decide +kernel
theorem dX5_init_134 : decode cX5_init 134 = .ok (.return_, 1) := by decide +kernel
theorem dX6_init_8 : decode cX6_init 8 = .ok (.dup, 1) := by decide +kernel
theorem dX6_init_19 : decode cX6_init 19 = .ok (.aload_n 1, 1) := by decide +kernel
theorem dX6_init_28 : decode cX6_init 28 = .ok (.aload_n 0, 1) := by decide +kernel
theorem dX6_init_36 : decode cX6_init 36 = .ok (.putfield 32, 3) := by decide +kernel
theorem dX6_holds_4 : decode cX6_holds 4 = .ok (.aload_n 0, 1) := by decide +kernel
theorem dX6_holds_13 : decode cX6_holds 13 = .ok (.invokestatic 41, 3) := by decide +kernel
theorem dX6_holds_24 : decode cX6_holds 24 = .ok (.invokevirtual 35, 3) := by decide +kernel
theorem dX6_holds_91 : decode cX6_holds 91 = .ok (.iload 5, 2) := by decide +kernel
theorem dX7_init_5 : decode cX7_init 5 = .ok (.new 9, 3) := by decide +kernel
theorem dX7_init_17 : decode cX7_init 17 = .ok (.aload_n 0, 1) := by decide +kernel
theorem dX7_init_27 : decode cX7_init 27 = .ok (.putfield 20, 3) := by decide +kernel
theorem dX7_init_37 : decode cX7_init 37 = .ok (.invokespecial 11, 3) := by decide +kernel
theorem dX7_init_48 : decode cX7_init 48 = .ok (.bipush 120, 2) := by decide +kernel
theorem dX7_init_60 : decode cX7_init 60 = .ok (.dup, 1) := by decide +kernel
theorem dX7_init_70 : decode cX7_init 70 = .ok (.new 9, 3) := by decide +kernel
theorem dX7_init_82 : decode cX7_init 82 = .ok (.aload_n 0, 1) := by decide +kernel
theorem dX7_init_92 : decode cX7_init 92 = .ok (.putfield 35, 3) := by decide +kernel
theorem dX7_init_102 : decode cX7_init 102 = .ok (.invokespecial 11, 3) := by decide +kernel
theorem dX7_init_113 : decode cX7_init 113 = .ok (.bipush 60, 2) := by decide +kernel
theorem dX7_init_123 : decode cX7_init 123 = .ok (.putfield 44, 3) := by decide +kernel
theorem dX7_start_7 : decode cX7_start 7 = .ok (.aload_n 0, 1) := by decide +kernel
theorem dX7_start_18 : decode cX7_start 18 = .ok (.invokevirtual 48, 3) := by decide +kernel
theorem dX7_start_29 : decode cX7_start 29 = .ok (.getfield 29, 3) := by decide +kernel
theorem dX7_start_42 : decode cX7_start 42 = .ok (.aload_n 0, 1) := by decide +kernel
theorem dX7_start_53 : decode cX7_start 53 = .ok (.aload_n 1, 1) := by decide +kernel
theorem dX7_start_64 : decode cX7_start 64 = .ok (.aload_n 0, 1) := by decide +kernel
theorem dX7_isThere_1 : decode cX7_isThere 1 = .ok (.getfield 44, 3) := by decide +kernel
theorem dX7_signsOfPlain_0 : decode cX7_signsOfPlain 0 = .ok (.aload_n 0, 1) := by decide +kernel
theorem dX8_init_4 : decode cX8_init 4 = .ok (.aload_n 0, 1) := by decide +kernel
theorem dX8_init_15 : decode cX8_init 15 = .ok (.putfield 14, 3) := by decide +kernel
theorem dX8_init_26 : decode cX8_init 26 = .ok (.invokespecial 11, 3) := by decide +kernel
theorem dX8_init_37 : decode cX8_init 37 = .ok (.return_, 1) := by decide +kernel
theorem dX9_init_8 : decode cX9_init 8 = .ok (.dup, 1) := by decide +kernel
theorem dX9_init_19 : decode cX9_init 19 = .ok (.dup, 1) := by decide +kernel
theorem dX9_init_29 : decode cX9_init 29 = .ok (.new 16, 3) := by decide +kernel
theorem dX9_init_41 : decode cX9_init 41 = .ok (.aload_n 0, 1) := by decide +kernel
theorem dX9_init_52 : decode cX9_init 52 = .ok (.aload_n 0, 1) := by decide +kernel
theorem dX9_init_63 : decode cX9_init 63 = .ok (.aload_n 0, 1) := by decide +kernel
theorem dX9_init_72 : decode cX9_init 72 = .ok (.invokevirtual 44, 3) := by decide +kernel
theorem dX9_init_85 : decode cX9_init 85 = .ok (.dup, 1) := by decide +kernel
theorem dX9_init_96 : decode cX9_init 96 = .ok (.putfield 55, 3) := by decide +kernel
theorem dX9_init_105 : decode cX9_init 105 = .ok (.getfield 12, 3) := by decide +kernel
theorem dX9_init_116 : decode cX9_init 116 = .ok (.aload_n 0, 1) := by decide +kernel
theorem dX9_init_127 : decode cX9_init 127 = .ok (.new 67, 3) := by decide +kernel
theorem dX9_init_138 : decode cX9_init 138 = .ok (.new 74, 3) := by decide +kernel
theorem dX9_init_149 : decode cX9_init 149 = .ok (.new 74, 3) := by decide +kernel
theorem dX9_init_160 : decode cX9_init 160 = .ok (.bipush 20, 2) := by decide +kernel
theorem dX9_init_171 : decode cX9_init 171 = .ok (.aload_n 0, 1) := by decide +kernel
theorem dX9_init_178 : decode cX9_init 178 = .ok (.putfield 94, 3) := by decide +kernel
theorem dX9_word_0 : decode cX9_word 0 = .ok (.iload_n 1, 1) := by decide +kernel
theorem dX9_word_10 : decode cX9_word 10 = .ok (.new 100, 3) := by decide +kernel
theorem dX9_word_20 : decode cX9_word 20 = .ok (.iload_n 2, 1) := by decide +kernel
theorem dX9_word_28 : decode cX9_word 28 = .ok (.if_icmp .le 13, 3) := by decide +kernel
theorem dX9_word_40 : decode cX9_word 40 = .ok (.athrow, 1) := by decide +kernel
theorem dX9_word_47 : decode cX9_word 47 = .ok (.iload_n 3, 1) := by decide +kernel
theorem dX9_word_56 : decode cX9_word 56 = .ok (.bipush 97, 2) := by decide +kernel
theorem dX9_word_66 : decode cX9_word 66 = .ok (.goto (-19), 3) := by decide +kernel
theorem dX9_word_75 : decode cX9_word 75 = .ok (.invokevirtual 115, 3) := by decide +kernel
theorem dX9_mark_2 : decode cX9_mark 2 = .ok (.if_icmp .lt 8, 3) := by decide +kernel
theorem dX9_mark_13 : decode cX9_mark 13 = .ok (.dup, 1) := by decide +kernel
theorem dX9_mark_21 : decode cX9_mark 21 = .ok (.invokevirtual 109, 3) := by decide +kernel
theorem dX9_mark_30 : decode cX9_mark 30 = .ok (.invokevirtual 124, 3) := by decide +kernel
theorem dX9_join_2 : decode cX9_join 2 = .ok (.invokevirtual 127, 3) := by decide +kernel
theorem dX9_align_1 : decode cX9_align 1 = .ok (.iload_n 1, 1) := by decide +kernel
theorem dX9_fill_0 : decode cX9_fill 0 = .ok (.aload_n 0, 1) := by decide +kernel
theorem dX9_forget_4 : decode cX9_forget 4 = .ok (.invokevirtual 163, 3) := by decide +kernel
theorem dX9_forget_15 : decode cX9_forget 15 = .ok (.iload_n 1, 1) := by decide +kernel
theorem dX9_width_5 : decode cX9_width 5 = .ok (.aload_n 0, 1) := by decide +kernel
theorem dX9_width_12 : decode cX9_width 12 = .ok (.putfield 84, 3) := by decide +kernel
theorem dX9_ribbon_2 : decode cX9_ribbon 2 = .ok (.if_icmp .lt 9, 3) := by decide +kernel
theorem dX9_ribbon_14 : decode cX9_ribbon 14 = .ok (.dup, 1) := by decide +kernel
theorem dX9_ribbon_22 : decode cX9_ribbon 22 = .ok (.getfield 88, 3) := by decide +kernel
theorem dX9_ribbon_31 : decode cX9_ribbon 31 = .ok (.iload_n 2, 1) := by decide +kernel
theorem dX9_say_7 : decode cX9_say 7 = .ok (.aload_n 0, 1) := by decide +kernel
theorem dX9_say_16 : decode cX9_say 16 = .ok (.getfield 25, 3) := by decide +kernel
theorem dX9_say_27 : decode cX9_say 27 = .ok (.iload_n 3, 1) := by decide +kernel
theorem dX9_say_37 : decode cX9_say 37 = .ok (.invokevirtual 176, 3) := by decide +kernel
theorem dX9_say_49 : decode cX9_say 49 = .ok (.aload_n 0, 1) := by decide +kernel
theorem dX9_say_59 : decode cX9_say 59 = .ok (.invokevirtual 179, 3) := by decide +kernel
theorem dX9_say_68 : decode cX9_say 68 = .ok (.getfield 25, 3) := by decide +kernel
theorem dX9_say_79 : decode cX9_say 79 = .ok (.getfield 25, 3) := by decide +kernel
theorem dX9_say_93 : decode cX9_say 93 = .ok (.goto (-28), 3) := by decide +kernel
theorem dX9_read_0 : decode cX9_read 0 = .ok (.aload_n 0, 1) := by decide +kernel
theorem dX9_read_9 : decode cX9_read 9 = .ok (.getfield 21, 3) := by decide +kernel
theorem dX9_read_22 : decode cX9_read 22 = .ok (.aload_n 0, 1) := by decide +kernel
theorem dX9_read_31 : decode cX9_read 31 = .ok (.getfield 12, 3) := by decide +kernel
theorem dX9_code_1 : decode cX9_code 1 = .ok (.getfield 38, 3) := by decide +kernel
theorem dX9_code_12 : decode cX9_code 12 = .ok (.invokevirtual 199, 3) := by decide +kernel
theorem dX9_blank_0 : decode cX9_blank 0 = .ok (.aload_n 0, 1) := by decide +kernel
theorem dX9_blank_7 : decode cX9_blank 7 = .ok (.putfield 91, 3) := by decide +kernel
theorem dX9_knock_2 : decode cX9_knock 2 = .ok (.getfield 94, 3) := by decide +kernel
theorem dX9_knock_11 : decode cX9_knock 11 = .ok (.getfield 94, 3) := by decide +kernel
theorem dX9_flat_0 : decode cX9_flat 0 = .ok (.aload_n 0, 1) := by decide +kernel
theorem dX9_line_2 : decode cX9_line 2 = .ok (.invokevirtual 127, 3) := by decide +kernel
theorem dX9_at_1 : decode cX9_at 1 = .ok (.iload_n 1, 1) := by decide +kernel
theorem dX9_isOne_0 : decode cX9_isOne 0 = .ok (.aload_n 0, 1) := by decide +kernel
theorem dX9_differ_2 : decode cX9_differ 2 = .ok (.invokevirtual 127, 3) := by decide +kernel
theorem dX9_typed_8 : decode cX9_typed 8 = .ok (.areturn, 1) := by decide +kernel
theorem dX9_fault_8 : decode cX9_fault 8 = .ok (.aload_n 0, 1) := by decide +kernel
theorem dX9_fault_19 : decode cX9_fault 19 = .ok (.goto 14, 3) := by decide +kernel
theorem dX9_fault_30 : decode cX9_fault 30 = .ok (.invokevirtual 191, 3) := by decide +kernel
theorem dX9_ofCode_5 : decode cX9_ofCode 5 = .ok (.bipush 9, 2) := by decide +kernel
theorem dX9_ofCode_17 : decode cX9_ofCode 17 = .ok (.invokespecial 104, 3) := by decide +kernel
theorem dX9_ofCode_28 : decode cX9_ofCode 28 = .ok (.ifCond .ne 5, 3) := by decide +kernel
theorem dX9_plain_2 : decode cX9_plain 2 = .ok (.getfield 77, 3) := by decide +kernel
theorem dX9_codeLine_1 : decode cX9_codeLine 1 = .ok (.iload_n 1, 1) := by decide +kernel
theorem dX9_codeLine_12 : decode cX9_codeLine 12 = .ok (.ifCond .ne 6, 3) := by decide +kernel
theorem dX9_house_4 : decode cX9_house 4 = .ok (.iload_n 1, 1) := by decide +kernel
theorem dX9_house_14 : decode cX9_house 14 = .ok (.ldc 213, 2) := by decide +kernel
theorem dX9_house_22 : decode cX9_house 22 = .ok (.invokevirtual 308, 3) := by decide +kernel
theorem dX9_would_0 : decode cX9_would 0 = .ok (.aload_n 0, 1) := by decide +kernel
theorem dX9_narrowest_2 : decode cX9_narrowest 2 = .ok (.invokevirtual 127, 3) := by decide +kernel
theorem dX9_leastLine_1 : decode cX9_leastLine 1 = .ok (.iload_n 1, 1) := by decide +kernel
theorem dX9_isSound_5 : decode cX9_isSound 5 = .ok (.getfield 77, 3) := by decide +kernel
theorem dX9_isSound_16 : decode cX9_isSound 16 = .ok (.aload_n 0, 1) := by decide +kernel
theorem dX9_digest_3 : decode cX9_digest 3 = .ok (.lstore_n 1, 1) := by decide +kernel
theorem dX9_digest_9 : decode cX9_digest 9 = .ok (.if_icmp .gt 22, 3) := by decide +kernel
theorem dX9_digest_18 : decode cX9_digest 18 = .ok (.iload_n 3, 1) := by decide +kernel
theorem dX9_digest_25 : decode cX9_digest 25 = .ok (.iinc 3 1, 3) := by decide +kernel
theorem dX9_digest_38 : decode cX9_digest 38 = .ok (.iconst 1, 1) := by decide +kernel
theorem dX9_digest_44 : decode cX9_digest 44 = .ok (.iload 4, 2) := by decide +kernel
theorem dX9_digest_130 : decode cX9_digest 130 = .ok (.ldc2_w 330, 3) := by decide +kernel
theorem dX9_digest_141 : decode cX9_digest 141 = .ok (.i2l, 1) := by decide +kernel
theorem dX9_digest_148 : decode cX9_digest 148 = .ok (.lmul, 1) := by decide +kernel
theorem dX9_digest_157 : decode cX9_digest 157 = .ok (.invokevirtual 191, 3) := by decide +kernel
theorem dX9_digest_164 : decode cX9_digest 164 = .ok (.ldc2_w 330, 3) := by decide +kernel
theorem dX9_digest_173 : decode cX9_digest 173 = .ok (.getfield 21, 3) := by decide +kernel
theorem dX9_digest_184 : decode cX9_digest 184 = .ok (.ladd, 1) := by decide +kernel
theorem dX9_digest_191 : decode cX9_digest 191 = .ok (.lstore_n 1, 1) := by decide +kernel
theorem dX9_digest_198 : decode cX9_digest 198 = .ok (.getfield 63, 3) := by decide +kernel
theorem dX9_digest_209 : decode cX9_digest 209 = .ok (.aload_n 0, 1) := by decide +kernel
theorem dX9_digest_220 : decode cX9_digest 220 = .ok (.ifCond .eq 7, 3) := by decide +kernel
theorem dX9_digest_230 : decode cX9_digest 230 = .ok (.lreturn, 1) := by decide +kernel
theorem dX9_needNode_8 : decode cX9_needNode 8 = .ok (.ifCond .ne 14, 3) := by decide +kernel
theorem dX9_needNode_21 : decode cX9_needNode 21 = .ok (.athrow, 1) := by decide +kernel
theorem dX9_needNumber_9 : decode cX9_needNumber 9 = .ok (.if_icmp .lt 14, 3) := by decide +kernel
theorem dX9_needWidth_5 : decode cX9_needWidth 5 = .ok (.iload_n 1, 1) := by decide +kernel
theorem dX9_needWidth_15 : decode cX9_needWidth 15 = .ok (.ldc_w 360, 3) := by decide +kernel
theorem dX9_needNth_1 : decode cX9_needNth 1 = .ok (.ifCond .ge 14, 3) := by decide +kernel
theorem dX9_needNth_14 : decode cX9_needNth 14 = .ok (.athrow, 1) := by decide +kernel
theorem dX9_needCodes_3 : decode cX9_needCodes 3 = .ok (.aload_n 0, 1) := by decide +kernel
theorem dX9_needCodes_14 : decode cX9_needCodes 14 = .ok (.getfield 25, 3) := by decide +kernel
theorem dX9_needCodes_25 : decode cX9_needCodes 25 = .ok (.aload_n 0, 1) := by decide +kernel
theorem dX9_needCodes_35 : decode cX9_needCodes 35 = .ok (.if_icmp .le 14, 3) := by decide +kernel
theorem dX9_needCodes_48 : decode cX9_needCodes 48 = .ok (.athrow, 1) := by decide +kernel
theorem dX9_needCodes_59 : decode cX9_needCodes 59 = .ok (.invokevirtual 182, 3) := by decide +kernel
theorem dX9_needCodes_66 : decode cX9_needCodes 66 = .ok (.aload_n 0, 1) := by decide +kernel
theorem dX9_needCodes_77 : decode cX9_needCodes 77 = .ok (.aload_n 0, 1) := by decide +kernel
theorem dX9_needCodes_88 : decode cX9_needCodes 88 = .ok (.istore_n 1, 1) := by decide +kernel
theorem dX9_needCodes_109 : decode cX9_needCodes 109 = .ok (.goto (-44), 3) := by decide +kernel
theorem dX9_lengthAfter_5 : decode cX9_lengthAfter 5 = .ok (.iload_n 0, 1) := by decide +kernel
theorem dX9_lengthAfter_13 : decode cX9_lengthAfter 13 = .ok (.iconst 0, 1) := by decide +kernel
theorem dX9_lengthAfter_21 : decode cX9_lengthAfter 21 = .ok (.iload_n 0, 1) := by decide +kernel
theorem dX9_lengthAfter_28 : decode cX9_lengthAfter 28 = .ok (.goto 4, 3) := by decide +kernel
theorem dX9_lengthAfter_35 : decode cX9_lengthAfter 35 = .ok (.iadd, 1) := by decide +kernel
theorem dX9_type_5 : decode cX9_type 5 = .ok (.ldc_w 373, 3) := by decide +kernel
theorem dX9_type_18 : decode cX9_type 18 = .ok (.ldc_w 373, 3) := by decide +kernel
theorem dX9_type_31 : decode cX9_type 31 = .ok (.aload_n 0, 1) := by decide +kernel
theorem dX9_type_42 : decode cX9_type 42 = .ok (.iload_n 1, 1) := by decide +kernel
theorem dX9_numbered_1 : decode cX9_numbered 1 = .ok (.dup, 1) := by decide +kernel
theorem dX9_numbered_10 : decode cX9_numbered 10 = .ok (.aload_n 0, 1) := by decide +kernel
theorem dX9_textOf_0 : decode cX9_textOf 0 = .ok (.aload_n 0, 1) := by decide +kernel
theorem dX9_textOf_9 : decode cX9_textOf 9 = .ok (.istore_n 2, 1) := by decide +kernel
theorem dX9_textOf_38 : decode cX9_textOf 38 = .ok (.aload_n 0, 1) := by decide +kernel
theorem dX9_stateOf_1 : decode cX9_stateOf 1 = .ok (.tableswitch 84 0 6 #[43, 51, 56, 61, 69, 74, 79], 43) := by decide +kernel
theorem dX9_stateOf_52 : decode cX9_stateOf 52 = .ok (.aload_n 0, 1) := by decide +kernel
theorem dX9_stateOf_61 : decode cX9_stateOf 61 = .ok (.ireturn, 1) := by decide +kernel
theorem dX9_stateOf_70 : decode cX9_stateOf 70 = .ok (.aload_n 0, 1) := by decide +kernel
theorem dX9_stateOf_79 : decode cX9_stateOf 79 = .ok (.ireturn, 1) := by decide +kernel
theorem dX9_stateOf_86 : decode cX9_stateOf 86 = .ok (.getfield 12, 3) := by decide +kernel
theorem dX9_withCode_2 : decode cX9_withCode 2 = .ok (.aload_n 0, 1) := by decide +kernel
theorem dX9_withCode_13 : decode cX9_withCode 13 = .ok (.istore 5, 2) := by decide +kernel
theorem dX9_withCode_23 : decode cX9_withCode 23 = .ok (.ldc2_w 330, 3) := by decide +kernel
theorem dX9_withCode_34 : decode cX9_withCode 34 = .ok (.lload_n 3, 1) := by decide +kernel
theorem dX11_init_0 : decode cX11_init 0 = .ok (.aload_n 0, 1) := by decide +kernel
theorem dX11_init_9 : decode cX11_init 9 = .ok (.invokespecial 11, 3) := by decide +kernel
theorem dX11_init_20 : decode cX11_init 20 = .ok (.aload_n 0, 1) := by decide +kernel
theorem dX11_init_27 : decode cX11_init 27 = .ok (.putfield 26, 3) := by decide +kernel
theorem dX11_weight_5 : decode cX11_weight 5 = .ok (.if_icmp .ge 7, 3) := by decide +kernel
theorem dX11_weight_17 : decode cX11_weight 17 = .ok (.aload_n 0, 1) := by decide +kernel
theorem dX11_weight_26 : decode cX11_weight 26 = .ok (.invokeinterface 41 1, 5) := by decide +kernel
theorem dX11_depth_1 : decode cX11_depth 1 = .ok (.istore_n 1, 1) := by decide +kernel
theorem dX11_depth_10 : decode cX11_depth 10 = .ok (.aload_n 2, 1) := by decide +kernel
theorem dX11_depth_43 : decode cX11_depth 43 = .ok (.iadd, 1) := by decide +kernel
theorem dX13_init_5 : decode cX13_init 5 = .ok (.aload_n 1, 1) := by decide +kernel
theorem dX13_document_4 : decode cX13_document 4 = .ok (.invokespecial 50, 3) := by decide +kernel
theorem dX13_document_13 : decode cX13_document 13 = .ok (.getfield 9, 3) := by decide +kernel
theorem dX13_document_50 : decode cX13_document 50 = .ok (.ifCond .eq 15, 3) := by decide +kernel
theorem dX13_document_60 : decode cX13_document 60 = .ok (.iconst 0, 1) := by decide +kernel
theorem dX16_init_4 : decode cX16_init 4 = .ok (.aload_n 0, 1) := by decide +kernel
theorem dX16_init_15 : decode cX16_init 15 = .ok (.aload_n 0, 1) := by decide +kernel
theorem dX16_init_24 : decode cX16_init 24 = .ok (.putfield 20, 3) := by decide +kernel
theorem dX16_isIn_0 : decode cX16_isIn 0 = .ok (.iload_n 0, 1) := by decide +kernel
theorem dX16_isIn_7 : decode cX16_isIn 7 = .ok (.if_icmp .gt 7, 3) := by decide +kernel
theorem dX16_one_0 : decode cX16_one 0 = .ok (.iload_n 0, 1) := by decide +kernel
theorem dX16_one_9 : decode cX16_one 9 = .ok (.ireturn, 1) := by decide +kernel
theorem dX16_documented_5 : decode cX16_documented 5 = .ok (.iload_n 2, 1) := by decide +kernel
theorem dX16_documented_134 : decode cX16_documented 134 = .ok (.invokevirtual 74, 3) := by decide +kernel
theorem dX16_documented_145 : decode cX16_documented 145 = .ok (.ireturn, 1) := by decide +kernel
theorem dX16_coded_5 : decode cX16_coded 5 = .ok (.iconst 0, 1) := by decide +kernel
theorem dX16_coded_12 : decode cX16_coded 12 = .ok (.if_icmp .ge 304, 3) := by decide +kernel
theorem dX16_coded_324 : decode cX16_coded 324 = .ok (.ifCond .eq 12, 3) := by decide +kernel
theorem dX16_coded_337 : decode cX16_coded 337 = .ok (.invokestatic 40, 3) := by decide +kernel
theorem dX16_thrown_4 : decode cX16_thrown 4 = .ok (.ireturn, 1) := by decide +kernel
theorem dX16_refuse_8 : decode cX16_refuse 8 = .ok (.ifCond .ne 8, 3) := by decide +kernel
theorem dX16_refuse_17 : decode cX16_refuse 17 = .ok (.getfield 176, 3) := by decide +kernel
theorem dX16_refuse_28 : decode cX16_refuse 28 = .ok (.ireturn, 1) := by decide +kernel
theorem dX16_start_6 : decode cX16_start 6 = .ok (.iload_n 1, 1) := by decide +kernel
theorem dX16_isNoNode_1 : decode cX16_isNoNode 1 = .ok (.iconst 0, 1) := by decide +kernel
theorem dX16_isNoNode_10 : decode cX16_isNoNode 10 = .ok (.isub, 1) := by decide +kernel
theorem dX16_isNoNode_22 : decode cX16_isNoNode 22 = .ok (.ireturn, 1) := by decide +kernel
theorem dX16_isFull_9 : decode cX16_isFull 9 = .ok (.if_icmp .ne 7, 3) := by decide +kernel
theorem dX16_isGreat_4 : decode cX16_isGreat 4 = .ok (.bipush 60, 2) := by decide +kernel
theorem dX16_isGreat_15 : decode cX16_isGreat 15 = .ok (.if_icmp .le 7, 3) := by decide +kernel
theorem dX16_made_4 : decode cX16_made 4 = .ok (.aload_n 1, 1) := by decide +kernel
theorem dX16_made_11 : decode cX16_made 11 = .ok (.getfield 193, 3) := by decide +kernel
theorem dX16_made_20 : decode cX16_made 20 = .ok (.getfield 10, 3) := by decide +kernel
theorem dX16_word_0 : decode cX16_word 0 = .ok (.aload_n 0, 1) := by decide +kernel
theorem dX16_word_8 : decode cX16_word 8 = .ok (.ifCond .eq 13, 3) := by decide +kernel
theorem dX16_word_18 : decode cX16_word 18 = .ok (.ifCond .ne 7, 3) := by decide +kernel
theorem dX16_word_27 : decode cX16_word 27 = .ok (.invokevirtual 196, 3) := by decide +kernel
theorem dX16_word_38 : decode cX16_word 38 = .ok (.iconst 2, 1) := by decide +kernel
theorem dX16_word_47 : decode cX16_word 47 = .ok (.new 29, 3) := by decide +kernel
theorem dX16_word_56 : decode cX16_word 56 = .ok (.istore 4, 2) := by decide +kernel
theorem dX16_word_65 : decode cX16_word 65 = .ok (.bipush 97, 2) := by decide +kernel
theorem dX16_word_73 : decode cX16_word 73 = .ok (.pop, 1) := by decide +kernel
theorem dX16_word_84 : decode cX16_word 84 = .ok (.dup, 1) := by decide +kernel
theorem dX16_word_91 : decode cX16_word 91 = .ok (.invokespecial 202, 3) := by decide +kernel
theorem dX16_mark_2 : decode cX16_mark 2 = .ok (.iconst 1, 1) := by decide +kernel
theorem dX16_mark_11 : decode cX16_mark 11 = .ok (.goto 4, 3) := by decide +kernel
theorem dX16_mark_22 : decode cX16_mark 22 = .ok (.aload_n 0, 1) := by decide +kernel
theorem dX16_mark_31 : decode cX16_mark 31 = .ok (.ifCond .eq 7, 3) := by decide +kernel
theorem dX16_mark_42 : decode cX16_mark 42 = .ok (.dup, 1) := by decide +kernel
theorem dX16_mark_50 : decode cX16_mark 50 = .ok (.invokevirtual 205, 3) := by decide +kernel
theorem dX16_join_3 : decode cX16_join 3 = .ok (.invokevirtual 213, 3) := by decide +kernel
theorem dX16_join_23 : decode cX16_join 23 = .ok (.invokevirtual 196, 3) := by decide +kernel
theorem dX16_nest_0 : decode cX16_nest 0 = .ok (.aload_n 0, 1) := by decide +kernel
theorem dX16_nest_7 : decode cX16_nest 7 = .ok (.invokevirtual 196, 3) := by decide +kernel
theorem dX16_align_0 : decode cX16_align 0 = .ok (.aload_n 0, 1) := by decide +kernel
theorem dX16_align_7 : decode cX16_align 7 = .ok (.invokevirtual 196, 3) := by decide +kernel
theorem dX16_group_0 : decode cX16_group 0 = .ok (.aload_n 0, 1) := by decide +kernel
theorem dX16_group_7 : decode cX16_group 7 = .ok (.invokevirtual 196, 3) := by decide +kernel
theorem dX16_fill_0 : decode cX16_fill 0 = .ok (.aload_n 0, 1) := by decide +kernel
theorem dX16_fill_17 : decode cX16_fill 17 = .ok (.iconst 1, 1) := by decide +kernel
theorem dX16_fill_47 : decode cX16_fill 47 = .ok (.iconst 0, 1) := by decide +kernel
theorem dX16_forget_5 : decode cX16_forget 5 = .ok (.aload_n 0, 1) := by decide +kernel
theorem dX16_forget_14 : decode cX16_forget 14 = .ok (.getfield 10, 3) := by decide +kernel
theorem dX16_width_0 : decode cX16_width 0 = .ok (.aload_n 0, 1) := by decide +kernel
theorem dX16_width_8 : decode cX16_width 8 = .ok (.ifCond .ne 7, 3) := by decide +kernel
theorem dX16_width_17 : decode cX16_width 17 = .ok (.invokevirtual 196, 3) := by decide +kernel
theorem dX16_width_26 : decode cX16_width 26 = .ok (.getfield 16, 3) := by decide +kernel
theorem dX16_width_35 : decode cX16_width 35 = .ok (.iload_n 2, 1) := by decide +kernel
theorem dX16_ribbon_3 : decode cX16_ribbon 3 = .ok (.bipush 60, 2) := by decide +kernel
theorem dX16_ribbon_15 : decode cX16_ribbon 15 = .ok (.iconst 0, 1) := by decide +kernel
theorem dX16_ribbon_24 : decode cX16_ribbon 24 = .ok (.ireturn, 1) := by decide +kernel
theorem dX16_ribbon_31 : decode cX16_ribbon 31 = .ok (.iload_n 1, 1) := by decide +kernel
theorem dX16_said_1 : decode cX16_said 1 = .ok (.iconst (-1), 1) := by decide +kernel
theorem dX16_said_8 : decode cX16_said 8 = .ok (.bipush 20, 2) := by decide +kernel
theorem dX16_said_20 : decode cX16_said 20 = .ok (.aload_n 0, 1) := by decide +kernel
theorem dX16_said_30 : decode cX16_said 30 = .ok (.invokevirtual 32, 3) := by decide +kernel
theorem dX16_said_40 : decode cX16_said 40 = .ok (.if_icmp .eq 10, 3) := by decide +kernel
theorem dX16_said_52 : decode cX16_said 52 = .ok (.goto 14, 3) := by decide +kernel
theorem dX16_said_61 : decode cX16_said 61 = .ok (.iconst 1, 1) := by decide +kernel
theorem dX16_say_2 : decode cX16_say 2 = .ok (.newarray .int, 2) := by decide +kernel
theorem dX16_say_8 : decode cX16_say 8 = .ok (.dup, 1) := by decide +kernel
theorem dX16_say_13 : decode cX16_say 13 = .ok (.iconst 2, 1) := by decide +kernel
theorem dX16_say_18 : decode cX16_say 18 = .ok (.iload 4, 2) := by decide +kernel
theorem dX16_say_25 : decode cX16_say 25 = .ok (.iastore, 1) := by decide +kernel
theorem dX16_say_31 : decode cX16_say 31 = .ok (.astore 7, 2) := by decide +kernel
theorem dX16_say_40 : decode cX16_say 40 = .ok (.aload 9, 2) := by decide +kernel
theorem dX16_say_48 : decode cX16_say 48 = .ok (.iload 11, 2) := by decide +kernel
theorem dX16_say_59 : decode cX16_say 59 = .ok (.iaload, 1) := by decide +kernel
theorem dX16_say_67 : decode cX16_say 67 = .ok (.bipush 21, 2) := by decide +kernel
theorem dX16_say_79 : decode cX16_say 79 = .ok (.iconst 0, 1) := by decide +kernel
theorem dX16_say_89 : decode cX16_say 89 = .ok (.aload_n 0, 1) := by decide +kernel
theorem dX16_say_99 : decode cX16_say 99 = .ok (.iconst 0, 1) := by decide +kernel
theorem dX16_say_107 : decode cX16_say 107 = .ok (.aload 7, 2) := by decide +kernel
theorem dX16_say_116 : decode cX16_say 116 = .ok (.iconst 0, 1) := by decide +kernel
theorem dX16_say_126 : decode cX16_say 126 = .ok (.aload 10, 2) := by decide +kernel
theorem dX16_say_135 : decode cX16_say 135 = .ok (.iload 13, 2) := by decide +kernel
theorem dX16_say_145 : decode cX16_say 145 = .ok (.invokevirtual 74, 3) := by decide +kernel
theorem dX16_say_159 : decode cX16_say 159 = .ok (.invokevirtual 179, 3) := by decide +kernel
theorem dX16_say_174 : decode cX16_say 174 = .ok (.aload 9, 2) := by decide +kernel
theorem dX16_say_186 : decode cX16_say 186 = .ok (.ireturn, 1) := by decide +kernel
theorem dX16_isDocument_8 : decode cX16_isDocument 8 = .ok (.getfield 25, 3) := by decide +kernel
theorem dX16_isDocument_22 : decode cX16_isDocument 22 = .ok (.ireturn, 1) := by decide +kernel
theorem dX16_isCode_8 : decode cX16_isCode 8 = .ok (.getfield 25, 3) := by decide +kernel
theorem dX16_read_0 : decode cX16_read 0 = .ok (.aload_n 0, 1) := by decide +kernel
theorem dX16_read_9 : decode cX16_read 9 = .ok (.ifCond .eq 5, 3) := by decide +kernel
theorem dX16_read_26 : decode cX16_read 26 = .ok (.dup, 1) := by decide +kernel
theorem dX16_read_37 : decode cX16_read 37 = .ok (.astore_n 1, 1) := by decide +kernel
theorem dX16_read_50 : decode cX16_read 50 = .ok (.aload_n 1, 1) := by decide +kernel
theorem dX16_code_2 : decode cX16_code 2 = .ok (.putfield 176, 3) := by decide +kernel
theorem dX16_code_13 : decode cX16_code 13 = .ok (.ireturn, 1) := by decide +kernel
theorem dX16_blank_6 : decode cX16_blank 6 = .ok (.dup, 1) := by decide +kernel
theorem dX16_blank_15 : decode cX16_blank 15 = .ok (.bipush (-9), 2) := by decide +kernel
theorem dX16_knock_5 : decode cX16_knock 5 = .ok (.aload_n 0, 1) := by decide +kernel
theorem dX16_knock_12 : decode cX16_knock 12 = .ok (.putfield 275, 3) := by decide +kernel
theorem dX16_ofNode_1 : decode cX16_ofNode 1 = .ok (.aload_n 0, 1) := by decide +kernel
theorem dX16_ofNode_10 : decode cX16_ofNode 10 = .ok (.ifCond .ne 26, 3) := by decide +kernel
theorem dX16_flat_1 : decode cX16_flat 1 = .ok (.aload_n 0, 1) := by decide +kernel
theorem dX16_flat_10 : decode cX16_flat 10 = .ok (.ifCond .eq 8, 3) := by decide +kernel
theorem dX16_line_1 : decode cX16_line 1 = .ok (.aload_n 0, 1) := by decide +kernel
theorem dX16_line_10 : decode cX16_line 10 = .ok (.ifCond .ne 20, 3) := by decide +kernel
theorem dX16_measure_1 : decode cX16_measure 1 = .ok (.aload_n 0, 1) := by decide +kernel
theorem dX16_measure_10 : decode cX16_measure 10 = .ok (.ifCond .ne 26, 3) := by decide +kernel
theorem dX16_at_1 : decode cX16_at 1 = .ok (.aload_n 0, 1) := by decide +kernel
theorem dX16_at_10 : decode cX16_at 10 = .ok (.ifCond .eq 5, 3) := by decide +kernel
theorem dX16_where_2 : decode cX16_where 2 = .ok (.iload_n 1, 1) := by decide +kernel
theorem dX16_where_30 : decode cX16_where 30 = .ok (.iconst 0, 1) := by decide +kernel
theorem dX16_isOne_3 : decode cX16_isOne 3 = .ok (.invokevirtual 213, 3) := by decide +kernel
theorem dX16_isOne_31 : decode cX16_isOne 31 = .ok (.ireturn, 1) := by decide +kernel
theorem dX16_differ_6 : decode cX16_differ 6 = .ok (.ifCond .ne 11, 3) := by decide +kernel
theorem dX16_differ_26 : decode cX16_differ 26 = .ok (.ifCond .ne 54, 3) := by decide +kernel
theorem dX16_typed_2 : decode cX16_typed 2 = .ok (.putfield 176, 3) := by decide +kernel
theorem dX16_faulty_1 : decode cX16_faulty 1 = .ok (.ifCond .eq 13, 3) := by decide +kernel
theorem dX16_faulty_14 : decode cX16_faulty 14 = .ok (.aload_n 0, 1) := by decide +kernel
theorem dX16_faulty_23 : decode cX16_faulty 23 = .ok (.aload_n 0, 1) := by decide +kernel
theorem dX16_faulty_34 : decode cX16_faulty 34 = .ok (.goto 4, 3) := by decide +kernel
theorem dX16_fault_2 : decode cX16_fault 2 = .ok (.putfield 176, 3) := by decide +kernel
theorem dX16_codeTold_0 : decode cX16_codeTold 0 = .ok (.aload_n 0, 1) := by decide +kernel
theorem dX16_ofCode_0 : decode cX16_ofCode 0 = .ok (.aload_n 0, 1) := by decide +kernel
theorem dX16_ofCode_8 : decode cX16_ofCode 8 = .ok (.ifCond .ne 7, 3) := by decide +kernel
theorem dX16_ofCode_17 : decode cX16_ofCode 17 = .ok (.invokevirtual 196, 3) := by decide +kernel
theorem dX16_ofCode_28 : decode cX16_ofCode 28 = .ok (.iload_n 1, 1) := by decide +kernel
theorem dX16_plain_2 : decode cX16_plain 2 = .ok (.putfield 176, 3) := by decide +kernel
theorem dX16_plain_14 : decode cX16_plain 14 = .ok (.goto 10, 3) := by decide +kernel
theorem dX16_codeLine_5 : decode cX16_codeLine 5 = .ok (.iconst 1, 1) := by decide +kernel
theorem dX16_codeLine_14 : decode cX16_codeLine 14 = .ok (.ifCond .eq 8, 3) := by decide +kernel
theorem dX16_codeLine_26 : decode cX16_codeLine 26 = .ok (.ifnonnull 9, 3) := by decide +kernel
theorem dX16_houseTold_1 : decode cX16_houseTold 1 = .ok (.istore_n 2, 1) := by decide +kernel
theorem dX16_houseTold_10 : decode cX16_houseTold 10 = .ok (.aload_n 3, 1) := by decide +kernel
theorem dX16_houseTold_45 : decode cX16_houseTold 45 = .ok (.dup, 1) := by decide +kernel
theorem dX16_houseTold_54 : decode cX16_houseTold 54 = .ok (.iastore, 1) := by decide +kernel
theorem dX16_houseTold_61 : decode cX16_houseTold 61 = .ok (.iastore, 1) := by decide +kernel
theorem dX16_houseTold_68 : decode cX16_houseTold 68 = .ok (.iastore, 1) := by decide +kernel
theorem dX16_houseTold_75 : decode cX16_houseTold 75 = .ok (.invokevirtual 74, 3) := by decide +kernel
theorem dX16_houseTold_82 : decode cX16_houseTold 82 = .ok (.getfield 272, 3) := by decide +kernel
theorem dX16_houseTold_89 : decode cX16_houseTold 89 = .ok (.getfield 275, 3) := by decide +kernel
theorem dX16_houseTold_97 : decode cX16_houseTold 97 = .ok (.getfield 193, 3) := by decide +kernel
theorem dX16_houseTold_105 : decode cX16_houseTold 105 = .ok (.iastore, 1) := by decide +kernel
theorem dX16_houseTold_110 : decode cX16_houseTold 110 = .ok (.ireturn, 1) := by decide +kernel
theorem dX16_house_5 : decode cX16_house 5 = .ok (.invokestatic 183, 3) := by decide +kernel
theorem dX16_house_16 : decode cX16_house 16 = .ok (.iconst 1, 1) := by decide +kernel
theorem dX16_house_27 : decode cX16_house 27 = .ok (.aload_n 0, 1) := by decide +kernel
theorem dX16_fits_1 : decode cX16_fits 1 = .ok (.aload_n 0, 1) := by decide +kernel
theorem dX16_fits_10 : decode cX16_fits 10 = .ok (.ifCond .ne 26, 3) := by decide +kernel
theorem dX16_would_2 : decode cX16_would 2 = .ok (.iload_n 1, 1) := by decide +kernel
theorem dX16_would_46 : decode cX16_would 46 = .ok (.iconst 0, 1) := by decide +kernel
theorem dX16_narrowest_2 : decode cX16_narrowest 2 = .ok (.iload_n 1, 1) := by decide +kernel
theorem dX16_narrowest_13 : decode cX16_narrowest 13 = .ok (.iconst 0, 1) := by decide +kernel
theorem dX16_least__3 : decode cX16_least_ 3 = .ok (.invokevirtual 213, 3) := by decide +kernel
theorem dX16_least__58 : decode cX16_least_ 58 = .ok (.goto 19, 3) := by decide +kernel
theorem dX16_leastLine_3 : decode cX16_leastLine 3 = .ok (.invokevirtual 213, 3) := by decide +kernel
theorem dX16_leastLine_54 : decode cX16_leastLine 54 = .ok (.goto 22, 3) := by decide +kernel
theorem dX16_isWhole_5 : decode cX16_isWhole 5 = .ok (.invokevirtual 44, 3) := by decide +kernel
theorem dX16_isWhole_14 : decode cX16_isWhole 14 = .ok (.iload_n 1, 1) := by decide +kernel
theorem dX16_isWhole_290 : decode cX16_isWhole 290 = .ok (.iconst 1, 1) := by decide +kernel
theorem dX16_isSound_5 : decode cX16_isSound 5 = .ok (.aload_n 0, 1) := by decide +kernel
theorem dX16_add_4 : decode cX16_add 4 = .ok (.lmul, 1) := by decide +kernel
theorem dX16_digest_1 : decode cX16_digest 1 = .ok (.iconst 0, 1) := by decide +kernel
theorem dX16_digest_10 : decode cX16_digest 10 = .ok (.istore_n 3, 1) := by decide +kernel
theorem dX16_digest_18 : decode cX16_digest 18 = .ok (.aload_n 0, 1) := by decide +kernel
theorem dX16_digest_27 : decode cX16_digest 27 = .ok (.lstore_n 1, 1) := by decide +kernel
theorem dX16_digest_38 : decode cX16_digest 38 = .ok (.invokevirtual 44, 3) := by decide +kernel
theorem dX16_digest_45 : decode cX16_digest 45 = .ok (.ifCond .lt 156, 3) := by decide +kernel
theorem dX16_digest_279 : decode cX16_digest 279 = .ok (.lload_n 1, 1) := by decide +kernel
theorem dX16_digest_288 : decode cX16_digest 288 = .ok (.invokestatic 372, 3) := by decide +kernel
theorem dX16_digest_297 : decode cX16_digest 297 = .ok (.invokestatic 372, 3) := by decide +kernel
theorem dX16_digest_306 : decode cX16_digest 306 = .ok (.invokestatic 372, 3) := by decide +kernel
theorem dX16_digest_313 : decode cX16_digest 313 = .ok (.bipush 10, 2) := by decide +kernel
theorem dX16_digest_321 : decode cX16_digest 321 = .ok (.invokevirtual 341, 3) := by decide +kernel
theorem dX16_digest_332 : decode cX16_digest 332 = .ok (.goto (-20), 3) := by decide +kernel
theorem dX16_digest_395 : decode cX16_digest 395 = .ok (.aload_n 0, 1) := by decide +kernel
theorem dX16_digest_406 : decode cX16_digest 406 = .ok (.lreturn, 1) := by decide +kernel
theorem dJ5_init_d00df_10 : decode cJ5_init_d00df 10 = .ok (.aload_n 0, 1) := by decide +kernel
theorem dJ5_init_d00df_18 : decode cJ5_init_d00df 18 = .ok (.iconst 0, 1) := by decide +kernel
theorem dJ5_length_8abf5_1 : decode cJ5_length_8abf5 1 = .ok (.getfield 79, 3) := by decide +kernel
theorem dJ5_ensureCapacityInternal_d00df_5 : decode cJ5_ensureCapacityInternal_d00df 5 = .ok (.aload_n 0, 1) := by decide +kernel
theorem dJ5_ensureCapacityInternal_d00df_12 : decode cJ5_ensureCapacityInternal_d00df 12 = .ok (.iload_n 2, 1) := by decide +kernel
theorem dJ5_setLength_d00df_1 : decode cJ5_setLength_d00df 1 = .ok (.ifCond .ge 12, 3) := by decide +kernel
theorem dJ5_setLength_d00df_19 : decode cJ5_setLength_d00df 19 = .ok (.getfield 79, 3) := by decide +kernel
theorem dJ5_setLength_d00df_67 : decode cJ5_setLength_d00df 67 = .ok (.iload_n 1, 1) := by decide +kernel
theorem dJ5_setLength_d00df_81 : decode cJ5_setLength_d00df 81 = .ok (.return_, 1) := by decide +kernel
theorem dJ5_append_cf1ce_13 : decode cJ5_append_cf1ce 13 = .ok (.istore_n 2, 1) := by decide +kernel
theorem dJ5_append_cf1ce_20 : decode cJ5_append_cf1ce 20 = .ok (.iadd, 1) := by decide +kernel
theorem dJ5_append_cf1ce_29 : decode cJ5_append_cf1ce 29 = .ok (.aload_n 1, 1) := by decide +kernel
theorem dJ5_append_cf1ce_38 : decode cJ5_append_cf1ce 38 = .ok (.iload_n 2, 1) := by decide +kernel
theorem dJ5_append_3fe6f_0 : decode cJ5_append_3fe6f 0 = .ok (.aload_n 0, 1) := by decide +kernel
theorem dJ5_append_3fe6f_7 : decode cJ5_append_3fe6f 7 = .ok (.invokevirtual 100, 3) := by decide +kernel
theorem dJ5_append_3fe6f_18 : decode cJ5_append_3fe6f 18 = .ok (.invokestatic 191, 3) := by decide +kernel
theorem dJ5_append_3fe6f_29 : decode cJ5_append_3fe6f 29 = .ok (.dup, 1) := by decide +kernel
theorem dJ5_append_3fe6f_36 : decode cJ5_append_3fe6f 36 = .ok (.putfield 79, 3) := by decide +kernel
theorem dJ5_append_3fe6f_75 : decode cJ5_append_3fe6f 75 = .ok (.aload_n 0, 1) := by decide +kernel
theorem dJ5_isLatin1_aae02_0 : decode cJ5_isLatin1_aae02 0 = .ok (.getstatic 18, 3) := by decide +kernel
theorem dJ5_isLatin1_aae02_13 : decode cJ5_isLatin1_aae02 13 = .ok (.iconst 1, 1) := by decide +kernel
theorem dJ5_inflateIfNeededFor_a7421_6 : decode cJ5_inflateIfNeededFor_a7421 6 = .ok (.aload_n 0, 1) := by decide +kernel
theorem dJ5_inflateIfNeededFor_a7421_21 : decode cJ5_inflateIfNeededFor_a7421 21 = .ok (.return_, 1) := by decide +kernel
theorem dJ5_putStringAt_47b60_6 : decode cJ5_putStringAt_47b60 6 = .ok (.aload_n 0, 1) := by decide +kernel
theorem dJ5_putStringAt_47b60_15 : decode cJ5_putStringAt_47b60 15 = .ok (.invokevirtual 399, 3) := by decide +kernel
theorem dJ0_init_81219_3 : decode cJ0_init_81219 3 = .ok (.invokespecial 489, 3) := by decide +kernel
theorem dJ0_length_8abf5_5 : decode cJ0_length_8abf5 5 = .ok (.aload_n 0, 1) := by decide +kernel
theorem dJ0_isEmpty_aae02_1 : decode cJ0_isEmpty_aae02 1 = .ok (.getfield 9, 3) := by decide +kernel
theorem dJ0_isEmpty_aae02_12 : decode cJ0_isEmpty_aae02 12 = .ok (.iconst 0, 1) := by decide +kernel
theorem dJ0_charAt_5068e_7 : decode cJ0_charAt_5068e 7 = .ok (.aload_n 0, 1) := by decide +kernel
theorem dJ0_equals_9ea2d_0 : decode cJ0_equals_9ea2d 0 = .ok (.aload_n 0, 1) := by decide +kernel
theorem dJ0_equals_9ea2d_7 : decode cJ0_equals_9ea2d 7 = .ok (.aload_n 1, 1) := by decide +kernel
theorem dJ0_equals_9ea2d_18 : decode cJ0_equals_9ea2d 18 = .ok (.astore_n 2, 1) := by decide +kernel
theorem dJ0_equals_9ea2d_29 : decode cJ0_equals_9ea2d 29 = .ok (.aload_n 2, 1) := by decide +kernel
theorem dJ0_equals_9ea2d_40 : decode cJ0_equals_9ea2d 40 = .ok (.aload_n 2, 1) := by decide +kernel
theorem dJ0_equals_9ea2d_51 : decode cJ0_equals_9ea2d 51 = .ok (.goto 4, 3) := by decide +kernel
theorem dJ0_substring_37a41_5 : decode cJ0_substring_37a41 5 = .ok (.iload_n 1, 1) := by decide +kernel
theorem dJ0_substring_37a41_12 : decode cJ0_substring_37a41 12 = .ok (.ifCond .ne 10, 3) := by decide +kernel
theorem dJ0_substring_37a41_23 : decode cJ0_substring_37a41 23 = .ok (.iload_n 1, 1) := by decide +kernel
theorem dJ0_substring_37a41_31 : decode cJ0_substring_37a41 31 = .ok (.ifCond .eq 16, 3) := by decide +kernel
theorem dJ0_substring_37a41_41 : decode cJ0_substring_37a41 41 = .ok (.invokestatic 685, 3) := by decide +kernel
theorem dJ0_getBytes_840e7_4 : decode cJ0_getBytes_840e7 4 = .ok (.iload_n 3, 1) := by decide +kernel
theorem dJ0_getBytes_840e7_13 : decode cJ0_getBytes_840e7 13 = .ok (.aload_n 1, 1) := by decide +kernel
theorem dJ0_getBytes_840e7_18 : decode cJ0_getBytes_840e7 18 = .ok (.getfield 9, 3) := by decide +kernel
theorem dJ0_init_db425_0 : decode cJ0_init_db425 0 = .ok (.aload_n 0, 1) := by decide +kernel
theorem dJ0_init_db425_9 : decode cJ0_init_db425 9 = .ok (.aload_n 1, 1) := by decide +kernel
theorem dJ0_init_db425_19 : decode cJ0_init_db425 19 = .ok (.ifCond .eq 22, 3) := by decide +kernel
theorem dJ0_init_db425_28 : decode cJ0_init_db425 28 = .ok (.aload_n 3, 1) := by decide +kernel
theorem dJ0_init_db425_38 : decode cJ0_init_db425 38 = .ok (.goto 59, 3) := by decide +kernel
theorem dJ0_init_031fb_5 : decode cJ0_init_031fb 5 = .ok (.aload_n 1, 1) := by decide +kernel
theorem dJ0_init_031fb_14 : decode cJ0_init_031fb 14 = .ok (.return_, 1) := by decide +kernel
theorem dJ0_coder_7d493_10 : decode cJ0_coder_7d493 10 = .ok (.goto 4, 3) := by decide +kernel
theorem dJ0_isLatin1_aae02_7 : decode cJ0_isLatin1_aae02 7 = .ok (.getfield 15, 3) := by decide +kernel
theorem dJ0_checkIndex_df160_0 : decode cJ0_checkIndex_df160 0 = .ok (.iload_n 0, 1) := by decide +kernel
theorem dJ0_checkIndex_df160_9 : decode cJ0_checkIndex_df160 9 = .ok (.return_, 1) := by decide +kernel
theorem dJ0_checkBoundsBeginEnd_23922_6 : decode cJ0_checkBoundsBeginEnd_23922 6 = .ok (.invokestatic 1062, 3) := by decide +kernel
theorem dJ4_init_da8c8_3 : decode cJ4_init_da8c8 3 = .ok (.invokespecial 1, 3) := by decide +kernel
theorem dJ4_append_15ec4_5 : decode cJ4_append_15ec4 5 = .ok (.pop, 1) := by decide +kernel
theorem dJ4_append_cf468_2 : decode cJ4_append_cf468 2 = .ok (.invokespecial 50, 3) := by decide +kernel
theorem dJ4_toString_0e30d_3 : decode cJ4_toString_0e30d 3 = .ok (.dup, 1) := by decide +kernel
theorem dJ4_setLength_d00df_1 : decode cJ4_setLength_d00df 1 = .ok (.iload_n 1, 1) := by decide +kernel
theorem dJ4_length_8abf5_4 : decode cJ4_length_8abf5 4 = .ok (.ireturn, 1) := by decide +kernel
theorem dJ1_charAt_3b067_6 : decode cJ1_charAt_3b067 6 = .ok (.aload_n 0, 1) := by decide +kernel
theorem dJ1_charAt_3b067_13 : decode cJ1_charAt_3b067 13 = .ok (.i2c, 1) := by decide +kernel
theorem dJ1_canEncode_fc78d_7 : decode cJ1_canEncode_fc78d 7 = .ok (.iconst 1, 1) := by decide +kernel
theorem dJ1_equals_b5fdf_2 : decode cJ1_equals_b5fdf 2 = .ok (.aload_n 1, 1) := by decide +kernel
theorem dJ1_equals_b5fdf_9 : decode cJ1_equals_b5fdf 9 = .ok (.iload_n 2, 1) := by decide +kernel
theorem dJ1_equals_b5fdf_33 : decode cJ1_equals_b5fdf 33 = .ok (.ireturn, 1) := by decide +kernel
theorem dJ1_newString_b4f7a_7 : decode cJ1_newString_b4f7a 7 = .ok (.new 1, 3) := by decide +kernel
theorem dJ1_newString_b4f7a_14 : decode cJ1_newString_b4f7a 14 = .ok (.iload_n 2, 1) := by decide +kernel
theorem dJ1_newString_b4f7a_23 : decode cJ1_newString_b4f7a 23 = .ok (.areturn, 1) := by decide +kernel
theorem dJxc12de_init_da8c8_1 : decode cJxc12de_init_da8c8 1 = .ok (.invokespecial 1, 3) := by decide +kernel
theorem dJx35411_init_45d68_0 : decode cJx35411_init_45d68 0 = .ok (.aload_n 0, 1) := by decide +kernel
theorem dJx35411_init_45d68_9 : decode cJx35411_init_45d68 9 = .ok (.aload_n 0, 1) := by decide +kernel
theorem dJx35411_init_45d68_16 : decode cJx35411_init_45d68 16 = .ok (.getfield 1, 3) := by decide +kernel
theorem dJx35411_hasNext_aae02_1 : decode cJx35411_hasNext_aae02 1 = .ok (.getfield 25, 3) := by decide +kernel
theorem dJx35411_hasNext_aae02_18 : decode cJx35411_hasNext_aae02 18 = .ok (.iconst 0, 1) := by decide +kernel
theorem dJx4a65c_init_da8c8_5 : decode cJx4a65c_init_da8c8 5 = .ok (.getstatic 39, 3) := by decide +kernel
theorem dJx4a65c_grow_92f84_4 : decode cJx4a65c_grow_92f84 4 = .ok (.arraylength, 1) := by decide +kernel
theorem dJx4a65c_grow_92f84_11 : decode cJx4a65c_grow_92f84 11 = .ok (.getfield 9, 3) := by decide +kernel
theorem dJx4a65c_grow_92f84_48 : decode cJx4a65c_grow_92f84 48 = .ok (.iload_n 1, 1) := by decide +kernel
theorem dJx4a65c_grow_92f84_59 : decode cJx4a65c_grow_92f84 59 = .ok (.areturn, 1) := by decide +kernel
theorem dJx4a65c_grow_d5877_6 : decode cJx4a65c_grow_d5877 6 = .ok (.iadd, 1) := by decide +kernel
theorem dJx4a65c_size_8abf5_4 : decode cJx4a65c_size_8abf5 4 = .ok (.ireturn, 1) := by decide +kernel
theorem dJx4a65c_isEmpty_aae02_8 : decode cJx4a65c_isEmpty_aae02 8 = .ok (.goto 4, 3) := by decide +kernel
theorem dJx4a65c_add_72be8_3 : decode cJx4a65c_add_72be8 3 = .ok (.if_icmp .ne 8, 3) := by decide +kernel
theorem dJx4a65c_add_72be8_12 : decode cJx4a65c_add_72be8 12 = .ok (.iload_n 3, 1) := by decide +kernel
theorem dJx4a65c_add_72be8_17 : decode cJx4a65c_add_72be8 17 = .ok (.iconst 1, 1) := by decide +kernel
theorem dJx4a65c_add_9ea2d_1 : decode cJx4a65c_add_9ea2d 1 = .ok (.dup, 1) := by decide +kernel
theorem dJx4a65c_add_9ea2d_10 : decode cJx4a65c_add_9ea2d 10 = .ok (.aload_n 0, 1) := by decide +kernel
theorem dJx4a65c_add_9ea2d_17 : decode cJx4a65c_add_9ea2d 17 = .ok (.getfield 48, 3) := by decide +kernel
theorem dJx4a65c_iterator_32c93_3 : decode cJx4a65c_iterator_32c93 3 = .ok (.dup, 1) := by decide +kernel
theorem dJ7_checkLength_df160_1 : decode cJ7_checkLength_df160 1 = .ok (.iload_n 0, 1) := by decide +kernel
theorem dJ7_copyOfRange_39247_4 : decode cJ7_copyOfRange_39247 4 = .ok (.iload_n 2, 1) := by decide +kernel
theorem dJ7_copyOfRange_39247_11 : decode cJ7_copyOfRange_39247 11 = .ok (.iload_n 1, 1) := by decide +kernel
theorem dJ7_copyOfRangeByte_39247_1 : decode cJ7_copyOfRangeByte_39247 1 = .ok (.iload_n 2, 1) := by decide +kernel
theorem dJ7_copyOfRangeByte_39247_8 : decode cJ7_copyOfRangeByte_39247 8 = .ok (.istore_n 3, 1) := by decide +kernel
theorem dJ7_copyOfRangeByte_39247_15 : decode cJ7_copyOfRangeByte_39247 15 = .ok (.iload_n 1, 1) := by decide +kernel
theorem dJ7_copyOfRangeByte_39247_21 : decode cJ7_copyOfRangeByte_39247 21 = .ok (.iload_n 1, 1) := by decide +kernel
theorem dJ7_copyOfRangeByte_39247_30 : decode cJ7_copyOfRangeByte_39247 30 = .ok (.aload 4, 2) := by decide +kernel
theorem dJ3_checkIndex_8e157_5 : decode cJ3_checkIndex_8e157 5 = .ok (.iload_n 1, 1) := by decide +kernel
theorem dJ3_checkFromToIndex_8c36e_1 : decode cJ3_checkFromToIndex_8c36e 1 = .ok (.ifCond .lt 13, 3) := by decide +kernel
theorem dJ3_checkFromToIndex_8c36e_10 : decode cJ3_checkFromToIndex_8c36e 10 = .ok (.iload_n 2, 1) := by decide +kernel
theorem dL_word_1 : decode cL_word 1 = .ok (.aload_n 0, 1) := by decide +kernel
theorem dL_word_8 : decode cL_word 8 = .ok (.putfield 13, 3) := by decide +kernel
theorem dL_word_22 : decode cL_word 22 = .ok (.iconst 0, 1) := by decide +kernel
theorem dL_mark_3 : decode cL_mark 3 = .ok (.invokevirtual 23, 3) := by decide +kernel
theorem dL_mark_14 : decode cL_mark 14 = .ok (.iconst 1, 1) := by decide +kernel
theorem dL_join_1 : decode cL_join 1 = .ok (.aload_n 0, 1) := by decide +kernel
theorem dL_join_16 : decode cL_join 16 = .ok (.iconst 1, 1) := by decide +kernel
theorem dL_nest_3 : decode cL_nest 3 = .ok (.iload_n 2, 1) := by decide +kernel
theorem dL_align_0 : decode cL_align 0 = .ok (.aload_n 2, 1) := by decide +kernel
theorem dL_align_14 : decode cL_align 14 = .ok (.iconst 1, 1) := by decide +kernel
theorem dL_group_3 : decode cL_group 3 = .ok (.invokevirtual 38, 3) := by decide +kernel
theorem dL_fill_1 : decode cL_fill 1 = .ok (.aload_n 0, 1) := by decide +kernel
theorem dL_fill_16 : decode cL_fill 16 = .ok (.iconst 1, 1) := by decide +kernel
theorem dL_width_3 : decode cL_width 3 = .ok (.invokevirtual 44, 3) := by decide +kernel
theorem dL_width_14 : decode cL_width 14 = .ok (.iconst 1, 1) := by decide +kernel
theorem dL_ribbon_1 : decode cL_ribbon 1 = .ok (.aload_n 0, 1) := by decide +kernel
theorem dL_ribbon_10 : decode cL_ribbon 10 = .ok (.goto 6, 3) := by decide +kernel
theorem dL_ribbon_17 : decode cL_ribbon 17 = .ok (.ireturn, 1) := by decide +kernel
theorem dL_say_5 : decode cL_say 5 = .ok (.iload_n 3, 1) := by decide +kernel
theorem dL_say_15 : decode cL_say 15 = .ok (.i2l, 1) := by decide +kernel
theorem dL_say_25 : decode cL_say 25 = .ok (.ireturn, 1) := by decide +kernel
theorem dL_read_2 : decode cL_read 2 = .ok (.invokevirtual 54, 3) := by decide +kernel
theorem dL_read_16 : decode cL_read 16 = .ok (.ireturn, 1) := by decide +kernel
theorem dL_ofNode_4 : decode cL_ofNode 4 = .ok (.invokevirtual 58, 3) := by decide +kernel
theorem dL_flat_1 : decode cL_flat 1 = .ok (.aload_n 0, 1) := by decide +kernel
theorem dL_flat_14 : decode cL_flat 14 = .ok (.ireturn, 1) := by decide +kernel
theorem dL_line_4 : decode cL_line 4 = .ok (.invokevirtual 69, 3) := by decide +kernel
theorem dL_measure_1 : decode cL_measure 1 = .ok (.aload_n 0, 1) := by decide +kernel
theorem dL_measure_16 : decode cL_measure 16 = .ok (.iconst 1, 1) := by decide +kernel
theorem dL_at_4 : decode cL_at 4 = .ok (.iload_n 2, 1) := by decide +kernel
theorem dL_at_19 : decode cL_at 19 = .ok (.ireturn, 1) := by decide +kernel
theorem dL_where_5 : decode cL_where 5 = .ok (.iload_n 3, 1) := by decide +kernel
theorem dL_isOne_0 : decode cL_isOne 0 = .ok (.aload_n 3, 1) := by decide +kernel
theorem dL_isOne_14 : decode cL_isOne 14 = .ok (.astore 4, 2) := by decide +kernel
theorem dL_differ_3 : decode cL_differ 3 = .ok (.iload_n 1, 1) := by decide +kernel
theorem dL_differ_18 : decode cL_differ 18 = .ok (.iconst 1, 1) := by decide +kernel
theorem dL_ofCode_3 : decode cL_ofCode 3 = .ok (.invokevirtual 90, 3) := by decide +kernel
theorem dL_ofCode_14 : decode cL_ofCode 14 = .ok (.iconst 1, 1) := by decide +kernel
theorem dL_codeLine_1 : decode cL_codeLine 1 = .ok (.aload_n 0, 1) := by decide +kernel
theorem dL_codeLine_12 : decode cL_codeLine 12 = .ok (.astore_n 3, 1) := by decide +kernel
theorem dL_house_0 : decode cL_house 0 = .ok (.aload_n 2, 1) := by decide +kernel
theorem dL_house_7 : decode cL_house 7 = .ok (.putfield 13, 3) := by decide +kernel
theorem dL_house_16 : decode cL_house 16 = .ok (.iconst 0, 1) := by decide +kernel
theorem dL_fits_3 : decode cL_fits 3 = .ok (.iload_n 2, 1) := by decide +kernel
theorem dL_would_0 : decode cL_would 0 = .ok (.aload 4, 2) := by decide +kernel
theorem dL_would_6 : decode cL_would 6 = .ok (.invokevirtual 103, 3) := by decide +kernel
theorem dL_narrowest_1 : decode cL_narrowest 1 = .ok (.aload_n 0, 1) := by decide +kernel
theorem dL_narrowest_15 : decode cL_narrowest 15 = .ok (.ireturn, 1) := by decide +kernel
theorem dL_least_4 : decode cL_least 4 = .ok (.invokevirtual 109, 3) := by decide +kernel
theorem dL_leastLine_1 : decode cL_leastLine 1 = .ok (.aload_n 0, 1) := by decide +kernel
theorem dL_leastLine_15 : decode cL_leastLine 15 = .ok (.iconst 1, 1) := by decide +kernel
theorem dL_law_7 : decode cL_law 7 = .ok (.astore_n 1, 1) := by decide +kernel
theorem dL_law_16 : decode cL_law 16 = .ok (.new 14, 3) := by decide +kernel
theorem dL_law_25 : decode cL_law 25 = .ok (.istore 4, 2) := by decide +kernel
theorem dL_law_33 : decode cL_law 33 = .ok (.isub, 1) := by decide +kernel
theorem dL_law_41 : decode cL_law 41 = .ok (.bipush 63, 2) := by decide +kernel
theorem dL_law_206 : decode cL_law 206 = .ok (.iload 4, 2) := by decide +kernel
theorem dL_law_212 : decode cL_law 212 = .ok (.iload 4, 2) := by decide +kernel
theorem dL_law_218 : decode cL_law 218 = .ok (.invokestatic 120, 3) := by decide +kernel
theorem dL_law_227 : decode cL_law 227 = .ok (.iconst 1, 1) := by decide +kernel
theorem dL_law_233 : decode cL_law 233 = .ok (.iconst 2, 1) := by decide +kernel
theorem dL_law_241 : decode cL_law 241 = .ok (.aload_n 2, 1) := by decide +kernel
theorem dL_law_254 : decode cL_law 254 = .ok (.ifCond .ne 16, 3) := by decide +kernel
theorem dL_law_264 : decode cL_law 264 = .ok (.lcmp, 1) := by decide +kernel
theorem dL_law_275 : decode cL_law 275 = .ok (.iload 4, 2) := by decide +kernel
theorem dL_law_281 : decode cL_law 281 = .ok (.invokestatic 129, 3) := by decide +kernel
theorem dL_law_290 : decode cL_law 290 = .ok (.iconst 1, 1) := by decide +kernel
theorem dL_law_298 : decode cL_law 298 = .ok (.aload_n 2, 1) := by decide +kernel
theorem dL_law_311 : decode cL_law 311 = .ok (.ifCond .ne 16, 3) := by decide +kernel
theorem dL_law_321 : decode cL_law 321 = .ok (.lcmp, 1) := by decide +kernel
theorem dL_law_332 : decode cL_law 332 = .ok (.iload 4, 2) := by decide +kernel
theorem dL_law_338 : decode cL_law 338 = .ok (.iload 4, 2) := by decide +kernel
theorem dL_law_344 : decode cL_law 344 = .ok (.invokestatic 133, 3) := by decide +kernel
theorem dL_law_353 : decode cL_law 353 = .ok (.iconst 1, 1) := by decide +kernel
theorem dL_law_359 : decode cL_law 359 = .ok (.iconst 2, 1) := by decide +kernel
theorem dL_law_367 : decode cL_law 367 = .ok (.aload_n 2, 1) := by decide +kernel
theorem dL_law_380 : decode cL_law 380 = .ok (.ifCond .ne 16, 3) := by decide +kernel
theorem dL_law_403 : decode cL_law 403 = .ok (.iconst 1, 1) := by decide +kernel
theorem dL_law_409 : decode cL_law 409 = .ok (.iconst 2, 1) := by decide +kernel
theorem dL_law_416 : decode cL_law 416 = .ok (.istore 5, 2) := by decide +kernel
theorem dL_law_423 : decode cL_law 423 = .ok (.iadd, 1) := by decide +kernel
theorem dL_law_429 : decode cL_law 429 = .ok (.iadd, 1) := by decide +kernel
theorem dL_law_437 : decode cL_law 437 = .ok (.invokevirtual 126, 3) := by decide +kernel
theorem dL_law_465 : decode cL_law 465 = .ok (.goto 1751, 3) := by decide +kernel
theorem dL_law_473 : decode cL_law 473 = .ok (.iadd, 1) := by decide +kernel
theorem dL_law_481 : decode cL_law 481 = .ok (.aload_n 2, 1) := by decide +kernel
theorem dL_law_487 : decode cL_law 487 = .ok (.iaload, 1) := by decide +kernel
theorem dL_law_497 : decode cL_law 497 = .ok (.iload 5, 2) := by decide +kernel
theorem dL_law_525 : decode cL_law 525 = .ok (.aload_n 1, 1) := by decide +kernel
theorem dL_law_531 : decode cL_law 531 = .ok (.iaload, 1) := by decide +kernel
theorem dL_law_539 : decode cL_law 539 = .ok (.aload_n 0, 1) := by decide +kernel
theorem dL_law_545 : decode cL_law 545 = .ok (.invokevirtual 144, 3) := by decide +kernel
theorem dL_law_556 : decode cL_law 556 = .ok (.if_icmp .eq 5, 3) := by decide +kernel
theorem dL_law_583 : decode cL_law 583 = .ok (.aload_n 0, 1) := by decide +kernel
theorem dL_law_589 : decode cL_law 589 = .ok (.aload_n 0, 1) := by decide +kernel
theorem dL_law_595 : decode cL_law 595 = .ok (.aload_n 3, 1) := by decide +kernel
theorem dL_law_603 : decode cL_law 603 = .ok (.iload 4, 2) := by decide +kernel
theorem dL_law_609 : decode cL_law 609 = .ok (.iload 4, 2) := by decide +kernel
theorem dL_law_617 : decode cL_law 617 = .ok (.istore 6, 2) := by decide +kernel
theorem dL_law_630 : decode cL_law 630 = .ok (.iload 5, 2) := by decide +kernel
theorem dL_law_655 : decode cL_law 655 = .ok (.aload_n 2, 1) := by decide +kernel
theorem dL_law_666 : decode cL_law 666 = .ok (.iload 4, 2) := by decide +kernel
theorem dL_law_672 : decode cL_law 672 = .ok (.invokestatic 152, 3) := by decide +kernel
theorem dL_law_681 : decode cL_law 681 = .ok (.iconst 1, 1) := by decide +kernel
theorem dL_law_689 : decode cL_law 689 = .ok (.aload_n 2, 1) := by decide +kernel
theorem dL_law_702 : decode cL_law 702 = .ok (.ifCond .ne 16, 3) := by decide +kernel
theorem dL_law_712 : decode cL_law 712 = .ok (.lcmp, 1) := by decide +kernel
theorem dL_law_723 : decode cL_law 723 = .ok (.iload 4, 2) := by decide +kernel
theorem dL_law_729 : decode cL_law 729 = .ok (.invokestatic 155, 3) := by decide +kernel
theorem dL_law_738 : decode cL_law 738 = .ok (.iconst 1, 1) := by decide +kernel
theorem dL_law_746 : decode cL_law 746 = .ok (.aload_n 2, 1) := by decide +kernel
theorem dL_law_759 : decode cL_law 759 = .ok (.ifCond .ne 16, 3) := by decide +kernel
theorem dL_law_769 : decode cL_law 769 = .ok (.lcmp, 1) := by decide +kernel
theorem dL_law_780 : decode cL_law 780 = .ok (.iload 4, 2) := by decide +kernel
theorem dL_law_786 : decode cL_law 786 = .ok (.iload 4, 2) := by decide +kernel
theorem dL_law_792 : decode cL_law 792 = .ok (.iload 4, 2) := by decide +kernel
theorem dL_law_798 : decode cL_law 798 = .ok (.iload 4, 2) := by decide +kernel
theorem dL_law_804 : decode cL_law 804 = .ok (.iload 4, 2) := by decide +kernel
theorem dL_law_810 : decode cL_law 810 = .ok (.iload 4, 2) := by decide +kernel
theorem dL_law_817 : decode cL_law 817 = .ok (.invokestatic 158, 3) := by decide +kernel
theorem dL_law_826 : decode cL_law 826 = .ok (.iconst 1, 1) := by decide +kernel
theorem dL_law_832 : decode cL_law 832 = .ok (.iconst 2, 1) := by decide +kernel
theorem dL_law_838 : decode cL_law 838 = .ok (.iconst 3, 1) := by decide +kernel
theorem dL_law_844 : decode cL_law 844 = .ok (.iconst 4, 1) := by decide +kernel
theorem dL_law_850 : decode cL_law 850 = .ok (.iconst 5, 1) := by decide +kernel
theorem dL_law_856 : decode cL_law 856 = .ok (.bipush 6, 2) := by decide +kernel
theorem dL_law_865 : decode cL_law 865 = .ok (.aload_n 2, 1) := by decide +kernel
theorem dL_law_878 : decode cL_law 878 = .ok (.ifCond .ne 16, 3) := by decide +kernel
theorem dL_law_888 : decode cL_law 888 = .ok (.lcmp, 1) := by decide +kernel
theorem dL_law_899 : decode cL_law 899 = .ok (.invokestatic 162, 3) := by decide +kernel
theorem dL_law_910 : decode cL_law 910 = .ok (.aload_n 2, 1) := by decide +kernel
theorem dL_law_923 : decode cL_law 923 = .ok (.ifCond .ne 16, 3) := by decide +kernel
theorem dL_law_933 : decode cL_law 933 = .ok (.lcmp, 1) := by decide +kernel
theorem dL_law_946 : decode cL_law 946 = .ok (.aload_n 2, 1) := by decide +kernel
theorem dL_law_959 : decode cL_law 959 = .ok (.aload_n 2, 1) := by decide +kernel
theorem dL_law_972 : decode cL_law 972 = .ok (.aload_n 2, 1) := by decide +kernel
theorem dL_law_983 : decode cL_law 983 = .ok (.iload 4, 2) := by decide +kernel
theorem dL_law_989 : decode cL_law 989 = .ok (.iload 4, 2) := by decide +kernel
theorem dL_law_995 : decode cL_law 995 = .ok (.invokestatic 178, 3) := by decide +kernel
theorem dL_law_1004 : decode cL_law 1004 = .ok (.iconst 1, 1) := by decide +kernel
theorem dL_law_1010 : decode cL_law 1010 = .ok (.iconst 2, 1) := by decide +kernel
theorem dL_law_1018 : decode cL_law 1018 = .ok (.aload_n 2, 1) := by decide +kernel
theorem dL_law_1031 : decode cL_law 1031 = .ok (.ifCond .ne 16, 3) := by decide +kernel
theorem dL_law_1054 : decode cL_law 1054 = .ok (.iconst 1, 1) := by decide +kernel
theorem dL_law_1061 : decode cL_law 1061 = .ok (.istore 5, 2) := by decide +kernel
theorem dL_law_1068 : decode cL_law 1068 = .ok (.iadd, 1) := by decide +kernel
theorem dL_law_1076 : decode cL_law 1076 = .ok (.invokevirtual 126, 3) := by decide +kernel
theorem dL_law_1105 : decode cL_law 1105 = .ok (.goto 1111, 3) := by decide +kernel
theorem dL_law_1113 : decode cL_law 1113 = .ok (.iadd, 1) := by decide +kernel
theorem dL_law_1119 : decode cL_law 1119 = .ok (.iadd, 1) := by decide +kernel
theorem dL_law_1127 : decode cL_law 1127 = .ok (.aload_n 2, 1) := by decide +kernel
theorem dL_law_1133 : decode cL_law 1133 = .ok (.iaload, 1) := by decide +kernel
theorem dL_law_1139 : decode cL_law 1139 = .ok (.iaload, 1) := by decide +kernel
theorem dL_law_1149 : decode cL_law 1149 = .ok (.iload 5, 2) := by decide +kernel
theorem dL_law_1178 : decode cL_law 1178 = .ok (.aload_n 1, 1) := by decide +kernel
theorem dL_law_1184 : decode cL_law 1184 = .ok (.iaload, 1) := by decide +kernel
theorem dL_law_1190 : decode cL_law 1190 = .ok (.iaload, 1) := by decide +kernel
theorem dL_law_1198 : decode cL_law 1198 = .ok (.aload_n 0, 1) := by decide +kernel
theorem dL_law_1204 : decode cL_law 1204 = .ok (.aload_n 0, 1) := by decide +kernel
theorem dL_law_1210 : decode cL_law 1210 = .ok (.invokevirtual 195, 3) := by decide +kernel
theorem dL_law_1221 : decode cL_law 1221 = .ok (.if_icmp .eq 5, 3) := by decide +kernel
theorem dL_law_1248 : decode cL_law 1248 = .ok (.aload_n 0, 1) := by decide +kernel
theorem dL_law_1254 : decode cL_law 1254 = .ok (.aload_n 0, 1) := by decide +kernel
theorem dL_law_1260 : decode cL_law 1260 = .ok (.aload_n 0, 1) := by decide +kernel
theorem dL_law_1266 : decode cL_law 1266 = .ok (.aload_n 3, 1) := by decide +kernel
theorem dL_law_1274 : decode cL_law 1274 = .ok (.iload 4, 2) := by decide +kernel
theorem dL_law_1280 : decode cL_law 1280 = .ok (.iload 4, 2) := by decide +kernel
theorem dL_law_1286 : decode cL_law 1286 = .ok (.iload 4, 2) := by decide +kernel
theorem dL_law_1294 : decode cL_law 1294 = .ok (.istore 6, 2) := by decide +kernel
theorem dL_law_1307 : decode cL_law 1307 = .ok (.iload 5, 2) := by decide +kernel
theorem dL_law_1330 : decode cL_law 1330 = .ok (.iload 4, 2) := by decide +kernel
theorem dL_law_1336 : decode cL_law 1336 = .ok (.iload 4, 2) := by decide +kernel
theorem dL_law_1342 : decode cL_law 1342 = .ok (.iload 4, 2) := by decide +kernel
theorem dL_law_1350 : decode cL_law 1350 = .ok (.iconst 1, 1) := by decide +kernel
theorem dL_law_1359 : decode cL_law 1359 = .ok (.istore 5, 2) := by decide +kernel
theorem dL_law_1366 : decode cL_law 1366 = .ok (.iadd, 1) := by decide +kernel
theorem dL_law_1372 : decode cL_law 1372 = .ok (.iadd, 1) := by decide +kernel
theorem dL_law_1378 : decode cL_law 1378 = .ok (.iadd, 1) := by decide +kernel
theorem dL_law_1387 : decode cL_law 1387 = .ok (.iconst 0, 1) := by decide +kernel
theorem dL_law_1397 : decode cL_law 1397 = .ok (.iload 5, 2) := by decide +kernel
theorem dL_law_1425 : decode cL_law 1425 = .ok (.aload_n 1, 1) := by decide +kernel
theorem dL_law_1431 : decode cL_law 1431 = .ok (.iaload, 1) := by decide +kernel
theorem dL_law_1437 : decode cL_law 1437 = .ok (.iaload, 1) := by decide +kernel
theorem dL_law_1445 : decode cL_law 1445 = .ok (.aload_n 0, 1) := by decide +kernel
theorem dL_law_1451 : decode cL_law 1451 = .ok (.aload_n 0, 1) := by decide +kernel
theorem dL_law_1457 : decode cL_law 1457 = .ok (.invokevirtual 206, 3) := by decide +kernel
theorem dL_law_1468 : decode cL_law 1468 = .ok (.if_icmp .eq 5, 3) := by decide +kernel
theorem dL_law_1495 : decode cL_law 1495 = .ok (.aload_n 0, 1) := by decide +kernel
theorem dL_law_1501 : decode cL_law 1501 = .ok (.aload_n 0, 1) := by decide +kernel
theorem dL_law_1507 : decode cL_law 1507 = .ok (.aload_n 0, 1) := by decide +kernel
theorem dL_law_1513 : decode cL_law 1513 = .ok (.ifCond .eq 7, 3) := by decide +kernel
theorem dL_law_1522 : decode cL_law 1522 = .ok (.invokestatic 207, 3) := by decide +kernel
theorem dL_law_1531 : decode cL_law 1531 = .ok (.iconst 1, 1) := by decide +kernel
theorem dL_law_1537 : decode cL_law 1537 = .ok (.iconst 2, 1) := by decide +kernel
theorem dL_law_1543 : decode cL_law 1543 = .ok (.iconst 3, 1) := by decide +kernel
theorem dL_law_1550 : decode cL_law 1550 = .ok (.goto 4, 3) := by decide +kernel
theorem dL_law_1560 : decode cL_law 1560 = .ok (.invokevirtual 126, 3) := by decide +kernel
theorem dL_law_1588 : decode cL_law 1588 = .ok (.goto 628, 3) := by decide +kernel
theorem dL_law_1599 : decode cL_law 1599 = .ok (.invokevirtual 184, 3) := by decide +kernel
theorem dL_law_1611 : decode cL_law 1611 = .ok (.iconst 1, 1) := by decide +kernel
theorem dL_law_1618 : decode cL_law 1618 = .ok (.goto 4, 3) := by decide +kernel
theorem dL_law_1627 : decode cL_law 1627 = .ok (.iload 4, 2) := by decide +kernel
theorem dL_law_1635 : decode cL_law 1635 = .ok (.iconst 1, 1) := by decide +kernel
theorem dL_law_1648 : decode cL_law 1648 = .ok (.aload_n 1, 1) := by decide +kernel
theorem dL_law_1654 : decode cL_law 1654 = .ok (.iaload, 1) := by decide +kernel
theorem dL_law_1662 : decode cL_law 1662 = .ok (.aload_n 0, 1) := by decide +kernel
theorem dL_law_1668 : decode cL_law 1668 = .ok (.invokevirtual 222, 3) := by decide +kernel
theorem dL_law_1679 : decode cL_law 1679 = .ok (.if_icmp .eq 5, 3) := by decide +kernel
theorem dL_law_1693 : decode cL_law 1693 = .ok (.iload 6, 2) := by decide +kernel
theorem dL_law_1705 : decode cL_law 1705 = .ok (.aload_n 1, 1) := by decide +kernel
theorem dL_law_1716 : decode cL_law 1716 = .ok (.ifCond .ne 500, 3) := by decide +kernel
theorem dL_law_1726 : decode cL_law 1726 = .ok (.iadd, 1) := by decide +kernel
theorem dL_law_1734 : decode cL_law 1734 = .ok (.aload_n 2, 1) := by decide +kernel
theorem dL_law_1740 : decode cL_law 1740 = .ok (.iaload, 1) := by decide +kernel
theorem dL_law_1750 : decode cL_law 1750 = .ok (.iload 5, 2) := by decide +kernel
theorem dL_law_1763 : decode cL_law 1763 = .ok (.getfield 65, 3) := by decide +kernel
theorem dL_law_1779 : decode cL_law 1779 = .ok (.aload_n 1, 1) := by decide +kernel
theorem dL_law_1785 : decode cL_law 1785 = .ok (.iaload, 1) := by decide +kernel
theorem dL_law_1793 : decode cL_law 1793 = .ok (.aload_n 0, 1) := by decide +kernel
theorem dL_law_1799 : decode cL_law 1799 = .ok (.invokevirtual 232, 3) := by decide +kernel
theorem dL_law_1810 : decode cL_law 1810 = .ok (.if_icmp .eq 5, 3) := by decide +kernel
theorem dL_law_1824 : decode cL_law 1824 = .ok (.iload 6, 2) := by decide +kernel
theorem dL_law_1836 : decode cL_law 1836 = .ok (.aload_n 1, 1) := by decide +kernel
theorem dL_law_1842 : decode cL_law 1842 = .ok (.iaload, 1) := by decide +kernel
theorem dL_law_1848 : decode cL_law 1848 = .ok (.iaload, 1) := by decide +kernel
theorem dL_law_1856 : decode cL_law 1856 = .ok (.aload_n 0, 1) := by decide +kernel
theorem dL_law_1862 : decode cL_law 1862 = .ok (.aload_n 0, 1) := by decide +kernel
theorem dL_law_1868 : decode cL_law 1868 = .ok (.invokevirtual 235, 3) := by decide +kernel
theorem dL_law_1879 : decode cL_law 1879 = .ok (.if_icmp .eq 5, 3) := by decide +kernel
theorem dL_law_1913 : decode cL_law 1913 = .ok (.aload_n 0, 1) := by decide +kernel
theorem dL_law_1919 : decode cL_law 1919 = .ok (.aload_n 0, 1) := by decide +kernel
theorem dL_law_1925 : decode cL_law 1925 = .ok (.aload_n 0, 1) := by decide +kernel
theorem dL_law_1931 : decode cL_law 1931 = .ok (.aload_n 3, 1) := by decide +kernel
theorem dL_law_1939 : decode cL_law 1939 = .ok (.iload 4, 2) := by decide +kernel
theorem dL_law_1945 : decode cL_law 1945 = .ok (.iload 4, 2) := by decide +kernel
theorem dL_law_1951 : decode cL_law 1951 = .ok (.iload 4, 2) := by decide +kernel
theorem dL_law_1959 : decode cL_law 1959 = .ok (.istore 6, 2) := by decide +kernel
theorem dL_law_1972 : decode cL_law 1972 = .ok (.iload 5, 2) := by decide +kernel
theorem dL_law_1995 : decode cL_law 1995 = .ok (.iload 4, 2) := by decide +kernel
theorem dL_law_2001 : decode cL_law 2001 = .ok (.invokestatic 239, 3) := by decide +kernel
theorem dL_law_2010 : decode cL_law 2010 = .ok (.iconst 1, 1) := by decide +kernel
theorem dL_law_2018 : decode cL_law 2018 = .ok (.aload_n 2, 1) := by decide +kernel
theorem dL_law_2031 : decode cL_law 2031 = .ok (.ifCond .ne 16, 3) := by decide +kernel
theorem dL_law_2054 : decode cL_law 2054 = .ok (.iconst 1, 1) := by decide +kernel
theorem dL_law_2060 : decode cL_law 2060 = .ok (.iconst 2, 1) := by decide +kernel
theorem dL_law_2067 : decode cL_law 2067 = .ok (.istore 5, 2) := by decide +kernel
theorem dL_law_2074 : decode cL_law 2074 = .ok (.iadd, 1) := by decide +kernel
theorem dL_law_2080 : decode cL_law 2080 = .ok (.iadd, 1) := by decide +kernel
theorem dL_law_2088 : decode cL_law 2088 = .ok (.invokevirtual 126, 3) := by decide +kernel
theorem dL_law_2116 : decode cL_law 2116 = .ok (.goto 100, 3) := by decide +kernel
theorem dL_law_2124 : decode cL_law 2124 = .ok (.iadd, 1) := by decide +kernel
theorem dL_law_2130 : decode cL_law 2130 = .ok (.iadd, 1) := by decide +kernel
theorem dL_law_2138 : decode cL_law 2138 = .ok (.aload_n 2, 1) := by decide +kernel
theorem dL_law_2144 : decode cL_law 2144 = .ok (.iaload, 1) := by decide +kernel
theorem dL_law_2150 : decode cL_law 2150 = .ok (.iaload, 1) := by decide +kernel
theorem dL_law_2160 : decode cL_law 2160 = .ok (.iload 5, 2) := by decide +kernel
theorem dL_law_2189 : decode cL_law 2189 = .ok (.aload_n 1, 1) := by decide +kernel
theorem dL_law_2202 : decode cL_law 2202 = .ok (.aload_n 1, 1) := by decide +kernel
theorem dL_law_2211 : decode cL_law 2211 = .ok (.ifCond .eq 5, 3) := by decide +kernel

theorem nmX0 : ∀ a, a < 11 → ∀ b, b < 11 → a ≠ b → (TX0 a).2.1 ≠ (TX0 b).2.1 := by decide +kernel
theorem tyX0_ok : ∀ k, k < 11 → parseFieldDescriptor (TX0 k).2.2.1 = some (tyX0 k) := by decide +kernel
theorem nmX1 : ∀ a, a < 3 → ∀ b, b < 3 → a ≠ b → (TX1 a).2.1 ≠ (TX1 b).2.1 := by decide +kernel
theorem tyX1_ok : ∀ k, k < 3 → parseFieldDescriptor (TX1 k).2.2.1 = some (tyX1 k) := by decide +kernel
theorem nmX2 : ∀ a, a < 18 → ∀ b, b < 18 → a ≠ b → (TX2 a).2.1 ≠ (TX2 b).2.1 := by decide +kernel
theorem tyX2_ok : ∀ k, k < 18 → parseFieldDescriptor (TX2 k).2.2.1 = some (tyX2 k) := by decide +kernel
theorem nmX3 : ∀ a, a < 9 → ∀ b, b < 9 → a ≠ b → (TX3 a).2.1 ≠ (TX3 b).2.1 := by decide +kernel
theorem tyX3_ok : ∀ k, k < 9 → parseFieldDescriptor (TX3 k).2.2.1 = some (tyX3 k) := by decide +kernel
theorem nmX4 : ∀ a, a < 2 → ∀ b, b < 2 → a ≠ b → (TX4 a).2.1 ≠ (TX4 b).2.1 := by decide +kernel
theorem tyX4_ok : ∀ k, k < 2 → parseFieldDescriptor (TX4 k).2.2.1 = some (tyX4 k) := by decide +kernel
theorem nmX5 : ∀ a, a < 10 → ∀ b, b < 10 → a ≠ b → (TX5 a).2.1 ≠ (TX5 b).2.1 := by decide +kernel
theorem tyX5_ok : ∀ k, k < 10 → parseFieldDescriptor (TX5 k).2.2.1 = some (tyX5 k) := by decide +kernel
theorem nmX6 : ∀ a, a < 5 → ∀ b, b < 5 → a ≠ b → (TX6 a).2.1 ≠ (TX6 b).2.1 := by decide +kernel
theorem tyX6_ok : ∀ k, k < 5 → parseFieldDescriptor (TX6 k).2.2.1 = some (tyX6 k) := by decide +kernel
theorem nmX7 : ∀ a, a < 10 → ∀ b, b < 10 → a ≠ b → (TX7 a).2.1 ≠ (TX7 b).2.1 := by decide +kernel
theorem tyX7_ok : ∀ k, k < 10 → parseFieldDescriptor (TX7 k).2.2.1 = some (tyX7 k) := by decide +kernel
theorem nmX8 : ∀ a, a < 3 → ∀ b, b < 3 → a ≠ b → (TX8 a).2.1 ≠ (TX8 b).2.1 := by decide +kernel
theorem tyX8_ok : ∀ k, k < 3 → parseFieldDescriptor (TX8 k).2.2.1 = some (tyX8 k) := by decide +kernel
theorem nmX9 : ∀ a, a < 16 → ∀ b, b < 16 → a ≠ b → (TX9 a).2.1 ≠ (TX9 b).2.1 := by decide +kernel
theorem tyX9_ok : ∀ k, k < 16 → parseFieldDescriptor (TX9 k).2.2.1 = some (tyX9 k) := by decide +kernel
theorem nmX10 : ∀ a, a < 2 → ∀ b, b < 2 → a ≠ b → (TX10 a).2.1 ≠ (TX10 b).2.1 := by decide +kernel
theorem tyX10_ok : ∀ k, k < 2 → parseFieldDescriptor (TX10 k).2.2.1 = some (tyX10 k) := by decide +kernel
theorem nmX11 : ∀ a, a < 4 → ∀ b, b < 4 → a ≠ b → (TX11 a).2.1 ≠ (TX11 b).2.1 := by decide +kernel
theorem tyX11_ok : ∀ k, k < 4 → parseFieldDescriptor (TX11 k).2.2.1 = some (tyX11 k) := by decide +kernel
theorem nmX13 : ∀ a, a < 2 → ∀ b, b < 2 → a ≠ b → (TX13 a).2.1 ≠ (TX13 b).2.1 := by decide +kernel
theorem tyX13_ok : ∀ k, k < 2 → parseFieldDescriptor (TX13 k).2.2.1 = some (tyX13 k) := by decide +kernel
theorem nmX16 : ∀ a, a < 9 → ∀ b, b < 9 → a ≠ b → (TX16 a).2.1 ≠ (TX16 b).2.1 := by decide +kernel
theorem tyX16_ok : ∀ k, k < 9 → parseFieldDescriptor (TX16 k).2.2.1 = some (tyX16 k) := by decide +kernel
theorem nmJ0 : ∀ a, a < 4 → ∀ b, b < 4 → a ≠ b → (TJ0 a).2.1 ≠ (TJ0 b).2.1 := by decide +kernel
theorem tyJ0_ok : ∀ k, k < 4 → parseFieldDescriptor (TJ0 k).2.2.1 = some (tyJ0 k) := by decide +kernel
theorem nmJ4 : ∀ a, a < 4 → ∀ b, b < 4 → a ≠ b → (TJ4 a).2.1 ≠ (TJ4 b).2.1 := by decide +kernel
theorem tyJ4_ok : ∀ k, k < 4 → parseFieldDescriptor (TJ4 k).2.2.1 = some (tyJ4 k) := by decide +kernel
theorem nmJx35411 : ∀ a, a < 4 → ∀ b, b < 4 → a ≠ b → (TJx35411 a).2.1 ≠ (TJx35411 b).2.1 := by decide +kernel
theorem tyJx35411_ok : ∀ k, k < 4 → parseFieldDescriptor (TJx35411 k).2.2.1 = some (tyJx35411 k) := by decide +kernel
theorem nmJx4a65c : ∀ a, a < 3 → ∀ b, b < 3 → a ≠ b → (TJx4a65c a).2.1 ≠ (TJx4a65c b).2.1 := by decide +kernel
theorem tyJx4a65c_ok : ∀ k, k < 3 → parseFieldDescriptor (TJx4a65c k).2.2.1 = some (tyJx4a65c k) := by decide +kernel
