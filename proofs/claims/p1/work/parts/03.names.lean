def RX0 : String := "Nestprint$CodeReader"
def TX0 : u_T := fun k => match k with
  | 0 => ("Nestprint$CodeReader", "owners", "LNestprint$Row;", true)
  | 1 => ("Nestprint$CodeReader", "nameStarts", "LNestprint$Row;", true)
  | 2 => ("Nestprint$CodeReader", "nameLengths", "LNestprint$Row;", true)
  | 3 => ("Nestprint$CodeReader", "itemStarts", "LNestprint$Row;", true)
  | 4 => ("Nestprint$CodeReader", "sumStarts", "LNestprint$Row;", true)
  | 5 => ("Nestprint$CodeReader", "productStarts", "LNestprint$Row;", true)
  | 6 => ("Nestprint$CodeReader", "items", "LNestprint$Row;", true)
  | 7 => ("Nestprint$CodeReader", "state", "I", false)
  | 8 => ("Nestprint$CodeReader", "nameStart", "I", false)
  | 9 => ("Nestprint$CodeReader", "sumStart", "I", false)
  | _ => ("Nestprint$CodeReader", "productStart", "I", false)
def tyX0 : Nat → FieldType := fun k => match k with
  | 0 => .object "Nestprint$Row"
  | 1 => .object "Nestprint$Row"
  | 2 => .object "Nestprint$Row"
  | 3 => .object "Nestprint$Row"
  | 4 => .object "Nestprint$Row"
  | 5 => .object "Nestprint$Row"
  | 6 => .object "Nestprint$Row"
  | 7 => .int
  | 8 => .int
  | 9 => .int
  | _ => .int
abbrev wsX00 : List Cond := u_ws RX0 TX0 11
theorem nmX0 : ∀ a, a < 11 → ∀ b, b < 11 → a ≠ b → (TX0 a).2.1 ≠ (TX0 b).2.1 := by decide +kernel
theorem tyX0_ok : ∀ k, k < 11 → parseFieldDescriptor (TX0 k).2.2.1 = some (tyX0 k) := by decide +kernel
abbrev cX0_init : ByteArray := prog_2_method_1_code
def yX0_init : MethodName := ⟨RX0, "<init>", "()V"⟩
def RX1 : String := "Nestprint$DocumentReader"
def TX1 : u_T := fun k => match k with
  | 0 => ("Nestprint$DocumentReader", "owners", "LNestprint$Row;", true)
  | 1 => ("Nestprint$DocumentReader", "itemStarts", "LNestprint$Row;", true)
  | _ => ("Nestprint$DocumentReader", "items", "LNestprint$Row;", true)
def tyX1 : Nat → FieldType := fun k => match k with
  | 0 => .object "Nestprint$Row"
  | 1 => .object "Nestprint$Row"
  | _ => .object "Nestprint$Row"
abbrev wsX10 : List Cond := u_ws RX1 TX1 3
theorem nmX1 : ∀ a, a < 3 → ∀ b, b < 3 → a ≠ b → (TX1 a).2.1 ≠ (TX1 b).2.1 := by decide +kernel
theorem tyX1_ok : ∀ k, k < 3 → parseFieldDescriptor (TX1 k).2.2.1 = some (tyX1 k) := by decide +kernel
abbrev cX1_init : ByteArray := prog_3_method_1_code
def yX1_init : MethodName := ⟨RX1, "<init>", "()V"⟩
def RX2 : String := "Nestprint$Layout"
def TX2 : u_T := fun k => match k with
  | 0 => ("Nestprint$Layout", "script", "LNestprint$Script;", true)
  | 1 => ("Nestprint$Layout", "wishes", "LNestprint$Wishes;", true)
  | 2 => ("Nestprint$Layout", "columns", "LNestprint$Row;", true)
  | 3 => ("Nestprint$Layout", "ones", "LNestprint$Row;", true)
  | 4 => ("Nestprint$Layout", "firsts", "LNestprint$Row;", true)
  | 5 => ("Nestprint$Layout", "indents", "LNestprint$Row;", true)
  | 6 => ("Nestprint$Layout", "lengths", "LNestprint$Row;", true)
  | 7 => ("Nestprint$Layout", "held", "LNestprint$Row;", true)
  | 8 => ("Nestprint$Layout", "ink", "LNestprint$Row;", true)
  | 9 => ("Nestprint$Layout", "width", "I", false)
  | 10 => ("Nestprint$Layout", "ribbon", "I", false)
  | 11 => ("Nestprint$Layout", "way", "I", false)
  | 12 => ("Nestprint$Layout", "right", "I", false)
  | 13 => ("Nestprint$Layout", "column", "I", false)
  | 14 => ("Nestprint$Layout", "indent", "I", false)
  | 15 => ("Nestprint$Layout", "cost", "I", false)
  | 16 => ("Nestprint$Layout", "flatEnd", "I", false)
  | _ => ("Nestprint$Layout", "marksAround", "I", false)
def RX3 : String := "Nestprint$Nodes"
def TX3 : u_T := fun k => match k with
  | 0 => ("Nestprint$Nodes", "numbers", "LNestprint$Row;", true)
  | 1 => ("Nestprint$Nodes", "kinds", "LNestprint$Row;", true)
  | 2 => ("Nestprint$Nodes", "starts", "LNestprint$Row;", true)
  | 3 => ("Nestprint$Nodes", "counts", "LNestprint$Row;", true)
  | 4 => ("Nestprint$Nodes", "bys", "LNestprint$Row;", true)
  | 5 => ("Nestprint$Nodes", "weights", "LNestprint$Row;", true)
  | 6 => ("Nestprint$Nodes", "depths", "LNestprint$Row;", true)
  | 7 => ("Nestprint$Nodes", "parts", "LNestprint$Row;", true)
  | _ => ("Nestprint$Nodes", "signs", "LNestprint$Row;", true)
def tyX3 : Nat → FieldType := fun k => match k with
  | 0 => .object "Nestprint$Row"
  | 1 => .object "Nestprint$Row"
  | 2 => .object "Nestprint$Row"
  | 3 => .object "Nestprint$Row"
  | 4 => .object "Nestprint$Row"
  | 5 => .object "Nestprint$Row"
  | 6 => .object "Nestprint$Row"
  | 7 => .object "Nestprint$Row"
  | _ => .object "Nestprint$Row"
abbrev wsX30 : List Cond := u_ws RX3 TX3 9
theorem nmX3 : ∀ a, a < 9 → ∀ b, b < 9 → a ≠ b → (TX3 a).2.1 ≠ (TX3 b).2.1 := by decide +kernel
theorem tyX3_ok : ∀ k, k < 9 → parseFieldDescriptor (TX3 k).2.2.1 = some (tyX3 k) := by decide +kernel
abbrev cX3_init : ByteArray := prog_5_method_1_code
def yX3_init : MethodName := ⟨RX3, "<init>", "()V"⟩
def RX4 : String := "Nestprint$Row"
def TX4 : u_T := fun k => match k with
  | 0 => ("Nestprint$Row", "cells", "[I", true)
  | _ => ("Nestprint$Row", "size", "I", false)
def tyX4 : Nat → FieldType := fun k => match k with
  | 0 => .array .int
  | _ => .int
abbrev wsX40 : List Cond := u_ws RX4 TX4 2
theorem nmX4 : ∀ a, a < 2 → ∀ b, b < 2 → a ≠ b → (TX4 a).2.1 ≠ (TX4 b).2.1 := by decide +kernel
theorem tyX4_ok : ∀ k, k < 2 → parseFieldDescriptor (TX4 k).2.2.1 = some (tyX4 k) := by decide +kernel
abbrev cX4_init : ByteArray := prog_6_method_1_code
def yX4_init : MethodName := ⟨RX4, "<init>", "(I)V"⟩
def RX5 : String := "Nestprint$Script"
def TX5 : u_T := fun k => match k with
  | 0 => ("Nestprint$Script", "kinds", "LNestprint$Row;", true)
  | 1 => ("Nestprint$Script", "starts", "LNestprint$Row;", true)
  | 2 => ("Nestprint$Script", "lengths", "LNestprint$Row;", true)
  | 3 => ("Nestprint$Script", "ends", "LNestprint$Row;", true)
  | 4 => ("Nestprint$Script", "opened", "LNestprint$Row;", true)
  | 5 => ("Nestprint$Script", "flats", "LNestprint$Row;", true)
  | 6 => ("Nestprint$Script", "hards", "LNestprint$Row;", true)
  | 7 => ("Nestprint$Script", "marks", "LNestprint$Row;", true)
  | 8 => ("Nestprint$Script", "runs", "LNestprint$Row;", true)
  | _ => ("Nestprint$Script", "signs", "LNestprint$Row;", false)
def RX6 : String := "Nestprint$Sound"
def TX6 : u_T := fun k => match k with
  | 0 => ("Nestprint$Sound", "nodes", "LNestprint$Nodes;", true)
  | 1 => ("Nestprint$Sound", "coder", "LNestprint$CodeReader;", true)
  | 2 => ("Nestprint$Sound", "bench", "LNestprint$Layout;", true)
  | 3 => ("Nestprint$Sound", "other", "LNestprint$Layout;", true)
  | _ => ("Nestprint$Sound", "gathered", "LNestprint$Row;", true)
def RX7 : String := "Nestprint$Tree"
def TX7 : u_T := fun k => match k with
  | 0 => ("Nestprint$Tree", "kinds", "LNestprint$Row;", true)
  | 1 => ("Nestprint$Tree", "starts", "LNestprint$Row;", true)
  | 2 => ("Nestprint$Tree", "lengths", "LNestprint$Row;", true)
  | 3 => ("Nestprint$Tree", "firsts", "LNestprint$Row;", true)
  | 4 => ("Nestprint$Tree", "counts", "LNestprint$Row;", true)
  | 5 => ("Nestprint$Tree", "depths", "LNestprint$Row;", true)
  | 6 => ("Nestprint$Tree", "parts", "LNestprint$Row;", true)
  | 7 => ("Nestprint$Tree", "signs", "LNestprint$Row;", true)
  | 8 => ("Nestprint$Tree", "inPlain", "LNestprint$Row;", true)
  | _ => ("Nestprint$Tree", "root", "I", false)
def tyX7 : Nat → FieldType := fun k => match k with
  | 0 => .object "Nestprint$Row"
  | 1 => .object "Nestprint$Row"
  | 2 => .object "Nestprint$Row"
  | 3 => .object "Nestprint$Row"
  | 4 => .object "Nestprint$Row"
  | 5 => .object "Nestprint$Row"
  | 6 => .object "Nestprint$Row"
  | 7 => .object "Nestprint$Row"
  | 8 => .object "Nestprint$Row"
  | _ => .int
abbrev wsX70 : List Cond := u_ws RX7 TX7 10
theorem nmX7 : ∀ a, a < 10 → ∀ b, b < 10 → a ≠ b → (TX7 a).2.1 ≠ (TX7 b).2.1 := by decide +kernel
theorem tyX7_ok : ∀ k, k < 10 → parseFieldDescriptor (TX7 k).2.2.1 = some (tyX7 k) := by decide +kernel
abbrev cX7_init : ByteArray := prog_9_method_1_code
def yX7_init : MethodName := ⟨RX7, "<init>", "()V"⟩
def RX8 : String := "Nestprint$Wishes"
def TX8 : u_T := fun k => match k with
  | 0 => ("Nestprint$Wishes", "wishes", "LNestprint$Row;", true)
  | 1 => ("Nestprint$Wishes", "best", "LNestprint$Row;", true)
  | _ => ("Nestprint$Wishes", "asked", "I", false)
def RX9 : String := "Nestprint"
def TX9 : u_T := fun k => match k with
  | 0 => ("Nestprint", "nodes", "LNestprint$Nodes;", true)
  | 1 => ("Nestprint", "typed", "LNestprint$Row;", true)
  | 2 => ("Nestprint", "codes", "LNestprint$Row;", true)
  | 3 => ("Nestprint", "documents", "LNestprint$DocumentReader;", true)
  | 4 => ("Nestprint", "coder", "LNestprint$CodeReader;", true)
  | 5 => ("Nestprint", "bench", "LNestprint$Layout;", true)
  | 6 => ("Nestprint", "other", "LNestprint$Layout;", true)
  | 7 => ("Nestprint", "sound", "LNestprint$Sound;", true)
  | 8 => ("Nestprint", "page", "Ljava/lang/StringBuilder;", true)
  | 9 => ("Nestprint", "kept", "LNestprint$Tree;", false)
  | 10 => ("Nestprint", "spare", "LNestprint$Tree;", false)
  | 11 => ("Nestprint", "width", "I", false)
  | 12 => ("Nestprint", "ribbon", "I", false)
  | 13 => ("Nestprint", "told", "I", false)
  | 14 => ("Nestprint", "knocks", "I", false)
  | _ => ("Nestprint", "made", "I", false)
def RX10 : String := "NestprintLaw$Out"
def TX10 : u_T := fun k => match k with
  | 0 => ("NestprintLaw$Out", "n", "J", false)
  | _ => ("NestprintLaw$Out", "s", "Ljava/lang/String;", false)
def RX11 : String := "NestprintModel$Node"
def TX11 : u_T := fun k => match k with
  | 0 => ("NestprintModel$Node", "kind", "I", true)
  | 1 => ("NestprintModel$Node", "text", "Ljava/lang/String;", true)
  | 2 => ("NestprintModel$Node", "by", "I", true)
  | _ => ("NestprintModel$Node", "own", "Ljava/util/ArrayList;", true)
def RX12 : String := "NestprintModel$Page"
def TX12 : u_T := fun k => match k with
  | 0 => ("NestprintModel$Page", "lines", "Ljava/util/ArrayList;", true)
  | 1 => ("NestprintModel$Page", "places", "Ljava/util/ArrayList;", true)
  | 2 => ("NestprintModel$Page", "begins", "Ljava/util/ArrayList;", true)
  | 3 => ("NestprintModel$Page", "bits", "Ljava/lang/StringBuilder;", true)
  | 4 => ("NestprintModel$Page", "leaves", "Ljava/util/ArrayList;", true)
  | 5 => ("NestprintModel$Page", "width", "I", true)
  | 6 => ("NestprintModel$Page", "ribbon", "I", true)
  | 7 => ("NestprintModel$Page", "told", "Ljava/lang/String;", true)
  | 8 => ("NestprintModel$Page", "met", "I", false)
  | _ => ("NestprintModel$Page", "now", "Ljava/lang/StringBuilder;", false)
def RX13 : String := "NestprintModel$Reader"
def TX13 : u_T := fun k => match k with
  | 0 => ("NestprintModel$Reader", "text", "Ljava/lang/String;", true)
  | _ => ("NestprintModel$Reader", "at", "I", false)
def RX14 : String := "NestprintModel$Tree"
def TX14 : u_T := fun k => match k with
  | 0 => ("NestprintModel$Tree", "kind", "C", true)
  | 1 => ("NestprintModel$Tree", "name", "Ljava/lang/String;", true)
  | _ => ("NestprintModel$Tree", "own", "Ljava/util/ArrayList;", true)
def RX15 : String := "NestprintModel$Way"
def TX15 : u_T := fun k => match k with
  | 0 => ("NestprintModel$Way", "column", "I", true)
  | 1 => ("NestprintModel$Way", "cost", "I", true)
  | _ => ("NestprintModel$Way", "bits", "Ljava/lang/String;", true)
def RX16 : String := "NestprintModel"
def TX16 : u_T := fun k => match k with
  | 0 => ("NestprintModel", "thrown", "I", false)
  | 1 => ("NestprintModel", "nodes", "Ljava/util/ArrayList;", true)
  | 2 => ("NestprintModel", "width", "I", false)
  | 3 => ("NestprintModel", "ribbon", "I", false)
  | 4 => ("NestprintModel", "typed", "Ljava/lang/String;", false)
  | 5 => ("NestprintModel", "kept", "LNestprintModel$Tree;", false)
  | 6 => ("NestprintModel", "counted", "I", false)
  | 7 => ("NestprintModel", "knocks", "I", false)
  | _ => ("NestprintModel", "ever", "I", false)
def RJx00060 : String := "java/lang/ArrayIndexOutOfBoundsException"
def TJx00060 : u_T := fun k => match k with
  | 0 => ("java/lang/Throwable", "cause", "Ljava/lang/Throwable;", false)
  | 1 => ("java/lang/Throwable", "stackTrace", "[Ljava/lang/StackTraceElement;", false)
  | 2 => ("java/lang/Throwable", "suppressedExceptions", "Ljava/util/List;", false)
  | 3 => ("java/lang/Throwable", "detailMessage", "Ljava/lang/String;", false)
  | 4 => ("java/lang/Throwable", "backtrace", "Ljava/lang/Object;", false)
  | _ => ("java/lang/Throwable", "depth", "I", false)
def RJ6 : String := "java/lang/Integer"
def TJ6 : u_T := fun k => match k with
  | _ => ("java/lang/Integer", "value", "I", true)
def RJ0 : String := "java/lang/String"
def TJ0 : u_T := fun k => match k with
  | 0 => ("java/lang/String", "value", "[B", true)
  | 1 => ("java/lang/String", "coder", "B", true)
  | 2 => ("java/lang/String", "hash", "I", false)
  | _ => ("java/lang/String", "hashIsZero", "Z", false)
def RJ4 : String := "java/lang/StringBuilder"
def TJ4 : u_T := fun k => match k with
  | 0 => ("java/lang/AbstractStringBuilder", "value", "[B", false)
  | 1 => ("java/lang/AbstractStringBuilder", "coder", "B", false)
  | 2 => ("java/lang/AbstractStringBuilder", "maybeLatin1", "Z", false)
  | _ => ("java/lang/AbstractStringBuilder", "count", "I", false)
def RJx7c733 : String := "java/lang/StringIndexOutOfBoundsException"
def TJx7c733 : u_T := fun k => match k with
  | 0 => ("java/lang/Throwable", "backtrace", "Ljava/lang/Object;", false)
  | 1 => ("java/lang/Throwable", "detailMessage", "Ljava/lang/String;", false)
  | 2 => ("java/lang/Throwable", "cause", "Ljava/lang/Throwable;", false)
  | 3 => ("java/lang/Throwable", "stackTrace", "[Ljava/lang/StackTraceElement;", false)
  | 4 => ("java/lang/Throwable", "depth", "I", false)
  | _ => ("java/lang/Throwable", "suppressedExceptions", "Ljava/util/List;", false)
def RJx35411 : String := "java/util/ArrayList$Itr"
def TJx35411 : u_T := fun k => match k with
  | 0 => ("java/util/ArrayList$Itr", "cursor", "I", false)
  | 1 => ("java/util/ArrayList$Itr", "lastRet", "I", false)
  | 2 => ("java/util/ArrayList$Itr", "expectedModCount", "I", false)
  | _ => ("java/util/ArrayList$Itr", "this$0", "Ljava/util/ArrayList;", true)
def RJx4a65c : String := "java/util/ArrayList"
def TJx4a65c : u_T := fun k => match k with
  | 0 => ("java/util/AbstractList", "modCount", "I", false)
  | 1 => ("java/util/ArrayList", "elementData", "[Ljava/lang/Object;", false)
  | _ => ("java/util/ArrayList", "size", "I", false)
def wsX4_init : List Cond := .code yX4_init cX4_init 2 none :: ([.methodLink RX4 1 objectInit, .instanceMethod objectInit, .code objectInit ⟨#[0xb1]⟩ 1 none, .fieldLink RX4 7 "Nestprint$Row" "size" "I", .arrayClass .int, .fieldLink RX4 13 "Nestprint$Row" "cells" "[I"] ++ wsX40)
def wsX0_init : List Cond := .code yX0_init cX0_init 1 none :: ([.methodLink RX0 3 objectInit, .instanceMethod objectInit, .code objectInit ⟨#[0xb1]⟩ 1 none, .classLink RX0 9 RX4, .instantiable RX4 2, .initialized RX4, .fieldLink RX0 14 "Nestprint$CodeReader" "owners" "LNestprint$Row;", .fieldLink RX0 20 "Nestprint$CodeReader" "nameStarts" "LNestprint$Row;", .fieldLink RX0 23 "Nestprint$CodeReader" "nameLengths" "LNestprint$Row;", .fieldLink RX0 26 "Nestprint$CodeReader" "itemStarts" "LNestprint$Row;", .fieldLink RX0 29 "Nestprint$CodeReader" "sumStarts" "LNestprint$Row;", .fieldLink RX0 32 "Nestprint$CodeReader" "productStarts" "LNestprint$Row;", .fieldLink RX0 35 "Nestprint$CodeReader" "items" "LNestprint$Row;", .fieldLink RX0 38 "Nestprint$CodeReader" "state" "I", .fieldLink RX0 42 "Nestprint$CodeReader" "nameStart" "I", .fieldLink RX0 45 "Nestprint$CodeReader" "sumStart" "I", .fieldLink RX0 48 "Nestprint$CodeReader" "productStart" "I", .methodLink RX0 11 yX4_init, .instanceMethod yX4_init, .code yX4_init cX4_init 2 none, .methodLink RX4 1 objectInit, .fieldLink RX4 7 "Nestprint$Row" "size" "I", .arrayClass .int, .fieldLink RX4 13 "Nestprint$Row" "cells" "[I"] ++ wsX40 ++ wsX00)
def wsX1_init : List Cond := .code yX1_init cX1_init 1 none :: ([.methodLink RX1 3 objectInit, .instanceMethod objectInit, .code objectInit ⟨#[0xb1]⟩ 1 none, .classLink RX1 9 RX4, .instantiable RX4 2, .initialized RX4, .fieldLink RX1 14 "Nestprint$DocumentReader" "owners" "LNestprint$Row;", .fieldLink RX1 20 "Nestprint$DocumentReader" "itemStarts" "LNestprint$Row;", .fieldLink RX1 23 "Nestprint$DocumentReader" "items" "LNestprint$Row;", .methodLink RX1 11 yX4_init, .instanceMethod yX4_init, .code yX4_init cX4_init 2 none, .methodLink RX4 1 objectInit, .fieldLink RX4 7 "Nestprint$Row" "size" "I", .arrayClass .int, .fieldLink RX4 13 "Nestprint$Row" "cells" "[I"] ++ wsX40 ++ wsX10)
def wsX3_init : List Cond := .code yX3_init cX3_init 1 none :: ([.methodLink RX3 3 objectInit, .instanceMethod objectInit, .code objectInit ⟨#[0xb1]⟩ 1 none, .classLink RX3 9 RX4, .instantiable RX4 2, .initialized RX4, .fieldLink RX3 14 "Nestprint$Nodes" "numbers" "LNestprint$Row;", .fieldLink RX3 20 "Nestprint$Nodes" "kinds" "LNestprint$Row;", .fieldLink RX3 23 "Nestprint$Nodes" "starts" "LNestprint$Row;", .fieldLink RX3 26 "Nestprint$Nodes" "counts" "LNestprint$Row;", .fieldLink RX3 29 "Nestprint$Nodes" "bys" "LNestprint$Row;", .fieldLink RX3 32 "Nestprint$Nodes" "weights" "LNestprint$Row;", .fieldLink RX3 35 "Nestprint$Nodes" "depths" "LNestprint$Row;", .fieldLink RX3 38 "Nestprint$Nodes" "parts" "LNestprint$Row;", .fieldLink RX3 41 "Nestprint$Nodes" "signs" "LNestprint$Row;", .methodLink RX3 11 yX4_init, .instanceMethod yX4_init, .code yX4_init cX4_init 2 none, .methodLink RX4 1 objectInit, .fieldLink RX4 7 "Nestprint$Row" "size" "I", .arrayClass .int, .fieldLink RX4 13 "Nestprint$Row" "cells" "[I"] ++ wsX40 ++ wsX30)
def wsX7_init : List Cond := .code yX7_init cX7_init 1 none :: ([.methodLink RX7 3 objectInit, .instanceMethod objectInit, .code objectInit ⟨#[0xb1]⟩ 1 none, .classLink RX7 9 RX4, .instantiable RX4 2, .initialized RX4, .fieldLink RX7 14 "Nestprint$Tree" "kinds" "LNestprint$Row;", .fieldLink RX7 20 "Nestprint$Tree" "starts" "LNestprint$Row;", .fieldLink RX7 23 "Nestprint$Tree" "lengths" "LNestprint$Row;", .fieldLink RX7 26 "Nestprint$Tree" "firsts" "LNestprint$Row;", .fieldLink RX7 29 "Nestprint$Tree" "counts" "LNestprint$Row;", .fieldLink RX7 32 "Nestprint$Tree" "depths" "LNestprint$Row;", .fieldLink RX7 35 "Nestprint$Tree" "parts" "LNestprint$Row;", .fieldLink RX7 38 "Nestprint$Tree" "signs" "LNestprint$Row;", .fieldLink RX7 41 "Nestprint$Tree" "inPlain" "LNestprint$Row;", .fieldLink RX7 44 "Nestprint$Tree" "root" "I", .methodLink RX7 11 yX4_init, .instanceMethod yX4_init, .code yX4_init cX4_init 2 none, .methodLink RX4 1 objectInit, .fieldLink RX4 7 "Nestprint$Row" "size" "I", .arrayClass .int, .fieldLink RX4 13 "Nestprint$Row" "cells" "[I"] ++ wsX40 ++ wsX70)
set_option maxRecDepth 20000 in
theorem ggX0_init_X4_init : GoodIn wsX0_init wsX4_init := goodIn_r _ [20, 21, 2, 3, 22, 23, 24, 25, 26] (by decide +kernel) (by decide +kernel)
set_option maxRecDepth 20000 in
theorem gX0_init_X4_init : GoodIn wsX0_init (wsX4_init) := ggX0_init_X4_init
theorem dX0_init_0 : decode cX0_init 0 = .ok (.aload_n 0, 1) := by decide +kernel
theorem dX0_init_1 : decode cX0_init 1 = .ok (.invokespecial 3, 3) := by decide +kernel
theorem dX0_init_4 : decode cX0_init 4 = .ok (.aload_n 0, 1) := by decide +kernel
theorem dX0_init_5 : decode cX0_init 5 = .ok (.new 9, 3) := by decide +kernel
theorem dX0_init_8 : decode cX0_init 8 = .ok (.dup, 1) := by decide +kernel
theorem dX0_init_9 : decode cX0_init 9 = .ok (.iconst 4, 1) := by decide +kernel
theorem dX0_init_10 : decode cX0_init 10 = .ok (.invokespecial 11, 3) := by decide +kernel
theorem dX0_init_13 : decode cX0_init 13 = .ok (.putfield 14, 3) := by decide +kernel
theorem dX0_init_16 : decode cX0_init 16 = .ok (.aload_n 0, 1) := by decide +kernel
theorem dX0_init_17 : decode cX0_init 17 = .ok (.new 9, 3) := by decide +kernel
theorem dX0_init_20 : decode cX0_init 20 = .ok (.dup, 1) := by decide +kernel
theorem dX0_init_21 : decode cX0_init 21 = .ok (.iconst 4, 1) := by decide +kernel
theorem dX0_init_22 : decode cX0_init 22 = .ok (.invokespecial 11, 3) := by decide +kernel
theorem dX0_init_25 : decode cX0_init 25 = .ok (.putfield 20, 3) := by decide +kernel
theorem dX0_init_28 : decode cX0_init 28 = .ok (.aload_n 0, 1) := by decide +kernel
theorem dX0_init_29 : decode cX0_init 29 = .ok (.new 9, 3) := by decide +kernel
theorem dX0_init_32 : decode cX0_init 32 = .ok (.dup, 1) := by decide +kernel
theorem dX0_init_33 : decode cX0_init 33 = .ok (.iconst 4, 1) := by decide +kernel
theorem dX0_init_34 : decode cX0_init 34 = .ok (.invokespecial 11, 3) := by decide +kernel
theorem dX0_init_37 : decode cX0_init 37 = .ok (.putfield 23, 3) := by decide +kernel
theorem dX0_init_40 : decode cX0_init 40 = .ok (.aload_n 0, 1) := by decide +kernel
theorem dX0_init_41 : decode cX0_init 41 = .ok (.new 9, 3) := by decide +kernel
theorem dX0_init_44 : decode cX0_init 44 = .ok (.dup, 1) := by decide +kernel
theorem dX0_init_45 : decode cX0_init 45 = .ok (.iconst 4, 1) := by decide +kernel
theorem dX0_init_46 : decode cX0_init 46 = .ok (.invokespecial 11, 3) := by decide +kernel
theorem dX0_init_49 : decode cX0_init 49 = .ok (.putfield 26, 3) := by decide +kernel
theorem dX0_init_52 : decode cX0_init 52 = .ok (.aload_n 0, 1) := by decide +kernel
theorem dX0_init_53 : decode cX0_init 53 = .ok (.new 9, 3) := by decide +kernel
theorem dX0_init_56 : decode cX0_init 56 = .ok (.dup, 1) := by decide +kernel
theorem dX0_init_57 : decode cX0_init 57 = .ok (.iconst 4, 1) := by decide +kernel
theorem dX0_init_58 : decode cX0_init 58 = .ok (.invokespecial 11, 3) := by decide +kernel
theorem dX0_init_61 : decode cX0_init 61 = .ok (.putfield 29, 3) := by decide +kernel
theorem dX0_init_64 : decode cX0_init 64 = .ok (.aload_n 0, 1) := by decide +kernel
theorem dX0_init_65 : decode cX0_init 65 = .ok (.new 9, 3) := by decide +kernel
theorem dX0_init_68 : decode cX0_init 68 = .ok (.dup, 1) := by decide +kernel
theorem dX0_init_69 : decode cX0_init 69 = .ok (.iconst 4, 1) := by decide +kernel
theorem dX0_init_70 : decode cX0_init 70 = .ok (.invokespecial 11, 3) := by decide +kernel
theorem dX0_init_73 : decode cX0_init 73 = .ok (.putfield 32, 3) := by decide +kernel
theorem dX0_init_76 : decode cX0_init 76 = .ok (.aload_n 0, 1) := by decide +kernel
theorem dX0_init_77 : decode cX0_init 77 = .ok (.new 9, 3) := by decide +kernel
theorem dX0_init_80 : decode cX0_init 80 = .ok (.dup, 1) := by decide +kernel
theorem dX0_init_81 : decode cX0_init 81 = .ok (.bipush 60, 2) := by decide +kernel
theorem dX0_init_83 : decode cX0_init 83 = .ok (.invokespecial 11, 3) := by decide +kernel
theorem dX0_init_86 : decode cX0_init 86 = .ok (.putfield 35, 3) := by decide +kernel
theorem dX0_init_89 : decode cX0_init 89 = .ok (.aload_n 0, 1) := by decide +kernel
theorem dX0_init_90 : decode cX0_init 90 = .ok (.iconst 0, 1) := by decide +kernel
theorem dX0_init_91 : decode cX0_init 91 = .ok (.putfield 38, 3) := by decide +kernel
theorem dX0_init_94 : decode cX0_init 94 = .ok (.aload_n 0, 1) := by decide +kernel
theorem dX0_init_95 : decode cX0_init 95 = .ok (.iconst 0, 1) := by decide +kernel
theorem dX0_init_96 : decode cX0_init 96 = .ok (.putfield 42, 3) := by decide +kernel
theorem dX0_init_99 : decode cX0_init 99 = .ok (.aload_n 0, 1) := by decide +kernel
theorem dX0_init_100 : decode cX0_init 100 = .ok (.iconst 0, 1) := by decide +kernel
theorem dX0_init_101 : decode cX0_init 101 = .ok (.putfield 45, 3) := by decide +kernel
theorem dX0_init_104 : decode cX0_init 104 = .ok (.aload_n 0, 1) := by decide +kernel
theorem dX0_init_105 : decode cX0_init 105 = .ok (.iconst 0, 1) := by decide +kernel
theorem dX0_init_106 : decode cX0_init 106 = .ok (.putfield 48, 3) := by decide +kernel
theorem dX0_init_109 : decode cX0_init 109 = .ok (.return_, 1) := by decide +kernel
set_option maxRecDepth 20000 in
theorem ggX1_init_X4_init : GoodIn wsX1_init wsX4_init := goodIn_r _ [12, 13, 2, 3, 14, 15, 16, 17, 18] (by decide +kernel) (by decide +kernel)
set_option maxRecDepth 20000 in
theorem gX1_init_X4_init : GoodIn wsX1_init (wsX4_init) := ggX1_init_X4_init
theorem dX1_init_0 : decode cX1_init 0 = .ok (.aload_n 0, 1) := by decide +kernel
theorem dX1_init_1 : decode cX1_init 1 = .ok (.invokespecial 3, 3) := by decide +kernel
theorem dX1_init_4 : decode cX1_init 4 = .ok (.aload_n 0, 1) := by decide +kernel
theorem dX1_init_5 : decode cX1_init 5 = .ok (.new 9, 3) := by decide +kernel
theorem dX1_init_8 : decode cX1_init 8 = .ok (.dup, 1) := by decide +kernel
theorem dX1_init_9 : decode cX1_init 9 = .ok (.iconst 4, 1) := by decide +kernel
theorem dX1_init_10 : decode cX1_init 10 = .ok (.invokespecial 11, 3) := by decide +kernel
theorem dX1_init_13 : decode cX1_init 13 = .ok (.putfield 14, 3) := by decide +kernel
theorem dX1_init_16 : decode cX1_init 16 = .ok (.aload_n 0, 1) := by decide +kernel
theorem dX1_init_17 : decode cX1_init 17 = .ok (.new 9, 3) := by decide +kernel
theorem dX1_init_20 : decode cX1_init 20 = .ok (.dup, 1) := by decide +kernel
theorem dX1_init_21 : decode cX1_init 21 = .ok (.iconst 4, 1) := by decide +kernel
theorem dX1_init_22 : decode cX1_init 22 = .ok (.invokespecial 11, 3) := by decide +kernel
theorem dX1_init_25 : decode cX1_init 25 = .ok (.putfield 20, 3) := by decide +kernel
theorem dX1_init_28 : decode cX1_init 28 = .ok (.aload_n 0, 1) := by decide +kernel
theorem dX1_init_29 : decode cX1_init 29 = .ok (.new 9, 3) := by decide +kernel
theorem dX1_init_32 : decode cX1_init 32 = .ok (.dup, 1) := by decide +kernel
theorem dX1_init_33 : decode cX1_init 33 = .ok (.bipush 61, 2) := by decide +kernel
theorem dX1_init_35 : decode cX1_init 35 = .ok (.invokespecial 11, 3) := by decide +kernel
theorem dX1_init_38 : decode cX1_init 38 = .ok (.putfield 23, 3) := by decide +kernel
theorem dX1_init_41 : decode cX1_init 41 = .ok (.return_, 1) := by decide +kernel
set_option maxRecDepth 20000 in
theorem ggX3_init_X4_init : GoodIn wsX3_init wsX4_init := goodIn_r _ [18, 19, 2, 3, 20, 21, 22, 23, 24] (by decide +kernel) (by decide +kernel)
set_option maxRecDepth 20000 in
theorem gX3_init_X4_init : GoodIn wsX3_init (wsX4_init) := ggX3_init_X4_init
theorem dX3_init_0 : decode cX3_init 0 = .ok (.aload_n 0, 1) := by decide +kernel
theorem dX3_init_1 : decode cX3_init 1 = .ok (.invokespecial 3, 3) := by decide +kernel
theorem dX3_init_4 : decode cX3_init 4 = .ok (.aload_n 0, 1) := by decide +kernel
theorem dX3_init_5 : decode cX3_init 5 = .ok (.new 9, 3) := by decide +kernel
theorem dX3_init_8 : decode cX3_init 8 = .ok (.dup, 1) := by decide +kernel
theorem dX3_init_9 : decode cX3_init 9 = .ok (.bipush 80, 2) := by decide +kernel
theorem dX3_init_11 : decode cX3_init 11 = .ok (.invokespecial 11, 3) := by decide +kernel
theorem dX3_init_14 : decode cX3_init 14 = .ok (.putfield 14, 3) := by decide +kernel
theorem dX3_init_17 : decode cX3_init 17 = .ok (.aload_n 0, 1) := by decide +kernel
theorem dX3_init_18 : decode cX3_init 18 = .ok (.new 9, 3) := by decide +kernel
theorem dX3_init_21 : decode cX3_init 21 = .ok (.dup, 1) := by decide +kernel
theorem dX3_init_22 : decode cX3_init 22 = .ok (.sipush 4960, 3) := by decide +kernel
theorem dX3_init_25 : decode cX3_init 25 = .ok (.invokespecial 11, 3) := by decide +kernel
theorem dX3_init_28 : decode cX3_init 28 = .ok (.putfield 20, 3) := by decide +kernel
theorem dX3_init_31 : decode cX3_init 31 = .ok (.aload_n 0, 1) := by decide +kernel
theorem dX3_init_32 : decode cX3_init 32 = .ok (.new 9, 3) := by decide +kernel
theorem dX3_init_35 : decode cX3_init 35 = .ok (.dup, 1) := by decide +kernel
theorem dX3_init_36 : decode cX3_init 36 = .ok (.sipush 4960, 3) := by decide +kernel
theorem dX3_init_39 : decode cX3_init 39 = .ok (.invokespecial 11, 3) := by decide +kernel
theorem dX3_init_42 : decode cX3_init 42 = .ok (.putfield 23, 3) := by decide +kernel
theorem dX3_init_45 : decode cX3_init 45 = .ok (.aload_n 0, 1) := by decide +kernel
theorem dX3_init_46 : decode cX3_init 46 = .ok (.new 9, 3) := by decide +kernel
theorem dX3_init_49 : decode cX3_init 49 = .ok (.dup, 1) := by decide +kernel
theorem dX3_init_50 : decode cX3_init 50 = .ok (.sipush 4960, 3) := by decide +kernel
theorem dX3_init_53 : decode cX3_init 53 = .ok (.invokespecial 11, 3) := by decide +kernel
theorem dX3_init_56 : decode cX3_init 56 = .ok (.putfield 26, 3) := by decide +kernel
theorem dX3_init_59 : decode cX3_init 59 = .ok (.aload_n 0, 1) := by decide +kernel
theorem dX3_init_60 : decode cX3_init 60 = .ok (.new 9, 3) := by decide +kernel
theorem dX3_init_63 : decode cX3_init 63 = .ok (.dup, 1) := by decide +kernel
theorem dX3_init_64 : decode cX3_init 64 = .ok (.sipush 4960, 3) := by decide +kernel
theorem dX3_init_67 : decode cX3_init 67 = .ok (.invokespecial 11, 3) := by decide +kernel
theorem dX3_init_70 : decode cX3_init 70 = .ok (.putfield 29, 3) := by decide +kernel
theorem dX3_init_73 : decode cX3_init 73 = .ok (.aload_n 0, 1) := by decide +kernel
theorem dX3_init_74 : decode cX3_init 74 = .ok (.new 9, 3) := by decide +kernel
theorem dX3_init_77 : decode cX3_init 77 = .ok (.dup, 1) := by decide +kernel
theorem dX3_init_78 : decode cX3_init 78 = .ok (.sipush 4960, 3) := by decide +kernel
theorem dX3_init_81 : decode cX3_init 81 = .ok (.invokespecial 11, 3) := by decide +kernel
theorem dX3_init_84 : decode cX3_init 84 = .ok (.putfield 32, 3) := by decide +kernel
theorem dX3_init_87 : decode cX3_init 87 = .ok (.aload_n 0, 1) := by decide +kernel
theorem dX3_init_88 : decode cX3_init 88 = .ok (.new 9, 3) := by decide +kernel
theorem dX3_init_91 : decode cX3_init 91 = .ok (.dup, 1) := by decide +kernel
theorem dX3_init_92 : decode cX3_init 92 = .ok (.sipush 4960, 3) := by decide +kernel
theorem dX3_init_95 : decode cX3_init 95 = .ok (.invokespecial 11, 3) := by decide +kernel
theorem dX3_init_98 : decode cX3_init 98 = .ok (.putfield 35, 3) := by decide +kernel
theorem dX3_init_101 : decode cX3_init 101 = .ok (.aload_n 0, 1) := by decide +kernel
theorem dX3_init_102 : decode cX3_init 102 = .ok (.new 9, 3) := by decide +kernel
theorem dX3_init_105 : decode cX3_init 105 = .ok (.dup, 1) := by decide +kernel
theorem dX3_init_106 : decode cX3_init 106 = .ok (.sipush 4960, 3) := by decide +kernel
theorem dX3_init_109 : decode cX3_init 109 = .ok (.invokespecial 11, 3) := by decide +kernel
theorem dX3_init_112 : decode cX3_init 112 = .ok (.putfield 38, 3) := by decide +kernel
theorem dX3_init_115 : decode cX3_init 115 = .ok (.aload_n 0, 1) := by decide +kernel
theorem dX3_init_116 : decode cX3_init 116 = .ok (.new 9, 3) := by decide +kernel
theorem dX3_init_119 : decode cX3_init 119 = .ok (.dup, 1) := by decide +kernel
theorem dX3_init_120 : decode cX3_init 120 = .ok (.sipush 4960, 3) := by decide +kernel
theorem dX3_init_123 : decode cX3_init 123 = .ok (.invokespecial 11, 3) := by decide +kernel
theorem dX3_init_126 : decode cX3_init 126 = .ok (.putfield 41, 3) := by decide +kernel
theorem dX3_init_129 : decode cX3_init 129 = .ok (.return_, 1) := by decide +kernel
theorem dX4_init_0 : decode cX4_init 0 = .ok (.aload_n 0, 1) := by decide +kernel
theorem dX4_init_1 : decode cX4_init 1 = .ok (.invokespecial 1, 3) := by decide +kernel
theorem dX4_init_4 : decode cX4_init 4 = .ok (.aload_n 0, 1) := by decide +kernel
theorem dX4_init_5 : decode cX4_init 5 = .ok (.iconst 0, 1) := by decide +kernel
theorem dX4_init_6 : decode cX4_init 6 = .ok (.putfield 7, 3) := by decide +kernel
theorem dX4_init_9 : decode cX4_init 9 = .ok (.aload_n 0, 1) := by decide +kernel
theorem dX4_init_10 : decode cX4_init 10 = .ok (.iload_n 1, 1) := by decide +kernel
theorem dX4_init_11 : decode cX4_init 11 = .ok (.ifCond .le 7, 3) := by decide +kernel
theorem dX4_init_14 : decode cX4_init 14 = .ok (.iload_n 1, 1) := by decide +kernel
theorem dX4_init_15 : decode cX4_init 15 = .ok (.goto 4, 3) := by decide +kernel
theorem dX4_init_19 : decode cX4_init 19 = .ok (.newarray .int, 2) := by decide +kernel
theorem dX4_init_21 : decode cX4_init 21 = .ok (.putfield 13, 3) := by decide +kernel
theorem dX4_init_24 : decode cX4_init 24 = .ok (.return_, 1) := by decide +kernel
set_option maxRecDepth 20000 in
theorem ggX7_init_X4_init : GoodIn wsX7_init wsX4_init := goodIn_r _ [19, 20, 2, 3, 21, 22, 23, 24, 25] (by decide +kernel) (by decide +kernel)
set_option maxRecDepth 20000 in
theorem gX7_init_X4_init : GoodIn wsX7_init (wsX4_init) := ggX7_init_X4_init
theorem dX7_init_0 : decode cX7_init 0 = .ok (.aload_n 0, 1) := by decide +kernel
theorem dX7_init_1 : decode cX7_init 1 = .ok (.invokespecial 3, 3) := by decide +kernel
theorem dX7_init_4 : decode cX7_init 4 = .ok (.aload_n 0, 1) := by decide +kernel
theorem dX7_init_5 : decode cX7_init 5 = .ok (.new 9, 3) := by decide +kernel
theorem dX7_init_8 : decode cX7_init 8 = .ok (.dup, 1) := by decide +kernel
theorem dX7_init_9 : decode cX7_init 9 = .ok (.bipush 120, 2) := by decide +kernel
theorem dX7_init_11 : decode cX7_init 11 = .ok (.invokespecial 11, 3) := by decide +kernel
theorem dX7_init_14 : decode cX7_init 14 = .ok (.putfield 14, 3) := by decide +kernel
theorem dX7_init_17 : decode cX7_init 17 = .ok (.aload_n 0, 1) := by decide +kernel
theorem dX7_init_18 : decode cX7_init 18 = .ok (.new 9, 3) := by decide +kernel
theorem dX7_init_21 : decode cX7_init 21 = .ok (.dup, 1) := by decide +kernel
theorem dX7_init_22 : decode cX7_init 22 = .ok (.bipush 120, 2) := by decide +kernel
theorem dX7_init_24 : decode cX7_init 24 = .ok (.invokespecial 11, 3) := by decide +kernel
theorem dX7_init_27 : decode cX7_init 27 = .ok (.putfield 20, 3) := by decide +kernel
theorem dX7_init_30 : decode cX7_init 30 = .ok (.aload_n 0, 1) := by decide +kernel
theorem dX7_init_31 : decode cX7_init 31 = .ok (.new 9, 3) := by decide +kernel
theorem dX7_init_34 : decode cX7_init 34 = .ok (.dup, 1) := by decide +kernel
theorem dX7_init_35 : decode cX7_init 35 = .ok (.bipush 120, 2) := by decide +kernel
theorem dX7_init_37 : decode cX7_init 37 = .ok (.invokespecial 11, 3) := by decide +kernel
theorem dX7_init_40 : decode cX7_init 40 = .ok (.putfield 23, 3) := by decide +kernel
theorem dX7_init_43 : decode cX7_init 43 = .ok (.aload_n 0, 1) := by decide +kernel
theorem dX7_init_44 : decode cX7_init 44 = .ok (.new 9, 3) := by decide +kernel
theorem dX7_init_47 : decode cX7_init 47 = .ok (.dup, 1) := by decide +kernel
theorem dX7_init_48 : decode cX7_init 48 = .ok (.bipush 120, 2) := by decide +kernel
theorem dX7_init_50 : decode cX7_init 50 = .ok (.invokespecial 11, 3) := by decide +kernel
theorem dX7_init_53 : decode cX7_init 53 = .ok (.putfield 26, 3) := by decide +kernel
theorem dX7_init_56 : decode cX7_init 56 = .ok (.aload_n 0, 1) := by decide +kernel
theorem dX7_init_57 : decode cX7_init 57 = .ok (.new 9, 3) := by decide +kernel
theorem dX7_init_60 : decode cX7_init 60 = .ok (.dup, 1) := by decide +kernel
theorem dX7_init_61 : decode cX7_init 61 = .ok (.bipush 120, 2) := by decide +kernel
theorem dX7_init_63 : decode cX7_init 63 = .ok (.invokespecial 11, 3) := by decide +kernel
theorem dX7_init_66 : decode cX7_init 66 = .ok (.putfield 29, 3) := by decide +kernel
theorem dX7_init_69 : decode cX7_init 69 = .ok (.aload_n 0, 1) := by decide +kernel
theorem dX7_init_70 : decode cX7_init 70 = .ok (.new 9, 3) := by decide +kernel
theorem dX7_init_73 : decode cX7_init 73 = .ok (.dup, 1) := by decide +kernel
theorem dX7_init_74 : decode cX7_init 74 = .ok (.bipush 120, 2) := by decide +kernel
theorem dX7_init_76 : decode cX7_init 76 = .ok (.invokespecial 11, 3) := by decide +kernel
theorem dX7_init_79 : decode cX7_init 79 = .ok (.putfield 32, 3) := by decide +kernel
theorem dX7_init_82 : decode cX7_init 82 = .ok (.aload_n 0, 1) := by decide +kernel
theorem dX7_init_83 : decode cX7_init 83 = .ok (.new 9, 3) := by decide +kernel
theorem dX7_init_86 : decode cX7_init 86 = .ok (.dup, 1) := by decide +kernel
theorem dX7_init_87 : decode cX7_init 87 = .ok (.bipush 120, 2) := by decide +kernel
theorem dX7_init_89 : decode cX7_init 89 = .ok (.invokespecial 11, 3) := by decide +kernel
theorem dX7_init_92 : decode cX7_init 92 = .ok (.putfield 35, 3) := by decide +kernel
theorem dX7_init_95 : decode cX7_init 95 = .ok (.aload_n 0, 1) := by decide +kernel
theorem dX7_init_96 : decode cX7_init 96 = .ok (.new 9, 3) := by decide +kernel
theorem dX7_init_99 : decode cX7_init 99 = .ok (.dup, 1) := by decide +kernel
theorem dX7_init_100 : decode cX7_init 100 = .ok (.bipush 60, 2) := by decide +kernel
theorem dX7_init_102 : decode cX7_init 102 = .ok (.invokespecial 11, 3) := by decide +kernel
theorem dX7_init_105 : decode cX7_init 105 = .ok (.putfield 38, 3) := by decide +kernel
theorem dX7_init_108 : decode cX7_init 108 = .ok (.aload_n 0, 1) := by decide +kernel
theorem dX7_init_109 : decode cX7_init 109 = .ok (.new 9, 3) := by decide +kernel
theorem dX7_init_112 : decode cX7_init 112 = .ok (.dup, 1) := by decide +kernel
theorem dX7_init_113 : decode cX7_init 113 = .ok (.bipush 60, 2) := by decide +kernel
theorem dX7_init_115 : decode cX7_init 115 = .ok (.invokespecial 11, 3) := by decide +kernel
theorem dX7_init_118 : decode cX7_init 118 = .ok (.putfield 41, 3) := by decide +kernel
theorem dX7_init_121 : decode cX7_init 121 = .ok (.aload_n 0, 1) := by decide +kernel
theorem dX7_init_122 : decode cX7_init 122 = .ok (.iconst (-1), 1) := by decide +kernel
theorem dX7_init_123 : decode cX7_init 123 = .ok (.putfield 44, 3) := by decide +kernel
theorem dX7_init_126 : decode cX7_init 126 = .ok (.return_, 1) := by decide +kernel
abbrev vwCl : List vw_C := [(RJ0, TJ0, 4), (RJ4, TJ4, 4), (RJ6, TJ6, 1), (RJx00060, TJx00060, 6), (RJx7c733, TJx7c733, 6), (RJx35411, TJx35411, 4), (RJx4a65c, TJx4a65c, 3), (RX0, TX0, 11), (RX1, TX1, 3), (RX2, TX2, 18), (RX3, TX3, 9), (RX4, TX4, 2), (RX5, TX5, 10), (RX6, TX6, 5), (RX7, TX7, 10), (RX8, TX8, 3), (RX9, TX9, 16), (RX10, TX10, 2), (RX11, TX11, 4), (RX12, TX12, 10), (RX13, TX13, 2), (RX14, TX14, 3), (RX15, TX15, 3), (RX16, TX16, 9)]
