/-! NoSuchElementException(String) calls its super constructor by entry 13, not 7, on the pinned build: the words of its throw, by hand (NAMES.whole takes 7, and its row wsL_law_x2 is false). -/
def xn_six : ByteArray := ⟨#[0x2a, 0x2b, 0xb7, 0x00, 0x0d, 0xb1]⟩
def xn_N : String := "java/util/NoSuchElementException"
def xn_own (own : String) (ic : Nat) : List Cond :=
  Bundle.throwableAtoms ++ Bundle.throwableSAtoms ++ (Bundle.passSAtoms xn_N "java/lang/RuntimeException" 13 xn_six ++ Bundle.chainSAtoms "java/lang/RuntimeException" ["java/lang/Exception"]) ++
  [.methodLink own ic (Bundle.initS xn_N), .instantiable xn_N 6, .castable xn_N xn_N, .selects xn_N Bundle.tFill0 Bundle.tFill0, .selects xn_N Bundle.tFill Bundle.tFill,
   .lays xn_N Bundle.tN "cause" "Ljava/lang/Throwable;", .lays xn_N Bundle.tN "stackTrace" Bundle.steD, .lays xn_N Bundle.tN "suppressedExceptions" Bundle.listD, .lays xn_N Bundle.tN "detailMessage" "Ljava/lang/String;",
   .isRef (.static Bundle.tN "UNASSIGNED_STACK" Bundle.steD), .isRef (.static Bundle.tN "SUPPRESSED_SENTINEL" Bundle.listD),
   .fieldLink Bundle.tN 198 Bundle.tN "backtrace" "Ljava/lang/Object;", .lays Bundle.tN Bundle.tN "backtrace" "Ljava/lang/Object;", .lays xn_N Bundle.tN "backtrace" "Ljava/lang/Object;"]
def xn_atS (own : String) (ic : Nat) : List Cond := (xn_own own ic).filter vx_no
