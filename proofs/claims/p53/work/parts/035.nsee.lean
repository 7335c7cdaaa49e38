/-! THE WORDS of 'throw new NoSuchElementException(text)': its constructor's call stands at entry 13 -/
abbrev zNS : String := "java/util/NoSuchElementException"
def zAN (own : String) (ic : Nat) : List Cond :=
  (Bundle.throwableAtoms ++ Bundle.throwableSAtoms ++ (Bundle.passSAtoms zNS "java/lang/RuntimeException" 13 prog_44_method_4_code ++ Bundle.chainSAtoms "java/lang/RuntimeException" ["java/lang/Exception"]) ++
  [.methodLink own ic (Bundle.initS zNS), .instantiable zNS 6, .castable zNS zNS, .selects zNS Bundle.tFill0 Bundle.tFill0, .selects zNS Bundle.tFill Bundle.tFill,
   .lays zNS Bundle.tN "cause" "Ljava/lang/Throwable;", .lays zNS Bundle.tN "stackTrace" Bundle.steD, .lays zNS Bundle.tN "suppressedExceptions" Bundle.listD, .lays zNS Bundle.tN "detailMessage" "Ljava/lang/String;",
   .isRef (.static Bundle.tN "UNASSIGNED_STACK" Bundle.steD), .isRef (.static Bundle.tN "SUPPRESSED_SENTINEL" Bundle.listD),
   .fieldLink Bundle.tN 198 Bundle.tN "backtrace" "Ljava/lang/Object;", .lays Bundle.tN Bundle.tN "backtrace" "Ljava/lang/Object;", .lays zNS Bundle.tN "backtrace" "Ljava/lang/Object;"] : List Cond).filter vx_no
