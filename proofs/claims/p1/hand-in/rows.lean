section
/-- a private method of a class that the tables say can be made, by its rows of tables_1 -/
def lw_okq (q : MethodName × Nat) : Prop := (q.1.cls ≠ "java/lang/invoke/MethodHandle" ∧ q.1.cls ≠ "java/lang/invoke/VarHandle") ∧ Cond.instantiable q.1.cls q.2 ∈ tables_1 ∧ Cond.privateMethod q.1 ∈ tables_1 ∧ Cond.instanceMethod q.1 ∈ tables_1
theorem lw_p0 : lw_okq (⟨"java/lang/Throwable", "fillInStackTrace", "(I)Ljava/lang/Throwable;"⟩, 6) := ⟨⟨by decide +kernel, by decide +kernel⟩, List.mem_of_getElem? (i := 594) (by decide +kernel), List.mem_of_getElem? (i := 592) (by decide +kernel), List.mem_of_getElem? (i := 593) (by decide +kernel)⟩
theorem lw_p1 : lw_okq (⟨"HandheldPair", "appendWord", "(I)V"⟩, 9) := ⟨⟨by decide +kernel, by decide +kernel⟩, List.mem_of_getElem? (i := 38) (by decide +kernel), List.mem_of_getElem? (i := 623) (by decide +kernel), List.mem_of_getElem? (i := 624) (by decide +kernel)⟩
theorem lw_p2 : lw_okq (⟨"HandheldPair", "consoleOf", "(I)LHandheldPair$Console;"⟩, 9) := ⟨⟨by decide +kernel, by decide +kernel⟩, List.mem_of_getElem? (i := 38) (by decide +kernel), List.mem_of_getElem? (i := 686) (by decide +kernel), List.mem_of_getElem? (i := 687) (by decide +kernel)⟩
theorem lw_p3 : lw_okq (⟨"HandheldPair", "reasonToRefuse", "(I)I"⟩, 9) := ⟨⟨by decide +kernel, by decide +kernel⟩, List.mem_of_getElem? (i := 38) (by decide +kernel), List.mem_of_getElem? (i := 691) (by decide +kernel), List.mem_of_getElem? (i := 692) (by decide +kernel)⟩
theorem lw_p4 : lw_okq (⟨"HandheldPair", "nextToGo", "()LHandheldPair$Console;"⟩, 9) := ⟨⟨by decide +kernel, by decide +kernel⟩, List.mem_of_getElem? (i := 38) (by decide +kernel), List.mem_of_getElem? (i := 841) (by decide +kernel), List.mem_of_getElem? (i := 842) (by decide +kernel)⟩
theorem lw_p5 : lw_okq (⟨"HandheldPair", "checkState", "(I)V"⟩, 9) := ⟨⟨by decide +kernel, by decide +kernel⟩, List.mem_of_getElem? (i := 38) (by decide +kernel), List.mem_of_getElem? (i := 1590) (by decide +kernel), List.mem_of_getElem? (i := 1591) (by decide +kernel)⟩
theorem lw_p6 : lw_okq (⟨"HandheldPairModel", "refuse", "(IZ)Z"⟩, 10) := ⟨⟨by decide +kernel, by decide +kernel⟩, List.mem_of_getElem? (i := 1654) (by decide +kernel), List.mem_of_getElem? (i := 2036) (by decide +kernel), List.mem_of_getElem? (i := 2037) (by decide +kernel)⟩
theorem lw_p7 : lw_okq (⟨"HandheldPairModel", "none", "(I)Z"⟩, 10) := ⟨⟨by decide +kernel, by decide +kernel⟩, List.mem_of_getElem? (i := 1654) (by decide +kernel), List.mem_of_getElem? (i := 2052) (by decide +kernel), List.mem_of_getElem? (i := 2053) (by decide +kernel)⟩
theorem lw_p8 : lw_okq (⟨"HandheldPairModel$Console", "powerScreen", "()V"⟩, 68) := ⟨⟨by decide +kernel, by decide +kernel⟩, List.mem_of_getElem? (i := 1662) (by decide +kernel), List.mem_of_getElem? (i := 2092) (by decide +kernel), List.mem_of_getElem? (i := 2093) (by decide +kernel)⟩
theorem lw_p9 : lw_okq (⟨"HandheldPairModel$Console", "powerProcessor", "()V"⟩, 68) := ⟨⟨by decide +kernel, by decide +kernel⟩, List.mem_of_getElem? (i := 1662) (by decide +kernel), List.mem_of_getElem? (i := 2096) (by decide +kernel), List.mem_of_getElem? (i := 2097) (by decide +kernel)⟩
theorem lw_p10 : lw_okq (⟨"HandheldPairModel$Console", "pressed", "()I"⟩, 68) := ⟨⟨by decide +kernel, by decide +kernel⟩, List.mem_of_getElem? (i := 1662) (by decide +kernel), List.mem_of_getElem? (i := 2119) (by decide +kernel), List.mem_of_getElem? (i := 2120) (by decide +kernel)⟩
theorem lw_p11 : lw_okq (⟨"HandheldPairModel$Console", "ask", "(I)V"⟩, 68) := ⟨⟨by decide +kernel, by decide +kernel⟩, List.mem_of_getElem? (i := 1662) (by decide +kernel), List.mem_of_getElem? (i := 2123) (by decide +kernel), List.mem_of_getElem? (i := 2124) (by decide +kernel)⟩
theorem lw_p12 : lw_okq (⟨"HandheldPairModel$Console", "cycle", "()V"⟩, 68) := ⟨⟨by decide +kernel, by decide +kernel⟩, List.mem_of_getElem? (i := 1662) (by decide +kernel), List.mem_of_getElem? (i := 2136) (by decide +kernel), List.mem_of_getElem? (i := 2137) (by decide +kernel)⟩
theorem lw_p13 : lw_okq (⟨"HandheldPairModel$Console", "clocks", "()V"⟩, 68) := ⟨⟨by decide +kernel, by decide +kernel⟩, List.mem_of_getElem? (i := 1662) (by decide +kernel), List.mem_of_getElem? (i := 2140) (by decide +kernel), List.mem_of_getElem? (i := 2141) (by decide +kernel)⟩
theorem lw_p14 : lw_okq (⟨"HandheldPairModel$Console", "clock", "()V"⟩, 68) := ⟨⟨by decide +kernel, by decide +kernel⟩, List.mem_of_getElem? (i := 1662) (by decide +kernel), List.mem_of_getElem? (i := 2144) (by decide +kernel), List.mem_of_getElem? (i := 2145) (by decide +kernel)⟩
theorem lw_p15 : lw_okq (⟨"HandheldPairModel$Console", "divide", "(I)V"⟩, 68) := ⟨⟨by decide +kernel, by decide +kernel⟩, List.mem_of_getElem? (i := 1662) (by decide +kernel), List.mem_of_getElem? (i := 2148) (by decide +kernel), List.mem_of_getElem? (i := 2149) (by decide +kernel)⟩
def lw_privs_1 : List (MethodName × Nat) := [(⟨"java/lang/Throwable", "fillInStackTrace", "(I)Ljava/lang/Throwable;"⟩, 6), (⟨"HandheldPair", "appendWord", "(I)V"⟩, 9), (⟨"HandheldPair", "consoleOf", "(I)LHandheldPair$Console;"⟩, 9), (⟨"HandheldPair", "reasonToRefuse", "(I)I"⟩, 9), (⟨"HandheldPair", "nextToGo", "()LHandheldPair$Console;"⟩, 9), (⟨"HandheldPair", "checkState", "(I)V"⟩, 9), (⟨"HandheldPairModel", "refuse", "(IZ)Z"⟩, 10), (⟨"HandheldPairModel", "none", "(I)Z"⟩, 10), (⟨"HandheldPairModel$Console", "powerScreen", "()V"⟩, 68), (⟨"HandheldPairModel$Console", "powerProcessor", "()V"⟩, 68), (⟨"HandheldPairModel$Console", "pressed", "()I"⟩, 68), (⟨"HandheldPairModel$Console", "ask", "(I)V"⟩, 68), (⟨"HandheldPairModel$Console", "cycle", "()V"⟩, 68), (⟨"HandheldPairModel$Console", "clocks", "()V"⟩, 68), (⟨"HandheldPairModel$Console", "clock", "()V"⟩, 68), (⟨"HandheldPairModel$Console", "divide", "(I)V"⟩, 68)]
theorem lw_r1 : ∀ q ∈ lw_privs_1, lw_okq q := List.forall_mem_cons.mpr ⟨lw_p0, List.forall_mem_cons.mpr ⟨lw_p1, List.forall_mem_cons.mpr ⟨lw_p2, List.forall_mem_cons.mpr ⟨lw_p3, List.forall_mem_cons.mpr ⟨lw_p4, List.forall_mem_cons.mpr ⟨lw_p5, List.forall_mem_cons.mpr ⟨lw_p6, List.forall_mem_cons.mpr ⟨lw_p7, List.forall_mem_cons.mpr ⟨lw_p8, List.forall_mem_cons.mpr ⟨lw_p9, List.forall_mem_cons.mpr ⟨lw_p10, List.forall_mem_cons.mpr ⟨lw_p11, List.forall_mem_cons.mpr ⟨lw_p12, List.forall_mem_cons.mpr ⟨lw_p13, List.forall_mem_cons.mpr ⟨lw_p14, List.forall_mem_cons.mpr ⟨lw_p15, fun _ h => absurd h List.not_mem_nil⟩⟩⟩⟩⟩⟩⟩⟩⟩⟩⟩⟩⟩⟩⟩⟩
theorem lw_p16 : lw_okq (⟨"HandheldPairModel$Console", "timerLine", "()Z"⟩, 68) := ⟨⟨by decide +kernel, by decide +kernel⟩, List.mem_of_getElem? (i := 1662) (by decide +kernel), List.mem_of_getElem? (i := 2152) (by decide +kernel), List.mem_of_getElem? (i := 2153) (by decide +kernel)⟩
theorem lw_p17 : lw_okq (⟨"HandheldPairModel$Console", "soundLine", "()Z"⟩, 68) := ⟨⟨by decide +kernel, by decide +kernel⟩, List.mem_of_getElem? (i := 1662) (by decide +kernel), List.mem_of_getElem? (i := 2156) (by decide +kernel), List.mem_of_getElem? (i := 2157) (by decide +kernel)⟩
theorem lw_p18 : lw_okq (⟨"HandheldPairModel$Console", "lines", "(ZZ)V"⟩, 68) := ⟨⟨by decide +kernel, by decide +kernel⟩, List.mem_of_getElem? (i := 1662) (by decide +kernel), List.mem_of_getElem? (i := 2161) (by decide +kernel), List.mem_of_getElem? (i := 2162) (by decide +kernel)⟩
theorem lw_p19 : lw_okq (⟨"HandheldPairModel$Voices", "sweeping", "()V"⟩, 15) := ⟨⟨by decide +kernel, by decide +kernel⟩, List.mem_of_getElem? (i := 1727) (by decide +kernel), List.mem_of_getElem? (i := 2169) (by decide +kernel), List.mem_of_getElem? (i := 2170) (by decide +kernel)⟩
theorem lw_p20 : lw_okq (⟨"HandheldPairModel$Voices", "reckon", "()I"⟩, 15) := ⟨⟨by decide +kernel, by decide +kernel⟩, List.mem_of_getElem? (i := 1727) (by decide +kernel), List.mem_of_getElem? (i := 2173) (by decide +kernel), List.mem_of_getElem? (i := 2174) (by decide +kernel)⟩
theorem lw_p21 : lw_okq (⟨"HandheldPairModel$Voices", "louder", "(I)V"⟩, 15) := ⟨⟨by decide +kernel, by decide +kernel⟩, List.mem_of_getElem? (i := 1727) (by decide +kernel), List.mem_of_getElem? (i := 2177) (by decide +kernel), List.mem_of_getElem? (i := 2178) (by decide +kernel)⟩
theorem lw_p22 : lw_okq (⟨"HandheldPairModel$Console", "fullRate", "()I"⟩, 68) := ⟨⟨by decide +kernel, by decide +kernel⟩, List.mem_of_getElem? (i := 1662) (by decide +kernel), List.mem_of_getElem? (i := 2181) (by decide +kernel), List.mem_of_getElem? (i := 2182) (by decide +kernel)⟩
theorem lw_p23 : lw_okq (⟨"HandheldPairModel$Console", "shift", "(I)V"⟩, 68) := ⟨⟨by decide +kernel, by decide +kernel⟩, List.mem_of_getElem? (i := 1662) (by decide +kernel), List.mem_of_getElem? (i := 2185) (by decide +kernel), List.mem_of_getElem? (i := 2186) (by decide +kernel)⟩
theorem lw_p24 : lw_okq (⟨"HandheldPairModel$Console", "copy", "()V"⟩, 68) := ⟨⟨by decide +kernel, by decide +kernel⟩, List.mem_of_getElem? (i := 1662) (by decide +kernel), List.mem_of_getElem? (i := 2189) (by decide +kernel), List.mem_of_getElem? (i := 2190) (by decide +kernel)⟩
theorem lw_p25 : lw_okq (⟨"HandheldPairModel$Console", "plain", "(I)I"⟩, 68) := ⟨⟨by decide +kernel, by decide +kernel⟩, List.mem_of_getElem? (i := 1662) (by decide +kernel), List.mem_of_getElem? (i := 2193) (by decide +kernel), List.mem_of_getElem? (i := 2194) (by decide +kernel)⟩
theorem lw_p26 : lw_okq (⟨"HandheldPairModel$Cart", "timed", "()Z"⟩, 15) := ⟨⟨by decide +kernel, by decide +kernel⟩, List.mem_of_getElem? (i := 1668) (by decide +kernel), List.mem_of_getElem? (i := 2203) (by decide +kernel), List.mem_of_getElem? (i := 2204) (by decide +kernel)⟩
theorem lw_p27 : lw_okq (⟨"HandheldPairModel$Cart", "ramAt", "(I)I"⟩, 15) := ⟨⟨by decide +kernel, by decide +kernel⟩, List.mem_of_getElem? (i := 1668) (by decide +kernel), List.mem_of_getElem? (i := 2207) (by decide +kernel), List.mem_of_getElem? (i := 2208) (by decide +kernel)⟩
theorem lw_p28 : lw_okq (⟨"HandheldPairModel$Console", "videoAt", "(I)I"⟩, 68) := ⟨⟨by decide +kernel, by decide +kernel⟩, List.mem_of_getElem? (i := 1662) (by decide +kernel), List.mem_of_getElem? (i := 2211) (by decide +kernel), List.mem_of_getElem? (i := 2212) (by decide +kernel)⟩
theorem lw_p29 : lw_okq (⟨"HandheldPairModel$Console", "workAt", "(I)I"⟩, 68) := ⟨⟨by decide +kernel, by decide +kernel⟩, List.mem_of_getElem? (i := 1662) (by decide +kernel), List.mem_of_getElem? (i := 2216) (by decide +kernel), List.mem_of_getElem? (i := 2217) (by decide +kernel)⟩
theorem lw_p30 : lw_okq (⟨"HandheldPairModel$Console", "register", "(I)I"⟩, 68) := ⟨⟨by decide +kernel, by decide +kernel⟩, List.mem_of_getElem? (i := 1662) (by decide +kernel), List.mem_of_getElem? (i := 2223) (by decide +kernel), List.mem_of_getElem? (i := 2224) (by decide +kernel)⟩
theorem lw_p31 : lw_okq (⟨"HandheldPairModel$Console", "more", "(I)I"⟩, 68) := ⟨⟨by decide +kernel, by decide +kernel⟩, List.mem_of_getElem? (i := 1662) (by decide +kernel), List.mem_of_getElem? (i := 2231) (by decide +kernel), List.mem_of_getElem? (i := 2232) (by decide +kernel)⟩
def lw_privs_2 : List (MethodName × Nat) := [(⟨"HandheldPairModel$Console", "timerLine", "()Z"⟩, 68), (⟨"HandheldPairModel$Console", "soundLine", "()Z"⟩, 68), (⟨"HandheldPairModel$Console", "lines", "(ZZ)V"⟩, 68), (⟨"HandheldPairModel$Voices", "sweeping", "()V"⟩, 15), (⟨"HandheldPairModel$Voices", "reckon", "()I"⟩, 15), (⟨"HandheldPairModel$Voices", "louder", "(I)V"⟩, 15), (⟨"HandheldPairModel$Console", "fullRate", "()I"⟩, 68), (⟨"HandheldPairModel$Console", "shift", "(I)V"⟩, 68), (⟨"HandheldPairModel$Console", "copy", "()V"⟩, 68), (⟨"HandheldPairModel$Console", "plain", "(I)I"⟩, 68), (⟨"HandheldPairModel$Cart", "timed", "()Z"⟩, 15), (⟨"HandheldPairModel$Cart", "ramAt", "(I)I"⟩, 15), (⟨"HandheldPairModel$Console", "videoAt", "(I)I"⟩, 68), (⟨"HandheldPairModel$Console", "workAt", "(I)I"⟩, 68), (⟨"HandheldPairModel$Console", "register", "(I)I"⟩, 68), (⟨"HandheldPairModel$Console", "more", "(I)I"⟩, 68)]
theorem lw_r2 : ∀ q ∈ lw_privs_2, lw_okq q := List.forall_mem_cons.mpr ⟨lw_p16, List.forall_mem_cons.mpr ⟨lw_p17, List.forall_mem_cons.mpr ⟨lw_p18, List.forall_mem_cons.mpr ⟨lw_p19, List.forall_mem_cons.mpr ⟨lw_p20, List.forall_mem_cons.mpr ⟨lw_p21, List.forall_mem_cons.mpr ⟨lw_p22, List.forall_mem_cons.mpr ⟨lw_p23, List.forall_mem_cons.mpr ⟨lw_p24, List.forall_mem_cons.mpr ⟨lw_p25, List.forall_mem_cons.mpr ⟨lw_p26, List.forall_mem_cons.mpr ⟨lw_p27, List.forall_mem_cons.mpr ⟨lw_p28, List.forall_mem_cons.mpr ⟨lw_p29, List.forall_mem_cons.mpr ⟨lw_p30, List.forall_mem_cons.mpr ⟨lw_p31, fun _ h => absurd h List.not_mem_nil⟩⟩⟩⟩⟩⟩⟩⟩⟩⟩⟩⟩⟩⟩⟩⟩
theorem lw_p32 : lw_okq (⟨"HandheldPairModel$Console", "screen", "()V"⟩, 68) := ⟨⟨by decide +kernel, by decide +kernel⟩, List.mem_of_getElem? (i := 1662) (by decide +kernel), List.mem_of_getElem? (i := 2235) (by decide +kernel), List.mem_of_getElem? (i := 2236) (by decide +kernel)⟩
theorem lw_p33 : lw_okq (⟨"HandheldPairModel$Console", "line", "()V"⟩, 68) := ⟨⟨by decide +kernel, by decide +kernel⟩, List.mem_of_getElem? (i := 1662) (by decide +kernel), List.mem_of_getElem? (i := 2239) (by decide +kernel), List.mem_of_getElem? (i := 2240) (by decide +kernel)⟩
theorem lw_p34 : lw_okq (⟨"HandheldPairModel$Console", "choose", "()V"⟩, 68) := ⟨⟨by decide +kernel, by decide +kernel⟩, List.mem_of_getElem? (i := 1662) (by decide +kernel), List.mem_of_getElem? (i := 2243) (by decide +kernel), List.mem_of_getElem? (i := 2244) (by decide +kernel)⟩
theorem lw_p35 : lw_okq (⟨"HandheldPairModel$Console", "pixel", "(I)I"⟩, 68) := ⟨⟨by decide +kernel, by decide +kernel⟩, List.mem_of_getElem? (i := 1662) (by decide +kernel), List.mem_of_getElem? (i := 2247) (by decide +kernel), List.mem_of_getElem? (i := 2248) (by decide +kernel)⟩
theorem lw_p36 : lw_okq (⟨"HandheldPairModel$Console", "colourOf", "(II)I"⟩, 68) := ⟨⟨by decide +kernel, by decide +kernel⟩, List.mem_of_getElem? (i := 1662) (by decide +kernel), List.mem_of_getElem? (i := 2251) (by decide +kernel), List.mem_of_getElem? (i := 2252) (by decide +kernel)⟩
theorem lw_p37 : lw_okq (⟨"HandheldPairModel$Console", "best", "(I)I"⟩, 68) := ⟨⟨by decide +kernel, by decide +kernel⟩, List.mem_of_getElem? (i := 1662) (by decide +kernel), List.mem_of_getElem? (i := 2255) (by decide +kernel), List.mem_of_getElem? (i := 2256) (by decide +kernel)⟩
theorem lw_p38 : lw_okq (⟨"HandheldPairModel$Console", "spriteAt", "(II)I"⟩, 68) := ⟨⟨by decide +kernel, by decide +kernel⟩, List.mem_of_getElem? (i := 1662) (by decide +kernel), List.mem_of_getElem? (i := 2259) (by decide +kernel), List.mem_of_getElem? (i := 2260) (by decide +kernel)⟩
theorem lw_p39 : lw_okq (⟨"HandheldPairModel$Console", "shows", "(III)Z"⟩, 68) := ⟨⟨by decide +kernel, by decide +kernel⟩, List.mem_of_getElem? (i := 1662) (by decide +kernel), List.mem_of_getElem? (i := 2263) (by decide +kernel), List.mem_of_getElem? (i := 2264) (by decide +kernel)⟩
theorem lw_p40 : lw_okq (⟨"HandheldPairModel$Console", "word", "(II)I"⟩, 68) := ⟨⟨by decide +kernel, by decide +kernel⟩, List.mem_of_getElem? (i := 1662) (by decide +kernel), List.mem_of_getElem? (i := 2267) (by decide +kernel), List.mem_of_getElem? (i := 2268) (by decide +kernel)⟩
theorem lw_p41 : lw_okq (⟨"HandheldPairModel$Console", "slowBlock", "()V"⟩, 68) := ⟨⟨by decide +kernel, by decide +kernel⟩, List.mem_of_getElem? (i := 1662) (by decide +kernel), List.mem_of_getElem? (i := 2271) (by decide +kernel), List.mem_of_getElem? (i := 2272) (by decide +kernel)⟩
theorem lw_p42 : lw_okq (⟨"HandheldPairModel$Console", "one", "()V"⟩, 68) := ⟨⟨by decide +kernel, by decide +kernel⟩, List.mem_of_getElem? (i := 1662) (by decide +kernel), List.mem_of_getElem? (i := 2275) (by decide +kernel), List.mem_of_getElem? (i := 2276) (by decide +kernel)⟩
theorem lw_p43 : lw_okq (⟨"HandheldPairModel$Console", "look", "()V"⟩, 68) := ⟨⟨by decide +kernel, by decide +kernel⟩, List.mem_of_getElem? (i := 1662) (by decide +kernel), List.mem_of_getElem? (i := 2280) (by decide +kernel), List.mem_of_getElem? (i := 2281) (by decide +kernel)⟩
theorem lw_p44 : lw_okq (⟨"HandheldPairModel$Voices", "turnOn", "(I)V"⟩, 15) := ⟨⟨by decide +kernel, by decide +kernel⟩, List.mem_of_getElem? (i := 1727) (by decide +kernel), List.mem_of_getElem? (i := 2288) (by decide +kernel), List.mem_of_getElem? (i := 2289) (by decide +kernel)⟩
theorem lw_p45 : lw_okq (⟨"HandheldPairModel$Voices", "whole", "(I)I"⟩, 15) := ⟨⟨by decide +kernel, by decide +kernel⟩, List.mem_of_getElem? (i := 1727) (by decide +kernel), List.mem_of_getElem? (i := 2292) (by decide +kernel), List.mem_of_getElem? (i := 2293) (by decide +kernel)⟩
theorem lw_p46 : lw_okq (⟨"HandheldPairModel$Voices", "pitch", "(I)I"⟩, 15) := ⟨⟨by decide +kernel, by decide +kernel⟩, List.mem_of_getElem? (i := 1727) (by decide +kernel), List.mem_of_getElem? (i := 2296) (by decide +kernel), List.mem_of_getElem? (i := 2297) (by decide +kernel)⟩
theorem lw_p47 : lw_okq (⟨"HandheldPairModel$Voices", "side", "(I)I"⟩, 15) := ⟨⟨by decide +kernel, by decide +kernel⟩, List.mem_of_getElem? (i := 1727) (by decide +kernel), List.mem_of_getElem? (i := 2300) (by decide +kernel), List.mem_of_getElem? (i := 2301) (by decide +kernel)⟩
def lw_privs_3 : List (MethodName × Nat) := [(⟨"HandheldPairModel$Console", "screen", "()V"⟩, 68), (⟨"HandheldPairModel$Console", "line", "()V"⟩, 68), (⟨"HandheldPairModel$Console", "choose", "()V"⟩, 68), (⟨"HandheldPairModel$Console", "pixel", "(I)I"⟩, 68), (⟨"HandheldPairModel$Console", "colourOf", "(II)I"⟩, 68), (⟨"HandheldPairModel$Console", "best", "(I)I"⟩, 68), (⟨"HandheldPairModel$Console", "spriteAt", "(II)I"⟩, 68), (⟨"HandheldPairModel$Console", "shows", "(III)Z"⟩, 68), (⟨"HandheldPairModel$Console", "word", "(II)I"⟩, 68), (⟨"HandheldPairModel$Console", "slowBlock", "()V"⟩, 68), (⟨"HandheldPairModel$Console", "one", "()V"⟩, 68), (⟨"HandheldPairModel$Console", "look", "()V"⟩, 68), (⟨"HandheldPairModel$Voices", "turnOn", "(I)V"⟩, 15), (⟨"HandheldPairModel$Voices", "whole", "(I)I"⟩, 15), (⟨"HandheldPairModel$Voices", "pitch", "(I)I"⟩, 15), (⟨"HandheldPairModel$Voices", "side", "(I)I"⟩, 15)]
theorem lw_r3 : ∀ q ∈ lw_privs_3, lw_okq q := List.forall_mem_cons.mpr ⟨lw_p32, List.forall_mem_cons.mpr ⟨lw_p33, List.forall_mem_cons.mpr ⟨lw_p34, List.forall_mem_cons.mpr ⟨lw_p35, List.forall_mem_cons.mpr ⟨lw_p36, List.forall_mem_cons.mpr ⟨lw_p37, List.forall_mem_cons.mpr ⟨lw_p38, List.forall_mem_cons.mpr ⟨lw_p39, List.forall_mem_cons.mpr ⟨lw_p40, List.forall_mem_cons.mpr ⟨lw_p41, List.forall_mem_cons.mpr ⟨lw_p42, List.forall_mem_cons.mpr ⟨lw_p43, List.forall_mem_cons.mpr ⟨lw_p44, List.forall_mem_cons.mpr ⟨lw_p45, List.forall_mem_cons.mpr ⟨lw_p46, List.forall_mem_cons.mpr ⟨lw_p47, fun _ h => absurd h List.not_mem_nil⟩⟩⟩⟩⟩⟩⟩⟩⟩⟩⟩⟩⟩⟩⟩⟩
theorem lw_p48 : lw_okq (⟨"HandheldPairModel$Cart", "full", "(III)Z"⟩, 15) := ⟨⟨by decide +kernel, by decide +kernel⟩, List.mem_of_getElem? (i := 1668) (by decide +kernel), List.mem_of_getElem? (i := 2313) (by decide +kernel), List.mem_of_getElem? (i := 2314) (by decide +kernel)⟩
theorem lw_p49 : lw_okq (⟨"HandheldPairModel$Console", "waiting", "()I"⟩, 68) := ⟨⟨by decide +kernel, by decide +kernel⟩, List.mem_of_getElem? (i := 1662) (by decide +kernel), List.mem_of_getElem? (i := 2317) (by decide +kernel), List.mem_of_getElem? (i := 2318) (by decide +kernel)⟩
theorem lw_p50 : lw_okq (⟨"HandheldPairModel$Console", "interrupt", "()V"⟩, 68) := ⟨⟨by decide +kernel, by decide +kernel⟩, List.mem_of_getElem? (i := 1662) (by decide +kernel), List.mem_of_getElem? (i := 2321) (by decide +kernel), List.mem_of_getElem? (i := 2322) (by decide +kernel)⟩
theorem lw_p51 : lw_okq (⟨"HandheldPairModel$Console", "write", "(II)V"⟩, 68) := ⟨⟨by decide +kernel, by decide +kernel⟩, List.mem_of_getElem? (i := 1662) (by decide +kernel), List.mem_of_getElem? (i := 2325) (by decide +kernel), List.mem_of_getElem? (i := 2326) (by decide +kernel)⟩
theorem lw_p52 : lw_okq (⟨"HandheldPairModel$Console", "barred", "(I)Z"⟩, 68) := ⟨⟨by decide +kernel, by decide +kernel⟩, List.mem_of_getElem? (i := 1662) (by decide +kernel), List.mem_of_getElem? (i := 2329) (by decide +kernel), List.mem_of_getElem? (i := 2330) (by decide +kernel)⟩
theorem lw_p53 : lw_okq (⟨"HandheldPairModel$Cart", "setClock", "(I)V"⟩, 15) := ⟨⟨by decide +kernel, by decide +kernel⟩, List.mem_of_getElem? (i := 1668) (by decide +kernel), List.mem_of_getElem? (i := 2338) (by decide +kernel), List.mem_of_getElem? (i := 2339) (by decide +kernel)⟩
theorem lw_p54 : lw_okq (⟨"HandheldPairModel$Cart", "latch", "(I)V"⟩, 15) := ⟨⟨by decide +kernel, by decide +kernel⟩, List.mem_of_getElem? (i := 1668) (by decide +kernel), List.mem_of_getElem? (i := 2344) (by decide +kernel), List.mem_of_getElem? (i := 2345) (by decide +kernel)⟩
theorem lw_p55 : lw_okq (⟨"HandheldPairModel$Console", "set", "(II)V"⟩, 68) := ⟨⟨by decide +kernel, by decide +kernel⟩, List.mem_of_getElem? (i := 1662) (by decide +kernel), List.mem_of_getElem? (i := 2348) (by decide +kernel), List.mem_of_getElem? (i := 2349) (by decide +kernel)⟩
theorem lw_p56 : lw_okq (⟨"HandheldPairModel$Voices", "turn", "(Z)V"⟩, 15) := ⟨⟨by decide +kernel, by decide +kernel⟩, List.mem_of_getElem? (i := 1727) (by decide +kernel), List.mem_of_getElem? (i := 2356) (by decide +kernel), List.mem_of_getElem? (i := 2357) (by decide +kernel)⟩
theorem lw_p57 : lw_okq (⟨"HandheldPairModel$Voices", "dac", "(I)Z"⟩, 15) := ⟨⟨by decide +kernel, by decide +kernel⟩, List.mem_of_getElem? (i := 1727) (by decide +kernel), List.mem_of_getElem? (i := 2598) (by decide +kernel), List.mem_of_getElem? (i := 2599) (by decide +kernel)⟩
theorem lw_p58 : lw_okq (⟨"HandheldPairModel$Voices", "start", "(I)V"⟩, 15) := ⟨⟨by decide +kernel, by decide +kernel⟩, List.mem_of_getElem? (i := 1727) (by decide +kernel), List.mem_of_getElem? (i := 2602) (by decide +kernel), List.mem_of_getElem? (i := 2603) (by decide +kernel)⟩
theorem lw_p59 : lw_okq (⟨"HandheldPairModel$Console", "setSmall", "(II)V"⟩, 68) := ⟨⟨by decide +kernel, by decide +kernel⟩, List.mem_of_getElem? (i := 1662) (by decide +kernel), List.mem_of_getElem? (i := 2606) (by decide +kernel), List.mem_of_getElem? (i := 2607) (by decide +kernel)⟩
theorem lw_p60 : lw_okq (⟨"HandheldPairModel$Console", "setScreen", "(II)V"⟩, 68) := ⟨⟨by decide +kernel, by decide +kernel⟩, List.mem_of_getElem? (i := 1662) (by decide +kernel), List.mem_of_getElem? (i := 2610) (by decide +kernel), List.mem_of_getElem? (i := 2611) (by decide +kernel)⟩
theorem lw_p61 : lw_okq (⟨"HandheldPairModel$Console", "off", "()V"⟩, 68) := ⟨⟨by decide +kernel, by decide +kernel⟩, List.mem_of_getElem? (i := 1662) (by decide +kernel), List.mem_of_getElem? (i := 2614) (by decide +kernel), List.mem_of_getElem? (i := 2615) (by decide +kernel)⟩
theorem lw_p62 : lw_okq (⟨"HandheldPairModel$Console", "setColour", "(II)V"⟩, 68) := ⟨⟨by decide +kernel, by decide +kernel⟩, List.mem_of_getElem? (i := 1662) (by decide +kernel), List.mem_of_getElem? (i := 2618) (by decide +kernel), List.mem_of_getElem? (i := 2619) (by decide +kernel)⟩
theorem lw_p63 : lw_okq (⟨"HandheldPairModel$Console", "blocks", "(I)V"⟩, 68) := ⟨⟨by decide +kernel, by decide +kernel⟩, List.mem_of_getElem? (i := 1662) (by decide +kernel), List.mem_of_getElem? (i := 2622) (by decide +kernel), List.mem_of_getElem? (i := 2623) (by decide +kernel)⟩
def lw_privs_4 : List (MethodName × Nat) := [(⟨"HandheldPairModel$Cart", "full", "(III)Z"⟩, 15), (⟨"HandheldPairModel$Console", "waiting", "()I"⟩, 68), (⟨"HandheldPairModel$Console", "interrupt", "()V"⟩, 68), (⟨"HandheldPairModel$Console", "write", "(II)V"⟩, 68), (⟨"HandheldPairModel$Console", "barred", "(I)Z"⟩, 68), (⟨"HandheldPairModel$Cart", "setClock", "(I)V"⟩, 15), (⟨"HandheldPairModel$Cart", "latch", "(I)V"⟩, 15), (⟨"HandheldPairModel$Console", "set", "(II)V"⟩, 68), (⟨"HandheldPairModel$Voices", "turn", "(Z)V"⟩, 15), (⟨"HandheldPairModel$Voices", "dac", "(I)Z"⟩, 15), (⟨"HandheldPairModel$Voices", "start", "(I)V"⟩, 15), (⟨"HandheldPairModel$Console", "setSmall", "(II)V"⟩, 68), (⟨"HandheldPairModel$Console", "setScreen", "(II)V"⟩, 68), (⟨"HandheldPairModel$Console", "off", "()V"⟩, 68), (⟨"HandheldPairModel$Console", "setColour", "(II)V"⟩, 68), (⟨"HandheldPairModel$Console", "blocks", "(I)V"⟩, 68)]
theorem lw_r4 : ∀ q ∈ lw_privs_4, lw_okq q := List.forall_mem_cons.mpr ⟨lw_p48, List.forall_mem_cons.mpr ⟨lw_p49, List.forall_mem_cons.mpr ⟨lw_p50, List.forall_mem_cons.mpr ⟨lw_p51, List.forall_mem_cons.mpr ⟨lw_p52, List.forall_mem_cons.mpr ⟨lw_p53, List.forall_mem_cons.mpr ⟨lw_p54, List.forall_mem_cons.mpr ⟨lw_p55, List.forall_mem_cons.mpr ⟨lw_p56, List.forall_mem_cons.mpr ⟨lw_p57, List.forall_mem_cons.mpr ⟨lw_p58, List.forall_mem_cons.mpr ⟨lw_p59, List.forall_mem_cons.mpr ⟨lw_p60, List.forall_mem_cons.mpr ⟨lw_p61, List.forall_mem_cons.mpr ⟨lw_p62, List.forall_mem_cons.mpr ⟨lw_p63, fun _ h => absurd h List.not_mem_nil⟩⟩⟩⟩⟩⟩⟩⟩⟩⟩⟩⟩⟩⟩⟩⟩
theorem lw_p64 : lw_okq (⟨"HandheldPairModel$Console", "paint", "(II)V"⟩, 68) := ⟨⟨by decide +kernel, by decide +kernel⟩, List.mem_of_getElem? (i := 1662) (by decide +kernel), List.mem_of_getElem? (i := 2627) (by decide +kernel), List.mem_of_getElem? (i := 2628) (by decide +kernel)⟩
theorem lw_p65 : lw_okq (⟨"HandheldPairModel$Console", "whole", "()V"⟩, 68) := ⟨⟨by decide +kernel, by decide +kernel⟩, List.mem_of_getElem? (i := 1662) (by decide +kernel), List.mem_of_getElem? (i := 2632) (by decide +kernel), List.mem_of_getElem? (i := 2633) (by decide +kernel)⟩
theorem lw_p66 : lw_okq (⟨"HandheldPairModel$Console", "fetch", "()I"⟩, 68) := ⟨⟨by decide +kernel, by decide +kernel⟩, List.mem_of_getElem? (i := 1662) (by decide +kernel), List.mem_of_getElem? (i := 2636) (by decide +kernel), List.mem_of_getElem? (i := 2637) (by decide +kernel)⟩
theorem lw_p67 : lw_okq (⟨"HandheldPairModel$Console", "read", "(I)I"⟩, 68) := ⟨⟨by decide +kernel, by decide +kernel⟩, List.mem_of_getElem? (i := 1662) (by decide +kernel), List.mem_of_getElem? (i := 2640) (by decide +kernel), List.mem_of_getElem? (i := 2641) (by decide +kernel)⟩
theorem lw_p68 : lw_okq (⟨"HandheldPairModel$Console", "instruction", "(I)V"⟩, 68) := ⟨⟨by decide +kernel, by decide +kernel⟩, List.mem_of_getElem? (i := 1662) (by decide +kernel), List.mem_of_getElem? (i := 2648) (by decide +kernel), List.mem_of_getElem? (i := 2649) (by decide +kernel)⟩
theorem lw_p69 : lw_okq (⟨"HandheldPairModel$Console", "get", "(I)I"⟩, 68) := ⟨⟨by decide +kernel, by decide +kernel⟩, List.mem_of_getElem? (i := 1662) (by decide +kernel), List.mem_of_getElem? (i := 2652) (by decide +kernel), List.mem_of_getElem? (i := 2653) (by decide +kernel)⟩
theorem lw_p70 : lw_okq (⟨"HandheldPairModel$Console", "pair", "(I)I"⟩, 68) := ⟨⟨by decide +kernel, by decide +kernel⟩, List.mem_of_getElem? (i := 1662) (by decide +kernel), List.mem_of_getElem? (i := 2656) (by decide +kernel), List.mem_of_getElem? (i := 2657) (by decide +kernel)⟩
theorem lw_p71 : lw_okq (⟨"HandheldPairModel$Console", "put", "(II)V"⟩, 68) := ⟨⟨by decide +kernel, by decide +kernel⟩, List.mem_of_getElem? (i := 1662) (by decide +kernel), List.mem_of_getElem? (i := 2660) (by decide +kernel), List.mem_of_getElem? (i := 2661) (by decide +kernel)⟩
theorem lw_p72 : lw_okq (⟨"HandheldPairModel$Console", "halt", "()V"⟩, 68) := ⟨⟨by decide +kernel, by decide +kernel⟩, List.mem_of_getElem? (i := 1662) (by decide +kernel), List.mem_of_getElem? (i := 2664) (by decide +kernel), List.mem_of_getElem? (i := 2665) (by decide +kernel)⟩
theorem lw_p73 : lw_okq (⟨"HandheldPairModel$Console", "alu", "(II)V"⟩, 68) := ⟨⟨by decide +kernel, by decide +kernel⟩, List.mem_of_getElem? (i := 1662) (by decide +kernel), List.mem_of_getElem? (i := 2668) (by decide +kernel), List.mem_of_getElem? (i := 2669) (by decide +kernel)⟩
theorem lw_p74 : lw_okq (⟨"HandheldPairModel$Console", "flag", "(I)Z"⟩, 68) := ⟨⟨by decide +kernel, by decide +kernel⟩, List.mem_of_getElem? (i := 1662) (by decide +kernel), List.mem_of_getElem? (i := 2672) (by decide +kernel), List.mem_of_getElem? (i := 2673) (by decide +kernel)⟩
theorem lw_p75 : lw_okq (⟨"HandheldPairModel$Console", "low", "(II)V"⟩, 68) := ⟨⟨by decide +kernel, by decide +kernel⟩, List.mem_of_getElem? (i := 1662) (by decide +kernel), List.mem_of_getElem? (i := 2679) (by decide +kernel), List.mem_of_getElem? (i := 2680) (by decide +kernel)⟩
theorem lw_p76 : lw_okq (⟨"HandheldPairModel$Console", "lowZero", "(I)V"⟩, 68) := ⟨⟨by decide +kernel, by decide +kernel⟩, List.mem_of_getElem? (i := 1662) (by decide +kernel), List.mem_of_getElem? (i := 2683) (by decide +kernel), List.mem_of_getElem? (i := 2684) (by decide +kernel)⟩
theorem lw_p77 : lw_okq (⟨"HandheldPairModel$Console", "two", "()I"⟩, 68) := ⟨⟨by decide +kernel, by decide +kernel⟩, List.mem_of_getElem? (i := 1662) (by decide +kernel), List.mem_of_getElem? (i := 2687) (by decide +kernel), List.mem_of_getElem? (i := 2688) (by decide +kernel)⟩
theorem lw_p78 : lw_okq (⟨"HandheldPairModel$Console", "stop", "()V"⟩, 68) := ⟨⟨by decide +kernel, by decide +kernel⟩, List.mem_of_getElem? (i := 1662) (by decide +kernel), List.mem_of_getElem? (i := 2691) (by decide +kernel), List.mem_of_getElem? (i := 2692) (by decide +kernel)⟩
theorem lw_p79 : lw_okq (⟨"HandheldPairModel$Console", "cc", "(I)Z"⟩, 68) := ⟨⟨by decide +kernel, by decide +kernel⟩, List.mem_of_getElem? (i := 1662) (by decide +kernel), List.mem_of_getElem? (i := 2695) (by decide +kernel), List.mem_of_getElem? (i := 2696) (by decide +kernel)⟩
def lw_privs_5 : List (MethodName × Nat) := [(⟨"HandheldPairModel$Console", "paint", "(II)V"⟩, 68), (⟨"HandheldPairModel$Console", "whole", "()V"⟩, 68), (⟨"HandheldPairModel$Console", "fetch", "()I"⟩, 68), (⟨"HandheldPairModel$Console", "read", "(I)I"⟩, 68), (⟨"HandheldPairModel$Console", "instruction", "(I)V"⟩, 68), (⟨"HandheldPairModel$Console", "get", "(I)I"⟩, 68), (⟨"HandheldPairModel$Console", "pair", "(I)I"⟩, 68), (⟨"HandheldPairModel$Console", "put", "(II)V"⟩, 68), (⟨"HandheldPairModel$Console", "halt", "()V"⟩, 68), (⟨"HandheldPairModel$Console", "alu", "(II)V"⟩, 68), (⟨"HandheldPairModel$Console", "flag", "(I)Z"⟩, 68), (⟨"HandheldPairModel$Console", "low", "(II)V"⟩, 68), (⟨"HandheldPairModel$Console", "lowZero", "(I)V"⟩, 68), (⟨"HandheldPairModel$Console", "two", "()I"⟩, 68), (⟨"HandheldPairModel$Console", "stop", "()V"⟩, 68), (⟨"HandheldPairModel$Console", "cc", "(I)Z"⟩, 68)]
theorem lw_r5 : ∀ q ∈ lw_privs_5, lw_okq q := List.forall_mem_cons.mpr ⟨lw_p64, List.forall_mem_cons.mpr ⟨lw_p65, List.forall_mem_cons.mpr ⟨lw_p66, List.forall_mem_cons.mpr ⟨lw_p67, List.forall_mem_cons.mpr ⟨lw_p68, List.forall_mem_cons.mpr ⟨lw_p69, List.forall_mem_cons.mpr ⟨lw_p70, List.forall_mem_cons.mpr ⟨lw_p71, List.forall_mem_cons.mpr ⟨lw_p72, List.forall_mem_cons.mpr ⟨lw_p73, List.forall_mem_cons.mpr ⟨lw_p74, List.forall_mem_cons.mpr ⟨lw_p75, List.forall_mem_cons.mpr ⟨lw_p76, List.forall_mem_cons.mpr ⟨lw_p77, List.forall_mem_cons.mpr ⟨lw_p78, List.forall_mem_cons.mpr ⟨lw_p79, fun _ h => absurd h List.not_mem_nil⟩⟩⟩⟩⟩⟩⟩⟩⟩⟩⟩⟩⟩⟩⟩⟩
theorem lw_p80 : lw_okq (⟨"HandheldPairModel$Console", "jump", "(I)V"⟩, 68) := ⟨⟨by decide +kernel, by decide +kernel⟩, List.mem_of_getElem? (i := 1662) (by decide +kernel), List.mem_of_getElem? (i := 2699) (by decide +kernel), List.mem_of_getElem? (i := 2700) (by decide +kernel)⟩
theorem lw_p81 : lw_okq (⟨"HandheldPairModel$Console", "pair", "(II)V"⟩, 68) := ⟨⟨by decide +kernel, by decide +kernel⟩, List.mem_of_getElem? (i := 1662) (by decide +kernel), List.mem_of_getElem? (i := 2703) (by decide +kernel), List.mem_of_getElem? (i := 2704) (by decide +kernel)⟩
theorem lw_p82 : lw_okq (⟨"HandheldPairModel$Console", "flags", "(II)V"⟩, 68) := ⟨⟨by decide +kernel, by decide +kernel⟩, List.mem_of_getElem? (i := 1662) (by decide +kernel), List.mem_of_getElem? (i := 2707) (by decide +kernel), List.mem_of_getElem? (i := 2708) (by decide +kernel)⟩
theorem lw_p83 : lw_okq (⟨"HandheldPairModel$Console", "ofA", "(I)V"⟩, 68) := ⟨⟨by decide +kernel, by decide +kernel⟩, List.mem_of_getElem? (i := 1662) (by decide +kernel), List.mem_of_getElem? (i := 2712) (by decide +kernel), List.mem_of_getElem? (i := 2713) (by decide +kernel)⟩
theorem lw_p84 : lw_okq (⟨"HandheldPairModel$Console", "turn", "(II)I"⟩, 68) := ⟨⟨by decide +kernel, by decide +kernel⟩, List.mem_of_getElem? (i := 1662) (by decide +kernel), List.mem_of_getElem? (i := 2716) (by decide +kernel), List.mem_of_getElem? (i := 2717) (by decide +kernel)⟩
theorem lw_p85 : lw_okq (⟨"HandheldPairModel$Console", "decimal", "(I)V"⟩, 68) := ⟨⟨by decide +kernel, by decide +kernel⟩, List.mem_of_getElem? (i := 1662) (by decide +kernel), List.mem_of_getElem? (i := 2720) (by decide +kernel), List.mem_of_getElem? (i := 2721) (by decide +kernel)⟩
theorem lw_p86 : lw_okq (⟨"HandheldPairModel$Console", "high", "(II)V"⟩, 68) := ⟨⟨by decide +kernel, by decide +kernel⟩, List.mem_of_getElem? (i := 1662) (by decide +kernel), List.mem_of_getElem? (i := 2724) (by decide +kernel), List.mem_of_getElem? (i := 2725) (by decide +kernel)⟩
theorem lw_p87 : lw_okq (⟨"HandheldPairModel$Console", "highZero", "(I)V"⟩, 68) := ⟨⟨by decide +kernel, by decide +kernel⟩, List.mem_of_getElem? (i := 1662) (by decide +kernel), List.mem_of_getElem? (i := 2728) (by decide +kernel), List.mem_of_getElem? (i := 2729) (by decide +kernel)⟩
theorem lw_p88 : lw_okq (⟨"HandheldPairModel$Console", "back", "()V"⟩, 68) := ⟨⟨by decide +kernel, by decide +kernel⟩, List.mem_of_getElem? (i := 1662) (by decide +kernel), List.mem_of_getElem? (i := 2732) (by decide +kernel), List.mem_of_getElem? (i := 2733) (by decide +kernel)⟩
theorem lw_p89 : lw_okq (⟨"HandheldPairModel$Console", "pop", "()I"⟩, 68) := ⟨⟨by decide +kernel, by decide +kernel⟩, List.mem_of_getElem? (i := 1662) (by decide +kernel), List.mem_of_getElem? (i := 2736) (by decide +kernel), List.mem_of_getElem? (i := 2737) (by decide +kernel)⟩
theorem lw_p90 : lw_okq (⟨"HandheldPairModel$Console", "highOne", "(IZ)V"⟩, 68) := ⟨⟨by decide +kernel, by decide +kernel⟩, List.mem_of_getElem? (i := 1662) (by decide +kernel), List.mem_of_getElem? (i := 2740) (by decide +kernel), List.mem_of_getElem? (i := 2741) (by decide +kernel)⟩
theorem lw_p91 : lw_okq (⟨"HandheldPairModel$Console", "highTwo", "(I)V"⟩, 68) := ⟨⟨by decide +kernel, by decide +kernel⟩, List.mem_of_getElem? (i := 1662) (by decide +kernel), List.mem_of_getElem? (i := 2744) (by decide +kernel), List.mem_of_getElem? (i := 2745) (by decide +kernel)⟩
theorem lw_p92 : lw_okq (⟨"HandheldPairModel$Console", "highThree", "(I)V"⟩, 68) := ⟨⟨by decide +kernel, by decide +kernel⟩, List.mem_of_getElem? (i := 1662) (by decide +kernel), List.mem_of_getElem? (i := 2748) (by decide +kernel), List.mem_of_getElem? (i := 2749) (by decide +kernel)⟩
theorem lw_p93 : lw_okq (⟨"HandheldPairModel$Console", "second", "(I)V"⟩, 68) := ⟨⟨by decide +kernel, by decide +kernel⟩, List.mem_of_getElem? (i := 1662) (by decide +kernel), List.mem_of_getElem? (i := 2752) (by decide +kernel), List.mem_of_getElem? (i := 2753) (by decide +kernel)⟩
theorem lw_p94 : lw_okq (⟨"HandheldPairModel$Console", "call", "(I)V"⟩, 68) := ⟨⟨by decide +kernel, by decide +kernel⟩, List.mem_of_getElem? (i := 1662) (by decide +kernel), List.mem_of_getElem? (i := 2756) (by decide +kernel), List.mem_of_getElem? (i := 2757) (by decide +kernel)⟩
theorem lw_p95 : lw_okq (⟨"HandheldPairModel$Console", "push", "(I)V"⟩, 68) := ⟨⟨by decide +kernel, by decide +kernel⟩, List.mem_of_getElem? (i := 1662) (by decide +kernel), List.mem_of_getElem? (i := 2760) (by decide +kernel), List.mem_of_getElem? (i := 2761) (by decide +kernel)⟩
def lw_privs_6 : List (MethodName × Nat) := [(⟨"HandheldPairModel$Console", "jump", "(I)V"⟩, 68), (⟨"HandheldPairModel$Console", "pair", "(II)V"⟩, 68), (⟨"HandheldPairModel$Console", "flags", "(II)V"⟩, 68), (⟨"HandheldPairModel$Console", "ofA", "(I)V"⟩, 68), (⟨"HandheldPairModel$Console", "turn", "(II)I"⟩, 68), (⟨"HandheldPairModel$Console", "decimal", "(I)V"⟩, 68), (⟨"HandheldPairModel$Console", "high", "(II)V"⟩, 68), (⟨"HandheldPairModel$Console", "highZero", "(I)V"⟩, 68), (⟨"HandheldPairModel$Console", "back", "()V"⟩, 68), (⟨"HandheldPairModel$Console", "pop", "()I"⟩, 68), (⟨"HandheldPairModel$Console", "highOne", "(IZ)V"⟩, 68), (⟨"HandheldPairModel$Console", "highTwo", "(I)V"⟩, 68), (⟨"HandheldPairModel$Console", "highThree", "(I)V"⟩, 68), (⟨"HandheldPairModel$Console", "second", "(I)V"⟩, 68), (⟨"HandheldPairModel$Console", "call", "(I)V"⟩, 68), (⟨"HandheldPairModel$Console", "push", "(I)V"⟩, 68)]
theorem lw_r6 : ∀ q ∈ lw_privs_6, lw_okq q := List.forall_mem_cons.mpr ⟨lw_p80, List.forall_mem_cons.mpr ⟨lw_p81, List.forall_mem_cons.mpr ⟨lw_p82, List.forall_mem_cons.mpr ⟨lw_p83, List.forall_mem_cons.mpr ⟨lw_p84, List.forall_mem_cons.mpr ⟨lw_p85, List.forall_mem_cons.mpr ⟨lw_p86, List.forall_mem_cons.mpr ⟨lw_p87, List.forall_mem_cons.mpr ⟨lw_p88, List.forall_mem_cons.mpr ⟨lw_p89, List.forall_mem_cons.mpr ⟨lw_p90, List.forall_mem_cons.mpr ⟨lw_p91, List.forall_mem_cons.mpr ⟨lw_p92, List.forall_mem_cons.mpr ⟨lw_p93, List.forall_mem_cons.mpr ⟨lw_p94, List.forall_mem_cons.mpr ⟨lw_p95, fun _ h => absurd h List.not_mem_nil⟩⟩⟩⟩⟩⟩⟩⟩⟩⟩⟩⟩⟩⟩⟩⟩
theorem lw_p96 : lw_okq (⟨"HandheldPairModel$Console", "becomeScreen", "(LHandheldPairModel$Console;)V"⟩, 68) := ⟨⟨by decide +kernel, by decide +kernel⟩, List.mem_of_getElem? (i := 1662) (by decide +kernel), List.mem_of_getElem? (i := 2816) (by decide +kernel), List.mem_of_getElem? (i := 2817) (by decide +kernel)⟩
def lw_privs_7 : List (MethodName × Nat) := [(⟨"HandheldPairModel$Console", "becomeScreen", "(LHandheldPairModel$Console;)V"⟩, 68)]
theorem lw_r7 : ∀ q ∈ lw_privs_7, lw_okq q := List.forall_mem_cons.mpr ⟨lw_p96, fun _ h => absurd h List.not_mem_nil⟩
def lw_privs : List (MethodName × Nat) := lw_privs_1 ++ (lw_privs_2 ++ (lw_privs_3 ++ (lw_privs_4 ++ (lw_privs_5 ++ (lw_privs_6 ++ (lw_privs_7))))))
def lw_tbl : List Cond := k2_sels lw_privs ++ tables_1
theorem lw_privs_ok : ∀ q ∈ lw_privs, lw_okq q := by
  show ∀ q ∈ lw_privs_1 ++ (lw_privs_2 ++ (lw_privs_3 ++ (lw_privs_4 ++ (lw_privs_5 ++ (lw_privs_6 ++ (lw_privs_7)))))), lw_okq q
  exact List.forall_mem_append.mpr ⟨lw_r1, List.forall_mem_append.mpr ⟨lw_r2, List.forall_mem_append.mpr ⟨lw_r3, List.forall_mem_append.mpr ⟨lw_r4, List.forall_mem_append.mpr ⟨lw_r5, List.forall_mem_append.mpr ⟨lw_r6, lw_r7⟩⟩⟩⟩⟩⟩
end
section
abbrev gx_V (α β : Type) : Type := α ⊕ (β ⊕ Option Nat)
abbrev gx_C (α β : Type) : Type := (Nat × List (gx_V α β)) ⊕ (Nat × Nat × (Nat → gx_V α β))
abbrev gx_H (α β : Type) : Type := List (gx_C α β)
abbrev gx_L (α β : Type) : Type := List (Nat × gx_V α β)
abbrev gx_O (α β : Type) : Type := Option (gx_V α β) ⊕ Nat
abbrev gx_R (α β π : Type) : Type := gx_O α β × gx_H α β × π
abbrev gx_N (α β π : Type) : Type := Nat × gx_L α β × List (gx_V α β) × gx_H α β × π
abbrev gx_D (α β π : Type) : Type :=
  (Int32 → α) × (Int64 → β) × (Nat → α → α) × (Nat → α → α → α) × (Nat → β → β → β) × (β → β → α) × (α → β) × (β → α) ×
  (Nat → π → α → α → Option (List (Bool × π))) × (π → α → Nat → Option (List (Nat × π))) × (π → α → Bool)
section GXD
variable {α β π : Type}
def gx_cI (D : gx_D α β π) : Int32 → α := D.1
def gx_cL (D : gx_D α β π) : Int64 → β := D.2.1
def gx_un (D : gx_D α β π) : Nat → α → α := D.2.2.1
def gx_bi (D : gx_D α β π) : Nat → α → α → α := D.2.2.2.1
def gx_lb (D : gx_D α β π) : Nat → β → β → β := D.2.2.2.2.1
def gx_lc (D : gx_D α β π) : β → β → α := D.2.2.2.2.2.1
def gx_il (D : gx_D α β π) : α → β := D.2.2.2.2.2.2.1
def gx_li (D : gx_D α β π) : β → α := D.2.2.2.2.2.2.2.1
def gx_cm (D : gx_D α β π) : Nat → π → α → α → Option (List (Bool × π)) := D.2.2.2.2.2.2.2.2.1
def gx_ix (D : gx_D α β π) : π → α → Nat → Option (List (Nat × π)) := D.2.2.2.2.2.2.2.2.2.1
def gx_bt (D : gx_D α β π) : π → α → Bool := D.2.2.2.2.2.2.2.2.2.2
end GXD
def gx_sun (o : Nat) (x : Int32) : Int32 := match o with
  | 0 => -x
  | 1 => x.toInt8.toInt32
  | 2 => x.toInt16.toInt32
  | _ => (x.toUInt32 % 65536).toInt32
def gx_sbi (o : Nat) (x y : Int32) : Int32 := match o with
  | 0 => x + y
  | 1 => x - y
  | 2 => x * y
  | 3 => x &&& y
  | 4 => x ||| y
  | 5 => x ^^^ y
  | 6 => x <<< (y &&& 31)
  | 7 => x >>> (y &&& 31)
  | 9 => x / y
  | 10 => x - x / y * y
  | _ => (x.toUInt32 >>> (y.toUInt32 &&& Int32.toUInt32 31)).toInt32
def gx_slb (o : Nat) (x y : Int64) : Int64 := match o with
  | 0 => x + y
  | 1 => x - y
  | 2 => x * y
  | 3 => x &&& y
  | 4 => x ||| y
  | _ => x ^^^ y
def gx_scm (o : Nat) (x y : Int32) : Bool := match o with
  | 0 => decide (x = y)
  | 1 => decide (¬ x = y)
  | 2 => decide (x < y)
  | 3 => decide (y ≤ x)
  | 4 => decide (y < x)
  | _ => decide (x ≤ y)
section GXL
variable {α β π : Type}
def gx_kd : gx_V α β → Nat
  | .inl _ => 1
  | .inr (.inl _) => 2
  | .inr (.inr _) => 3
def gx_cat : gx_V α β → Nat
  | .inr (.inl _) => 2
  | _ => 1
def gx_lk (lv : gx_L α β) (i : Nat) : Option (gx_V α β) := (lv.find? (fun q => q.1 == i)).map (·.2)
def gx_p1 (lv : gx_L α β) (i : Nat) (v : gx_V α β) : gx_L α β := (i, v) :: lv.filter (fun q => !(q.1 == i) && !(q.1 + 1 == i && gx_cat q.2 == 2))
def gx_p2 (lv : gx_L α β) (i : Nat) (v : gx_V α β) : gx_L α β := (i, v) :: lv.filter (fun q => !(q.1 == i) && (!(q.1 == i + 1) && !(q.1 + 1 == i && gx_cat q.2 == 2)))
def gx_args : Nat → List (gx_V α β) → gx_L α β
  | _, [] => []
  | i, v :: vs => (i, v) :: gx_args (if gx_cat v = 2 then i + 2 else i + 1) vs
def gx_up (f : Nat → gx_V α β) (k : Nat) (v : gx_V α β) : Nat → gx_V α β := fun j => if j = k then v else f j
end GXL
abbrev gx_M : Type := MethodName × ByteArray × Nat × Option FieldType × Nat × Nat × Bool × List (List (List (Nat × Instr))) × List (Nat × Nat × Nat × Nat)
def gx_y (M : gx_M) : MethodName := M.1
def gx_cc (M : gx_M) : ByteArray := M.2.1
def gx_ml (M : gx_M) : Nat := M.2.2.1
def gx_rt (M : gx_M) : Option FieldType := M.2.2.2.1
def gx_na (M : gx_M) : Nat := M.2.2.2.2.1
def gx_ow (M : gx_M) : Nat := M.2.2.2.2.2.1
def gx_in (M : gx_M) : Bool := M.2.2.2.2.2.2.1
def gx_is (M : gx_M) : List (List (List (Nat × Instr))) := M.2.2.2.2.2.2.2.1
def gx_hs (M : gx_M) : List (Nat × Nat × Nat × Nat) := M.2.2.2.2.2.2.2.2
def gx_at (M : gx_M) (pc : Nat) : Option Instr := match (gx_is M)[pc / 64]? with
  | some a => match a[pc / 8 % 8]? with
    | some b => (b.find? (fun q => q.1 == pc)).map (·.2)
    | none => none
  | none => none
abbrev gx_G : Type := (Nat → Nat → Option (Nat × Nat)) × (Nat → Nat → Option (Nat × Nat)) × (Nat → Nat → Option Nat) × (Nat → Nat → Option (Int32 ⊕ (Int64 ⊕ Nat))) × (Nat → Option (List (Nat × Bool) × Nat)) × (Nat → Nat → Option Bool) × (Nat → Option gx_M)
def gx_fl (G : gx_G) : Nat → Nat → Option (Nat × Nat) := G.1
def gx_mt (G : gx_G) : Nat → Nat → Option (Nat × Nat) := G.2.1
def gx_cs (G : gx_G) : Nat → Nat → Option Nat := G.2.2.1
def gx_ks (G : gx_G) : Nat → Nat → Option (Int32 ⊕ (Int64 ⊕ Nat)) := G.2.2.2.1
def gx_kl (G : gx_G) : Nat → Option (List (Nat × Bool) × Nat) := G.2.2.2.2.1
def gx_sb (G : gx_G) : Nat → Nat → Option Bool := G.2.2.2.2.2.1
def gx_mm (G : gx_G) : Nat → Option gx_M := G.2.2.2.2.2.2
abbrev gx_S (α β π : Type) : Type := Option ((List (gx_N α β π) ⊕ (gx_R α β π ⊕ (Nat × Nat × List (gx_V α β) × List (gx_V α β)))) × Nat × Nat)
section GXS
variable {α β π : Type}
def gx_go (ns : List (gx_N α β π)) : gx_S α β π := some (.inl ns, 0, 0)
def gx_g1 (n : gx_N α β π) : gx_S α β π := some (.inl [n], 0, 0)
def gx_fin (r : gx_R α β π) : gx_S α β π := some (.inr (.inl r), 0, 0)
def gx_tg (pc : Nat) (off : Int) : Option Nat := if 0 ≤ (pc : Int) + off then some ((pc : Int) + off).toNat else none
def gx_ld (lv : gx_L α β) (st : List (gx_V α β)) (h : gx_H α β) (P : π) (pc i kd : Nat) : gx_S α β π := match gx_lk lv i with
  | some v => if gx_kd v = kd then gx_g1 (pc, lv, v :: st, h, P) else none
  | none => none
def gx_sv (ml : Nat) (lv : gx_L α β) (st : List (gx_V α β)) (h : gx_H α β) (P : π) (pc i kd : Nat) : gx_S α β π := match st with
  | v :: r => if gx_kd v = kd ∧ i < ml then gx_g1 (pc, gx_p1 lv i v, r, h, P) else none
  | [] => none
def gx_sl (ml : Nat) (lv : gx_L α β) (st : List (gx_V α β)) (h : gx_H α β) (P : π) (pc i : Nat) : gx_S α β π := match st with
  | .inr (.inl b) :: r => if i + 1 < ml then gx_g1 (pc, gx_p2 lv i (.inr (.inl b)), r, h, P) else none
  | _ => none
def gx_b2 (D : gx_D α β π) (o : Nat) (lv : gx_L α β) (st : List (gx_V α β)) (h : gx_H α β) (P : π) (pc : Nat) : gx_S α β π := match st with
  | .inl b :: .inl a :: r => gx_g1 (pc + 1, lv, .inl (gx_bi D o a b) :: r, h, P)
  | _ => none
def gx_dv (D : gx_D α β π) (o : Nat) (lv : gx_L α β) (st : List (gx_V α β)) (h : gx_H α β) (P : π) (pc : Nat) : gx_S α β π := match st with
  | .inl b :: .inl a :: r => match gx_cm D 0 P b (gx_cI D 0) with
    | some [(false, P')] => gx_g1 (pc + 1, lv, .inl (gx_bi D o a b) :: r, h, P')
    | _ => none
  | _ => none
def gx_u1 (D : gx_D α β π) (o : Nat) (lv : gx_L α β) (st : List (gx_V α β)) (h : gx_H α β) (P : π) (pc : Nat) : gx_S α β π := match st with
  | .inl a :: r => gx_g1 (pc + 1, lv, .inl (gx_un D o a) :: r, h, P)
  | _ => none
def gx_l2 (D : gx_D α β π) (o : Nat) (lv : gx_L α β) (st : List (gx_V α β)) (h : gx_H α β) (P : π) (pc : Nat) : gx_S α β π := match st with
  | .inr (.inl b) :: .inr (.inl a) :: r => gx_g1 (pc + 1, lv, .inr (.inl (gx_lb D o a b)) :: r, h, P)
  | _ => none
def gx_br (D : gx_D α β π) (o : Nat) (a b : α) (lv : gx_L α β) (r : List (gx_V α β)) (h : gx_H α β) (P : π) (pc : Nat) (off : Int) : gx_S α β π :=
  match gx_tg pc off, gx_cm D o P a b with
  | some t, some l => gx_go (l.map fun q => (if q.1 then t else pc + 3, lv, r, h, q.2))
  | _, _ => none
def gx_b1 (D : gx_D α β π) (o : Nat) (lv : gx_L α β) (st : List (gx_V α β)) (h : gx_H α β) (P : π) (pc : Nat) (off : Int) : gx_S α β π := match st with
  | .inl a :: r => gx_br D o a (gx_cI D 0) lv r h P pc off
  | _ => none
def gx_bc (D : gx_D α β π) (o : Nat) (lv : gx_L α β) (st : List (gx_V α β)) (h : gx_H α β) (P : π) (pc : Nat) (off : Int) : gx_S α β π := match st with
  | .inl b :: .inl a :: r => gx_br D o a b lv r h P pc off
  | _ => none
def gx_mp {A B : Type} (f : A → Option B) : List A → Option (List B)
  | [] => some []
  | x :: xs => match f x with
    | none => none
    | some y => match gx_mp f xs with
      | none => none
      | some ys => some (y :: ys)
def gx_sw (D : gx_D α β π) (a : α) : List Int32 → Nat → π → Option (List (Option Nat × π))
  | [], _, P => some [(none, P)]
  | k :: ks, j, P => match gx_cm D 0 P a (gx_cI D k) with
    | none => none
    | some l => (gx_mp (fun q => if q.1 then some [(some j, q.2)] else gx_sw D a ks (j + 1) q.2) l).map List.flatten
def gx_rg (lo : Int) : Nat → List Int32
  | 0 => []
  | n + 1 => Int32.ofInt lo :: gx_rg (lo + 1) n
def gx_df (D : gx_D α β π) (tg : Nat) : gx_V α β := if tg = 2 then .inr (.inl (gx_cL D 0)) else if tg < 4 then .inl (gx_cI D 0) else .inr (.inr none)
def gx_ft (D : gx_D α β π) (P : π) (tg : Nat) (v : gx_V α β) : Bool := match v with
  | .inl a => tg == 0 || (tg == 1 && gx_bt D P a)
  | .inr (.inl _) => tg == 2
  | .inr (.inr _) => tg == 3
def gx_fd (D : gx_D α β π) (tg : Nat) : gx_V α β := if tg = 2 then .inr (.inl (gx_cL D 0)) else if tg < 2 then .inl (gx_cI D 0) else .inr (.inr none)
def gx_al (D : gx_D α β π) (ok : Nat → Bool) (lv : gx_L α β) (st : List (gx_V α β)) (h : gx_H α β) (P : π) (pc : Nat) : gx_S α β π := match st with
  | .inl i :: .inr (.inr (some a)) :: r => match h[a]? with
    | some (.inr (tg, n, f)) => if ok tg then match gx_ix D P i n with
        | some l => gx_go (l.map fun q => (pc + 1, lv, f q.1 :: r, h, q.2))
        | none => none
      else none
    | _ => none
  | _ => none
def gx_nw (D : gx_D α β π) (tg : Nat) (x : α) : α := if tg = 0 then x else if tg = 1 then gx_bi D 3 x (gx_cI D 1) else gx_un D 1 x
def gx_as (D : gx_D α β π) (mo : Nat) (ok : Nat → Bool) (lv : gx_L α β) (st : List (gx_V α β)) (h : gx_H α β) (P : π) (pc : Nat) : gx_S α β π := match st with
  | .inl x :: .inl i :: .inr (.inr (some a)) :: r => match h[a]? with
    | some (.inr (tg, n, f)) => if ok tg ∧ mo ≤ a then match gx_ix D P i n with
        | some l => gx_go (l.map fun q => (pc + 1, lv, r, h.set a (.inr (tg, n, gx_up f q.1 (.inl (gx_nw D tg x)))), q.2))
        | none => none
      else none
    | _ => none
  | _ => none
def gx_asl (D : gx_D α β π) (mo : Nat) (lv : gx_L α β) (st : List (gx_V α β)) (h : gx_H α β) (P : π) (pc : Nat) : gx_S α β π := match st with
  | .inr (.inl x) :: .inl i :: .inr (.inr (some a)) :: r => match h[a]? with
    | some (.inr (tg, n, f)) => if tg = 2 ∧ mo ≤ a then match gx_ix D P i n with
        | some l => gx_go (l.map fun q => (pc + 1, lv, r, h.set a (.inr (tg, n, gx_up f q.1 (.inr (.inl x)))), q.2))
        | none => none
      else none
    | _ => none
  | _ => none
def gx_isc (h : gx_H α β) (tg b : Nat) : Bool := match h[b]? with
  | some (.inl (ci, _)) => tg == 10 + ci
  | some (.inr (t1, _, _)) => tg == 4 && t1 == 3
  | _ => false
def gx_asr (D : gx_D α β π) (mo : Nat) (lv : gx_L α β) (st : List (gx_V α β)) (h : gx_H α β) (P : π) (pc : Nat) : gx_S α β π := match st with
  | .inr (.inr (some b)) :: .inl i :: .inr (.inr (some a)) :: r => match h[a]? with
    | some (.inr (tg, n, f)) => if gx_isc h tg b = true ∧ mo ≤ a then match gx_ix D P i n with
        | some l => gx_go (l.map fun q => (pc + 1, lv, r, h.set a (.inr (tg, n, gx_up f q.1 (.inr (.inr (some b))))), q.2))
        | none => none
      else none
    | _ => none
  | _ => none
def gx_gf (G : gx_G) (ow idx : Nat) (lv : gx_L α β) (st : List (gx_V α β)) (h : gx_H α β) (P : π) (pc : Nat) : gx_S α β π := match gx_fl G ow idx, st with
  | some (ci, k), .inr (.inr (some a)) :: r => match h[a]? with
    | some (.inl (ci2, fs)) => if ci2 = ci then match fs[k]? with
        | some v => gx_g1 (pc + 3, lv, v :: r, h, P)
        | none => none
      else none
    | _ => none
  | _, _ => none
def gx_pf (G : gx_G) (D : gx_D α β π) (mo ow : Nat) (isI : Bool) (idx : Nat) (lv : gx_L α β) (st : List (gx_V α β)) (h : gx_H α β) (P : π) (pc : Nat) : gx_S α β π := match gx_fl G ow idx, st with
  | some (ci, k), v :: .inr (.inr (some a)) :: r => match h[a]?, gx_kl G ci with
    | some (.inl (ci2, fs)), some (tys, _) => match tys[k]? with
      | some (tg, fin) => if ci2 = ci ∧ (fs[k]?).isSome = true ∧ mo ≤ a ∧ gx_ft D P tg v = true ∧ (fin = false ∨ (isI = true ∧ ow = ci)) then gx_g1 (pc + 3, lv, r, h.set a (.inl (ci, fs.set k v)), P) else none
      | none => none
    | _, _ => none
  | _, _ => none
def gx_na0 (D : gx_D α β π) (tg len : Nat) (lv : gx_L α β) (st : List (gx_V α β)) (h : gx_H α β) (P : π) (pc : Nat) : gx_S α β π := match st with
  | .inl a :: r => match gx_ix D P a 100000 with
    | some [(k, P')] => some (.inl [(pc + len, lv, .inr (.inr (some h.length)) :: r, h ++ [.inr (tg, k, fun _ => gx_df D tg)], P')], 1, k)
    | _ => none
  | _ => none
def gx_wd (st : List (gx_V α β)) : Nat := (st.map gx_cat).sum
def gx_cls (h : gx_H α β) (k : Nat) : Option Nat := match h[k]? with
  | some (.inl (ci, _)) => some ci
  | _ => none
def gx_rc (h : gx_H α β) (kd ow : Nat) (as : List (gx_V α β)) : Bool := if kd = 0 then true else match as with
  | .inr (.inr (some a)) :: _ => if kd = 1 then decide (gx_cls h a = some ow) else true
  | _ => false
def gx_ca (G : gx_G) (kds : List Nat) (ow idx : Nat) (st : List (gx_V α β)) (h : gx_H α β) : gx_S α β π := match gx_mt G ow idx with
  | some (k2, j) => if kds.contains k2 then match gx_mm G j with
      | some M => if gx_na M ≤ st.length ∧ gx_wd (st.drop (gx_na M)) ≤ 8 ∧ gx_wd (st.take (gx_na M)).reverse ≤ gx_ml M ∧ gx_rc h k2 (gx_ow M) (st.take (gx_na M)).reverse = true then some (.inr (.inr (k2, j, (st.take (gx_na M)).reverse, st.drop (gx_na M))), 0, 0) else none
      | none => none
    else none
  | none => none
def gx_ex (G : gx_G) (M : gx_M) (ci : Nat) (st : List (gx_V α β)) (h : gx_H α β) (P : π) (pc : Nat) : gx_S α β π := match gx_at M (pc + 3), gx_at M (pc + 4), gx_at M (pc + 6), gx_at M (pc + 9) with
  | some .dup, some (.ldc k), some (.invokespecial j), some .athrow => match gx_ks G (gx_ow M) k, gx_mt G (gx_ow M) j with
    | some (.inr (.inr _)), some (8, c2) => if c2 = ci ∧ gx_hs M = [] ∧ gx_wd st ≤ 8 then some (.inr (.inl (.inr h.length, h ++ [.inl (ci, [])], P)), 1, 6) else none
    | _, _ => none
  | _, _, _, _ => none
def gx_nw0 (G : gx_G) (D : gx_D α β π) (M : gx_M) (idx : Nat) (lv : gx_L α β) (st : List (gx_V α β)) (h : gx_H α β) (P : π) (pc : Nat) : gx_S α β π := match gx_cs G (gx_ow M) idx with
  | some ci => match gx_kl G ci with
    | some (tys, n) => if tys.length = n then some (.inl [(pc + 3, lv, .inr (.inr (some h.length)) :: st, h ++ [.inl (ci, tys.map fun q => gx_fd D q.1)], P)], 1, n) else gx_ex G M ci st h P pc
    | none => none
  | none => none
def gx_cpy (f g : Nat → gx_V α β) (sp dp n : Nat) : Nat → gx_V α β := fun k => if dp ≤ k ∧ k < dp + n then f (sp + (k - dp)) else g k
def gx_cp (D : gx_D α β π) (mo : Nat) (lv : gx_L α β) (st : List (gx_V α β)) (h : gx_H α β) (P : π) (pc : Nat) : gx_S α β π := match st with
  | .inl n :: .inl dp :: .inr (.inr (some b)) :: .inl sp :: .inr (.inr (some a)) :: r => match h[a]?, h[b]? with
    | some (.inr (tg, n0, f)), some (.inr (tg1, n1, g)) => match gx_ix D P n 1000000 with
      | some [(kn, P1)] => match gx_ix D P1 sp 1000000 with
        | some [(ks, P2)] => match gx_ix D P2 dp 1000000 with
          | some [(kp, P3)] => if tg = tg1 ∧ tg < 4 ∧ ks + kn ≤ n0 ∧ kp + kn ≤ n1 ∧ mo ≤ a ∧ mo ≤ b ∧ gx_wd r ≤ 8 then gx_g1 (pc + 3, lv, r, h.set b (.inr (tg1, n1, gx_cpy f g ks kp kn)), P3) else none
          | _ => none
        | _ => none
      | _ => none
    | _, _ => none
  | _ => none
def gx_iv (G : gx_G) (D : gx_D α β π) (mo : Nat) (M : gx_M) (idx : Nat) (lv : gx_L α β) (st : List (gx_V α β)) (h : gx_H α β) (P : π) (pc : Nat) : gx_S α β π := match gx_mt G (gx_ow M) idx with
  | some (4, _) => gx_cp D mo lv st h P pc
  | _ => gx_ca G [0] (gx_ow M) idx st h
def gx_sp (G : gx_G) (M : gx_M) (idx : Nat) (lv : gx_L α β) (st : List (gx_V α β)) (h : gx_H α β) (P : π) (pc : Nat) : gx_S α β π := match gx_mt G (gx_ow M) idx with
  | some (3, _) => match st with
    | .inr (.inr (some _)) :: r => if gx_wd r ≤ 8 then gx_g1 (pc + 3, lv, r, h, P) else none
    | _ => none
  | _ => gx_ca G [2, 7] (gx_ow M) idx st h
def gx_rn (D : gx_D α β π) (rt : Option FieldType) (st : List (gx_V α β)) (h : gx_H α β) (P : π) : gx_S α β π := match rt, st with
  | some .int, [.inl a] => gx_fin (.inl (some (.inl a)), h, P)
  | some .boolean, [.inl a] => if gx_bt D P a = true then gx_fin (.inl (some (.inl a)), h, P) else none
  | _, _ => none
def gx_rl (rt : Option FieldType) (st : List (gx_V α β)) (h : gx_H α β) (P : π) : gx_S α β π := match rt, st with
  | some .long, [.inr (.inl b)] => gx_fin (.inl (some (.inr (.inl b))), h, P)
  | _, _ => none
def gx_ra (rt : Option FieldType) (st : List (gx_V α β)) (h : gx_H α β) (P : π) : gx_S α β π := match rt, st with
  | some (.object _), [.inr (.inr a)] => gx_fin (.inl (some (.inr (.inr a))), h, P)
  | _, _ => none
def gx_rv (rt : Option FieldType) (st : List (gx_V α β)) (h : gx_H α β) (P : π) : gx_S α β π := match rt, st with
  | none, [] => gx_fin (.inl none, h, P)
  | _, _ => none
def gx_co : ClassFile.Cond → Nat
  | .eq => 0
  | .ne => 1
  | .lt => 2
  | .ge => 3
  | .gt => 4
  | .le => 5
def gx_ts (D : gx_D α β π) (dflt lo : Int) (offs : Array Int) (lv : gx_L α β) (st : List (gx_V α β)) (h : gx_H α β) (P : π) (pc : Nat) : gx_S α β π := match st with
  | .inl a :: r => match gx_sw D a (gx_rg lo offs.size) 0 P with
    | none => none
    | some l => (gx_mp (fun q => match gx_tg pc (match q.1 with | some j => offs.toList.getD j 0 | none => dflt) with
        | some t => some ((t, lv, r, h, q.2) : gx_N α β π)
        | none => none) l).bind gx_go
  | _ => none
def gx_ls (D : gx_D α β π) (dflt : Int) (ps : Array (Int × Int)) (lv : gx_L α β) (st : List (gx_V α β)) (h : gx_H α β) (P : π) (pc : Nat) : gx_S α β π := match st with
  | .inl a :: r => match gx_sw D a (ps.toList.map fun q => Int32.ofInt q.1) 0 P with
    | none => none
    | some l => (gx_mp (fun q => match gx_tg pc (match q.1 with | some j => (ps.toList.getD j (0, 0)).2 | none => dflt) with
        | some t => some ((t, lv, r, h, q.2) : gx_N α β π)
        | none => none) l).bind gx_go
  | _ => none
def gx_kc (G : gx_G) (D : gx_D α β π) (ow idx len : Nat) (lv : gx_L α β) (st : List (gx_V α β)) (h : gx_H α β) (P : π) (pc : Nat) : gx_S α β π := match gx_ks G ow idx with
  | some (.inl x) => gx_g1 (pc + len, lv, .inl (gx_cI D x) :: st, h, P)
  | some (.inr (.inr k)) => gx_g1 (pc + len, lv, .inr (.inr (some k)) :: st, h, P)
  | _ => none
def gx_k2 (G : gx_G) (D : gx_D α β π) (ow idx : Nat) (lv : gx_L α β) (st : List (gx_V α β)) (h : gx_H α β) (P : π) (pc : Nat) : gx_S α β π := match gx_ks G ow idx with
  | some (.inr (.inl x)) => gx_g1 (pc + 3, lv, .inr (.inl (gx_cL D x)) :: st, h, P)
  | _ => none
def gx_tyo : ArrayType → Option Nat
  | .int => some 0
  | .boolean => some 1
  | .long => some 2
  | .byte => some 3
  | _ => none
def gx_i (G : gx_G) (D : gx_D α β π) (mo : Nat) (M : gx_M) (i : Instr) (pc : Nat) (lv : gx_L α β) (st : List (gx_V α β)) (h : gx_H α β) (P : π) : gx_S α β π := match i with
  | .iconst k => gx_g1 (pc + 1, lv, .inl (gx_cI D (Int32.ofInt k)) :: st, h, P)
  | .bipush k => gx_g1 (pc + 2, lv, .inl (gx_cI D (Int8.ofInt k).toInt32) :: st, h, P)
  | .sipush k => gx_g1 (pc + 3, lv, .inl (gx_cI D (Int16.ofInt k).toInt32) :: st, h, P)
  | .lconst k => gx_g1 (pc + 1, lv, .inr (.inl (gx_cL D (Int64.ofNat (k : Nat)))) :: st, h, P)
  | .aconst_null => gx_g1 (pc + 1, lv, .inr (.inr none) :: st, h, P)
  | .iload k => gx_ld lv st h P (pc + 2) k 1
  | .iload_n k => gx_ld lv st h P (pc + 1) k 1
  | .lload k => gx_ld lv st h P (pc + 2) k 2
  | .lload_n k => gx_ld lv st h P (pc + 1) k 2
  | .aload k => gx_ld lv st h P (pc + 2) k 3
  | .aload_n k => gx_ld lv st h P (pc + 1) k 3
  | .istore k => gx_sv (gx_ml M) lv st h P (pc + 2) k 1
  | .istore_n k => gx_sv (gx_ml M) lv st h P (pc + 1) k 1
  | .astore k => gx_sv (gx_ml M) lv st h P (pc + 2) k 3
  | .astore_n k => gx_sv (gx_ml M) lv st h P (pc + 1) k 3
  | .lstore k => gx_sl (gx_ml M) lv st h P (pc + 2) k
  | .lstore_n k => gx_sl (gx_ml M) lv st h P (pc + 1) k
  | .iinc k x => match gx_lk lv k with
    | some (.inl a) => if k < gx_ml M then gx_g1 (pc + 3, gx_p1 lv k (.inl (gx_bi D 0 a (gx_cI D (Int32.ofInt x)))), st, h, P) else none
    | _ => none
  | .iadd => gx_b2 D 0 lv st h P pc
  | .isub => gx_b2 D 1 lv st h P pc
  | .imul => gx_b2 D 2 lv st h P pc
  | .iand => gx_b2 D 3 lv st h P pc
  | .ior => gx_b2 D 4 lv st h P pc
  | .ixor => gx_b2 D 5 lv st h P pc
  | .ishl => gx_b2 D 6 lv st h P pc
  | .ishr => gx_b2 D 7 lv st h P pc
  | .iushr => gx_b2 D 8 lv st h P pc
  | .idiv => gx_dv D 9 lv st h P pc
  | .irem => gx_dv D 10 lv st h P pc
  | .ineg => gx_u1 D 0 lv st h P pc
  | .i2b => gx_u1 D 1 lv st h P pc
  | .i2s => gx_u1 D 2 lv st h P pc
  | .i2c => gx_u1 D 3 lv st h P pc
  | .ladd => gx_l2 D 0 lv st h P pc
  | .lsub => gx_l2 D 1 lv st h P pc
  | .land => gx_l2 D 3 lv st h P pc
  | .lcmp => match st with
    | .inr (.inl b) :: .inr (.inl a) :: r => gx_g1 (pc + 1, lv, .inl (gx_lc D a b) :: r, h, P)
    | _ => none
  | .i2l => match st with
    | .inl a :: r => gx_g1 (pc + 1, lv, .inr (.inl (gx_il D a)) :: r, h, P)
    | _ => none
  | .l2i => match st with
    | .inr (.inl b) :: r => gx_g1 (pc + 1, lv, .inl (gx_li D b) :: r, h, P)
    | _ => none
  | .dup => match st with
    | a :: r => if gx_cat a = 1 then gx_g1 (pc + 1, lv, a :: a :: r, h, P) else none
    | _ => none
  | .pop => match st with
    | a :: r => if gx_cat a = 1 then gx_g1 (pc + 1, lv, r, h, P) else none
    | _ => none
  | .dup_x1 => match st with
    | a :: b :: r => if gx_cat a = 1 ∧ gx_cat b = 1 then gx_g1 (pc + 1, lv, a :: b :: a :: r, h, P) else none
    | _ => none
  | .dup_x2 => match st with
    | a :: b :: d :: r => if gx_cat a = 1 ∧ gx_cat b = 1 ∧ gx_cat d = 1 then gx_g1 (pc + 1, lv, a :: b :: d :: a :: r, h, P) else none
    | _ => none
  | .dup2 => match st with
    | a :: b :: r => if gx_cat a = 1 ∧ gx_cat b = 1 then gx_g1 (pc + 1, lv, a :: b :: a :: b :: r, h, P) else if gx_cat a = 2 then gx_g1 (pc + 1, lv, a :: a :: b :: r, h, P) else none
    | _ => none
  | .goto off => match gx_tg pc off with
    | some t => gx_g1 (t, lv, st, h, P)
    | none => none
  | .ifCond o off => gx_b1 D (gx_co o) lv st h P pc off
  | .if_icmp o off => gx_bc D (gx_co o) lv st h P pc off
  | .ifnull off => match st with
    | .inr (.inr a) :: r => match gx_tg pc off with
      | some t => gx_g1 (if a.isNone then t else pc + 3, lv, r, h, P)
      | none => none
    | _ => none
  | .ifnonnull off => match st with
    | .inr (.inr a) :: r => match gx_tg pc off with
      | some t => gx_g1 (if a.isNone then pc + 3 else t, lv, r, h, P)
      | none => none
    | _ => none
  | .tableswitch dflt lo hi offs => if (offs.size : Int) = hi - lo + 1 ∧ -2147483648 ≤ lo ∧ hi ≤ 2147483647 then gx_ts D dflt lo offs lv st h P pc else none
  | .getfield idx => gx_gf G (gx_ow M) idx lv st h P pc
  | .putfield idx => gx_pf G D mo (gx_ow M) (gx_in M) idx lv st h P pc
  | .new idx => gx_nw0 G D M idx lv st h P pc
  | .newarray t => match gx_tyo t with
    | some tg => gx_na0 D tg 2 lv st h P pc
    | none => none
  | .anewarray idx => match gx_mt G (gx_ow M) idx with
    | some (9, ci) => gx_na0 D (10 + ci) 3 lv st h P pc
    | some (10, _) => gx_na0 D 4 3 lv st h P pc
    | _ => none
  | .arraylength => match st with
    | .inr (.inr (some a)) :: r => match h[a]? with
      | some (.inr (_, n, _)) => gx_g1 (pc + 1, lv, .inl (gx_cI D (Int32.ofNat n)) :: r, h, P)
      | _ => none
    | _ => none
  | .iaload => gx_al D (fun t => t == 0) lv st h P pc
  | .baload => gx_al D (fun t => t == 1 || t == 3) lv st h P pc
  | .laload => gx_al D (fun t => t == 2) lv st h P pc
  | .aaload => gx_al D (fun t => decide (4 ≤ t)) lv st h P pc
  | .iastore => gx_as D mo (fun t => t == 0) lv st h P pc
  | .bastore => gx_as D mo (fun t => t == 1 || t == 3) lv st h P pc
  | .lastore => gx_asl D mo lv st h P pc
  | .aastore => gx_asr D mo lv st h P pc
  | .ldc idx => gx_kc G D (gx_ow M) idx 2 lv st h P pc
  | .ldc2_w idx => gx_k2 G D (gx_ow M) idx lv st h P pc
  | .invokestatic idx => gx_iv G D mo M idx lv st h P pc
  | .invokevirtual idx => gx_ca G [1] (gx_ow M) idx st h
  | .invokespecial idx => gx_sp G M idx lv st h P pc
  | .ireturn => gx_rn D (gx_rt M) st h P
  | .lreturn => gx_rl (gx_rt M) st h P
  | .areturn => gx_ra (gx_rt M) st h P
  | .return_ => gx_rv (gx_rt M) st h P
  | _ => none
def gx_st (G : gx_G) (D : gx_D α β π) (mo : Nat) (M : gx_M) (pc : Nat) (lv : gx_L α β) (st : List (gx_V α β)) (h : gx_H α β) (P : π) : gx_S α β π := match gx_at M pc with
  | some i => gx_i G D mo M i pc lv st h P
  | none => none
def gx_hd (G : gx_G) (ow pc ce : Nat) : List (Nat × Nat × Nat × Nat) → Option Nat
  | [] => none
  | (a, b, t, x) :: hs => if a ≤ pc ∧ pc < b then match gx_cs G ow x with
      | none => none
      | some ci => match gx_sb G ce ci with
        | some true => if x = 0 then none else some t
        | some false => if x = 0 then none else gx_hd G ow pc ce hs
        | none => none
    else gx_hd G ow pc ce hs
def gx_ou (pc : Nat) (hs : List (Nat × Nat × Nat × Nat)) : Bool := hs.all fun q => !(decide (q.1 ≤ pc) && decide (pc < q.2.1))
abbrev gx_A (α β π : Type) : Type := Option (List (gx_R α β π) × Nat × Nat)
def gx_all : List (gx_A α β π) → gx_A α β π
  | [] => some ([], 0, 0)
  | none :: _ => none
  | some (a, c, s) :: t => match gx_all t with
    | some (a2, c2, s2) => some (a ++ a2, max c c2, max s s2)
    | none => none
def gx_add (c s : Nat) (r : gx_A α β π) : gx_A α β π := r.map fun q => (q.1, c + q.2.1, s + q.2.2)
def gx_run (G : gx_G) (D : gx_D α β π) (mo : Nat) (E : Nat → Nat → List (gx_V α β) → gx_H α β → π → gx_A α β π) : Nat → Nat → gx_M → Nat → gx_L α β → List (gx_V α β) → gx_H α β → π → gx_A α β π
  | 0, _, _, _, _, _, _, _ => none
  | n + 1, d, M, pc, lv, st, h, P => match gx_st G D mo M pc lv st h P with
    | none => none
    | some (.inl ns, kc, ks) => gx_add kc ks (gx_all (ns.map fun q => gx_run G D mo E n d M q.1 q.2.1 q.2.2.1 q.2.2.2.1 q.2.2.2.2))
    | some (.inr (.inl r), kc, ks) => some ([r], kc, ks)
    | some (.inr (.inr (_, j, as, rest)), _, _) =>
      match (match d with
        | 0 => none
        | d' + 1 => match E d' j as h P with
          | some q => some q
          | none => match gx_mm G j with
            | some M' => gx_run G D mo E n d' M' 0 (gx_args 0 as) [] h P
            | none => none : gx_A α β π) with
      | none => none
      | some (rs, c1, s1) => gx_add c1 s1 (gx_all (rs.map fun r => match r.1 with
          | .inl v => gx_run G D mo E n d M (pc + 3) lv (v.toList ++ rest) r.2.1 r.2.2
          | .inr k => if gx_ou pc (gx_hs M) then some ([(.inr k, r.2.1, r.2.2)], 0, 0) else match gx_cls r.2.1 k with
            | none => none
            | some ce => match gx_hd G (gx_ow M) pc ce (gx_hs M) with
              | some t => gx_run G D mo E n d M t lv [.inr (.inr (some k))] r.2.1 r.2.2
              | none => none))
end GXS
end
section
section GXR
variable {α β π : Type}
def gx_cv (evI : α → Int32) (evL : β → Int64) (ad : Nat → Nat) : gx_V α β → Value
  | .inl a => .int (evI a)
  | .inr (.inl b) => .long (evL b)
  | .inr (.inr none) => .null
  | .inr (.inr (some k)) => .ref (ad k)
def gx_law (D : gx_D α β π) (evI : α → Int32) (evL : β → Int64) (ok : π → Prop) : Prop :=
  (∀ x, evI (gx_cI D x) = x) ∧ (∀ x, evL (gx_cL D x) = x) ∧ (∀ o a, evI (gx_un D o a) = gx_sun o (evI a)) ∧ (∀ o a b, evI (gx_bi D o a b) = gx_sbi o (evI a) (evI b)) ∧
  (∀ o a b, evL (gx_lb D o a b) = gx_slb o (evL a) (evL b)) ∧ (∀ a b, evI (gx_lc D a b) = lg_cmp (evL a) (evL b)) ∧ (∀ a, evL (gx_il D a) = (evI a).toInt64) ∧ (∀ b, evI (gx_li D b) = (evL b).toInt32) ∧
  (∀ o P a b l, gx_cm D o P a b = some l → ok P → ∃ q ∈ l, ok q.2 ∧ q.1 = gx_scm o (evI a) (evI b)) ∧
  (∀ P a n l, gx_ix D P a n = some l → ok P → ∃ q ∈ l, ok q.2 ∧ q.1 < n ∧ evI a = nI q.1) ∧
  (∀ P a, gx_bt D P a = true → ok P → evI a = 0 ∨ evI a = 1)
theorem gx_cv_cat (evI : α → Int32) (evL : β → Int64) (ad : Nat → Nat) (v : gx_V α β) : (gx_cv evI evL ad v).category = gx_cat v := by
  rcases v with a | b | _ | k <;> rfl
def gx_lvv (evI : α → Int32) (evL : β → Int64) (ad : Nat → Nat) (lv : gx_L α β) : List (Nat × Value) := lv.map fun q => (q.1, gx_cv evI evL ad q.2)
theorem gx_lk_mem {lv : gx_L α β} {i : Nat} {v : gx_V α β} (h : gx_lk lv i = some v) : (i, v) ∈ lv := by
  unfold gx_lk at h
  cases hf : lv.find? (fun q => q.1 == i) with
  | none => rw [hf] at h; cases h
  | some q =>
    rw [hf] at h
    obtain ⟨j, w⟩ := q
    have h1 := List.find?_some hf
    have h2 := List.mem_of_find?_eq_some hf
    simp only [Option.map_some, Option.some.injEq] at h
    simp only [beq_iff_eq] at h1
    subst h1; subst h
    exact h2
theorem gx_lk_at {evI : α → Int32} {evL : β → Int64} {ad : Nat → Nat} {lv : gx_L α β} {ls : Array Slot} {nL i : Nat} {v : gx_V α β} (hl : lv_has ls nL (gx_lvv evI evL ad lv)) (h : gx_lk lv i = some v) : ls[i]? = some (.val (gx_cv evI evL ad v)) :=
  hl.2.2 (i, gx_cv evI evL ad v) (List.mem_map.mpr ⟨(i, v), gx_lk_mem h, rfl⟩)
theorem gx_p1_eq (evI : α → Int32) (evL : β → Int64) (ad : Nat → Nat) (lv : gx_L α β) (i : Nat) (v : gx_V α β) :
    (i, gx_cv evI evL ad v) :: (gx_lvv evI evL ad lv).filter (fun q => !(q.1 == i) && !(q.1 + 1 == i && q.2.category == 2)) = gx_lvv evI evL ad (gx_p1 lv i v) := by
  simp only [gx_lvv, gx_p1, List.map_cons, List.filter_map]
  congr 2
  apply List.filter_congr
  intro q _
  simp [Function.comp, gx_cv_cat]
theorem gx_p2_eq (evI : α → Int32) (evL : β → Int64) (ad : Nat → Nat) (lv : gx_L α β) (i : Nat) (v : gx_V α β) :
    (i, gx_cv evI evL ad v) :: (gx_lvv evI evL ad lv).filter (fun q => !(q.1 == i) && (!(q.1 == i + 1) && !(q.1 + 1 == i && q.2.category == 2))) = gx_lvv evI evL ad (gx_p2 lv i v) := by
  simp only [gx_lvv, gx_p2, List.map_cons, List.filter_map]
  congr 2
  apply List.filter_congr
  intro q _
  simp [Function.comp, gx_cv_cat]
theorem gx_args_eq (evI : α → Int32) (evL : β → Int64) (ad : Nat → Nat) : ∀ (as : List (gx_V α β)) (i : Nat), lv_args i (as.map (gx_cv evI evL ad)) = gx_lvv evI evL ad (gx_args i as)
  | [], _ => rfl
  | v :: vs, i => by
    have ih := gx_args_eq evI evL ad vs (if gx_cat v = 2 then i + 2 else i + 1)
    simp only [List.map_cons, lv_args, gx_args, gx_lvv, gx_cv_cat] at ih ⊢
    rw [ih]
theorem gx_sl_len (evI : α → Int32) (evL : β → Int64) (ad : Nat → Nat) : ∀ (as : List (gx_V α β)), (lg_sl (as.map (gx_cv evI evL ad))).length = gx_wd as
  | [] => rfl
  | v :: vs => by
    have ih := gx_sl_len evI evL ad vs
    have hc := gx_cv_cat evI evL ad v
    simp only [lg_sl, gx_wd, List.map_cons, List.flatMap_cons, List.length_append, List.sum_cons] at ih ⊢
    rw [ih]
    rcases v with a | b | x
    · rw [if_neg (by rw [hc]; simp [gx_cat])]; rfl
    · rw [if_pos (by rw [hc]; rfl)]; rfl
    · rw [if_neg (by rw [hc]; simp [gx_cat])]; rfl
theorem gx_wd_eq (evI : α → Int32) (evL : β → Int64) (ad : Nat → Nat) (st : List (gx_V α β)) : ((st.map (gx_cv evI evL ad)).map fun v => v.category).sum = gx_wd st := by
  simp only [gx_wd, List.map_map]
  congr 1
  apply List.map_congr_left
  intro v _
  exact gx_cv_cat evI evL ad v
def gx_ad (od : Nat → Nat) (mo base k : Nat) : Nat := if k < mo then od k else base + (k - mo)
theorem gx_ad_inj {od : Nat → Nat} {mo base a k : Nat} (hod : ∀ j, j < mo → od j < base) (ha : mo ≤ a) (h : gx_ad od mo base k = gx_ad od mo base a) : k = a := by
  unfold gx_ad at h
  rw [if_neg (Nat.not_lt.mpr ha)] at h
  by_cases hk : k < mo
  · rw [if_pos hk] at h
    have := hod k hk
    omega
  · rw [if_neg hk] at h
    omega
theorem gx_ad_ge {od : Nat → Nat} {mo base a : Nat} (ha : mo ≤ a) : base ≤ gx_ad od mo base a := by
  unfold gx_ad
  rw [if_neg (Nat.not_lt.mpr ha)]
  omega
def gx_fits (tg : Nat) (v : Value) : Prop := match tg with
  | 0 => fits .int v = true
  | 1 => fits .boolean v = true
  | 2 => fits .long v = true
  | 3 => fits .byte v = true
  | _ => True
def gx_arr (cl : List vw_C) (U : State) (cell : Cell) (tg : Nat) : Prop := match tg with
  | 0 => U.isArrayOf cell .int
  | 1 => U.isArrayOf cell .boolean
  | 2 => U.isArrayOf cell .long
  | 3 => U.isArrayOf cell .byte ∧ U.vm.findClass "[B" = some cell.cls
  | 4 => (∀ k, cell.vm ≠ .statics k) ∧ ∃ (kA : Class) (comp : ClassId), U.vm.classes[cell.cls]? = some kA ∧ kA.kind = .array comp (.array .byte) ∧ U.vm.findClass "[B" = some comp
  | t => ∃ r : vw_C, cl[t - 10]? = some r ∧ 10 < t ∧ (∀ k, cell.vm ≠ .statics k) ∧ ∃ (kA : Class) (comp : ClassId), U.vm.classes[cell.cls]? = some kA ∧ kA.kind = .array comp (.object r.1) ∧ U.vm.findClass r.1 = some comp
def gx_cell (cl : List vw_C) (dC : Nat → ClassId) (dI : Nat → Nat → Nat) (cv : gx_V α β → Value) (U : State) (nw : Prop) (H : Heap) (q : Nat) : gx_C α β → Prop
  | .inl (ci, fs) => cl.length ≤ ci ∨ ∃ cell : Cell, H[q]? = some cell ∧ cell.cls = dC ci ∧ cell.vm = .none ∧ ∀ (k : Nat) (v : gx_V α β), fs[k]? = some v → cell.slots[dI ci k]? = some (cv v) ∧ ∀ r : vw_C, cl[ci]? = some r → k < r.2.2
  | .inr (tg, n, f) => n < 2 ^ 31 ∧ (∀ j, j < n → gx_fits tg (cv (f j))) ∧ ∃ cell : Cell, H[q]? = some cell ∧ gx_arr cl U cell tg ∧ cell.vm ≠ .unknown ∧ cell.slots.size = n ∧ (∀ j, j < n → cell.slots[j]? = some (cv (f j))) ∧ (nw → ∃ cA : ClassId, cell = arrV cA n (fun j => cv (f j)))
theorem gx_arr_moved {cl : List vw_C} {u U : State} (hvm : u.vm.Alike U.vm) {cell : Cell} {tg : Nat} (h : gx_arr cl u cell tg) : gx_arr cl U cell tg := by
  unfold gx_arr at h ⊢
  split at h
  · exact State.isArrayOf_alike hvm h
  · exact State.isArrayOf_alike hvm h
  · exact State.isArrayOf_alike hvm h
  · exact ⟨State.isArrayOf_alike hvm h.1, by rw [hvm.findClass]; exact h.2⟩
  · obtain ⟨h2, kA, comp, h3, h4, h5⟩ := h
    obtain ⟨k', hk', he⟩ := hvm.2.2 _ _ h3
    exact ⟨h2, k', comp, hk', by rw [he]; exact h4, by rw [hvm.findClass]; exact h5⟩
  · obtain ⟨r, h1, h0, h2, kA, comp, h3, h4, h5⟩ := h
    obtain ⟨k', hk', he⟩ := hvm.2.2 _ _ h3
    exact ⟨r, h1, h0, h2, k', comp, hk', by rw [he]; exact h4, by rw [hvm.findClass]; exact h5⟩
theorem gx_cell_moved {cl : List vw_C} {dC : Nat → ClassId} {dI : Nat → Nat → Nat} {cv : gx_V α β → Value} {u U : State} (hvm : u.vm.Alike U.vm) {nw : Prop} {H : Heap} {q : Nat} {x : gx_C α β} (h : gx_cell cl dC dI cv u nw H q x) : gx_cell cl dC dI cv U nw H q x := by
  rcases x with ⟨ci, fs⟩ | ⟨tg, n, f⟩
  · exact h
  · obtain ⟨h1, h2, cell, h3, h4, h5⟩ := h
    exact ⟨h1, h2, cell, h3, gx_arr_moved hvm h4, h5⟩
theorem gx_cell_kept {cl : List vw_C} {dC : Nat → ClassId} {dI : Nat → Nat → Nat} {cv : gx_V α β → Value} {U : State} {nw : Prop} {H H1 : Heap} {q : Nat} {x : gx_C α β} (h : gx_cell cl dC dI cv U nw H q x) (hq : H1[q]? = H[q]?) : gx_cell cl dC dI cv U nw H1 q x := by
  rcases x with ⟨ci, fs⟩ | ⟨tg, n, f⟩
  · rcases h with h | ⟨cell, h1, h2⟩
    · exact Or.inl h
    · exact Or.inr ⟨cell, by rw [hq]; exact h1, h2⟩
  · obtain ⟨h1, h2, cell, h3, h4⟩ := h
    exact ⟨h1, h2, cell, by rw [hq]; exact h3, h4⟩
/-- the heap is the picture -/
def gx_rep (cl : List vw_C) (dC : Nat → ClassId) (dI : Nat → Nat → Nat) (cv : gx_V α β → Value) (od : Nat → Nat) (mo base : Nat) (U : State) (H : Heap) (h : gx_H α β) : Prop :=
  mo ≤ h.length ∧ H.size = base + (h.length - mo) ∧ ∀ (k : Nat) (x : gx_C α β), h[k]? = some x → gx_cell cl dC dI cv U (mo ≤ k) H (gx_ad od mo base k) x
theorem gx_rep_moved {cl : List vw_C} {dC : Nat → ClassId} {dI : Nat → Nat → Nat} {cv : gx_V α β → Value} {od : Nat → Nat} {mo base : Nat} {u U : State} (hvm : u.vm.Alike U.vm) {H : Heap} {h : gx_H α β} (hr : gx_rep cl dC dI cv od mo base u H h) : gx_rep cl dC dI cv od mo base U H h :=
  ⟨hr.1, hr.2.1, fun k x hx => gx_cell_moved hvm (hr.2.2 k x hx)⟩
theorem gx_rep_set {cl : List vw_C} {dC : Nat → ClassId} {dI : Nat → Nat → Nat} {cv : gx_V α β → Value} {od : Nat → Nat} {mo base : Nat} {U : State} {H H1 : Heap} {h : gx_H α β} {a : Nat} {x0 x : gx_C α β} (hod : ∀ j, j < mo → od j < base)
    (hr : gx_rep cl dC dI cv od mo base U H h) (ha : mo ≤ a) (hx0 : h[a]? = some x0) (z : H1.size = H.size) (oq : ∀ q : Nat, q ≠ gx_ad od mo base a → H1[q]? = H[q]?) (hx : gx_cell cl dC dI cv U (mo ≤ a) H1 (gx_ad od mo base a) x) : gx_rep cl dC dI cv od mo base U H1 (h.set a x) := by
  have hl := (List.getElem?_eq_some_iff.mp hx0).1
  refine ⟨by rw [List.length_set]; exact hr.1, by rw [z, List.length_set]; exact hr.2.1, fun k y hy => ?_⟩
  by_cases hka : k = a
  · subst hka
    rw [List.getElem?_set_self hl] at hy
    cases hy
    exact hx
  · rw [List.getElem?_set_ne (Ne.symm hka)] at hy
    exact gx_cell_kept (hr.2.2 k y hy) (oq _ (fun e => hka (gx_ad_inj hod ha e)))
theorem gx_rep_push {cl : List vw_C} {dC : Nat → ClassId} {dI : Nat → Nat → Nat} {cv : gx_V α β → Value} {od : Nat → Nat} {mo base : Nat} {U : State} {H H1 : Heap} {h : gx_H α β} {x : gx_C α β} (hod : ∀ j, j < mo → od j < base)
    (hr : gx_rep cl dC dI cv od mo base U H h) (z : H1.size = H.size + 1) (oq : ∀ q : Nat, q < H.size → H1[q]? = H[q]?) (hx : gx_cell cl dC dI cv U True H1 H.size x) : gx_rep cl dC dI cv od mo base U H1 (h ++ [x]) ∧ gx_ad od mo base h.length = H.size := by
  have hlen := hr.1
  have hsz := hr.2.1
  have hadr : gx_ad od mo base h.length = H.size := by
    unfold gx_ad
    rw [if_neg (Nat.not_lt.mpr hlen), hsz]
  refine ⟨⟨by rw [List.length_append]; simp; omega, by rw [z, hsz, List.length_append]; simp; omega, fun k y hy => ?_⟩, hadr⟩
  by_cases hk : k < h.length
  · rw [List.getElem?_append_left hk] at hy
    refine gx_cell_kept (hr.2.2 k y hy) (oq _ ?_)
    unfold gx_ad
    split
    · rename_i hlt
      have := hod k hlt
      omega
    · omega
  · rw [List.getElem?_append_right (by omega)] at hy
    have hz : k - h.length < 1 := (List.getElem?_eq_some_iff.mp hy).1
    have hk0 : k = h.length := by omega
    subst hk0
    rw [Nat.sub_self] at hy
    cases hy
    rw [hadr]
    rcases x with ⟨ci, fs⟩ | ⟨tg, n, f⟩
    · exact hx
    · obtain ⟨h1, h2, cell, h3, h4, h5, h6, h7, h8⟩ := hx
      exact ⟨h1, h2, cell, h3, h4, h5, h6, h7, fun _ => h8 trivial⟩
end GXR
end
section
section GXW
variable {α β π : Type}
def gx_sd (cl : List vw_C) (dC : Nat → ClassId) (dI : Nat → Nat → Nat) (od : Nat → Nat) (mo base : Nat) (evI : α → Int32) (evL : β → Int64) (s : State) (ml : Nat) (lv : gx_L α β) (h : gx_H α β) (H : Heap) (locs : List Loc) (ls : Array Slot) : Prop :=
  gx_rep cl dC dI (gx_cv evI evL (gx_ad od mo base)) od mo base s H h ∧ va_S (fun q => base ≤ q) s.heap H locs ∧ lv_has ls ml (gx_lvv evI evL (gx_ad od mo base) lv)
/-- going on from a place -/
def gx_K (cl : List vw_C) (dC : Nat → ClassId) (dI : Nat → Nat → Nat) (od : Nat → Nat) (mo base : Nat) (evI : α → Int32) (evL : β → Int64) (ok : π → Prop) (p : Program) (l : Launch) (e : Env) (R : Room) (s : State) (m : MethodId) (args : Array Value) (below : List Frame) (meth : Method) (c : Code) (ml : Nat) (Q : State → Prop) (cells slots : Nat) (q : gx_N α β π) : Prop :=
  ok q.2.2.2.2 → ∀ (H : Heap) (locs : List Loc) (ls : Array Slot), gx_sd cl dC dI od mo base evI evL s ml q.2.1 q.2.2.2.1 H locs ls → W p l e R s m args below meth c H locs cells slots Q (F0 m q.1 ls (q.2.2.1.map (gx_cv evI evL (gx_ad od mo base))))
def gx_len : Instr → Nat
  | .bipush _ | .iload _ | .lload _ | .aload _ | .istore _ | .lstore _ | .astore _ | .newarray _ | .ldc _ => 2
  | .sipush _ | .iinc _ _ | .goto _ | .ifCond _ _ | .if_icmp _ _ | .ifnull _ | .ifnonnull _ | .getfield _ | .putfield _ | .new _ | .anewarray _ | .ldc2_w _ | .invokestatic _ | .invokevirtual _ | .invokespecial _ => 3
  | .tableswitch .. | .lookupswitch .. => 0
  | _ => 1
variable {p : Program} {l : Launch} {e : Env} {R : Room} {s : State} {m : MethodId} {args : Array Value} {below : List Frame} {meth : Method} {c : Code} {Q : State → Prop}
variable {cl : List vw_C} {dC : Nat → ClassId} {dI : Nat → Nat → Nat} {od : Nat → Nat} {mo base : Nat} {evI : α → Int32} {evL : β → Int64} {ok : π → Prop} {D : gx_D α β π}
variable {ml pc cells slots kc ks : Nat} {lv : gx_L α β} {st : List (gx_V α β)} {h : gx_H α β} {P : π} {H : Heap} {locs : List Loc} {ls : Array Slot} {ns : List (gx_N α β π)} {cc : ByteArray}
theorem gx_g1_inv {n : gx_N α β π} (hi : gx_g1 n = some (.inl ns, kc, ks)) : ns = [n] ∧ kc = 0 ∧ ks = 0 := by
  simp only [gx_g1, Option.some.injEq, Prod.mk.injEq, Sum.inl.injEq] at hi
  exact ⟨hi.1.symm, hi.2.1.symm, hi.2.2.symm⟩
theorem gx_go_inv {l0 : List (gx_N α β π)} (hi : gx_go l0 = some (.inl ns, kc, ks)) : ns = l0 ∧ kc = 0 ∧ ks = 0 := by
  simp only [gx_go, Option.some.injEq, Prod.mk.injEq, Sum.inl.injEq] at hi
  exact ⟨hi.1.symm, hi.2.1.symm, hi.2.2.symm⟩
theorem gx_1 {n : gx_N α β π} (hi : gx_g1 n = some (.inl ns, kc, ks)) (hk : ∀ q ∈ ns, gx_K cl dC dI od mo base evI evL ok p l e R s m args below meth c ml Q (cells + kc) (slots + ks) q) (hok : ok n.2.2.2.2) (hs : gx_sd cl dC dI od mo base evI evL s ml n.2.1 n.2.2.2.1 H locs ls) :
    W p l e R s m args below meth c H locs cells slots Q (F0 m n.1 ls (n.2.2.1.map (gx_cv evI evL (gx_ad od mo base)))) := by
  obtain ⟨rfl, rfl, rfl⟩ := gx_g1_inv hi
  exact hk n (List.mem_singleton.mpr rfl) hok H locs ls hs
theorem gx_w_ld (hx : p.tables.exec = Jvm.exec) (hb : c.code = cc) {pc2 i kd : Nat} (hi : gx_ld lv st h P pc2 i kd = some (.inl ns, kc, ks))
    (hw : ∀ v : gx_V α β, gx_lk lv i = some v → gx_kd v = kd → ls[i]? = some (.val (gx_cv evI evL (gx_ad od mo base) v)) → W p l e R s m args below meth c H locs cells slots Q (F0 m pc2 ls ((v :: st).map (gx_cv evI evL (gx_ad od mo base)))) → W p l e R s m args below meth c H locs cells slots Q (F0 m pc ls (st.map (gx_cv evI evL (gx_ad od mo base)))))
    (hk : ∀ q ∈ ns, gx_K cl dC dI od mo base evI evL ok p l e R s m args below meth c ml Q (cells + kc) (slots + ks) q) (hok : ok P) (hs : gx_sd cl dC dI od mo base evI evL s ml lv h H locs ls) :
    W p l e R s m args below meth c H locs cells slots Q (F0 m pc ls (st.map (gx_cv evI evL (gx_ad od mo base)))) := by
  unfold gx_ld at hi
  split at hi
  · rename_i v hv
    split at hi
    · rename_i hkd
      exact hw v hv hkd (gx_lk_at hs.2.2 hv) (gx_1 hi hk hok hs)
    · cases hi
  · cases hi
theorem gx_w_sv (hx : p.tables.exec = Jvm.exec) (hb : c.code = cc) {pc2 i kd : Nat} (hi : gx_sv ml lv st h P pc2 i kd = some (.inl ns, kc, ks)) (hkd : kd ≠ 2)
    (hw : ∀ (v : gx_V α β) (r : List (gx_V α β)), gx_kd v = kd → i < ml → (∀ ls' : Array Slot, lv_has ls' ml (gx_lvv evI evL (gx_ad od mo base) (gx_p1 lv i v)) → W p l e R s m args below meth c H locs cells slots Q (F0 m pc2 ls' (r.map (gx_cv evI evL (gx_ad od mo base))))) → W p l e R s m args below meth c H locs cells slots Q (F0 m pc ls ((v :: r).map (gx_cv evI evL (gx_ad od mo base)))))
    (hk : ∀ q ∈ ns, gx_K cl dC dI od mo base evI evL ok p l e R s m args below meth c ml Q (cells + kc) (slots + ks) q) (hok : ok P) (hs : gx_sd cl dC dI od mo base evI evL s ml lv h H locs ls) :
    W p l e R s m args below meth c H locs cells slots Q (F0 m pc ls (st.map (gx_cv evI evL (gx_ad od mo base)))) := by
  unfold gx_sv at hi
  split at hi
  · rename_i v r
    split at hi
    · rename_i hc
      exact hw v r hc.1 hc.2 (fun ls' hl' => gx_1 hi hk hok ⟨hs.1, hs.2.1, hl'⟩)
    · cases hi
  · cases hi
theorem gx_kd1 {v : gx_V α β} (h : gx_kd v = 1) : ∃ a, v = .inl a := by
  rcases v with a | b | x
  · exact ⟨a, rfl⟩
  · cases h
  · cases h
theorem gx_kd2 {v : gx_V α β} (h : gx_kd v = 2) : ∃ b, v = .inr (.inl b) := by
  rcases v with a | b | x
  · cases h
  · exact ⟨b, rfl⟩
  · cases h
theorem gx_kd3 {v : gx_V α β} (h : gx_kd v = 3) : v = .inr (.inr none) ∨ ∃ k, v = .inr (.inr (some k)) := by
  rcases v with a | b | _ | k
  · cases h
  · cases h
  · exact Or.inl rfl
  · exact Or.inr ⟨k, rfl⟩
theorem gx_w_b2 {o : Nat} (hl : gx_law D evI evL ok) (hi : gx_b2 D o lv st h P pc = some (.inl ns, kc, ks))
    (hw : ∀ (x y : Int32) (r : List Value), W p l e R s m args below meth c H locs cells slots Q (F0 m (pc + 1) ls (.int (gx_sbi o x y) :: r)) → W p l e R s m args below meth c H locs cells slots Q (F0 m pc ls (.int y :: .int x :: r)))
    (hk : ∀ q ∈ ns, gx_K cl dC dI od mo base evI evL ok p l e R s m args below meth c ml Q (cells + kc) (slots + ks) q) (hok : ok P) (hs : gx_sd cl dC dI od mo base evI evL s ml lv h H locs ls) :
    W p l e R s m args below meth c H locs cells slots Q (F0 m pc ls (st.map (gx_cv evI evL (gx_ad od mo base)))) := by
  unfold gx_b2 at hi
  split at hi
  · rename_i b a r
    have h1 := gx_1 hi hk hok hs
    simp only [List.map_cons, gx_cv, hl.2.2.2.1] at h1 ⊢
    exact hw _ _ _ h1
  · cases hi
theorem gx_w_dv {o : Nat} (hl : gx_law D evI evL ok) (hi : gx_dv D o lv st h P pc = some (.inl ns, kc, ks))
    (hw : ∀ (x y : Int32) (r : List Value), ¬ y = 0 → W p l e R s m args below meth c H locs cells slots Q (F0 m (pc + 1) ls (.int (gx_sbi o x y) :: r)) → W p l e R s m args below meth c H locs cells slots Q (F0 m pc ls (.int y :: .int x :: r)))
    (hk : ∀ q ∈ ns, gx_K cl dC dI od mo base evI evL ok p l e R s m args below meth c ml Q (cells + kc) (slots + ks) q) (hok : ok P) (hs : gx_sd cl dC dI od mo base evI evL s ml lv h H locs ls) :
    W p l e R s m args below meth c H locs cells slots Q (F0 m pc ls (st.map (gx_cv evI evL (gx_ad od mo base)))) := by
  unfold gx_dv at hi
  split at hi
  · rename_i b a r
    split at hi
    · rename_i P' hcm
      obtain ⟨q, hq, hq1, hq2⟩ := hl.2.2.2.2.2.2.2.2.1 0 P b _ _ hcm hok
      rw [List.mem_singleton] at hq
      subst hq
      simp only [gx_scm, hl.1] at hq2
      have h1 := gx_1 hi hk hq1 hs
      simp only [List.map_cons, gx_cv, hl.2.2.2.1] at h1 ⊢
      exact hw _ _ _ (of_decide_eq_false hq2.symm) h1
    · cases hi
  · cases hi
theorem gx_w_u1 {o : Nat} (hl : gx_law D evI evL ok) (hi : gx_u1 D o lv st h P pc = some (.inl ns, kc, ks))
    (hw : ∀ (x : Int32) (r : List Value), W p l e R s m args below meth c H locs cells slots Q (F0 m (pc + 1) ls (.int (gx_sun o x) :: r)) → W p l e R s m args below meth c H locs cells slots Q (F0 m pc ls (.int x :: r)))
    (hk : ∀ q ∈ ns, gx_K cl dC dI od mo base evI evL ok p l e R s m args below meth c ml Q (cells + kc) (slots + ks) q) (hok : ok P) (hs : gx_sd cl dC dI od mo base evI evL s ml lv h H locs ls) :
    W p l e R s m args below meth c H locs cells slots Q (F0 m pc ls (st.map (gx_cv evI evL (gx_ad od mo base)))) := by
  unfold gx_u1 at hi
  split at hi
  · rename_i a r
    have h1 := gx_1 hi hk hok hs
    simp only [List.map_cons, gx_cv, hl.2.2.1] at h1 ⊢
    exact hw _ _ h1
  · cases hi
theorem gx_w_l2 {o : Nat} (hl : gx_law D evI evL ok) (hi : gx_l2 D o lv st h P pc = some (.inl ns, kc, ks))
    (hw : ∀ (x y : Int64) (r : List Value), W p l e R s m args below meth c H locs cells slots Q (F0 m (pc + 1) ls (.long (gx_slb o x y) :: r)) → W p l e R s m args below meth c H locs cells slots Q (F0 m pc ls (.long y :: .long x :: r)))
    (hk : ∀ q ∈ ns, gx_K cl dC dI od mo base evI evL ok p l e R s m args below meth c ml Q (cells + kc) (slots + ks) q) (hok : ok P) (hs : gx_sd cl dC dI od mo base evI evL s ml lv h H locs ls) :
    W p l e R s m args below meth c H locs cells slots Q (F0 m pc ls (st.map (gx_cv evI evL (gx_ad od mo base)))) := by
  unfold gx_l2 at hi
  split at hi
  · rename_i b a r
    have h1 := gx_1 hi hk hok hs
    simp only [List.map_cons, gx_cv, hl.2.2.2.2.1] at h1 ⊢
    exact hw _ _ _ h1
  · cases hi
theorem gx_tg_inv {off : Int} {t : Nat} (ht : gx_tg pc off = some t) : (pc : Int) + off = (t : Int) := by
  unfold gx_tg at ht
  split at ht
  · cases ht
    omega
  · cases ht
theorem gx_w_br {o : Nat} {a b : α} {r : List (gx_V α β)} {off : Int} (hl : gx_law D evI evL ok) (hi : gx_br D o a b lv r h P pc off = some (.inl ns, kc, ks)) {g : JFrame}
    (hw : ∀ t : Nat, (pc : Int) + off = (t : Int) → (gx_scm o (evI a) (evI b) = true → W p l e R s m args below meth c H locs cells slots Q (F0 m t ls (r.map (gx_cv evI evL (gx_ad od mo base))))) → (gx_scm o (evI a) (evI b) = false → W p l e R s m args below meth c H locs cells slots Q (F0 m (pc + 3) ls (r.map (gx_cv evI evL (gx_ad od mo base))))) → W p l e R s m args below meth c H locs cells slots Q g)
    (hk : ∀ q ∈ ns, gx_K cl dC dI od mo base evI evL ok p l e R s m args below meth c ml Q (cells + kc) (slots + ks) q) (hok : ok P) (hs : gx_sd cl dC dI od mo base evI evL s ml lv h H locs ls) :
    W p l e R s m args below meth c H locs cells slots Q g := by
  unfold gx_br at hi
  split at hi
  · rename_i t l0 ht hcm
    obtain ⟨rfl, rfl, rfl⟩ := gx_go_inv hi
    obtain ⟨q, hq, hq1, hq2⟩ := hl.2.2.2.2.2.2.2.2.1 o P a b l0 hcm hok
    have h1 := hk _ (List.mem_map.mpr ⟨q, hq, rfl⟩) hq1 H locs ls hs
    refine hw t (gx_tg_inv ht) (fun e1 => ?_) (fun e1 => ?_)
    · rw [e1] at hq2
      simpa [hq2] using h1
    · rw [e1] at hq2
      simpa [hq2] using h1
  · cases hi
end GXW
end
section
/-- what the kinds of field are -/
def gx_tt (tg : Nat) (ty : FieldType) : Prop := (tg = 0 ∧ ty = .int) ∨ (tg = 1 ∧ ty = .boolean) ∨ (tg = 2 ∧ ty = .long) ∨ (tg = 3 ∧ ((∃ n, ty = .object n) ∨ ∃ t, ty = .array t))
/-- what a table says is among the words -/
def gx_gF (G : gx_G) (cl : List vw_C) (Tb : List Cond) : Prop := ∀ ow idx ci k, gx_fl G ow idx = some (ci, k) → ∃ ro r : vw_C, cl[ow]? = some ro ∧ cl[ci]? = some r ∧ k < r.2.2 ∧ Cond.fieldLink ro.1 idx r.1 (r.2.1 k).2.1 (r.2.1 k).2.2.1 ∈ Tb ∧ (r.2.1 k).1 = r.1 ∧ 0 < ci
def gx_gK (G : gx_G) (cl : List vw_C) (Tb : List Cond) : Prop := ∀ ci tys n, gx_kl G ci = some (tys, n) → ∃ r : vw_C, cl[ci]? = some r ∧ Cond.instantiable r.1 n ∈ Tb ∧ Cond.initialized r.1 ∈ Tb ∧ (∀ w ∈ u_ws r.1 r.2.1 r.2.2, w ∈ Tb) ∧ r.2.2 = tys.length ∧
  (∀ k tg fin, tys[k]? = some (tg, fin) → (r.2.1 k).2.2.2 = fin ∧ (r.2.1 k).1 = r.1 ∧ ∃ ty, parseFieldDescriptor (r.2.1 k).2.2.1 = some ty ∧ gx_tt tg ty) ∧ (∀ a, a < r.2.2 → ∀ b, b < r.2.2 → a ≠ b → (r.2.1 a).2.1 ≠ (r.2.1 b).2.1) ∧ 0 < ci
def gx_gC (G : gx_G) (cl : List vw_C) (Tb : List Cond) : Prop := ∀ ow idx ci, gx_cs G ow idx = some ci → ∃ ro r : vw_C, cl[ow]? = some ro ∧ cl[ci]? = some r ∧ Cond.classLink ro.1 idx r.1 ∈ Tb
def gx_Kn (cl : List vw_C) (dC : Nat → ClassId) (dI : Nat → Nat → Nat) (U : State) : Prop := ∀ (k : Nat) (r : vw_C), cl[k]? = some r → (0 < k → u_Kn U r.1 r.2.1 r.2.2 (dC k) (dI k)) ∧ U.vm.findClass r.1 = some (dC k)
section GXP
variable {α β π : Type}
variable {p : Program} {l : Launch} {e : Env} {R : Room} {s : State} {m : MethodId} {args : Array Value} {below : List Frame} {meth : Method} {c : Code} {Q : State → Prop}
variable {cl : List vw_C} {dC : Nat → ClassId} {dI : Nat → Nat → Nat} {od : Nat → Nat} {mo base : Nat} {evI : α → Int32} {evL : β → Int64} {ok : π → Prop} {D : gx_D α β π} {G : gx_G} {Tb : List Cond}
variable {ml pc cells slots kc ks : Nat} {lv : gx_L α β} {st : List (gx_V α β)} {h : gx_H α β} {P : π} {H : Heap} {locs : List Loc} {ls : Array Slot} {ns : List (gx_N α β π)} {cc : ByteArray}
theorem gx_w_gf {ow idx : Nat} {ro : vw_C} (hx : p.tables.exec = Jvm.exec) (hb : c.code = cc) (hts : ∀ w ∈ Tb, w.before args s = true) (hro : cl[ow]? = some ro) (hown : s.vm.findClass ro.1 = some m.cls) (hKn : gx_Kn cl dC dI s) (hF : gx_gF G cl Tb) (hKl : gx_gK G cl Tb)
    (hcl : ∀ ci r, 0 < ci → cl[ci]? = some r → ∃ q, gx_kl G ci = some q)
    (hi : gx_gf G ow idx lv st h P pc = some (.inl ns, kc, ks)) (hd : decode cc pc = .ok (.getfield idx, 3))
    (hk : ∀ q ∈ ns, gx_K cl dC dI od mo base evI evL ok p l e R s m args below meth c ml Q (cells + kc) (slots + ks) q) (hok : ok P) (hs : gx_sd cl dC dI od mo base evI evL s ml lv h H locs ls) :
    W p l e R s m args below meth c H locs cells slots Q (F0 m pc ls (st.map (gx_cv evI evL (gx_ad od mo base)))) := by
  unfold gx_gf at hi
  split at hi
  · rename_i ci k a r hfl
    split at hi
    · rename_i ci2 fs ha
      split at hi
      · rename_i hci
        subst hci
        split at hi
        · rename_i v hv
          have h1 := gx_1 hi hk hok hs
          obtain ⟨ro', rc, e1, e2, hkN, hlk, hdcl, hpos⟩ := hF _ _ _ _ hfl
          have hro' : ro' = ro := Option.some.inj (e1.symm.trans hro)
          subst hro'
          obtain ⟨q0, hq0⟩ := hcl _ _ hpos e2
          obtain ⟨rc', e3, -, -, hws, -⟩ := hKl _ q0.1 q0.2 hq0
          have hrc : rc' = rc := Option.some.inj (e3.symm.trans e2)
          subst hrc
          rcases hs.1.2.2 a _ ha with hbad | ⟨cell, c1, c2, c3, c4⟩
          · exact absurd (List.getElem?_eq_some_iff.mp e2).1 (Nat.not_lt.mpr hbad)
          · obtain ⟨hS, hfc, kC, hkC, hkind⟩ := (hKn _ _ e2).1 hpos
            obtain ⟨cf, kf, fi, f, hfi, hsl⟩ := hS k hkN
            rw [hdcl] at hfi
            have hfi' : s.fieldFound? (rc'.2.1 k).1 (rc'.2.1 k).2.1 (rc'.2.1 k).2.2.1 = some (cf, kf, fi, f) := by rw [hdcl]; exact hfi
            refine W.getf hx hb hown (hts _ hlk) hfi (u_facts hfc hkC (u_lays hts hws hkN) hfi').1 c1 (by rw [c3]; exact fun h => by cases h) (v := gx_cv evI evL (gx_ad od mo base) v) ?_ rfl (rest := r.map (gx_cv evI evL (gx_ad od mo base))) rfl hd h1
            rw [hsl]
            exact (c4 k v hv).1
        · cases hi
      · cases hi
    · cases hi
  · cases hi
theorem gx_ft_ok {tg : Nat} {v : gx_V α β} {ty : FieldType} (hl : gx_law D evI evL ok) (hok : ok P) (h : gx_ft D P tg v = true) (ht : gx_tt tg ty) : narrow ty (gx_cv evI evL (gx_ad od mo base) v) = gx_cv evI evL (gx_ad od mo base) v ∧ fits ty (gx_cv evI evL (gx_ad od mo base) v) = true := by
  rcases v with a | b | _ | k
  · simp only [gx_ft, Bool.or_eq_true, beq_iff_eq, Bool.and_eq_true] at h
    rcases ht with ⟨rfl, rfl⟩ | ⟨rfl, rfl⟩ | ⟨rfl, rfl⟩ | ⟨rfl, -⟩
    · exact ⟨rfl, rfl⟩
    · rcases h with h | ⟨-, h⟩
      · cases h
      · have := hl.2.2.2.2.2.2.2.2.2.2 P a h hok
        rcases this with e | e <;> (simp only [gx_cv, e]; exact ⟨by decide +kernel, by decide +kernel⟩)
    · rcases h with h | ⟨h, -⟩ <;> cases h
    · rcases h with h | ⟨h, -⟩ <;> cases h
  · simp only [gx_ft, beq_iff_eq] at h
    subst h
    rcases ht with ⟨h, -⟩ | ⟨h, -⟩ | ⟨-, rfl⟩ | ⟨h, -⟩
    · cases h
    · cases h
    · exact ⟨rfl, rfl⟩
    · cases h
  · simp only [gx_ft, beq_iff_eq] at h
    subst h
    rcases ht with ⟨h, -⟩ | ⟨h, -⟩ | ⟨h, -⟩ | ⟨-, ⟨n, rfl⟩ | ⟨t, rfl⟩⟩
    · cases h
    · cases h
    · cases h
    · exact ⟨rfl, rfl⟩
    · exact ⟨rfl, rfl⟩
  · simp only [gx_ft, beq_iff_eq] at h
    subst h
    rcases ht with ⟨h, -⟩ | ⟨h, -⟩ | ⟨h, -⟩ | ⟨-, ⟨n, rfl⟩ | ⟨t, rfl⟩⟩
    · cases h
    · cases h
    · cases h
    · exact ⟨rfl, rfl⟩
    · exact ⟨rfl, rfl⟩
theorem gx_apart {ci n : Nat} {tys : List (Nat × Bool)} {r : vw_C} (hts : ∀ w ∈ Tb, w.before args s = true) (hKn : gx_Kn cl dC dI s) (hKl : gx_gK G cl Tb) (hk : gx_kl G ci = some (tys, n)) (hr : cl[ci]? = some r) : ∀ x y, x < r.2.2 → y < r.2.2 → x ≠ y → dI ci x ≠ dI ci y := by
  obtain ⟨r', e1, -, -, hws, hlen, hty, hnm, hpos⟩ := hKl _ _ _ hk
  have : r' = r := Option.some.inj (e1.symm.trans hr)
  subst this
  intro x y hx hy hne
  obtain ⟨hS, -⟩ := (hKn _ _ e1).1 hpos
  obtain ⟨_, _, _, fa, hia, ea⟩ := hS x hx
  obtain ⟨_, _, _, fb, hib, eb⟩ := hS y hy
  obtain ⟨⟨tgx, fx⟩, hqx⟩ : ∃ q, tys[x]? = some q := ⟨_, List.getElem?_eq_getElem (by omega)⟩
  obtain ⟨⟨tgy, fy⟩, hqy⟩ : ∃ q, tys[y]? = some q := ⟨_, List.getElem?_eq_getElem (by omega)⟩
  obtain ⟨-, -, tyx, hpx, -⟩ := hty x tgx fx hqx
  obtain ⟨-, -, tyy, hpy, -⟩ := hty y tgy fy hqy
  rw [← ea, ← eb]
  refine u_apart (u_lays hts hws hx) (u_lays hts hws hy) hia hib ?_
  rw [(State.fieldFound?_type hia hpx).1, (State.fieldFound?_type hib hpy).1]
  exact hnm x hx y hy hne
theorem gx_obj_set {cell : Cell} {ci N k : Nat} {fs : List (gx_V α β)} {v : gx_V α β} {cv : gx_V α β → Value} (hlen : ∀ j w, fs[j]? = some w → j < N) (hap : ∀ x y, x < N → y < N → x ≠ y → dI ci x ≠ dI ci y) (hkN : k < N) (hkl : k < fs.length) (hslot : dI ci k < cell.slots.size)
    (h4 : ∀ (j : Nat) (w : gx_V α β), fs[j]? = some w → cell.slots[dI ci j]? = some (cv w)) : ∀ (j : Nat) (w : gx_V α β), (fs.set k v)[j]? = some w → (cell.setSlot (dI ci k) (cv v)).slots[dI ci j]? = some (cv w) := by
  intro j w hw
  by_cases hj : j = k
  · subst hj
    rw [List.getElem?_set_self hkl] at hw
    cases hw
    simp [Cell.setSlot, hslot]
  · rw [List.getElem?_set_ne (Ne.symm hj)] at hw
    have hjN := hlen j w hw
    have hne := hap k j hkN hjN (Ne.symm hj)
    rw [slot_ne cell (cv v) hne]
    exact h4 j w hw
theorem gx_w_pf {ow idx : Nat} {isI : Bool} {ro : vw_C} (hl : gx_law D evI evL ok) (hod : ∀ j, j < mo → od j < base) (hx : p.tables.exec = Jvm.exec) (hb : c.code = cc) (hts : ∀ w ∈ Tb, w.before args s = true) (hro : cl[ow]? = some ro) (hown : s.vm.findClass ro.1 = some m.cls) (hKn : gx_Kn cl dC dI s) (hF : gx_gF G cl Tb) (hKl : gx_gK G cl Tb) (hin : isI = true → meth.name = "<init>")
    (hi : gx_pf G D mo ow isI idx lv st h P pc = some (.inl ns, kc, ks)) (hd : decode cc pc = .ok (.putfield idx, 3))
    (hk : ∀ q ∈ ns, gx_K cl dC dI od mo base evI evL ok p l e R s m args below meth c ml Q (cells + kc) (slots + ks) q) (hok : ok P) (hs : gx_sd cl dC dI od mo base evI evL s ml lv h H locs ls) :
    W p l e R s m args below meth c H locs cells slots Q (F0 m pc ls (st.map (gx_cv evI evL (gx_ad od mo base)))) := by
  unfold gx_pf at hi
  split at hi
  · rename_i ci k v a r hfl
    split at hi
    · rename_i ci2 fs tys nn ha hkl
      split at hi
      · rename_i tg fin htg
        split at hi
        · rename_i hc
          obtain ⟨rfl, hkf0, hma, hft, hfin⟩ := hc
          obtain ⟨rfl, rfl, rfl⟩ := gx_g1_inv hi
          obtain ⟨ro', rc, e1, e2, hkN, hlk, hdcl, hpos⟩ := hF _ _ _ _ hfl
          have hro' : ro' = ro := Option.some.inj (e1.symm.trans hro)
          subst hro'
          have hap := gx_apart hts hKn hKl hkl e2
          obtain ⟨rc', e3, -, -, hws, hlen, hty, -⟩ := hKl _ _ _ hkl
          have hrc : rc' = rc := Option.some.inj (e3.symm.trans e2)
          subst hrc
          obtain ⟨hfinT, -, ty, hpd, htt⟩ := hty k tg fin htg
          obtain ⟨hnar, hfit⟩ := gx_ft_ok (od := od) (mo := mo) (base := base) hl hok hft htt
          rcases hs.1.2.2 a _ ha with hbad | ⟨cell, c1, c2, c3, c4⟩
          · exact absurd (List.getElem?_eq_some_iff.mp e2).1 (Nat.not_lt.mpr hbad)
          obtain ⟨hS, hfc, kC, hkC, hkind⟩ := (hKn _ _ e2).1 hpos
          obtain ⟨cf, kf, fi, f, hfi0, hsl⟩ := hS k hkN
          have hfi : s.fieldFound? rc'.1 (rc'.2.1 k).2.1 (rc'.2.1 k).2.2.1 = some (cf, kf, fi, f) := by rw [hdcl] at hfi0; exact hfi0
          have hst := (u_facts hfc hkC (u_lays hts hws hkN) hfi0).1
          obtain ⟨v0, hv0⟩ : ∃ v0, fs[k]? = some v0 := Option.isSome_iff_exists.mp hkf0
          have hkf : k < fs.length := (List.getElem?_eq_some_iff.mp hv0).1
          have hsz : dI ci2 k < cell.slots.size := k2_hasslot (c4 k v0 hv0).1
          have hAa : base ≤ gx_ad od mo base a := gx_ad_ge hma
          have fin1 : ∀ H' : Heap, H'[gx_ad od mo base a]? = some (cell.setSlot f.slot (gx_cv evI evL (gx_ad od mo base) v)) → H'.size = H.size → (∀ q, q ≠ gx_ad od mo base a → H'[q]? = H[q]?) → W p l e R s m args below meth c H' (locs ++ [⟨gx_ad od mo base a, f.slot⟩]) cells slots Q (F0 m (pc + 3) ls (r.map (gx_cv evI evL (gx_ad od mo base)))) := by
            intro H' g1 g2 g3
            refine hk _ (List.mem_singleton.mpr rfl) hok H' _ ls ⟨gx_rep_set hod hs.1 hma ha g2 g3 (Or.inr ⟨_, g1, c2, c3, ?_⟩), hs.2.1.put g2 g3 hAa, hs.2.2⟩
            rw [hsl]
            have h8 := gx_obj_set (v := v) (N := rc'.2.2) (fun j w hw => (c4 j w hw).2 rc' e2) hap hkN hkf hsz (fun j w hw => (c4 j w hw).1)
            refine fun j w hw => ⟨h8 j w hw, fun r0 hr0 => ?_⟩
            obtain ⟨w1, hw1⟩ : ∃ w1, fs[j]? = some w1 := ⟨_, List.getElem?_eq_getElem (by have := (List.getElem?_eq_some_iff.mp hw).1; rw [List.length_set] at this; exact this)⟩
            exact (c4 j w1 hw1).2 r0 hr0
          have hlay := hts _ (hws _ (u_in_lay hkN))
          unfold u_lay at hlay
          cases fin with
          | false =>
            rw [if_neg (by rw [hfinT]; decide)] at hlay
            have h6 := u_store hfc hkC hkind hlay hfi0 hpd hnar hfit
            exact W.putK hx hb (f := f) ⟨hown, hts _ hlk, ⟨_, _, _, hfi⟩, hst⟩ (by rw [c2]; exact h6) c1 c3 (by rw [hsl]; exact hsz) rfl (rest := r.map (gx_cv evI evL (gx_ad od mo base))) rfl hd fin1
          | true =>
            rw [if_pos hfinT] at hlay
            rcases hfin with hbad | ⟨hI, hoc⟩
            · cases hbad
            subst hoc
            have hroc : ro' = rc' := Option.some.inj (hro.symm.trans e2)
            have hcf : m.cls = cf := by
              obtain ⟨_, _, c', _, _, _, -, -, hf', -, -, -, hown2, -⟩ := Cond.laysFinal_spec hlay
              have e9 : c' = cf := by have := hfi0.symm.trans hf'; simp at this; exact this.1.symm
              rw [hdcl] at hown2
              rw [← e9]
              rw [hroc] at hown
              exact Option.some.inj (hown.symm.trans hown2)
            have h6 := u_fits hfc hkC hkind (Or.inr hlay) hfi0 hpd hnar hfit
            exact W.putFinK hx hb hown (hts _ hlk) hfi hst hcf (hin hI) (by rw [c2]; exact h6) c1 c3 (by rw [hsl]; exact hsz) rfl (rest := r.map (gx_cv evI evL (gx_ad od mo base))) rfl hd fin1
        · cases hi
      · cases hi
    · cases hi
  · cases hi
theorem gx_fd_ok {tg : Nat} {ty : FieldType} (hl : gx_law D evI evL ok) (ht : gx_tt tg ty) : defaultValue ty = gx_cv evI evL (gx_ad od mo base) (gx_fd D tg) := by
  rcases ht with ⟨rfl, rfl⟩ | ⟨rfl, rfl⟩ | ⟨rfl, rfl⟩ | ⟨rfl, ⟨n, rfl⟩ | ⟨t, rfl⟩⟩
  · simp [gx_fd, gx_cv, defaultValue, hl.1]
  · simp [gx_fd, gx_cv, defaultValue, hl.1]
  · simp [gx_fd, gx_cv, defaultValue, hl.2.1]
  · simp [gx_fd, gx_cv, defaultValue]
  · simp [gx_fd, gx_cv, defaultValue]
theorem gx_w_new {ow idx ci n : Nat} {tys : List (Nat × Bool)} {ro : vw_C} (hl : gx_law D evI evL ok) (hod : ∀ j, j < mo → od j < base) (hx : p.tables.exec = Jvm.exec) (hb : c.code = cc) (hts : ∀ w ∈ Tb, w.before args s = true) (hro : cl[ow]? = some ro) (hown : s.vm.findClass ro.1 = some m.cls) (hKn : gx_Kn cl dC dI s) (hKl : gx_gK G cl Tb) (hC : gx_gC G cl Tb)
    (hcs : gx_cs G ow idx = some ci) (hkl : gx_kl G ci = some (tys, n)) (hd : decode cc pc = .ok (.new idx, 3)) (hcells : cells + 1 ≤ R.cells) (hslots : slots + n ≤ R.slots) (fs : List (gx_V α β)) (hfs : ∀ (k : Nat) (v : gx_V α β), fs[k]? = some v → ∃ q, tys[k]? = some q ∧ v = gx_fd D q.1)
    (hs : gx_sd cl dC dI od mo base evI evL s ml lv h H locs ls)
    (hk : ∀ (H' : Heap) (kC : Class), s.vm.classes[dC ci]? = some kC → H'[H.size]? = some (blank (dC ci) kC) → gx_sd cl dC dI od mo base evI evL s ml lv (h ++ [.inl (ci, fs)]) H' locs ls → gx_ad od mo base h.length = H.size → W p l e R s m args below meth c H' locs (cells + 1) (slots + n) Q (F0 m (pc + 3) ls (.ref (gx_ad od mo base h.length) :: st.map (gx_cv evI evL (gx_ad od mo base))))) :
    W p l e R s m args below meth c H locs cells slots Q (F0 m pc ls (st.map (gx_cv evI evL (gx_ad od mo base)))) := by
  obtain ⟨ro', rc, e1, e2, hlk⟩ := hC _ _ _ hcs
  have hro' : ro' = ro := Option.some.inj (e1.symm.trans hro)
  subst hro'
  obtain ⟨rc', e3, hinst, hini, hws, hlen, hty, -, hpos⟩ := hKl _ _ _ hkl
  have hrc : rc' = rc := Option.some.inj (e3.symm.trans e2)
  subst hrc
  have hKn0 := (hKn _ _ e2).1 hpos
  refine W.newcK hx hb hown (hts _ hlk) (hts _ hinst) (hts _ hini) rfl hd hcells hslots hKn0.2.1 rfl fun H' kC hkC g1 g2 g3 => ?_
  have hx1 : gx_cell cl dC dI (gx_cv evI evL (gx_ad od mo base)) s True H' H.size (.inl (ci, fs)) := by
    refine Or.inr ⟨_, g1, rfl, rfl, fun k v hv => ?_⟩
    obtain ⟨⟨tg, fin⟩, hq, rfl⟩ := hfs k v hv
    have hkN : k < rc'.2.2 := by rw [hlen]; exact (List.getElem?_eq_some_iff.mp hq).1
    refine ⟨?_, fun r0 hr0 => by have : r0 = rc' := Option.some.inj (hr0.symm.trans e2); rw [this]; exact hkN⟩
    obtain ⟨hS, hfc, -⟩ := hKn0
    obtain ⟨cf, kf, fi, fd, hfi, he⟩ := hS k hkN
    obtain ⟨-, -, ty, hpd, htt⟩ := hty k tg fin hq
    have h3 := (u_facts hfc hkC (u_lays hts hws hkN) hfi).2.2
    rw [(State.fieldFound?_type hfi hpd).2] at h3
    rw [← he, ← gx_fd_ok (od := od) (mo := mo) (base := base) hl htt]
    exact k2_blank h3
  obtain ⟨hr1, had⟩ := gx_rep_push hod hs.1 g2 g3 hx1
  have hS' : va_S (fun q => base ≤ q) s.heap H' locs := ⟨Nat.le_trans hs.2.1.1 (by omega), fun q h1 h2 => (g3 q (Nat.lt_of_lt_of_le h1 hs.2.1.1)).trans (hs.2.1.2.1 q h1 h2), hs.2.1.2.2⟩
  have := hk H' kC hkC g1 ⟨hr1, hS', hs.2.2⟩ had
  rw [had] at this
  exact this
end GXP
end
section
section GXA
variable {α β π : Type}
variable {p : Program} {l : Launch} {e : Env} {R : Room} {s : State} {m : MethodId} {args : Array Value} {below : List Frame} {meth : Method} {c : Code} {Q : State → Prop}
variable {cl : List vw_C} {dC : Nat → ClassId} {dI : Nat → Nat → Nat} {od : Nat → Nat} {mo base : Nat} {evI : α → Int32} {evL : β → Int64} {ok : π → Prop} {D : gx_D α β π} {G : gx_G} {Tb : List Cond}
variable {ml pc cells slots kc ks : Nat} {lv : gx_L α β} {st : List (gx_V α β)} {h : gx_H α β} {P : π} {H : Heap} {locs : List Loc} {ls : Array Slot} {ns : List (gx_N α β π)} {cc : ByteArray}
theorem gx_ixn {n k : Nat} {x : Int32} (hn : n < 2 ^ 31) (hk : k < n) (hx : x = nI k) : ¬ (x < 0 ∨ n ≤ x.toNatClampNeg) ∧ x.toNatClampNeg = k := by
  subst hx
  exact ⟨nI_in hk hn, nI_clamp (by omega)⟩
/-- a new array lies in the picture -/
theorem gx_push_arr {tg n : Nat} {cA : ClassId} {H' : Heap} {v : gx_V α β} (hod : ∀ j, j < mo → od j < base) (hs : gx_sd cl dC dI od mo base evI evL s ml lv h H locs ls) (hn : n < 2 ^ 31) (hf : gx_fits tg (gx_cv evI evL (gx_ad od mo base) v)) (g1 : H'[H.size]? = some (arrV cA n (fun _ => gx_cv evI evL (gx_ad od mo base) v))) (g2 : H'.size = H.size + 1) (g3 : ∀ q, q < H.size → H'[q]? = H[q]?) (hA : gx_arr cl s (arrV cA n (fun _ => gx_cv evI evL (gx_ad od mo base) v)) tg) :
    gx_sd cl dC dI od mo base evI evL s ml lv (h ++ [.inr (tg, n, fun _ => v)]) H' locs ls ∧ gx_ad od mo base h.length = H.size := by
  have hx1 : gx_cell cl dC dI (gx_cv evI evL (gx_ad od mo base)) s True H' H.size (.inr (tg, n, fun _ => v) : gx_C α β) :=
    ⟨hn, fun _ _ => hf, _, g1, hA, (fun h => by cases h), arrV_size _ _ _, fun j hj => arrV_read _ _ hj, fun _ => ⟨cA, rfl⟩⟩
  obtain ⟨hr1, had⟩ := gx_rep_push hod hs.1 g2 g3 hx1
  exact ⟨⟨hr1, ⟨Nat.le_trans hs.2.1.1 (by omega), fun q h1 h2 => (g3 q (Nat.lt_of_lt_of_le h1 hs.2.1.1)).trans (hs.2.1.2.1 q h1 h2), hs.2.1.2.2⟩, hs.2.2⟩, had⟩
theorem gx_na_inv {tg len : Nat} (hi : gx_na0 D tg len lv st h P pc = some (.inl ns, kc, ks)) : ∃ (a : α) (r : List (gx_V α β)) (k : Nat) (P' : π), st = .inl a :: r ∧ gx_ix D P a 100000 = some [(k, P')] ∧ ns = [(pc + len, lv, .inr (.inr (some h.length)) :: r, h ++ [.inr (tg, k, fun _ => gx_df D tg)], P')] ∧ kc = 1 ∧ ks = k := by
  unfold gx_na0 at hi
  split at hi
  · rename_i a r
    split at hi
    · rename_i k P' hix
      simp only [Option.some.injEq, Prod.mk.injEq, Sum.inl.injEq] at hi
      exact ⟨a, r, k, P', rfl, hix, hi.1.symm, hi.2.1.symm, hi.2.2.symm⟩
    · cases hi
  · cases hi
theorem gx_w_na {tg : Nat} {t : ArrayType} (hl : gx_law D evI evL ok) (hod : ∀ j, j < mo → od j < base) (hx : p.tables.exec = Jvm.exec) (hb : c.code = cc) (ht : gx_tyo t = some tg) (harr : (Cond.arrayClass (newarray.typeOf t)).before args s = true)
    (hi : gx_na0 D tg 2 lv st h P pc = some (.inl ns, kc, ks)) (hd : decode cc pc = .ok (.newarray t, 2)) (hC : cells + kc ≤ R.cells) (hS : slots + ks ≤ R.slots)
    (hk : ∀ q ∈ ns, gx_K cl dC dI od mo base evI evL ok p l e R s m args below meth c ml Q (cells + kc) (slots + ks) q) (hok : ok P) (hs : gx_sd cl dC dI od mo base evI evL s ml lv h H locs ls) :
    W p l e R s m args below meth c H locs cells slots Q (F0 m pc ls (st.map (gx_cv evI evL (gx_ad od mo base)))) := by
  obtain ⟨a, r, k, P', rfl, hix, rfl, rfl, rfl⟩ := gx_na_inv hi
  obtain ⟨q, hq, hq1, hq2, hq3⟩ := hl.2.2.2.2.2.2.2.2.2.1 P a 100000 _ hix hok
  rw [List.mem_singleton] at hq
  subst hq
  dsimp only at hq1 hq2 hq3
  have hdf : gx_cv evI evL (gx_ad od mo base) (gx_df D tg) = defaultValue (newarray.typeOf t) ∧ gx_fits tg (gx_cv evI evL (gx_ad od mo base) (gx_df D tg)) ∧ ks * componentBytes (newarray.typeOf t) ≤ 536870912 ∧ (∀ cA : ClassId, ArrOfT s cA (newarray.typeOf t) → s.vm.findClass ("[" ++ (newarray.typeOf t).toString) = some cA → gx_arr cl s (arrV cA ks (fun _ => gx_cv evI evL (gx_ad od mo base) (gx_df D tg))) tg) := by
    cases t <;> simp only [gx_tyo, Option.some.injEq] at ht <;> first | (cases ht; done) | skip
    all_goals subst ht
    · refine ⟨by simp [gx_df, gx_cv, hl.1, newarray.typeOf, defaultValue], by simp [gx_df, gx_cv, hl.1, gx_fits, fits], by show ks * 1 ≤ _; omega, fun cA hA _ => hA _ _⟩
    · refine ⟨by simp [gx_df, gx_cv, hl.1, newarray.typeOf, defaultValue], by simp [gx_df, gx_cv, hl.1, gx_fits, fits], by show ks * 1 ≤ _; omega, fun cA hA hR => ⟨hA _ _, by rw [← (show "[" ++ FieldType.byte.toString = "[B" by decide +kernel)]; exact hR⟩⟩
    · refine ⟨by simp [gx_df, gx_cv, hl.1, newarray.typeOf, defaultValue], by simp [gx_df, gx_cv, hl.1, gx_fits, fits], by show ks * 4 ≤ _; omega, fun cA hA _ => hA _ _⟩
    · refine ⟨by simp [gx_df, gx_cv, hl.2.1, newarray.typeOf, defaultValue], by simp [gx_df, gx_cv, hl.2.1, gx_fits, fits], by show ks * 8 ≤ _; omega, fun cA hA _ => hA _ _⟩
  obtain ⟨h1, h2, h3, h4⟩ := hdf
  have hnn : ¬ (evI a) < 0 := by rw [hq3]; exact nI_pos (by omega)
  have hcl : (evI a).toNatClampNeg = ks := by rw [hq3]; exact nI_clamp (by omega)
  refine va_newaK hx hb harr rfl hd (n := evI a) (rest := r.map (gx_cv evI evL (gx_ad od mo base))) rfl hnn hcl h3 hC hS rfl fun H' cA g1 g2 g3 g4 g5 => ?_
  rw [← h1] at g1
  obtain ⟨hs', had⟩ := gx_push_arr hod hs (by omega) h2 g1 g2 g3 (h4 cA g4 g5)
  have := hk _ (List.mem_singleton.mpr rfl) hq1 H' locs ls hs'
  simp only [List.map_cons, gx_cv, had] at this
  exact this
theorem gx_w_an {ci idx : Nat} {ro r0 : vw_C} (hl : gx_law D evI evL ok) (hod : ∀ j, j < mo → od j < base) (hx : p.tables.exec = Jvm.exec) (hb : c.code = cc) (hr0 : cl[ci]? = some r0) (hpos : 0 < ci) (hown : s.vm.findClass ro.1 = some m.cls) (hlk : (Cond.classLink ro.1 idx r0.1).before args s = true) (hover : va_AO r0.1 s)
    (hi : gx_na0 D (10 + ci) 3 lv st h P pc = some (.inl ns, kc, ks)) (hd : decode cc pc = .ok (.anewarray idx, 3)) (hC : cells + kc ≤ R.cells) (hS : slots + ks ≤ R.slots)
    (hk : ∀ q ∈ ns, gx_K cl dC dI od mo base evI evL ok p l e R s m args below meth c ml Q (cells + kc) (slots + ks) q) (hok : ok P) (hs : gx_sd cl dC dI od mo base evI evL s ml lv h H locs ls) :
    W p l e R s m args below meth c H locs cells slots Q (F0 m pc ls (st.map (gx_cv evI evL (gx_ad od mo base)))) := by
  obtain ⟨a, r, k, P', rfl, hix, rfl, rfl, rfl⟩ := gx_na_inv hi
  obtain ⟨q, hq, hq1, hq2, hq3⟩ := hl.2.2.2.2.2.2.2.2.2.1 P a 100000 _ hix hok
  rw [List.mem_singleton] at hq
  subst hq
  dsimp only at hq1 hq2 hq3
  have hnn : ¬ (evI a) < 0 := by rw [hq3]; exact nI_pos (by omega)
  have hcl : (evI a).toNatClampNeg = ks := by rw [hq3]; exact nI_clamp (by omega)
  have hdf : gx_df D (10 + ci) = (.inr (.inr none) : gx_V α β) := by
    unfold gx_df
    rw [if_neg (by omega), if_neg (by omega)]
  refine W.anew hx hb hown hlk hover.use (g := F0 m pc ls (.int (evI a) :: r.map (gx_cv evI evL (gx_ad od mo base)))) rfl hd (n := evI a) (rest := r.map (gx_cv evI evL (gx_ad od mo base))) rfl hnn (by rw [hcl]; omega) hC (by rw [hcl]; exact hS) fun cA kA comp g1 g2 g3 g4 => ?_
  rw [hcl]
  have e1 : ({ cls := cA, slots := Array.replicate ks .null, vm := .none } : Cell) = arrV cA ks (fun _ => gx_cv evI evL (gx_ad od mo base) (gx_df D (10 + ci))) := by
    rw [hdf]
    exact arrV_new _ _ _
  have hA : gx_arr cl s (arrV cA ks (fun _ => gx_cv evI evL (gx_ad od mo base) (gx_df D (10 + ci)))) (10 + ci) := by
    unfold gx_arr
    split
    · omega
    · omega
    · omega
    · omega
    · omega
    · exact ⟨r0, by rw [Nat.add_sub_cancel_left]; exact hr0, by omega, (fun k h => by cases h), kA, comp, g2, g3, g4⟩
  have hfi : gx_fits (10 + ci) (gx_cv evI evL (gx_ad od mo base) (gx_df D (10 + ci))) := by
    unfold gx_fits
    split
    · omega
    · omega
    · omega
    · omega
    · trivial
  obtain ⟨hs', had⟩ := gx_push_arr (H' := H.push { cls := cA, slots := Array.replicate ks .null, vm := .none }) hod hs (by omega) hfi (by rw [← e1]; simp) (by simp) (fun q hq => by rw [Array.getElem?_push, if_neg (Nat.ne_of_lt hq)]) hA
  have := hk _ (List.mem_singleton.mpr rfl) hq1 _ locs ls hs'
  simp only [List.map_cons, gx_cv, had] at this
  exact this
theorem gx_w_anB {idx : Nat} {ro : vw_C} (hod : ∀ j, j < mo → od j < base) (hl : gx_law D evI evL ok) (hx : p.tables.exec = Jvm.exec) (hb : c.code = cc) (hown : s.vm.findClass ro.1 = some m.cls) (hlk : (Cond.classLink ro.1 idx "[B").before args s = true) (hover : (Cond.arrayOver (.array .byte)).before args s = true)
    (hi : gx_na0 D 4 3 lv st h P pc = some (.inl ns, kc, ks)) (hd : decode cc pc = .ok (.anewarray idx, 3)) (hC : cells + kc ≤ R.cells) (hS : slots + ks ≤ R.slots)
    (hk : ∀ q ∈ ns, gx_K cl dC dI od mo base evI evL ok p l e R s m args below meth c ml Q (cells + kc) (slots + ks) q) (hok : ok P) (hs : gx_sd cl dC dI od mo base evI evL s ml lv h H locs ls) :
    W p l e R s m args below meth c H locs cells slots Q (F0 m pc ls (st.map (gx_cv evI evL (gx_ad od mo base)))) := by
  obtain ⟨a, r, k, P', rfl, hix, rfl, rfl, rfl⟩ := gx_na_inv hi
  obtain ⟨q, hq, hq1, hq2, hq3⟩ := hl.2.2.2.2.2.2.2.2.2.1 P a 100000 _ hix hok
  rw [List.mem_singleton] at hq
  subst hq
  dsimp only at hq1 hq2 hq3
  have hnn : ¬ (evI a) < 0 := by rw [hq3]; exact nI_pos (by omega)
  have hcl : (evI a).toNatClampNeg = ks := by rw [hq3]; exact nI_clamp (by omega)
  have hdf : gx_df D 4 = (.inr (.inr none) : gx_V α β) := by
    unfold gx_df
    rw [if_neg (by omega), if_neg (by omega)]
  have hB : (FieldType.array .byte).toString = "[B" := by decide +kernel
  refine W.anewA (t := .byte) hx hb hown (by rw [hB]; exact hlk) hover (g := F0 m pc ls (.int (evI a) :: r.map (gx_cv evI evL (gx_ad od mo base)))) rfl hd (n := evI a) (rest := r.map (gx_cv evI evL (gx_ad od mo base))) rfl hnn (by rw [hcl]; omega) hC (by rw [hcl]; exact hS) fun cA kA comp g1 g2 g3 g4 => ?_
  rw [hcl]
  have e1 : ({ cls := cA, slots := Array.replicate ks .null, vm := .none } : Cell) = arrV cA ks (fun _ => gx_cv evI evL (gx_ad od mo base) (gx_df D 4)) := by
    rw [hdf]
    exact arrV_new _ _ _
  have hA : gx_arr cl s (arrV cA ks (fun _ => gx_cv evI evL (gx_ad od mo base) (gx_df D 4))) 4 :=
    ⟨(fun k h => by cases h), kA, comp, g2, g3, by rw [← hB]; exact g4⟩
  obtain ⟨hs', had⟩ := gx_push_arr (tg := 4) (H' := H.push { cls := cA, slots := Array.replicate ks .null, vm := .none }) hod hs (by omega) trivial (by rw [← e1]; simp) (by simp) (fun q hq => by rw [Array.getElem?_push, if_neg (Nat.ne_of_lt hq)]) hA
  have := hk _ (List.mem_singleton.mpr rfl) hq1 _ locs ls hs'
  simp only [List.map_cons, gx_cv, had] at this
  exact this
theorem gx_al_inv {okt : Nat → Bool} (hi : gx_al D okt lv st h P pc = some (.inl ns, kc, ks)) : ∃ (i : α) (a : Nat) (r : List (gx_V α β)) (tg n : Nat) (f : Nat → gx_V α β) (l0 : List (Nat × π)), st = .inl i :: .inr (.inr (some a)) :: r ∧ h[a]? = some (.inr (tg, n, f)) ∧ okt tg = true ∧ gx_ix D P i n = some l0 ∧ ns = l0.map (fun q => (pc + 1, lv, f q.1 :: r, h, q.2)) ∧ kc = 0 ∧ ks = 0 := by
  unfold gx_al at hi
  split at hi
  · rename_i i a r
    split at hi
    · rename_i tg n f ha
      split at hi
      · rename_i ht
        split at hi
        · rename_i l0 hix
          obtain ⟨e1, e2, e3⟩ := gx_go_inv hi
          exact ⟨i, a, r, tg, n, f, l0, rfl, ha, ht, hix, e1, e2, e3⟩
        · cases hi
      · cases hi
    · cases hi
  · cases hi
theorem gx_w_al {okt : Nat → Bool} (hl : gx_law D evI evL ok) (hi : gx_al D okt lv st h P pc = some (.inl ns, kc, ks))
    (hw : ∀ (cell : Cell) (tg n a : Nat) (x : Int32) (v : Value) (r : List Value), okt tg = true → H[a]? = some cell → gx_arr cl s cell tg → cell.vm ≠ .unknown → ¬ (x < 0 ∨ cell.slots.size ≤ x.toNatClampNeg) → cell.slots[x.toNatClampNeg]? = some v → W p l e R s m args below meth c H locs cells slots Q (F0 m (pc + 1) ls (v :: r)) → W p l e R s m args below meth c H locs cells slots Q (F0 m pc ls (.int x :: .ref a :: r)))
    (hk : ∀ q ∈ ns, gx_K cl dC dI od mo base evI evL ok p l e R s m args below meth c ml Q (cells + kc) (slots + ks) q) (hok : ok P) (hs : gx_sd cl dC dI od mo base evI evL s ml lv h H locs ls) :
    W p l e R s m args below meth c H locs cells slots Q (F0 m pc ls (st.map (gx_cv evI evL (gx_ad od mo base)))) := by
  obtain ⟨i, a, r, tg, n, f, l0, rfl, ha, ht, hix, rfl, rfl, rfl⟩ := gx_al_inv hi
  obtain ⟨q, hq, hq1, hq2, hq3⟩ := hl.2.2.2.2.2.2.2.2.2.1 P i n _ hix hok
  obtain ⟨hn, -, cell, c1, c2, c3, c4, c5, -⟩ := hs.1.2.2 a _ ha
  obtain ⟨b1, b2⟩ := gx_ixn hn hq2 hq3
  have h1 := hk _ (List.mem_map.mpr ⟨q, hq, rfl⟩) hq1 H locs ls hs
  exact hw cell tg n _ (evI i) _ _ ht c1 c2 c3 (by rw [c4]; exact b1) (by rw [b2]; exact c5 _ hq2) h1
/-- an element is laid -/
theorem gx_set_arr {tg n a k : Nat} {f : Nat → gx_V α β} {v : gx_V α β} {cell : Cell} {H' : Heap} (hod : ∀ j, j < mo → od j < base) (hs : gx_sd cl dC dI od mo base evI evL s ml lv h H locs ls) (ha : h[a]? = some (.inr (tg, n, f))) (hma : mo ≤ a) (hk : k < n) (hf : gx_fits tg (gx_cv evI evL (gx_ad od mo base) v))
    (hc : H[gx_ad od mo base a]? = some cell) (g1 : H'[gx_ad od mo base a]? = some (cell.setSlot k (gx_cv evI evL (gx_ad od mo base) v))) (g2 : H'.size = H.size) (g3 : ∀ q, q ≠ gx_ad od mo base a → H'[q]? = H[q]?) :
    gx_sd cl dC dI od mo base evI evL s ml lv (h.set a (.inr (tg, n, gx_up f k v))) H' (locs ++ [⟨gx_ad od mo base a, k⟩]) ls := by
  obtain ⟨hn, hft, cell', c1, c2, c3, c4, c5, c6⟩ := hs.1.2.2 a _ ha
  have : cell' = cell := Option.some.inj (c1.symm.trans hc)
  subst this
  have hsz : k < cell'.slots.size := by rw [c4]; exact hk
  have hrd : ∀ j, j < n → (cell'.setSlot k (gx_cv evI evL (gx_ad od mo base) v)).slots[j]? = some (gx_cv evI evL (gx_ad od mo base) (gx_up f k v j)) := by
    intro j hj
    by_cases hjk : j = k
    · subst hjk
      simp [Cell.setSlot, hsz, gx_up]
    · rw [slot_ne cell' _ (Ne.symm hjk), c5 j hj]
      simp [gx_up, hjk]
  refine ⟨gx_rep_set hod hs.1 hma ha g2 g3 ⟨hn, fun j hj => ?_, _, g1, ?_, c3, by simp [Cell.setSlot, c4], hrd, fun hm => ?_⟩, hs.2.1.put g2 g3 (gx_ad_ge hma), hs.2.2⟩
  · unfold gx_up
    split
    · exact hf
    · exact hft j hj
  · exact c2
  · obtain ⟨cA, rfl⟩ := c6 hm
    refine ⟨cA, ?_⟩
    rw [arrV_store]
    congr 1
    funext j
    by_cases hjk : j = k
    · subst hjk
      simp [updV, gx_up]
    · simp [updV, gx_up, hjk]
end GXA
end
section
def gx_nv (tg : Nat) (x : Int32) : Value := if tg = 0 then .int x else if tg = 1 then narrow .boolean (.int x) else narrow .byte (.int x)
theorem gx_bit (x : Int32) : x &&& 1 = 0 ∨ x &&& 1 = 1 := by
  obtain ⟨j, hj, e⟩ := pk_andE x (m := 1) 1 (by decide)
  have : j = 0 ∨ j = 1 := by omega
  rcases this with rfl | rfl
  · exact Or.inl e
  · exact Or.inr e
section GXT
variable {α β π : Type}
variable {p : Program} {l : Launch} {e : Env} {R : Room} {s : State} {m : MethodId} {args : Array Value} {below : List Frame} {meth : Method} {c : Code} {Q : State → Prop}
variable {cl : List vw_C} {dC : Nat → ClassId} {dI : Nat → Nat → Nat} {od : Nat → Nat} {mo base : Nat} {evI : α → Int32} {evL : β → Int64} {ok : π → Prop} {D : gx_D α β π} {G : gx_G} {Tb : List Cond}
variable {ml pc cells slots kc ks : Nat} {lv : gx_L α β} {st : List (gx_V α β)} {h : gx_H α β} {P : π} {H : Heap} {locs : List Loc} {ls : Array Slot} {ns : List (gx_N α β π)} {cc : ByteArray}
theorem gx_nw_ok {tg : Nat} {x : α} (hl : gx_law D evI evL ok) (ht : tg = 0 ∨ tg = 1 ∨ tg = 3) : gx_cv evI evL (gx_ad od mo base) (.inl (gx_nw D tg x)) = gx_nv tg (evI x) ∧ gx_fits tg (gx_nv tg (evI x)) := by
  rcases ht with rfl | rfl | rfl
  · exact ⟨rfl, rfl⟩
  · refine ⟨?_, ?_⟩
    · simp only [gx_nw, gx_cv, gx_nv]
      simp [hl.2.2.2.1, hl.1, gx_sbi, narrow]
    · show fits .boolean (.int ((evI x) &&& 1)) = true
      rcases gx_bit (evI x) with e | e <;> (rw [e]; rfl)
  · refine ⟨?_, ?_⟩
    · simp only [gx_nw, gx_cv, gx_nv]
      simp [hl.2.2.1, gx_sun, narrow]
    · show fits .byte (.int (evI x).toInt8.toInt32) = true
      exact pk_fb _
theorem gx_as_inv {okt : Nat → Bool} (hi : gx_as D mo okt lv st h P pc = some (.inl ns, kc, ks)) : ∃ (x i : α) (a : Nat) (r : List (gx_V α β)) (tg n : Nat) (f : Nat → gx_V α β) (l0 : List (Nat × π)), st = .inl x :: .inl i :: .inr (.inr (some a)) :: r ∧ h[a]? = some (.inr (tg, n, f)) ∧ okt tg = true ∧ mo ≤ a ∧ gx_ix D P i n = some l0 ∧ ns = l0.map (fun q => (pc + 1, lv, r, h.set a (.inr (tg, n, gx_up f q.1 (.inl (gx_nw D tg x)))), q.2)) ∧ kc = 0 ∧ ks = 0 := by
  unfold gx_as at hi
  split at hi
  · rename_i x i a r
    split at hi
    · rename_i tg n f ha
      split at hi
      · rename_i ht
        split at hi
        · rename_i l0 hix
          obtain ⟨e1, e2, e3⟩ := gx_go_inv hi
          exact ⟨x, i, a, r, tg, n, f, l0, rfl, ha, ht.1, ht.2, hix, e1, e2, e3⟩
        · cases hi
      · cases hi
    · cases hi
  · cases hi
theorem gx_w_as {okt : Nat → Bool} (hl : gx_law D evI evL ok) (hod : ∀ j, j < mo → od j < base) (hokt : ∀ tg, okt tg = true → tg = 0 ∨ tg = 1 ∨ tg = 3) (hi : gx_as D mo okt lv st h P pc = some (.inl ns, kc, ks))
    (hw : ∀ (cell : Cell) (tg a : Nat) (x j : Int32) (r : List Value), okt tg = true → H[a]? = some cell → gx_arr cl s cell tg → cell.vm ≠ .unknown → ¬ (j < 0 ∨ cell.slots.size ≤ j.toNatClampNeg) → (∀ H' : Heap, H'[a]? = some (cell.setSlot j.toNatClampNeg (gx_nv tg x)) → H'.size = H.size → (∀ q, q ≠ a → H'[q]? = H[q]?) → W p l e R s m args below meth c H' (locs ++ [⟨a, j.toNatClampNeg⟩]) cells slots Q (F0 m (pc + 1) ls r)) → W p l e R s m args below meth c H locs cells slots Q (F0 m pc ls (.int x :: .int j :: .ref a :: r)))
    (hk : ∀ q ∈ ns, gx_K cl dC dI od mo base evI evL ok p l e R s m args below meth c ml Q (cells + kc) (slots + ks) q) (hok : ok P) (hs : gx_sd cl dC dI od mo base evI evL s ml lv h H locs ls) :
    W p l e R s m args below meth c H locs cells slots Q (F0 m pc ls (st.map (gx_cv evI evL (gx_ad od mo base)))) := by
  obtain ⟨x, i, a, r, tg, n, f, l0, rfl, ha, ht, hma, hix, rfl, rfl, rfl⟩ := gx_as_inv hi
  obtain ⟨q, hq, hq1, hq2, hq3⟩ := hl.2.2.2.2.2.2.2.2.2.1 P i n _ hix hok
  obtain ⟨hn, -, cell, c1, c2, c3, c4, c5, -⟩ := hs.1.2.2 a _ ha
  obtain ⟨b1, b2⟩ := gx_ixn hn hq2 hq3
  obtain ⟨n1, n2⟩ := gx_nw_ok (od := od) (mo := mo) (base := base) (x := x) hl (hokt tg ht)
  refine hw cell tg _ (evI x) (evI i) _ ht c1 c2 c3 (by rw [c4]; exact b1) fun H' g1 g2 g3 => ?_
  rw [b2] at g1 ⊢
  rw [← n1] at g1
  exact hk _ (List.mem_map.mpr ⟨q, hq, rfl⟩) hq1 H' _ ls (gx_set_arr hod hs ha hma hq2 (by rw [n1]; exact n2) c1 g1 g2 g3)
theorem gx_asl_inv (hi : gx_asl D mo lv st h P pc = some (.inl ns, kc, ks)) : ∃ (x : β) (i : α) (a : Nat) (r : List (gx_V α β)) (n : Nat) (f : Nat → gx_V α β) (l0 : List (Nat × π)), st = .inr (.inl x) :: .inl i :: .inr (.inr (some a)) :: r ∧ h[a]? = some (.inr (2, n, f)) ∧ mo ≤ a ∧ gx_ix D P i n = some l0 ∧ ns = l0.map (fun q => (pc + 1, lv, r, h.set a (.inr (2, n, gx_up f q.1 (.inr (.inl x)))), q.2)) ∧ kc = 0 ∧ ks = 0 := by
  unfold gx_asl at hi
  split at hi
  · rename_i x i a r
    split at hi
    · rename_i tg n f ha
      split at hi
      · rename_i ht
        obtain ⟨rfl, hma⟩ := ht
        split at hi
        · rename_i l0 hix
          obtain ⟨e1, e2, e3⟩ := gx_go_inv hi
          exact ⟨x, i, a, r, n, f, l0, rfl, ha, hma, hix, e1, e2, e3⟩
        · cases hi
      · cases hi
    · cases hi
  · cases hi
theorem gx_w_asl (hl : gx_law D evI evL ok) (hod : ∀ j, j < mo → od j < base) (hx : p.tables.exec = Jvm.exec) (hb : c.code = cc) (hi : gx_asl D mo lv st h P pc = some (.inl ns, kc, ks)) (hd : decode cc pc = .ok (.lastore, 1))
    (hk : ∀ q ∈ ns, gx_K cl dC dI od mo base evI evL ok p l e R s m args below meth c ml Q (cells + kc) (slots + ks) q) (hok : ok P) (hs : gx_sd cl dC dI od mo base evI evL s ml lv h H locs ls) :
    W p l e R s m args below meth c H locs cells slots Q (F0 m pc ls (st.map (gx_cv evI evL (gx_ad od mo base)))) := by
  obtain ⟨x, i, a, r, n, f, l0, rfl, ha, hma, hix, rfl, rfl, rfl⟩ := gx_asl_inv hi
  obtain ⟨q, hq, hq1, hq2, hq3⟩ := hl.2.2.2.2.2.2.2.2.2.1 P i n _ hix hok
  obtain ⟨hn, -, cell, c1, c2, c3, c4, c5, -⟩ := hs.1.2.2 a _ ha
  obtain ⟨b1, b2⟩ := gx_ixn hn hq2 hq3
  refine W.last hx hb (x := evL x) (j := evI i) c1 c2 c3 (by rw [c4]; exact b1) (g := F0 m pc ls (.long (evL x) :: .int (evI i) :: .ref (gx_ad od mo base a) :: r.map (gx_cv evI evL (gx_ad od mo base)))) rfl (rest := r.map (gx_cv evI evL (gx_ad od mo base))) rfl hd fun H' g1 g2 g3 => ?_
  rw [b2] at g1 ⊢
  exact hk _ (List.mem_map.mpr ⟨q, hq, rfl⟩) hq1 H' _ ls (gx_set_arr hod hs ha hma hq2 (v := .inr (.inl x)) rfl c1 g1 g2 g3)
theorem gx_asr_inv (hi : gx_asr D mo lv st h P pc = some (.inl ns, kc, ks)) : ∃ (b : Nat) (i : α) (a : Nat) (r : List (gx_V α β)) (tg n : Nat) (f : Nat → gx_V α β) (l0 : List (Nat × π)), st = .inr (.inr (some b)) :: .inl i :: .inr (.inr (some a)) :: r ∧ h[a]? = some (.inr (tg, n, f)) ∧ gx_isc h tg b = true ∧ mo ≤ a ∧ gx_ix D P i n = some l0 ∧ ns = l0.map (fun q => (pc + 1, lv, r, h.set a (.inr (tg, n, gx_up f q.1 (.inr (.inr (some b))))), q.2)) ∧ kc = 0 ∧ ks = 0 := by
  unfold gx_asr at hi
  split at hi
  · rename_i b i a r
    split at hi
    · rename_i tg n f ha
      split at hi
      · rename_i ht
        split at hi
        · rename_i l0 hix
          obtain ⟨e1, e2, e3⟩ := gx_go_inv hi
          exact ⟨b, i, a, r, tg, n, f, l0, rfl, ha, ht.1, ht.2, hix, e1, e2, e3⟩
        · cases hi
      · cases hi
    · cases hi
  · cases hi
theorem gx_isc_inv {tg b : Nat} (hi : gx_isc h tg b = true) : (∃ ci fs, h[b]? = some (.inl (ci, fs)) ∧ tg = 10 + ci) ∨ (tg = 4 ∧ ∃ n f, h[b]? = some (.inr (3, n, f))) := by
  unfold gx_isc at hi
  split at hi
  · rename_i ci fs hb
    exact Or.inl ⟨ci, fs, hb, by simpa using hi⟩
  · rename_i t1 n f hb
    simp only [Bool.and_eq_true, beq_iff_eq] at hi
    obtain ⟨rfl, rfl⟩ := hi
    exact Or.inr ⟨rfl, n, f, hb⟩
  · cases hi
theorem gx_w_asr (hl : gx_law D evI evL ok) (hod : ∀ j, j < mo → od j < base) (hx : p.tables.exec = Jvm.exec) (hb : c.code = cc) (hKn : gx_Kn cl dC dI s) (hi : gx_asr D mo lv st h P pc = some (.inl ns, kc, ks)) (hd : decode cc pc = .ok (.aastore, 1))
    (hk : ∀ q ∈ ns, gx_K cl dC dI od mo base evI evL ok p l e R s m args below meth c ml Q (cells + kc) (slots + ks) q) (hok : ok P) (hs : gx_sd cl dC dI od mo base evI evL s ml lv h H locs ls) :
    W p l e R s m args below meth c H locs cells slots Q (F0 m pc ls (st.map (gx_cv evI evL (gx_ad od mo base)))) := by
  obtain ⟨b, i, a, r, tg, n, f, l0, rfl, ha, hisc, hma, hix, rfl, rfl, rfl⟩ := gx_asr_inv hi
  obtain ⟨q, hq, hq1, hq2, hq3⟩ := hl.2.2.2.2.2.2.2.2.2.1 P i n _ hix hok
  obtain ⟨hn, -, cell, c1, c2, c3, c4, c5, -⟩ := hs.1.2.2 a _ ha
  obtain ⟨b1, b2⟩ := gx_ixn hn hq2 hq3
  have hin2 : ¬ evI i < 0 ∧ (evI i).toNatClampNeg < cell.slots.size := by
    rw [c4, b2]
    exact ⟨fun hh => b1 (Or.inl hh), hq2⟩
  rcases gx_isc_inv hisc with ⟨ci, fs, hbv, rfl⟩ | ⟨rfl, nb, fb, hbv⟩
  case inr =>
    obtain ⟨hob, kA, comp, hkA, hkind, hcomp⟩ := c2
    obtain ⟨-, -, cb, d1, ⟨d2, d2'⟩, d3, -⟩ := hs.1.2.2 b _ hbv
    have hcc : comp = cb.cls := Option.some.inj (hcomp.symm.trans d2')
    obtain ⟨d4, kB, d5, -⟩ := d2
    refine W.aast hx hb (a := gx_ad od mo base a) (v := gx_ad od mo base b) (j := evI i) c1 hob c3 hkA hkind rfl (by rw [hcc]; exact d5) hin2 d1 d4 d5 (by rw [hcc]; exact va_asg _ _) (g := F0 m pc ls (.ref (gx_ad od mo base b) :: .int (evI i) :: .ref (gx_ad od mo base a) :: r.map (gx_cv evI evL (gx_ad od mo base)))) rfl (rest := r.map (gx_cv evI evL (gx_ad od mo base))) rfl hd fun H' g1 g2 g3 => ?_
    rw [b2] at g1 ⊢
    exact hk _ (List.mem_map.mpr ⟨q, hq, rfl⟩) hq1 H' _ ls (gx_set_arr hod hs ha hma hq2 (v := .inr (.inr (some b))) trivial c1 g1 g2 g3)
  have c2' : ∃ r0 : vw_C, cl[ci]? = some r0 ∧ 0 < ci ∧ (∀ k, cell.vm ≠ .statics k) ∧ ∃ (kA : Class) (comp : ClassId), s.vm.classes[cell.cls]? = some kA ∧ kA.kind = .array comp (.object r0.1) ∧ s.vm.findClass r0.1 = some comp := by
    unfold gx_arr at c2
    split at c2
    · omega
    · omega
    · omega
    · omega
    · omega
    · obtain ⟨r0, h1, h0, h2, h3⟩ := c2
      rw [Nat.add_sub_cancel_left] at h1
      exact ⟨r0, h1, by omega, h2, h3⟩
  obtain ⟨r0, hr0, hpos, hob, kA, comp, hkA, hkind, hcomp⟩ := c2'
  obtain ⟨-, hCA⟩ := (hKn _ _ hr0).1 hpos
  obtain ⟨hfc, kC, hkC, hord⟩ := id hCA
  have hcc : comp = dC ci := Option.some.inj (hcomp.symm.trans hfc)
  rcases hs.1.2.2 b _ hbv with hbad | ⟨cb, d1, d2, d3, -⟩
  · exact absurd (List.getElem?_eq_some_iff.mp hr0).1 (Nat.not_lt.mpr hbad)
  refine W.aast hx hb (a := gx_ad od mo base a) (v := gx_ad od mo base b) (j := evI i) c1 hob c3 hkA hkind rfl (by rw [hcc]; exact hkC) hin2 d1 (fun q hh => by rw [d3] at hh; cases hh) (by rw [d2]; exact hkC) (by rw [d2, hcc]; exact va_assign hCA) (g := F0 m pc ls (.ref (gx_ad od mo base b) :: .int (evI i) :: .ref (gx_ad od mo base a) :: r.map (gx_cv evI evL (gx_ad od mo base)))) rfl (rest := r.map (gx_cv evI evL (gx_ad od mo base))) rfl hd fun H' g1 g2 g3 => ?_
  rw [b2] at g1 ⊢
  have hfi : gx_fits (10 + ci) (gx_cv evI evL (gx_ad od mo base) (.inr (.inr (some b)) : gx_V α β)) := by
    unfold gx_fits
    split
    · omega
    · omega
    · omega
    · omega
    · trivial
  exact hk _ (List.mem_map.mpr ⟨q, hq, rfl⟩) hq1 H' _ ls (gx_set_arr hod hs ha hma hq2 (v := .inr (.inr (some b))) hfi c1 g1 g2 g3)
theorem gx_cp_inv (hi : gx_cp D mo lv st h P pc = some (.inl ns, kc, ks)) : ∃ (n dp sp : α) (a b : Nat) (r : List (gx_V α β)) (tg n0 n1 kn k1 kp : Nat) (f g : Nat → gx_V α β) (P1 P2 P3 : π), st = .inl n :: .inl dp :: .inr (.inr (some b)) :: .inl sp :: .inr (.inr (some a)) :: r ∧ h[a]? = some (.inr (tg, n0, f)) ∧ h[b]? = some (.inr (tg, n1, g)) ∧ gx_ix D P n 1000000 = some [(kn, P1)] ∧ gx_ix D P1 sp 1000000 = some [(k1, P2)] ∧ gx_ix D P2 dp 1000000 = some [(kp, P3)] ∧ tg < 4 ∧ k1 + kn ≤ n0 ∧ kp + kn ≤ n1 ∧ mo ≤ a ∧ mo ≤ b ∧ gx_wd r ≤ 8 ∧ ns = [(pc + 3, lv, r, h.set b (.inr (tg, n1, gx_cpy f g k1 kp kn)), P3)] ∧ kc = 0 ∧ ks = 0 := by
  unfold gx_cp at hi
  split at hi
  · rename_i n dp b sp a r
    split at hi
    · rename_i tg n0 f tg1 n1 g ha hb
      split at hi
      · rename_i kn P1 h1
        split at hi
        · rename_i k1 P2 h2
          split at hi
          · rename_i kp P3 h3
            split at hi
            · rename_i hc
              obtain ⟨rfl, q2, q3, q4, q5, q6, q7⟩ := hc
              obtain ⟨e1, e2, e3⟩ := gx_g1_inv hi
              exact ⟨n, dp, sp, a, b, r, tg, n0, n1, kn, k1, kp, f, g, P1, P2, P3, rfl, ha, hb, h1, h2, h3, q2, q3, q4, q5, q6, q7, e1, e2, e3⟩
            · cases hi
          · cases hi
        · cases hi
      · cases hi
    · cases hi
  · cases hi
theorem gx_one {P1 : π} {a : α} {n k : Nat} {P2 : π} (hl : gx_law D evI evL ok) (hix : gx_ix D P1 a n = some [(k, P2)]) (hok : ok P1) : ok P2 ∧ k < n ∧ evI a = nI k := by
  obtain ⟨q, hq, hq1, hq2, hq3⟩ := hl.2.2.2.2.2.2.2.2.2.1 P1 a n _ hix hok
  rw [List.mem_singleton] at hq
  subst hq
  exact ⟨hq1, hq2, hq3⟩
theorem gx_prim {tg : Nat} {cell : Cell} (h4 : tg < 4) (ha : gx_arr cl s cell tg) : ∃ (ty : FieldType) (kA : Class) (comp : ClassId), s.vm.classes[cell.cls]? = some kA ∧ kA.kind = .array comp ty ∧ refKind ty = false ∧ (∀ k, cell.vm ≠ .statics k) ∧ (∀ v, gx_fits tg v → fits ty v = true) ∧ ((tg = 0 ∧ ty = .int) ∨ (tg = 1 ∧ ty = .boolean) ∨ (tg = 2 ∧ ty = .long) ∨ (tg = 3 ∧ ty = .byte)) := by
  have : tg = 0 ∨ tg = 1 ∨ tg = 2 ∨ tg = 3 := by omega
  rcases this with rfl | rfl | rfl | rfl
  · obtain ⟨h1, k, h2, comp, h3⟩ := ha
    exact ⟨.int, k, comp, h2, h3, rfl, h1, fun _ h => h, Or.inl ⟨rfl, rfl⟩⟩
  · obtain ⟨h1, k, h2, comp, h3⟩ := ha
    exact ⟨.boolean, k, comp, h2, h3, rfl, h1, fun _ h => h, Or.inr (Or.inl ⟨rfl, rfl⟩)⟩
  · obtain ⟨h1, k, h2, comp, h3⟩ := ha
    exact ⟨.long, k, comp, h2, h3, rfl, h1, fun _ h => h, Or.inr (Or.inr (Or.inl ⟨rfl, rfl⟩))⟩
  · obtain ⟨⟨h1, k, h2, comp, h3⟩, -⟩ := ha
    exact ⟨.byte, k, comp, h2, h3, rfl, h1, fun _ h => h, Or.inr (Or.inr (Or.inr ⟨rfl, rfl⟩))⟩
theorem gx_num {tg : Nat} {v : Value} (h4 : tg < 4) (hf : gx_fits tg v) : (∃ x, v = .int x) ∨ ∃ x, v = .long x := by
  have : tg = 0 ∨ tg = 1 ∨ tg = 2 ∨ tg = 3 := by omega
  rcases this with rfl | rfl | rfl | rfl <;> cases v <;> first | exact Or.inl ⟨_, rfl⟩ | exact Or.inr ⟨_, rfl⟩ | (simp [gx_fits, fits] at hf)
theorem gx_w_cp {idx : Nat} {own : String} (hl : gx_law D evI evL ok) (hod : ∀ j, j < mo → od j < base) (hx : p.tables.exec = Jvm.exec) (hb : c.code = cc) (hml : c.maxLocals = ml) (hown : s.vm.findClass own = some m.cls) (hlink : (Cond.methodLink own idx arraycopyName).before args s = true) (hnat : (Cond.native arraycopyName).before args s = true) (hstat : (Cond.static arraycopyName).before args s = true) (hini : (Cond.initialized "java/lang/System").before args s = true)
    (hframes : 1 ≤ R.frames) (hlocals : 60 ≤ R.locals) (hi : gx_cp D mo lv st h P pc = some (.inl ns, kc, ks)) (hd : decode cc pc = .ok (.invokestatic idx, 3))
    (hk : ∀ q ∈ ns, gx_K cl dC dI od mo base evI evL ok p l e R s m args below meth c ml Q (cells + kc) (slots + ks) q) (hok : ok P) (hs : gx_sd cl dC dI od mo base evI evL s ml lv h H locs ls) :
    W p l e R s m args below meth c H locs cells slots Q (F0 m pc ls (st.map (gx_cv evI evL (gx_ad od mo base)))) := by
  obtain ⟨n, dp, sp, a, b, r, tg, n0, n1, kn, k1, kp, f, g, P1, P2, P3, rfl, ha, hbb, h1, h2, h3, h4, h5, h6, hma, hmb, hwr, rfl, rfl, rfl⟩ := gx_cp_inv hi
  obtain ⟨o1, l1, e1⟩ := gx_one hl h1 hok
  obtain ⟨o2, l2, e2⟩ := gx_one hl h2 o1
  obtain ⟨o3, l3, e3⟩ := gx_one hl h3 o2
  obtain ⟨hn0, hf0, cs, a1, a2, a3, a4, a5, a6⟩ := hs.1.2.2 a _ ha
  obtain ⟨hn1, hf1, cd, b1, b2, b3, b4, b5, b6⟩ := hs.1.2.2 b _ hbb
  obtain ⟨cA, rfl⟩ := a6 hma
  obtain ⟨cB, rfl⟩ := b6 hmb
  obtain ⟨ty, kA, cmA, p1, p2, p3, p4, p5, p6⟩ := gx_prim h4 a2
  obtain ⟨ty2, kB, cmB, q1, q2, q3, q4, q5, q6⟩ := gx_prim h4 b2
  have hty : ty2 = ty := by
    rcases p6 with ⟨u1, u2⟩ | ⟨u1, u2⟩ | ⟨u1, u2⟩ | ⟨u1, u2⟩ <;> rcases q6 with ⟨w1, w2⟩ | ⟨w1, w2⟩ | ⟨w1, w2⟩ | ⟨w1, w2⟩ <;> first | (rw [u2, w2]; done) | omega
  subst hty
  have cn : (evI n).toNatClampNeg = kn := by rw [e1]; exact nI_clamp (by omega)
  have cs' : (evI sp).toNatClampNeg = k1 := by rw [e2]; exact nI_clamp (by omega)
  have cp' : (evI dp).toNatClampNeg = kp := by rw [e3]; exact nI_clamp (by omega)
  intro T hT X
  obtain ⟨vm', X', step⟩ := X.arraycopy hx hown hlink hnat hstat hini (src := gx_ad od mo base a) (dst := gx_ad od mo base b) (srcPos := evI sp) (destPos := evI dp) (n := evI n) (by rw [hT]; exact a1) (by rw [hT]; exact b1)
    p4 q4 a3 b3 p1 q1 p2 q2 (by simp [p3]) (by rw [e2]; exact nI_pos (by omega)) (by rw [e3]; exact nI_pos (by omega)) (by rw [e1]; exact nI_pos (by omega))
    (by rw [e2, e1, nI_toInt (by omega), nI_toInt (by omega), arrV_size]; omega)
    (by rw [e3, e1, nI_toInt (by omega), nI_toInt (by omega), arrV_size]; omega)
    (fun vm₁ _ i hi => by
      rw [cn] at hi
      have e9 : (arrV cA n0 (fun j => gx_cv evI evL (gx_ad od mo base) (f j))).slots.getD ((evI sp).toNatClampNeg + i) .null = gx_cv evI evL (gx_ad od mo base) (f (k1 + i)) := by
        rw [cs', Array.getD_eq_getD_getElem?, arrV_read _ _ (by omega)]
        rfl
      rw [e9]
      have hff := hf0 (k1 + i) (by omega)
      refine ⟨q5 _ hff, ?_⟩
      rcases gx_num h4 hff with ⟨x, hx⟩ | ⟨x, hx⟩ <;> (rw [hx]; exact trivial))
    (g := F0 m pc ls ((.inl n :: .inl dp :: .inr (.inr (some b)) :: .inl sp :: .inr (.inr (some a)) :: r : List (gx_V α β)).map (gx_cv evI evL (gx_ad od mo base)))) rfl (by rw [hml]; exact hs.2.2.1) (rest := r.map (gx_cv evI evL (gx_ad od mo base))) rfl (by rw [hb]; exact hd) hframes
    (by
      have hw := gx_wd_eq evI evL (gx_ad od mo base) r
      show 2 * 0 + _ + (5 + 2 + 11) ≤ _
      rw [hw]
      omega)
  have e5 : copied (arrV cA n0 (fun j => gx_cv evI evL (gx_ad od mo base) (f j))) (arrV cB n1 (fun j => gx_cv evI evL (gx_ad od mo base) (g j))) (evI sp) (evI dp) (evI n) = arrV cB n1 (fun j => gx_cv evI evL (gx_ad od mo base) (gx_cpy f g k1 kp kn j)) := by
    have := va_copied (fun z : Value => z) cA cB (n0 := n0) (n1 := n1) (sp := (evI sp).toNatClampNeg) (dp := (evI dp).toNatClampNeg) (n := (evI n).toNatClampNeg) (fun j => gx_cv evI evL (gx_ad od mo base) (f j)) (fun j => gx_cv evI evL (gx_ad od mo base) (g j)) (by rw [cs', cn]; exact h5)
    refine Eq.trans this ?_
    congr 1
    funext j
    simp only [va_cpy, gx_cpy, cs', cp', cn]
    split <;> rfl
  rw [e5] at X' step
  have hheap : ((T.setVm vm').setCell (gx_ad od mo base b) (arrV cB n1 (fun j => gx_cv evI evL (gx_ad od mo base) (gx_cpy f g k1 kp kn j)))).heap = H.setIfInBounds (gx_ad od mo base b) (arrV cB n1 (fun j => gx_cv evI evL (gx_ad od mo base) (gx_cpy f g k1 kp kn j))) := by rw [← hT]; rfl
  have hlt : gx_ad od mo base b < H.size := (Array.getElem?_eq_some_iff.mp b1).1
  have oq : ∀ q : Nat, q ≠ gx_ad od mo base b → (H.setIfInBounds (gx_ad od mo base b) (arrV cB n1 (fun j => gx_cv evI evL (gx_ad od mo base) (gx_cpy f g k1 kp kn j))))[q]? = H[q]? := fun q hq => by simp [Array.getElem?_setIfInBounds, Ne.symm hq]
  have hcell : gx_cell cl dC dI (gx_cv evI evL (gx_ad od mo base)) s (mo ≤ b) (H.setIfInBounds (gx_ad od mo base b) (arrV cB n1 (fun j => gx_cv evI evL (gx_ad od mo base) (gx_cpy f g k1 kp kn j)))) (gx_ad od mo base b) (.inr (tg, n1, gx_cpy f g k1 kp kn) : gx_C α β) := by
    refine ⟨hn1, fun j hj => ?_, _, by simp [Array.getElem?_setIfInBounds, hlt], ?_, (fun h => by cases h), arrV_size _ _ _, fun j hj => arrV_read _ _ hj, fun _ => ⟨cB, rfl⟩⟩
    · unfold gx_cpy
      split
      · exact hf0 _ (by omega)
      · exact hf1 _ hj
    · have e0 : ∀ z z' : Nat → Value, gx_arr cl s (arrV cB n1 z) tg → gx_arr cl s (arrV cB n1 z') tg := by
        intro z z' hz
        unfold gx_arr at hz ⊢
        split at hz <;> first | exact hz | skip
      exact e0 _ _ b2
  obtain ⟨t, t1, t2⟩ := hk _ (List.mem_singleton.mpr rfl) o3 _ _ ls ⟨gx_rep_set hod hs.1 hmb hbb (by simp) oq hcell, ⟨by simp; exact hs.2.1.1, fun q g1 g2 => by
      rw [oq q (fun e => g2 (by rw [e]; exact gx_ad_ge hmb))]
      exact hs.2.1.2.1 q g1 g2, fun q hq => by
      rcases List.mem_append.mp hq with h | h
      · exact hs.2.1.2.2 q h
      · obtain ⟨z, -, hz⟩ := List.mem_map.mp h
        rw [← hz]
        exact gx_ad_ge hmb⟩, hs.2.2⟩ _ hheap X'
  exact ⟨t, step t t1, t2⟩
end GXT
end
section
def gx_gM (G : gx_G) (cl : List vw_C) (Tb : List Cond) : Prop :=
  (∀ ow idx j, gx_mt G ow idx = some (3, j) → ∃ ro : vw_C, cl[ow]? = some ro ∧ Cond.methodLink ro.1 idx Lib.objectInit ∈ Tb ∧ Cond.instanceMethod Lib.objectInit ∈ Tb ∧ Cond.code Lib.objectInit ⟨#[0xb1]⟩ 1 none ∈ Tb) ∧
  (∀ ow idx j, gx_mt G ow idx = some (4, j) → ∃ ro : vw_C, cl[ow]? = some ro ∧ Cond.methodLink ro.1 idx arraycopyName ∈ Tb ∧ Cond.native arraycopyName ∈ Tb ∧ Cond.static arraycopyName ∈ Tb ∧ Cond.initialized "java/lang/System" ∈ Tb) ∧
  (∀ ow idx ci, gx_mt G ow idx = some (9, ci) → ∃ ro r : vw_C, cl[ow]? = some ro ∧ cl[ci]? = some r ∧ Cond.classLink ro.1 idx r.1 ∈ Tb ∧ 0 < ci) ∧
  (∀ ow idx ci, gx_mt G ow idx = some (10, ci) → ∃ ro : vw_C, cl[ow]? = some ro ∧ Cond.classLink ro.1 idx "[B" ∈ Tb) ∧
  (∀ ow idx x, gx_ks G ow idx = some (.inl x) → ∃ ro : vw_C, cl[ow]? = some ro ∧ Cond.constant ro.1 idx x ∈ Tb) ∧
  (∀ ow idx x, gx_ks G ow idx = some (.inr (.inl x)) → ∃ ro : vw_C, cl[ow]? = some ro ∧ Cond.constantLong ro.1 idx x ∈ Tb) ∧
  (∀ (t : ArrayType) tg, gx_tyo t = some tg → Cond.arrayClass (newarray.typeOf t) ∈ Tb)
def gx_St (G : gx_G) (cl : List vw_C) (od : Nat → Nat) (mo : Nat) (U : State) : Prop := ∀ ow idx k, gx_ks G ow idx = some (.inr (.inr k)) → ∃ (ro : vw_C) (tx : String), cl[ow]? = some ro ∧ vk_R ro.1 idx tx (od k) U ∧ k < mo
def gx_AO (G : gx_G) (cl : List vw_C) (U : State) : Prop := ∀ ow idx ci, gx_mt G ow idx = some (9, ci) → ∃ r : vw_C, cl[ci]? = some r ∧ va_AO r.1 U
def gx_AB (G : gx_G) (U : State) : Prop := ∀ ow idx ci, gx_mt G ow idx = some (10, ci) → (Cond.arrayOver (.array .byte)).before #[] U = true
def gx_Ns (G : gx_G) (cl : List vw_C) (U : State) : Prop := ∀ ow idx j, gx_mt G ow idx = some (7, j) → ∃ (ro : vw_C) (M : gx_M) (host : String), cl[ow]? = some ro ∧ gx_mm G j = some M ∧ va_Nw (.methodLinkNest ro.1 idx (gx_y M) host) U
def gx_Sb (G : gx_G) (cl : List vw_C) (U : State) : Prop := ∀ ce ci b, gx_sb G ce ci = some b → ∃ (r1 r2 : vw_C) (c1 c2 : ClassId), cl[ce]? = some r1 ∧ cl[ci]? = some r2 ∧ U.vm.findClass r1.1 = some c1 ∧ U.vm.findClass r2.1 = some c2 ∧ U.vm.assignable c1 c2 = b
/-- the words of an exception C that ro makes with a message: its constructor rx hands on to RuntimeException's by entry ix -/
def gx_oa (own C : String) (ic ix : Nat) (rx : ByteArray) : List Cond :=
  [.instantiable C 6, .methodLink own ic (Bundle.initS C), .selects C Bundle.tFill Bundle.tFill, .selects C Bundle.tFill0 Bundle.tFill0, .fieldLink Bundle.tN 198 Bundle.tN "backtrace" "Ljava/lang/Object;"] ++
  ([("cause", "Ljava/lang/Throwable;"), ("stackTrace", Bundle.steD), ("suppressedExceptions", Bundle.listD), ("detailMessage", "Ljava/lang/String;"), ("backtrace", "Ljava/lang/Object;")].map fun q => Cond.lays C Bundle.tN q.1 q.2) ++
  [.lays Bundle.tN Bundle.tN "backtrace" "Ljava/lang/Object;", .isRef (.static Bundle.tN "UNASSIGNED_STACK" Bundle.steD), .isRef (.static Bundle.tN "SUPPRESSED_SENTINEL" Bundle.listD)] ++
  Bundle.passSAtoms C "java/lang/RuntimeException" ix rx ++ Bundle.chainSAtoms "java/lang/RuntimeException" ["java/lang/Exception"] ++ Bundle.throwableSAtoms ++ Bundle.throwableAtoms
def gx_pass (ix : Nat) (rx : ByteArray) : Prop := decode rx 0 = .ok (.aload_n 0, 1) ∧ decode rx 1 = .ok (.aload_n 1, 1) ∧ decode rx 2 = .ok (.invokespecial ix, 3) ∧ decode rx 5 = .ok (.return_, 1)
def gx_Xs (G : gx_G) (cl : List vw_C) (U : State) : Prop := ∀ ow idx ci, gx_mt G ow idx = some (8, ci) → ∃ (ro r : vw_C) (ix : Nat) (rx : ByteArray), cl[ow]? = some ro ∧ cl[ci]? = some r ∧ Bundle.fit r.1 = true ∧ gx_pass ix rx ∧ ∀ a ∈ gx_oa ro.1 r.1 idx ix rx, a.before #[] U = true
/-- what holds of the tables at a state -/
def gx_F (G : gx_G) (cl : List vw_C) (Tb : List Cond) (dC : Nat → ClassId) (dI : Nat → Nat → Nat) (od : Nat → Nat) (mo : Nat) (U : State) : Prop := gx_Kn cl dC dI U ∧ gx_St G cl od mo U ∧ (gx_AO G cl U ∧ gx_AB G U) ∧ gx_Ns G cl U ∧ gx_Sb G cl U ∧ gx_Xs G cl U ∧ ∀ w ∈ Tb, ∀ a : Array Value, w.before a U = true
/-- what the tables say, once for all -/
def gx_gd (G : gx_G) (cl : List vw_C) (Tb : List Cond) : Prop := gx_gF G cl Tb ∧ gx_gK G cl Tb ∧ gx_gC G cl Tb ∧ gx_gM G cl Tb ∧ ∀ ci r, 0 < ci → cl[ci]? = some r → ∃ q, gx_kl G ci = some q
/-- a method's own facts -/
def gx_cx (cl : List vw_C) (Tb : List Cond) (M : gx_M) (p : Program) (s : State) (m : MethodId) (args : Array Value) (meth : Method) (c : Code) : Prop :=
  p.tables.exec = Jvm.exec ∧ c.code = gx_cc M ∧ c.maxLocals = gx_ml M ∧ (∃ ro : vw_C, cl[gx_ow M]? = some ro ∧ s.vm.findClass ro.1 = some m.cls) ∧ (∀ w ∈ Tb, w.before args s = true) ∧ (gx_in M = true → meth.name = "<init>") ∧ meth.sig.returnType = gx_rt M ∧ meth.locks = false ∧
  (∀ pc i, gx_at M pc = some i → ∃ len, decode (gx_cc M) pc = .ok (i, len) ∧ (gx_len i = 0 ∨ len = gx_len i)) ∧ c.exceptionTable.toList.map (fun h => (h.startPc, h.endPc, h.handlerPc, h.catchType)) = gx_hs M
section GXU
variable {α β π : Type}
variable {p : Program} {l : Launch} {e : Env} {R : Room} {s : State} {m : MethodId} {args : Array Value} {below : List Frame} {meth : Method} {c : Code} {Q : State → Prop}
variable {cl : List vw_C} {dC : Nat → ClassId} {dI : Nat → Nat → Nat} {od : Nat → Nat} {mo base : Nat} {evI : α → Int32} {evL : β → Int64} {ok : π → Prop} {D : gx_D α β π} {G : gx_G} {Tb : List Cond} {M : gx_M}
variable {ml pc cells slots kc ks : Nat} {lv : gx_L α β} {st : List (gx_V α β)} {h : gx_H α β} {P : π} {H : Heap} {locs : List Loc} {ls : Array Slot} {ns : List (gx_N α β π)} {cc : ByteArray}
theorem gx_ca_not (kds : List Nat) (ow idx : Nat) (st : List (gx_V α β)) (h : gx_H α β) : ¬ (gx_ca G kds ow idx st h : gx_S α β π) = some (.inl ns, kc, ks) := by
  intro hi
  unfold gx_ca at hi
  repeat' split at hi
  all_goals first | (simp at hi; done) | (cases hi; done)
theorem gx_mp_ok {A B : Type} {f : A → Option B} : ∀ {xs : List A} {ys : List B}, gx_mp f xs = some ys → ∀ q ∈ xs, ∃ y ∈ ys, f q = some y
  | [], _, _, q, hq => by cases hq
  | x :: xs, ys, hi, q, hq => by
    unfold gx_mp at hi
    split at hi
    · cases hi
    · rename_i y hy
      split at hi
      · cases hi
      · rename_i ys' hys
        cases hi
        rcases List.mem_cons.mp hq with rfl | hq'
        · exact ⟨y, List.mem_cons_self, hy⟩
        · obtain ⟨z, hz, hfz⟩ := gx_mp_ok hys q hq'
          exact ⟨z, List.mem_cons_of_mem _ hz, hfz⟩
theorem gx_sw_ok (hl : gx_law D evI evL ok) {a : α} : ∀ (kys : List Int32) (j : Nat) (P : π) (l0 : List (Option Nat × π)), gx_sw D a kys j P = some l0 → ok P → ∃ q ∈ l0, ok q.2 ∧ ((∃ i, q.1 = some (j + i) ∧ kys[i]? = some (evI a)) ∨ (q.1 = none ∧ ∀ k ∈ kys, evI a ≠ k))
  | [], j, P, l0, hi, hok => by
    simp only [gx_sw, Option.some.injEq] at hi
    subst hi
    exact ⟨_, List.mem_singleton.mpr rfl, hok, Or.inr ⟨rfl, fun k hk => by cases hk⟩⟩
  | k :: kys, j, P, l0, hi, hok => by
    unfold gx_sw at hi
    split at hi
    · cases hi
    · rename_i l1 hcm
      obtain ⟨q, hq, hq1, hq2⟩ := hl.2.2.2.2.2.2.2.2.1 0 P a (gx_cI D k) l1 hcm hok
      rw [Option.map_eq_some_iff] at hi
      obtain ⟨ll, hll, rfl⟩ := hi
      obtain ⟨y, hy, hfy⟩ := gx_mp_ok hll q hq
      rw [hl.1] at hq2
      have hq2' : q.1 = decide (evI a = k) := hq2
      by_cases he : evI a = k
      · rw [hq2', decide_eq_true he, if_pos rfl] at hfy
        cases hfy
        exact ⟨_, List.mem_flatten.mpr ⟨_, hy, List.mem_singleton.mpr rfl⟩, hq1, Or.inl ⟨0, rfl, by rw [he]; rfl⟩⟩
      · rw [hq2', decide_eq_false he, if_neg (by decide)] at hfy
        obtain ⟨z, hz, hz1, hz2⟩ := gx_sw_ok hl kys (j + 1) q.2 y hfy hq1
        refine ⟨z, List.mem_flatten.mpr ⟨_, hy, hz⟩, hz1, ?_⟩
        rcases hz2 with ⟨i, hi1, hi2⟩ | ⟨hi1, hi2⟩
        · exact Or.inl ⟨i + 1, by rw [hi1]; congr 1; omega, by simpa using hi2⟩
        · refine Or.inr ⟨hi1, fun k' hk' => ?_⟩
          rcases List.mem_cons.mp hk' with rfl | hk'
          · exact he
          · exact hi2 k' hk'
theorem gx_rg_get : ∀ (n : Nat) (lo : Int) (i : Nat), (gx_rg lo n)[i]? = if i < n then some (Int32.ofInt (lo + i)) else none
  | 0, lo, i => by simp [gx_rg]
  | n + 1, lo, 0 => by simp [gx_rg]
  | n + 1, lo, i + 1 => by
    rw [gx_rg, List.getElem?_cons_succ, gx_rg_get n (lo + 1) i]
    by_cases h : i < n
    · rw [if_pos h, if_pos (by omega)]
      congr 2
      omega
    · rw [if_neg h, if_neg (by omega)]
theorem gx_w_ts {dflt lo hi : Int} {offs : Array Int} {len : Nat} (hl : gx_law D evI evL ok) (hx : p.tables.exec = Jvm.exec) (hb : c.code = cc) (hsz : (offs.size : Int) = hi - lo + 1) (hlo : -2147483648 ≤ lo) (hhi : hi ≤ 2147483647) (hii : gx_ts D dflt lo offs lv st h P pc = some (.inl ns, kc, ks)) (hd : decode cc pc = .ok (.tableswitch dflt lo hi offs, len))
    (hk : ∀ q ∈ ns, gx_K cl dC dI od mo base evI evL ok p l e R s m args below meth c ml Q (cells + kc) (slots + ks) q) (hok : ok P) (hs : gx_sd cl dC dI od mo base evI evL s ml lv h H locs ls) :
    W p l e R s m args below meth c H locs cells slots Q (F0 m pc ls (st.map (gx_cv evI evL (gx_ad od mo base)))) := by
  unfold gx_ts at hii
  split at hii
  · rename_i a r
    split at hii
    · cases hii
    · rename_i l0 hsw
      rw [Option.bind_eq_some_iff] at hii
      obtain ⟨l1, hmp, hgo⟩ := hii
      obtain ⟨rfl, rfl, rfl⟩ := gx_go_inv hgo
      obtain ⟨q, hq, hq1, hq2⟩ := gx_sw_ok hl _ 0 P l0 hsw hok
      obtain ⟨y, hy, hfy⟩ := gx_mp_ok hmp q hq
      split at hfy
      · rename_i t ht
        cases hfy
        have h1 := hk _ hy hq1 H locs ls hs
        rcases hq2 with ⟨i, hi1, hi2⟩ | ⟨hi1, hi2⟩
        · rw [gx_rg_get] at hi2
          split at hi2
          · rename_i hlt
            have hev : evI a = Int32.ofInt (lo + i) := (Option.some.inj hi2).symm
            have hti : (evI a).toInt = lo + i := by
              rw [hev]
              exact Int32.toInt_ofInt_of_le (by omega) (by omega)
            rw [hi1] at ht
            simp only [Nat.zero_add] at ht
            have hoff : offs[((evI a).toInt - lo).toNat]? = some (offs.toList.getD i 0) := by
              have : ((evI a).toInt - lo).toNat = i := by omega
              rw [this, ← Array.getElem?_toList, List.getD_eq_getElem?_getD, List.getElem?_eq_getElem (by simpa using hlt)]
              rfl
            exact lv_tableIn hx hb hd (by omega) (by omega) hoff (gx_tg_inv ht) h1
          · cases hi2
        · rw [hi1] at ht
          have hout : (evI a).toInt < lo ∨ hi < (evI a).toInt := by
            by_cases g1 : (evI a).toInt < lo
            · exact Or.inl g1
            · by_cases g2 : hi < (evI a).toInt
              · exact Or.inr g2
              · exfalso
                have hmem : evI a ∈ gx_rg lo offs.size := by
                  apply List.mem_of_getElem? (i := ((evI a).toInt - lo).toNat)
                  rw [gx_rg_get, if_pos (by omega)]
                  congr 1
                  have : lo + (((evI a).toInt - lo).toNat : Int) = (evI a).toInt := by omega
                  rw [this]
                  exact Int32.ofInt_toInt _
                exact hi2 _ hmem rfl
          exact lv_tableOut hx hb hd hout (gx_tg_inv ht) h1
      · cases hfy
  · cases hii
theorem gx_i_go {i : Instr} {len : Nat} (hl : gx_law D evI evL ok) (hod : ∀ j, j < mo → od j < base) (hg : gx_gd G cl Tb) (hF : gx_F G cl Tb dC dI od mo s) (hcx : gx_cx cl Tb M p s m args meth c) (hd : decode (gx_cc M) pc = .ok (i, len)) (hlen : gx_len i = 0 ∨ len = gx_len i) (hR : 1 ≤ R.frames ∧ 60 ≤ R.locals)
    (hi : gx_i G D mo M i pc lv st h P = some (.inl ns, kc, ks)) (hC : cells + kc ≤ R.cells) (hS : slots + ks ≤ R.slots)
    (hk : ∀ q ∈ ns, gx_K cl dC dI od mo base evI evL ok p l e R s m args below meth c (gx_ml M) Q (cells + kc) (slots + ks) q) (hok : ok P) (hs : gx_sd cl dC dI od mo base evI evL s (gx_ml M) lv h H locs ls) :
    W p l e R s m args below meth c H locs cells slots Q (F0 m pc ls (st.map (gx_cv evI evL (gx_ad od mo base)))) := by
  obtain ⟨hx, hb, hml, ⟨ro, hro, hown⟩, hts, hin, hrt, hlk, -⟩ := hcx
  obtain ⟨hKn, hSt, ⟨hAO, hAB⟩, -⟩ := hF
  obtain ⟨gF, gK, gC, ⟨gO, gP, gN, gB, gI, gL, gA⟩, gQ⟩ := hg
  cases i
  all_goals first | (simp only [gx_i] at hi; cases hi; done) | skip
  case iconst k =>
    have e1 : len = 1 := by rcases hlen with h0 | h0; cases h0; exact h0
    subst e1
    have h1 := gx_1 hi hk hok hs
    simp only [List.map_cons, gx_cv, hl.1] at h1
    exact lv_iconst hx hb hd rfl h1
  case bipush k =>
    have e1 : len = 2 := by rcases hlen with h0 | h0; cases h0; exact h0
    subst e1
    have h1 := gx_1 hi hk hok hs
    simp only [List.map_cons, gx_cv, hl.1] at h1
    exact lv_bipush hx hb hd rfl h1
  case sipush k =>
    have e1 : len = 3 := by rcases hlen with h0 | h0; cases h0; exact h0
    subst e1
    have h1 := gx_1 hi hk hok hs
    simp only [List.map_cons, gx_cv, hl.1] at h1
    exact lv_sipush hx hb hd rfl h1
  case lconst k =>
    have e1 : len = 1 := by rcases hlen with h0 | h0; cases h0; exact h0
    subst e1
    have h1 := gx_1 hi hk hok hs
    simp only [List.map_cons, gx_cv, hl.2.1] at h1
    exact lv_lconst hx hb hd rfl h1
  case aconst_null =>
    have e1 : len = 1 := by rcases hlen with h0 | h0; cases h0; exact h0
    subst e1
    have h1 := gx_1 hi hk hok hs
    simp only [List.map_cons, gx_cv] at h1
    exact lv_null hx hb hd h1
  case iload k =>
    have e1 : len = 2 := by rcases hlen with h0 | h0; cases h0; exact h0
    subst e1
    refine gx_w_ld (cc := gx_cc M) hx hb hi (fun v hv0 hkd hv hw => ?_) hk hok hs
    obtain ⟨a, rfl⟩ := gx_kd1 hkd
    exact lv_iload hx hb hd hv hw
  case iload_n k =>
    have e1 : len = 1 := by rcases hlen with h0 | h0; cases h0; exact h0
    subst e1
    refine gx_w_ld (cc := gx_cc M) hx hb hi (fun v hv0 hkd hv hw => ?_) hk hok hs
    obtain ⟨a, rfl⟩ := gx_kd1 hkd
    exact lv_iload_n hx hb hd rfl hv hw
  case lload k =>
    have e1 : len = 2 := by rcases hlen with h0 | h0; cases h0; exact h0
    subst e1
    refine gx_w_ld (cc := gx_cc M) hx hb hi (fun v hv0 hkd hv hw => ?_) hk hok hs
    obtain ⟨a, rfl⟩ := gx_kd2 hkd
    exact lv_lload hx hb hd hv hw
  case lload_n k =>
    have e1 : len = 1 := by rcases hlen with h0 | h0; cases h0; exact h0
    subst e1
    refine gx_w_ld (cc := gx_cc M) hx hb hi (fun v hv0 hkd hv hw => ?_) hk hok hs
    obtain ⟨a, rfl⟩ := gx_kd2 hkd
    exact lv_lload_n hx hb hd rfl hv hw
  case aload k =>
    have e1 : len = 2 := by rcases hlen with h0 | h0; cases h0; exact h0
    subst e1
    refine gx_w_ld (cc := gx_cc M) hx hb hi (fun v hv0 hkd hv hw => ?_) hk hok hs
    rcases gx_kd3 hkd with rfl | ⟨a, rfl⟩
    · exact lv_aloadN hx hb hd hv hw
    · exact lv_aload hx hb hd hv hw
  case aload_n k =>
    have e1 : len = 1 := by rcases hlen with h0 | h0; cases h0; exact h0
    subst e1
    refine gx_w_ld (cc := gx_cc M) hx hb hi (fun v hv0 hkd hv hw => ?_) hk hok hs
    rcases gx_kd3 hkd with rfl | ⟨a, rfl⟩
    · exact lv_aload_nN hx hb hd rfl hv hw
    · exact lv_aload_n hx hb hd rfl hv hw
  case istore k =>
    have e1 : len = 2 := by rcases hlen with h0 | h0; cases h0; exact h0
    subst e1
    refine gx_w_sv (cc := gx_cc M) hx hb hi (by decide) (fun v r hkd hlt hw => ?_) hk hok hs
    obtain ⟨a, rfl⟩ := gx_kd1 hkd
    exact lv_istore hx hb hd hs.2.2 hlt (gx_p1_eq evI evL (gx_ad od mo base) lv k (.inl a)) hw
  case istore_n k =>
    have e1 : len = 1 := by rcases hlen with h0 | h0; cases h0; exact h0
    subst e1
    refine gx_w_sv (cc := gx_cc M) hx hb hi (by decide) (fun v r hkd hlt hw => ?_) hk hok hs
    obtain ⟨a, rfl⟩ := gx_kd1 hkd
    exact lv_istore_n hx hb hd rfl hs.2.2 hlt (gx_p1_eq evI evL (gx_ad od mo base) lv k (.inl a)) hw
  case astore k =>
    have e1 : len = 2 := by rcases hlen with h0 | h0; cases h0; exact h0
    subst e1
    refine gx_w_sv (cc := gx_cc M) hx hb hi (by decide) (fun v r hkd hlt hw => ?_) hk hok hs
    rcases gx_kd3 hkd with rfl | ⟨a, rfl⟩
    · exact lv_astoreN hx hb hd hs.2.2 hlt (gx_p1_eq evI evL (gx_ad od mo base) lv k (.inr (.inr none))) hw
    · exact lv_astore hx hb hd hs.2.2 hlt (gx_p1_eq evI evL (gx_ad od mo base) lv k (.inr (.inr (some a)))) hw
  case astore_n k =>
    have e1 : len = 1 := by rcases hlen with h0 | h0; cases h0; exact h0
    subst e1
    refine gx_w_sv (cc := gx_cc M) hx hb hi (by decide) (fun v r hkd hlt hw => ?_) hk hok hs
    rcases gx_kd3 hkd with rfl | ⟨a, rfl⟩
    · exact lv_astore_nN hx hb hd rfl hs.2.2 hlt (gx_p1_eq evI evL (gx_ad od mo base) lv k (.inr (.inr none))) hw
    · exact lv_astore_n hx hb hd rfl hs.2.2 hlt (gx_p1_eq evI evL (gx_ad od mo base) lv k (.inr (.inr (some a)))) hw
  case lstore k =>
    have e1 : len = 2 := by rcases hlen with h0 | h0; cases h0; exact h0
    subst e1
    simp only [gx_i, gx_sl] at hi
    split at hi
    · rename_i b r
      split at hi
      · rename_i hc
        exact lv_lstore hx hb hd hs.2.2 hc (gx_p2_eq evI evL (gx_ad od mo base) lv k (.inr (.inl b))) (fun ls' hl' => gx_1 hi hk hok ⟨hs.1, hs.2.1, hl'⟩)
      · cases hi
    · cases hi
  case lstore_n k =>
    have e1 : len = 1 := by rcases hlen with h0 | h0; cases h0; exact h0
    subst e1
    simp only [gx_i, gx_sl] at hi
    split at hi
    · rename_i b r
      split at hi
      · rename_i hc
        exact lv_lstore_n hx hb hd rfl hs.2.2 hc (gx_p2_eq evI evL (gx_ad od mo base) lv k (.inr (.inl b))) (fun ls' hl' => gx_1 hi hk hok ⟨hs.1, hs.2.1, hl'⟩)
      · cases hi
    · cases hi
  case iinc k x =>
    have e1 : len = 3 := by rcases hlen with h0 | h0; cases h0; exact h0
    subst e1
    simp only [gx_i] at hi
    split at hi
    · rename_i a hlk0
      split at hi
      · rename_i hc
        have hmem := gx_lk_mem hlk0
        obtain ⟨j, hj⟩ := List.getElem?_of_mem (List.mem_map.mpr ⟨_, hmem, rfl⟩ : (k, gx_cv evI evL (gx_ad od mo base) (.inl a)) ∈ gx_lvv evI evL (gx_ad od mo base) lv)
        have e2 : evI a + Int32.ofInt x = evI (gx_bi D 0 a (gx_cI D (Int32.ofInt x))) := by
          rw [hl.2.2.2.1, hl.1]
          rfl
        exact lv_iinc hx hb hd hs.2.2 (k := j) hj e2 hc (gx_p1_eq evI evL (gx_ad od mo base) lv k (.inl (gx_bi D 0 a (gx_cI D (Int32.ofInt x))))) (fun ls' hl' => gx_1 hi hk hok ⟨hs.1, hs.2.1, hl'⟩)
      · cases hi
    · cases hi
  case iadd =>
    have e1 : len = 1 := by rcases hlen with h0 | h0; cases h0; exact h0
    subst e1
    exact gx_w_b2 hl hi (fun x y r hw => lv_iadd hx hb hd hw) hk hok hs
  case isub =>
    have e1 : len = 1 := by rcases hlen with h0 | h0; cases h0; exact h0
    subst e1
    exact gx_w_b2 hl hi (fun x y r hw => lv_isub hx hb hd hw) hk hok hs
  case imul =>
    have e1 : len = 1 := by rcases hlen with h0 | h0; cases h0; exact h0
    subst e1
    exact gx_w_b2 hl hi (fun x y r hw => lv_imul hx hb hd hw) hk hok hs
  case iand =>
    have e1 : len = 1 := by rcases hlen with h0 | h0; cases h0; exact h0
    subst e1
    exact gx_w_b2 hl hi (fun x y r hw => lv_iand hx hb hd hw) hk hok hs
  case ior =>
    have e1 : len = 1 := by rcases hlen with h0 | h0; cases h0; exact h0
    subst e1
    exact gx_w_b2 hl hi (fun x y r hw => lv_ior hx hb hd hw) hk hok hs
  case ixor =>
    have e1 : len = 1 := by rcases hlen with h0 | h0; cases h0; exact h0
    subst e1
    exact gx_w_b2 hl hi (fun x y r hw => lv_ixor hx hb hd hw) hk hok hs
  case ishl =>
    have e1 : len = 1 := by rcases hlen with h0 | h0; cases h0; exact h0
    subst e1
    exact gx_w_b2 hl hi (fun x y r hw => lv_ishl hx hb hd hw) hk hok hs
  case ishr =>
    have e1 : len = 1 := by rcases hlen with h0 | h0; cases h0; exact h0
    subst e1
    exact gx_w_b2 hl hi (fun x y r hw => lv_ishr hx hb hd hw) hk hok hs
  case iushr =>
    have e1 : len = 1 := by rcases hlen with h0 | h0; cases h0; exact h0
    subst e1
    exact gx_w_b2 hl hi (fun x y r hw => lv_iushr hx hb hd rfl hw) hk hok hs
  case idiv =>
    have e1 : len = 1 := by rcases hlen with h0 | h0; cases h0; exact h0
    subst e1
    exact gx_w_dv hl hi (fun x y r hy hw => lv_idiv hx hb hd hy hw) hk hok hs
  case irem =>
    have e1 : len = 1 := by rcases hlen with h0 | h0; cases h0; exact h0
    subst e1
    exact gx_w_dv hl hi (fun x y r hy hw => lv_irem hx hb hd hy hw) hk hok hs
  case ineg =>
    have e1 : len = 1 := by rcases hlen with h0 | h0; cases h0; exact h0
    subst e1
    exact gx_w_u1 hl hi (fun x r hw => lv_ineg hx hb hd hw) hk hok hs
  case i2b =>
    have e1 : len = 1 := by rcases hlen with h0 | h0; cases h0; exact h0
    subst e1
    exact gx_w_u1 hl hi (fun x r hw => lv_i2b hx hb hd rfl hw) hk hok hs
  case i2s =>
    have e1 : len = 1 := by rcases hlen with h0 | h0; cases h0; exact h0
    subst e1
    exact gx_w_u1 hl hi (fun x r hw => lv_i2s hx hb hd rfl hw) hk hok hs
  case i2c =>
    have e1 : len = 1 := by rcases hlen with h0 | h0; cases h0; exact h0
    subst e1
    exact gx_w_u1 hl hi (fun x r hw => lv_i2c hx hb hd rfl hw) hk hok hs
  case ladd =>
    have e1 : len = 1 := by rcases hlen with h0 | h0; cases h0; exact h0
    subst e1
    exact gx_w_l2 hl hi (fun x y r hw => lv_ladd hx hb hd hw) hk hok hs
  case lsub =>
    have e1 : len = 1 := by rcases hlen with h0 | h0; cases h0; exact h0
    subst e1
    exact gx_w_l2 hl hi (fun x y r hw => lv_lsub hx hb hd hw) hk hok hs
  case land =>
    have e1 : len = 1 := by rcases hlen with h0 | h0; cases h0; exact h0
    subst e1
    exact gx_w_l2 hl hi (fun x y r hw => lv_land hx hb hd hw) hk hok hs
  case lcmp =>
    have e1 : len = 1 := by rcases hlen with h0 | h0; cases h0; exact h0
    subst e1
    simp only [gx_i] at hi
    split at hi
    · have h1 := gx_1 hi hk hok hs
      simp only [List.map_cons, gx_cv, hl.2.2.2.2.2.1] at h1 ⊢
      exact W.lcmp hx hb hd h1
    · cases hi
  case i2l =>
    have e1 : len = 1 := by rcases hlen with h0 | h0; cases h0; exact h0
    subst e1
    simp only [gx_i] at hi
    split at hi
    · have h1 := gx_1 hi hk hok hs
      simp only [List.map_cons, gx_cv, hl.2.2.2.2.2.2.1] at h1 ⊢
      exact lv_i2l hx hb hd rfl h1
    · cases hi
  case l2i =>
    have e1 : len = 1 := by rcases hlen with h0 | h0; cases h0; exact h0
    subst e1
    simp only [gx_i] at hi
    split at hi
    · have h1 := gx_1 hi hk hok hs
      simp only [List.map_cons, gx_cv, hl.2.2.2.2.2.2.2.1] at h1 ⊢
      exact lv_l2i hx hb hd rfl h1
    · cases hi
  case dup =>
    have e1 : len = 1 := by rcases hlen with h0 | h0; cases h0; exact h0
    subst e1
    simp only [gx_i] at hi
    split at hi
    · split at hi
      · rename_i hc
        exact lv_dup hx hb hd (by rw [gx_cv_cat]; exact hc) (gx_1 hi hk hok hs)
      · cases hi
    · cases hi
  case pop =>
    have e1 : len = 1 := by rcases hlen with h0 | h0; cases h0; exact h0
    subst e1
    simp only [gx_i] at hi
    split at hi
    · split at hi
      · rename_i hc
        exact lv_pop hx hb hd (by rw [gx_cv_cat]; exact hc) (gx_1 hi hk hok hs)
      · cases hi
    · cases hi
  case dup_x1 =>
    have e1 : len = 1 := by rcases hlen with h0 | h0; cases h0; exact h0
    subst e1
    simp only [gx_i] at hi
    split at hi
    · split at hi
      · rename_i hc
        exact lv_dup_x1 hx hb hd (by rw [gx_cv_cat]; exact hc.1) (by rw [gx_cv_cat]; exact hc.2) (gx_1 hi hk hok hs)
      · cases hi
    · cases hi
  case dup_x2 =>
    have e1 : len = 1 := by rcases hlen with h0 | h0; cases h0; exact h0
    subst e1
    simp only [gx_i] at hi
    split at hi
    · split at hi
      · rename_i hc
        exact lv_dup_x2 hx hb hd (by rw [gx_cv_cat]; exact hc.1) (by rw [gx_cv_cat]; exact hc.2.1) (by rw [gx_cv_cat]; exact hc.2.2) (gx_1 hi hk hok hs)
      · cases hi
    · cases hi
  case dup2 =>
    have e1 : len = 1 := by rcases hlen with h0 | h0; cases h0; exact h0
    subst e1
    simp only [gx_i] at hi
    split at hi
    · split at hi
      · rename_i hc
        exact lv_dup2_11 hx hb hd (by rw [gx_cv_cat]; exact hc.1) (by rw [gx_cv_cat]; exact hc.2) (gx_1 hi hk hok hs)
      · split at hi
        · rename_i hc
          exact lv_dup2_2 hx hb hd (by rw [gx_cv_cat]; exact hc) (gx_1 hi hk hok hs)
        · cases hi
    · cases hi
  case goto off =>
    have e1 : len = 3 := by rcases hlen with h0 | h0; cases h0; exact h0
    subst e1
    simp only [gx_i] at hi
    split at hi
    · rename_i t ht
      exact lv_goto hx hb hd (gx_tg_inv ht) (gx_1 hi hk hok hs)
    · cases hi
  case ifCond o off =>
    have e1 : len = 3 := by rcases hlen with h0 | h0; cases h0; exact h0
    subst e1
    simp only [gx_i, gx_b1] at hi
    split at hi
    · rename_i a r
      refine gx_w_br hl hi (fun t ht kt kf => ?_) hk hok hs
      rw [hl.1] at kt kf
      cases o
      · exact lv_if_eq hx hb hd ht (fun hc => kt (decide_eq_true hc)) (fun hc => kf (decide_eq_false hc))
      · exact lv_if_ne hx hb hd ht (fun hc => kt (decide_eq_true hc)) (fun hc => kf (decide_eq_false (fun hn => hn hc)))
      · exact lv_if_lt hx hb hd ht (fun hc => kt (decide_eq_true hc)) (fun hc => kf (decide_eq_false hc))
      · exact lv_if_ge hx hb hd ht (fun hc => kt (decide_eq_true hc)) (fun hc => kf (decide_eq_false hc))
      · exact lv_if_gt hx hb hd ht (fun hc => kt (decide_eq_true hc)) (fun hc => kf (decide_eq_false hc))
      · exact lv_if_le hx hb hd ht (fun hc => kt (decide_eq_true hc)) (fun hc => kf (decide_eq_false hc))
    · cases hi
  case if_icmp o off =>
    have e1 : len = 3 := by rcases hlen with h0 | h0; cases h0; exact h0
    subst e1
    simp only [gx_i, gx_bc] at hi
    split at hi
    · rename_i b a r
      refine gx_w_br hl hi (fun t ht kt kf => ?_) hk hok hs
      cases o
      · exact lv_icmp_eq hx hb hd ht (fun hc => kt (decide_eq_true hc)) (fun hc => kf (decide_eq_false hc))
      · exact lv_icmp_ne hx hb hd ht (fun hc => kt (decide_eq_true hc)) (fun hc => kf (decide_eq_false (fun hn => hn hc)))
      · exact lv_icmp_lt hx hb hd ht (fun hc => kt (decide_eq_true hc)) (fun hc => kf (decide_eq_false hc))
      · exact lv_icmp_ge hx hb hd ht (fun hc => kt (decide_eq_true hc)) (fun hc => kf (decide_eq_false hc))
      · exact lv_icmp_gt hx hb hd ht (fun hc => kt (decide_eq_true hc)) (fun hc => kf (decide_eq_false hc))
      · exact lv_icmp_le hx hb hd ht (fun hc => kt (decide_eq_true hc)) (fun hc => kf (decide_eq_false hc))
    · cases hi
  case ifnull off =>
    have e1 : len = 3 := by rcases hlen with h0 | h0; cases h0; exact h0
    subst e1
    simp only [gx_i] at hi
    split at hi
    · rename_i a r
      split at hi
      · rename_i t ht
        have h1 := gx_1 hi hk hok hs
        cases a with
        | none => exact lv_ifnullN hx hb hd (gx_tg_inv ht) h1
        | some a => exact lv_ifnull hx hb hd h1
      · cases hi
    · cases hi
  case ifnonnull off =>
    have e1 : len = 3 := by rcases hlen with h0 | h0; cases h0; exact h0
    subst e1
    simp only [gx_i] at hi
    split at hi
    · rename_i a r
      split at hi
      · rename_i t ht
        have h1 := gx_1 hi hk hok hs
        cases a with
        | none => exact lv_ifnonnullN hx hb hd h1
        | some a => exact lv_ifnonnull hx hb hd (gx_tg_inv ht) h1
      · cases hi
    · cases hi
  case tableswitch dflt lo hi0 offs =>
    simp only [gx_i] at hi
    split at hi
    · rename_i hc
      exact gx_w_ts hl hx hb hc.1 hc.2.1 hc.2.2 hi hd hk hok hs
    · cases hi
  case getfield idx =>
    have e1 : len = 3 := by rcases hlen with h0 | h0; cases h0; exact h0
    subst e1
    exact gx_w_gf hx hb hts hro hown hKn gF gK gQ hi hd hk hok hs
  case putfield idx =>
    have e1 : len = 3 := by rcases hlen with h0 | h0; cases h0; exact h0
    subst e1
    exact gx_w_pf hl hod hx hb hts hro hown hKn gF gK hin hi hd hk hok hs
  case new idx =>
    have e1 : len = 3 := by rcases hlen with h0 | h0; cases h0; exact h0
    subst e1
    simp only [gx_i, gx_nw0] at hi
    split at hi
    · rename_i ci hcs
      split at hi
      · rename_i tys n hkl
        split at hi
        · rename_i hlen2
          simp only [Option.some.injEq, Prod.mk.injEq, Sum.inl.injEq] at hi
          obtain ⟨rfl, rfl, rfl⟩ := hi
          refine gx_w_new hl hod hx hb hts hro hown hKn gK gC hcs hkl hd hC hS (tys.map fun q => gx_fd D q.1) (fun k v hv => ?_) hs (fun H' kC _ _ hs' had => hk _ (List.mem_singleton.mpr rfl) hok H' locs ls hs')
          rw [List.getElem?_map, Option.map_eq_some_iff] at hv
          obtain ⟨q, hq1, hq2⟩ := hv
          exact ⟨q, hq1, hq2.symm⟩
        · exfalso
          unfold gx_ex at hi
          split at hi
          · split at hi
            · split at hi
              · simp at hi
              · cases hi
            · cases hi
          · cases hi
      · cases hi
    · cases hi
  case newarray t =>
    have e1 : len = 2 := by rcases hlen with h0 | h0; cases h0; exact h0
    subst e1
    simp only [gx_i] at hi
    split at hi
    · rename_i tg ht
      exact gx_w_na hl hod hx hb ht (hts _ (gA t tg ht)) hi hd hC hS hk hok hs
    · cases hi
  case anewarray idx =>
    have e1 : len = 3 := by rcases hlen with h0 | h0; cases h0; exact h0
    subst e1
    simp only [gx_i] at hi
    split at hi
    · rename_i ci hmt
      obtain ⟨ro', r0, e2, e3, e4, e9⟩ := gN _ _ _ hmt
      have : ro' = ro := Option.some.inj (e2.symm.trans hro)
      subst this
      obtain ⟨r0', e5, e6⟩ := hAO _ _ _ hmt
      have : r0' = r0 := Option.some.inj (e5.symm.trans e3)
      subst this
      exact gx_w_an hl hod hx hb e3 e9 hown (hts _ e4) e6 hi hd hC hS hk hok hs
    · rename_i ci hmt
      obtain ⟨ro', e2, e4⟩ := gB _ _ _ hmt
      have : ro' = ro := Option.some.inj (e2.symm.trans hro)
      subst this
      exact gx_w_anB hod hl hx hb hown (hts _ e4) (over_moved (Vm.Alike.refl _) (hAB _ _ _ hmt)) hi hd hC hS hk hok hs
    · cases hi
  case arraylength =>
    have e1 : len = 1 := by rcases hlen with h0 | h0; cases h0; exact h0
    subst e1
    simp only [gx_i] at hi
    split at hi
    · rename_i a r
      split at hi
      · rename_i tg n f ha
        have h1 := gx_1 hi hk hok hs
        simp only [List.map_cons, gx_cv, hl.1] at h1 ⊢
        obtain ⟨hn, -, cell, c1, c2, c3, c4, c5, -⟩ := hs.1.2.2 a _ ha
        have hAr : ∃ ty, s.isArrayOf cell ty := by
          unfold gx_arr at c2
          split at c2
          · exact ⟨_, c2⟩
          · exact ⟨_, c2⟩
          · exact ⟨_, c2⟩
          · exact ⟨_, c2.1⟩
          · obtain ⟨h2, kA, comp, h3, h4, -⟩ := c2
            exact ⟨_, h2, kA, h3, comp, h4⟩
          · obtain ⟨r0, -, -, h2, kA, comp, h3, h4, -⟩ := c2
            exact ⟨_, h2, kA, h3, comp, h4⟩
        obtain ⟨ty, hAr⟩ := hAr
        exact W.alen (n := Int32.ofNat n) hx hb c1 hAr (by rw [c4] <;> rfl) rfl rfl hd h1
      · cases hi
    · cases hi
  case iaload =>
    have e1 : len = 1 := by rcases hlen with h0 | h0; cases h0; exact h0
    subst e1
    refine gx_w_al hl hi (fun cell tg n a x v r ht h1 h2 h3 h4 h5 hw => ?_) hk hok hs
    have : tg = 0 := by simpa using ht
    subst this
    exact W.iald hx hb h1 h2 h3 h4 h5 rfl rfl hd hw
  case laload =>
    have e1 : len = 1 := by rcases hlen with h0 | h0; cases h0; exact h0
    subst e1
    refine gx_w_al hl hi (fun cell tg n a x v r ht h1 h2 h3 h4 h5 hw => ?_) hk hok hs
    have : tg = 2 := by simpa using ht
    subst this
    exact W.lald hx hb h1 h2 h3 h4 h5 rfl rfl hd hw
  case baload =>
    have e1 : len = 1 := by rcases hlen with h0 | h0; cases h0; exact h0
    subst e1
    refine gx_w_al hl hi (fun cell tg n a x v r ht h1 h2 h3 h4 h5 hw => ?_) hk hok hs
    have : tg = 1 ∨ tg = 3 := by simpa using ht
    rcases this with rfl | rfl
    · exact W.zald hx hb h1 h2 h3 h4 h5 rfl rfl hd hw
    · exact W.bald hx hb h1 h2.1 h3 h4 h5 rfl rfl hd hw
  case aaload =>
    have e1 : len = 1 := by rcases hlen with h0 | h0; cases h0; exact h0
    subst e1
    refine gx_w_al hl hi (fun cell tg n a x v r ht h1 h2 h3 h4 h5 hw => ?_) hk hok hs
    have ht' : 4 ≤ tg := by simpa using ht
    unfold gx_arr at h2
    split at h2
    · omega
    · omega
    · omega
    · omega
    · obtain ⟨g2, kA, comp, g3, g4, -⟩ := h2
      exact W.aald hx hb h1 ⟨g2, kA, g3, comp, g4⟩ rfl h3 h4 h5 rfl rfl hd hw
    · obtain ⟨r0, -, -, g2, kA, comp, g3, g4, -⟩ := h2
      exact W.aald hx hb h1 ⟨g2, kA, g3, comp, g4⟩ rfl h3 h4 h5 rfl rfl hd hw
  case iastore =>
    have e1 : len = 1 := by rcases hlen with h0 | h0; cases h0; exact h0
    subst e1
    refine gx_w_as hl hod (fun tg ht => Or.inl (by simpa using ht)) hi (fun cell tg a x j r ht h1 h2 h3 h4 hw => ?_) hk hok hs
    have : tg = 0 := by simpa using ht
    subst this
    exact W.iast hx hb h1 h2 h3 h4 rfl rfl hd hw
  case bastore =>
    have e1 : len = 1 := by rcases hlen with h0 | h0; cases h0; exact h0
    subst e1
    refine gx_w_as hl hod (fun tg ht => Or.inr (by simpa using ht)) hi (fun cell tg a x j r ht h1 h2 h3 h4 hw => ?_) hk hok hs
    have : tg = 1 ∨ tg = 3 := by simpa using ht
    rcases this with rfl | rfl
    · exact W.zast hx hb h1 h2 h3 h4 rfl rfl hd hw
    · exact W.bast hx hb h1 h2.1 h3 h4 rfl rfl hd hw
  case lastore =>
    have e1 : len = 1 := by rcases hlen with h0 | h0; cases h0; exact h0
    subst e1
    exact gx_w_asl hl hod hx hb hi hd hk hok hs
  case aastore =>
    have e1 : len = 1 := by rcases hlen with h0 | h0; cases h0; exact h0
    subst e1
    exact gx_w_asr hl hod hx hb hKn hi hd hk hok hs
  case ldc idx =>
    have e1 : len = 2 := by rcases hlen with h0 | h0; cases h0; exact h0
    subst e1
    simp only [gx_i, gx_kc] at hi
    split at hi
    · rename_i x hks
      obtain ⟨ro', e2, e3⟩ := gI _ _ _ hks
      have : ro' = ro := Option.some.inj (e2.symm.trans hro)
      subst this
      have h1 := gx_1 hi hk hok hs
      simp only [List.map_cons, gx_cv, hl.1] at h1
      exact lv_ldc hx hb hown (hts _ e3) hd h1
    · rename_i k hks
      obtain ⟨ro', tx, e2, e3, e4⟩ := hSt _ _ _ hks
      have : ro' = ro := Option.some.inj (e2.symm.trans hro)
      subst this
      have h1 := gx_1 hi hk hok hs
      simp only [List.map_cons, gx_cv, gx_ad, if_pos e4] at h1
      exact va_ldcS hx hb hown e3 hd h1
    · cases hi
  case ldc2_w idx =>
    have e1 : len = 3 := by rcases hlen with h0 | h0; cases h0; exact h0
    subst e1
    simp only [gx_i, gx_k2] at hi
    split at hi
    · rename_i x hks
      obtain ⟨ro', e2, e3⟩ := gL _ _ _ hks
      have : ro' = ro := Option.some.inj (e2.symm.trans hro)
      subst this
      have h1 := gx_1 hi hk hok hs
      simp only [List.map_cons, gx_cv, hl.2.1] at h1
      exact lv_ldc2 hx hb hown (hts _ e3) hd h1
    · cases hi
  case invokestatic idx =>
    have e1 : len = 3 := by rcases hlen with h0 | h0; cases h0; exact h0
    subst e1
    simp only [gx_i, gx_iv] at hi
    split at hi
    · rename_i j hmt
      obtain ⟨ro', e2, e3, e4, e5, e6⟩ := gP _ _ _ hmt
      have : ro' = ro := Option.some.inj (e2.symm.trans hro)
      subst this
      exact gx_w_cp hl hod hx hb hml hown (hts _ e3) (hts _ e4) (hts _ e5) (hts _ e6) hR.1 hR.2 hi hd hk hok hs
    · exact absurd hi (gx_ca_not _ _ _ _ _)
  case invokevirtual idx =>
    have e1 : len = 3 := by rcases hlen with h0 | h0; cases h0; exact h0
    subst e1
    exact absurd hi (gx_ca_not _ _ _ _ _)
  case invokespecial idx =>
    have e1 : len = 3 := by rcases hlen with h0 | h0; cases h0; exact h0
    subst e1
    simp only [gx_i, gx_sp] at hi
    split at hi
    · rename_i j hmt
      split at hi
      · rename_i a r
        split at hi
        · rename_i hc
          obtain ⟨ro', e2, e3, e4, e5⟩ := gO _ _ _ hmt
          have : ro' = ro := Option.some.inj (e2.symm.trans hro)
          subst this
          have h1 := gx_1 hi hk hok hs
          exact W.objInit hx hb hown (hts _ e3) (hts _ e4) (hts _ e5) (g := F0 m pc ls (.ref (gx_ad od mo base a) :: r.map (gx_cv evI evL (gx_ad od mo base)))) rfl (by rw [hml]; exact hs.2.2.1) (rest := r.map (gx_cv evI evL (gx_ad od mo base))) rfl hd hR.1 (by
            have hw := gx_wd_eq evI evL (gx_ad od mo base) r
            show 2 * 0 + _ + 12 ≤ _
            rw [hw]
            omega) h1
        · cases hi
      · cases hi
    · exact absurd hi (gx_ca_not _ _ _ _ _)
  case ireturn =>
    simp only [gx_i, gx_rn] at hi
    repeat' split at hi
    all_goals first | (simp [gx_fin] at hi; done) | (cases hi; done)
  case lreturn =>
    simp only [gx_i, gx_rl] at hi
    repeat' split at hi
    all_goals first | (simp [gx_fin] at hi; done) | (cases hi; done)
  case areturn =>
    simp only [gx_i, gx_ra] at hi
    repeat' split at hi
    all_goals first | (simp [gx_fin] at hi; done) | (cases hi; done)
  case return_ =>
    simp only [gx_i, gx_rv] at hi
    repeat' split at hi
    all_goals first | (simp [gx_fin] at hi; done) | (cases hi; done)
end GXU
end
section
/-- an end of either kind: the tables, and what has changed -/
def gx_FE (s : State) (t : State) (L : List Loc) (k n : Nat) : Prop := s.WarmedH t.vm ∧ s.sameButNew ({ t with vm := s.vm } : State) L k n
section GXB
variable {p : Program} {l : Launch} {e : Env} {R : Room} {s : State} {m : MethodId} {sargs : Array Value} {below : List Frame} {meth : Method} {c : Code} {U : State} {Ls : List Loc} {c0 s0 : Nat}
/-- a call by the callee's contract: it comes back, or throws -/
theorem gx_back (Z : List Loc → State → Prop) {y : MethodName} {S : Spec} {Pc : Array Value → State → Prop} {Qc : Array Value → State → Outcome → State → Prop} (hM : MetFree l y S Pc (fun _ _ _ _ _ => True) Qc) (X : Stand p l e R s m sargs below meth c U Ls c0 s0)
    {g : JFrame} (hg : g.method = m) (hsize : g.locals.size = c.maxLocals) {ig : Instr} {len : Nat} (hdg : decode c.code g.pc = .ok (ig, len)) {mk : MethodId} {a : Array Value} (hn : U.methodNamed? y = some mk) (hpre : S.pre.before a U = true) {methY : Method} {cY : Code} (hmY : U.vm.method? mk = some methY) (hcY : methY.code = some cY)
    (hini : (Cond.initialized y.cls).before a U = true) (hframes : S.room.frames + 1 ≤ R.frames) (hlocals : 2 * g.monitorRoom + (g.stack.map fun v => v.category).sum + (cY.maxLocals + 11) + S.room.locals ≤ R.locals) (h4 : c0 + S.room.cells ≤ R.cells) (h5 : s0 + S.room.slots ≤ R.slots)
    (hP : Pc a (U.calling g mk a)) (hQ : ∀ o t, Qc a (U.calling g mk a) o t → ∃ L, gx_FE (U.calling g mk a) t L S.room.cells S.room.slots ∧ Z L t) :
    ∃ (o : Outcome) (t T' : State) (L : List Loc), Qc a (U.calling g mk a) o t ∧ gx_FE (U.calling g mk a) t L S.room.cells S.room.slots ∧ Z L t ∧ T'.heap = t.heap ∧ T'.vm = t.vm ∧ Stand p l e R s m sargs below meth c T' (Ls ++ L) (c0 + S.room.cells) (s0 + S.room.slots) ∧
      ((∃ v, o = .returned v ∧ ∀ acts, Steps p.tables e below (doInvoke e (U.setTop g) acts mk a).1 (T'.setTop { g with pc := g.pc + len, stack := v.toList ++ g.stack })) ∨
       (∃ x, o = .threw x ∧ ∀ acts, Steps p.tables e below (doInvoke e (U.setTop g) acts mk a).1 ((T'.setTop g).pushFrame (.throwing x)))) := by
  obtain ⟨kY, hkY, -⟩ := className_of_methodNamed hn
  have hinitY : kY.init = .initialized := Cond.initialized_spec (findClass_of_methodNamed hn) hkY hini
  have h : At U g.method c below := by rw [hg]; exact X.here
  have happ : S.appliesLoose y e.platform (U.calling g mk a) = true :=
    Spec.appliesLoose_calling (g := g) h hdg hn hkY hinitY (X.room_calling (g := g) (R' := S.room) hsize hmY hcY hframes (by omega) h4 h5) hpre
  obtain ⟨mid, hmid⟩ := h.above
  have hfr : (U.setTop g).frames = (.java g :: mid) ++ below := by rw [State.frames_setTop' g h.top, hmid]; rfl
  obtain ⟨o, s₂, hsteps, -, hend, hq⟩ := Steps.callFree hM p X.admits X.cas X.clock (acts := []) hfr happ hP trivial
  have hq' : Qc a (U.calling g mk a) o s₂ := hq
  rw [State.frames_setTop' g h.top] at hend
  obtain ⟨L, hfe, hZ⟩ := hQ _ _ hq'
  obtain ⟨hW₂, e2, q2, q3, q4, q5, q6⟩ := id hfe
  have e3 : s₂ = ({ (U.calling g mk a).setFrames s₂.frames with heap := s₂.heap, slotsUsed := s₂.slotsUsed } : State).setVm s₂.vm := by
    have : s₂ = ({ s₂ with vm := (U.calling g mk a).vm } : State).setVm s₂.vm := rfl
    rw [e2] at this
    exact this
  have hW' : U.WarmedH s₂.vm := hW₂
  obtain ⟨g₀, hg0⟩ := Option.isSome_iff_exists.mp h.top
  obtain ⟨r, hr⟩ := State.topJava?_eq_some.mp hg0
  have hr' : (({ U with heap := s₂.heap, slotsUsed := s₂.slotsUsed } : State).setVm s₂.vm).frames = .java g₀ :: r := hr
  have hsame : U.sameButNew ({ U with heap := s₂.heap, slotsUsed := s₂.slotsUsed } : State) L S.room.cells S.room.slots := by
    refine ⟨?_, q2, q3, q4, q5, q6⟩
    obtain ⟨t, ht, -⟩ := State.frames_cons hr
    show ({ U with heap := s₂.heap, slotsUsed := s₂.slotsUsed } : State) = { U.setFrames U.frames with heap := s₂.heap, slotsUsed := s₂.slotsUsed }
    rw [State.setFrames_self ht]
  have hall : ∀ acts, (doInvoke e (U.setTop g) acts mk a).1 = (doInvoke e (U.setTop g) [] mk a).1 := fun acts => doInvoke_state e _ acts mk a
  refine ⟨o, s₂, ({ U with heap := s₂.heap, slotsUsed := s₂.slotsUsed } : State).setVm s₂.vm, L, hq', hfe, hZ, rfl, rfl, ?_, ?_⟩
  · subst hg
    exact ⟨X.admits, X.cas, X.clock, X.frames, X.room, X.hears, X.method, X.code, (X.here.setHeapUsed s₂.heap s₂.slotsUsed).setVm hW'.alike, X.tail, State.WarmedH.trans X.warmed hW', X.limits, X.bytes, X.same.trans (hsame.setVm s.vm)⟩
  · cases o with
    | returned v =>
      refine Or.inl ⟨v, rfl, fun acts => ?_⟩
      obtain ⟨c₂, i₂, len₂, hc₂, hd₂, hf₂⟩ := hend
      have hcc : c₂ = c := by
        have h1 : s₂.code? g.method = U.code? g.method := by
          rw [State.code?_eq, State.code?_eq, hW'.alike.method?]
        exact Option.some.inj (hc₂.symm.trans (h1.trans h.code))
      subst hcc
      have hlen : len₂ = len := by rw [hdg] at hd₂; cases hd₂; rfl
      subst hlen
      have hs₂ : s₂ = (({ U with heap := s₂.heap, slotsUsed := s₂.slotsUsed } : State).setVm s₂.vm).setTop { g with pc := g.pc + len₂, stack := v.toList ++ g.stack } := by
        refine e3.trans ?_
        rw [hf₂, State.calling_eq h.top, State.setFrames_setFrames, State.setTop_of_frames _ hr', hr]
        rfl
      rw [hall acts, ← hs₂]
      exact hsteps
    | threw x =>
      refine Or.inr ⟨x, rfl, fun acts => ?_⟩
      have hf₂ : s₂.frames = .throwing x :: .java g :: U.frames.tail := hend
      have hs₂ : s₂ = ((({ U with heap := s₂.heap, slotsUsed := s₂.slotsUsed } : State).setVm s₂.vm).setTop g).pushFrame (.throwing x) := by
        refine e3.trans ?_
        rw [hf₂, State.calling_eq h.top, State.setFrames_setFrames, State.pushFrame, State.frames_setTop _ hr', State.setTop_of_frames _ hr', State.setFrames_setFrames, hr]
        rfl
      rw [hall acts, ← hs₂]
      exact hsteps
end GXB
end
section
section GXE
variable {α β π : Type}
def gx_oc (evI : α → Int32) (evL : β → Int64) (ad : Nat → Nat) : gx_O α β → Outcome
  | .inl none => .returned none
  | .inl (some v) => .returned (some (gx_cv evI evL ad v))
  | .inr k => .threw (ad k)
def gx_En (cl : List vw_C) (dC : Nat → ClassId) (dI : Nat → Nat → Nat) (od : Nat → Nat) (mo base : Nat) (evI : α → Int32) (evL : β → Int64) (s : State) (below : List Frame) (Q : State → Prop) (K N : Nat) (r : gx_R α β π) : Prop :=
  ∀ (t : State) (L : List Loc) (k n : Nat), t.status = .running → Ended t below (gx_oc evI evL (gx_ad od mo base) r.1) → s.WarmedH t.vm → s.sameButNew ({ t with vm := s.vm } : State) L k n → k ≤ K → n ≤ N → gx_rep cl dC dI (gx_cv evI evL (gx_ad od mo base)) od mo base s t.heap r.2.1 → va_S (fun q => base ≤ q) s.heap t.heap L → Q t
variable {p : Program} {l : Launch} {e : Env} {R : Room} {s : State} {m : MethodId} {args : Array Value} {below : List Frame} {meth : Method} {c : Code} {Q : State → Prop}
variable {cl : List vw_C} {dC : Nat → ClassId} {dI : Nat → Nat → Nat} {od : Nat → Nat} {mo base : Nat} {evI : α → Int32} {evL : β → Int64} {ok : π → Prop} {D : gx_D α β π} {G : gx_G} {Tb : List Cond} {M : gx_M}
variable {ml pc cells slots kc ks K N : Nat} {lv : gx_L α β} {st : List (gx_V α β)} {h : gx_H α β} {P : π} {H : Heap} {locs : List Loc} {ls : Array Slot} {cc : ByteArray} {r : gx_R α β π}
theorem gx_mono {Q1 : State → Prop} {g : JFrame} (hq : ∀ t, Q1 t → Q t) (k : W p l e R s m args below meth c H locs cells slots Q1 g) : W p l e R s m args below meth c H locs cells slots Q g := by
  intro T hT X
  obtain ⟨t, a, b⟩ := k T hT X
  exact ⟨t, a, hq t b⟩
theorem gx_fin_inv {r0 : gx_R α β π} (hi : gx_fin r0 = some (.inr (.inl r), kc, ks)) : r = r0 ∧ kc = 0 ∧ ks = 0 := by
  simp only [gx_fin, Option.some.injEq, Prod.mk.injEq, Sum.inr.injEq, Sum.inl.injEq] at hi
  exact ⟨hi.1.symm, hi.2.1.symm, hi.2.2.symm⟩
theorem gx_mq {o0 : Outcome} (hoc : gx_oc evI evL (gx_ad od mo base) r.1 = o0) (hrh : r.2.1 = h) (hs : gx_sd cl dC dI od mo base evI evL s ml lv h H locs ls) (hK : cells ≤ K) (hN : slots ≤ N) (hE : gx_En cl dC dI od mo base evI evL s below Q K N r) :
    ∀ t, MQ below (fun _ _ o t => o = o0 ∧ t.heap = H) args s cells slots (fun q => base ≤ q) t → Q t := by
  rintro t ⟨o, h1, h2, ⟨rfl, h4⟩, L, ⟨-, h5, h6⟩, h7⟩
  exact hE t L cells slots h1 (by rw [hoc]; exact h2) h5 h6 hK hN (by rw [h4, hrh]; exact hs.1) ⟨by rw [h4]; exact hs.2.1.1, by rw [h4]; exact hs.2.1.2.1, h7⟩
theorem gx_ts_not {dflt lo : Int} {offs : Array Int} {y : gx_R α β π ⊕ (Nat × Nat × List (gx_V α β) × List (gx_V α β))} : ¬ gx_ts D dflt lo offs lv st h P pc = some (.inr y, kc, ks) := by
  intro hi
  unfold gx_ts at hi
  split at hi
  · split at hi
    · cases hi
    · rw [Option.bind_eq_some_iff] at hi
      obtain ⟨l1, -, hgo⟩ := hi
      simp [gx_go] at hgo
  · cases hi
theorem gx_i_end {i : Instr} {len : Nat} (hl : gx_law D evI evL ok) (hcx : gx_cx cl Tb M p s m args meth c) (hd : decode (gx_cc M) pc = .ok (i, len)) (hlen : gx_len i = 0 ∨ len = gx_len i) (hnew : ∀ idx, i ≠ .new idx)
    (hi : gx_i G D mo M i pc lv st h P = some (.inr (.inl r), kc, ks)) (hC : cells ≤ K) (hS : slots ≤ N) (hE : gx_En cl dC dI od mo base evI evL s below Q K N r) (hok : ok P) (hs : gx_sd cl dC dI od mo base evI evL s (gx_ml M) lv h H locs ls) :
    W p l e R s m args below meth c H locs cells slots Q (F0 m pc ls (st.map (gx_cv evI evL (gx_ad od mo base)))) ∧ r.2.2 = P := by
  obtain ⟨hx, hb, hml, ⟨ro, hro, hown⟩, hts, hin, hrt, hlk, -⟩ := hcx
  cases i
  case ireturn =>
    have e1 : len = 1 := by rcases hlen with h0 | h0; cases h0; exact h0
    subst e1
    simp only [gx_i, gx_rn] at hi
    split at hi
    · rename_i a heq
      obtain ⟨rfl, -, -⟩ := gx_fin_inv hi
      refine ⟨gx_mono (gx_mq (args := args) (o0 := .returned (some (.int (evI a)))) rfl rfl hs hC hS hE) ?_, rfl⟩
      exact W.iret hx hb (by rw [hrt, heq]) (fun t ht _ => ⟨rfl, ht⟩) hs.2.1.2.2 hd hlk
    · rename_i a heq
      split at hi
      · rename_i hbt
        obtain ⟨rfl, -, -⟩ := gx_fin_inv hi
        refine ⟨gx_mono (gx_mq (args := args) (o0 := .returned (some (.int (evI a)))) rfl rfl hs hC hS hE) ?_, rfl⟩
        refine W.zret (ty := .boolean) hx hb (by rw [hrt, heq]) ?_ (fun t ht _ => ⟨rfl, ht⟩) hs.2.1.2.2 hd hlk
        rcases hl.2.2.2.2.2.2.2.2.2.2 P a hbt hok with e2 | e2 <;> (rw [e2]; decide +kernel)
      · cases hi
    · cases hi
  case lreturn =>
    have e1 : len = 1 := by rcases hlen with h0 | h0; cases h0; exact h0
    subst e1
    simp only [gx_i, gx_rl] at hi
    split at hi
    · rename_i b heq
      obtain ⟨rfl, -, -⟩ := gx_fin_inv hi
      refine ⟨gx_mono (gx_mq (args := args) (o0 := .returned (some (.long (evL b)))) rfl rfl hs hC hS hE) ?_, rfl⟩
      exact W.lret hx hb (by rw [hrt, heq]) (fun t ht _ => ⟨rfl, ht⟩) hs.2.1.2.2 hd hlk
    · cases hi
  case areturn =>
    have e1 : len = 1 := by rcases hlen with h0 | h0; cases h0; exact h0
    subst e1
    simp only [gx_i, gx_ra] at hi
    split at hi
    · rename_i nm a heq
      obtain ⟨rfl, -, -⟩ := gx_fin_inv hi
      refine ⟨gx_mono (gx_mq (args := args) (o0 := .returned (some (gx_cv evI evL (gx_ad od mo base) (.inr (.inr a) : gx_V α β)))) rfl rfl hs hC hS hE) ?_, rfl⟩
      refine W.aret (rt := .object nm) hx hb (by rw [hrt, heq]) (Or.inl ⟨_, rfl⟩) ?_ (fun t ht _ => ⟨rfl, ht⟩) hs.2.1.2.2 hd hlk
      cases a with
      | none => exact Or.inl rfl
      | some k => exact Or.inr ⟨_, rfl⟩
    · cases hi
  case return_ =>
    have e1 : len = 1 := by rcases hlen with h0 | h0; cases h0; exact h0
    subst e1
    simp only [gx_i, gx_rv] at hi
    split at hi
    · rename_i heq
      obtain ⟨rfl, -, -⟩ := gx_fin_inv hi
      refine ⟨gx_mono (gx_mq (args := args) (o0 := .returned none) rfl rfl hs hC hS hE) ?_, rfl⟩
      exact W.vret hx hb (by rw [hrt, heq]) (fun t ht _ => ⟨rfl, ht⟩) hs.2.1.2.2 hd hlk
    · cases hi
  case new idx => exact absurd rfl (hnew idx)
  case tableswitch dflt lo hi0 offs =>
    simp only [gx_i] at hi
    split at hi
    · exact absurd hi gx_ts_not
    · cases hi
  all_goals
    exfalso
    simp only [gx_i, gx_ld, gx_sv, gx_sl, gx_b2, gx_dv, gx_u1, gx_l2, gx_br, gx_b1, gx_bc, gx_al, gx_as, gx_asl, gx_asr, gx_gf, gx_pf, gx_na0, gx_cp, gx_iv, gx_sp, gx_ca, gx_kc, gx_k2, gx_g1, gx_go, Option.bind_eq_some_iff] at hi
    repeat' split at hi
    all_goals first | (cases hi; done) | (simp at hi; done) | (obtain ⟨_, _, hi⟩ := hi; simp at hi; done)
end GXE
end
section
def gx_An (s0 U : State) : Prop := s0.WarmedH U.vm ∧ ∀ q, q < s0.heap.size → U.heap[q]? = s0.heap[q]?
def gx_xw : Cond → Bool
  | .declares _ => true
  | .castable _ _ => true
  | .laysStatic _ _ _ => true
  | .isRef (.static _ _ _) => true
  | .methodLinkNest _ _ _ _ => true
  | w => goodWord w
section GXN
variable {s U : State} {A A' : Array Value} {C n d : String}
theorem gx_rs (h : (Cond.isRef (.static C n d)).before A s = true) (hA : gx_An s U) : (Cond.isRef (.static C n d)).before A' U = true := by
  have hvm := hA.1.alike
  cases hf : s.fieldFound? C n d with
  | none => simp [Cond.before, Cond.holds, Cond.value, Term.eval, State.fieldNamed?, hf] at h
  | some x =>
    obtain ⟨c, k, i, f⟩ := x
    obtain ⟨k', hi', he⟩ := State.fieldFound?_setVm hvm hf
    cases hv : (Term.static C n d).eval A s none [] s with
    | none => simp [Cond.before, Cond.holds, Cond.value, hv] at h
    | some v =>
      obtain ⟨hst, a, cell, ha, hcell, hs, hslot⟩ := Term.static_spec hf hv
      have hlt := (Array.getElem?_eq_some_iff.mp hcell).1
      have hU : U.heap[a]? = some cell := by rw [hA.2 a hlt]; exact hcell
      have hk' : k'.statics = some a := by rw [he]; exact ha
      have hiss : cell.vm.isStatics = true := by
        cases hq : cell.vm.isStatics with
        | true => rfl
        | false => simp [Term.eval, State.fieldNamed?, hf, hst, ha, hcell, hq] at hv
      have hi2 : U.fieldFound? C n d = some (c, k', i, f) := hi'
      have hv' : (Term.static C n d).eval A' U none [] U = some v := by
        simp [Term.eval, State.fieldNamed?, hi2, hst, hk', hU, hiss, hslot]
      simp only [Cond.before, Cond.holds, Cond.value, hv] at h
      simp only [Cond.before, Cond.holds, Cond.value, hv']
      exact h
theorem gx_ls0 (h : (Cond.laysStatic C n d).before A s = true) (hA : gx_An s U) : (Cond.laysStatic C n d).before A' U = true := by
  have hvm := hA.1.alike
  obtain ⟨c, k, i, f, a, cell, h1, h2, h3, h4, h5, h6, h7, h8, h9⟩ := Cond.laysStatic_spec h
  obtain ⟨k', hi', he⟩ := State.fieldFound?_setVm hvm h2
  have hlt := (Array.getElem?_eq_some_iff.mp h5).1
  have hU : U.heap[a]? = some cell := by rw [hA.2 a hlt]; exact h5
  have hk' : k'.statics = some a := by rw [he]; exact h4
  have hty : k'.staticTypes[f.slot]? = some f.type := by rw [he]; exact h9
  have hfc : U.vm.findClass C = some c := by rw [hvm.findClass]; exact h1
  have hi2 : U.fieldFound? C n d = some (c, k', i, f) := hi'
  simp [Cond.before, Cond.holds, Cond.value, hfc, hi2, h3, hk', hU, h6, h7, h8, hty]
theorem gx_mv {w : Cond} (hw : gx_xw w = true) (hA : gx_An s U) (h : w.before A s = true) : w.before A' U = true := by
  unfold gx_xw at hw
  split at hw
  · exact va_Nw.use rfl (va_Nw.warmD hA.1 (va_Nw.of rfl h))
  · exact va_Nw.use rfl (va_Nw.warmC hA.1 (va_Nw.of rfl h))
  · exact gx_ls0 h hA
  · exact gx_rs h hA
  · exact va_Nw.use rfl (va_Nw.warmM hA.1 (va_Nw.of rfl h))
  · exact word_at hA.1 (good_of_word hw) h
end GXN
theorem gx_own_ok (own X : String) (ic ix : Nat) (rx : ByteArray) : ∀ a ∈ gx_oa own X ic ix rx, gx_xw a = true := by
  apply List.all_eq_true.mp
  rfl
theorem gx_F_moved {G : gx_G} {cl : List vw_C} {Tb : List Cond} {dC : Nat → ClassId} {dI : Nat → Nat → Nat} {od : Nat → Nat} {mo : Nat} {s U : State} (hT : ∀ w ∈ Tb, goodWord w = true) (hA : gx_An s U) (h : gx_F G cl Tb dC dI od mo s) : gx_F G cl Tb dC dI od mo U := by
  have hvm := hA.1.alike
  obtain ⟨h1, h2, h3, h4, h5, h6, h7⟩ := h
  refine ⟨fun k r hr => ⟨fun h0 => u_Kn_moved hvm ((h1 k r hr).1 h0), by rw [hvm.findClass]; exact (h1 k r hr).2⟩, fun ow idx k hk => ?_, ⟨fun ow idx ci hc => ?_, fun ow idx ci hc => over_moved hvm (h3.2 ow idx ci hc)⟩, fun ow idx j hj => ?_, fun ce ci b hb => ?_, fun ow idx ci hc => ?_, fun w hw a => word_at hA.1 (good_of_word (hT w hw)) (h7 w hw #[])⟩
  · obtain ⟨ro, tx, e1, e2, e3⟩ := h2 ow idx k hk
    exact ⟨ro, tx, e1, vk_R.warm hA.1 e2, e3⟩
  · obtain ⟨r, e1, e2⟩ := h3.1 ow idx ci hc
    exact ⟨r, e1, va_AO.moved hvm e2⟩
  · obtain ⟨ro, M, host, e1, e2, e3⟩ := h4 ow idx j hj
    exact ⟨ro, M, host, e1, e2, va_Nw.warmM hA.1 e3⟩
  · obtain ⟨r1, r2, c1, c2, e1, e2, e3, e4, e5⟩ := h5 ce ci b hb
    exact ⟨r1, r2, c1, c2, e1, e2, by rw [hvm.findClass]; exact e3, by rw [hvm.findClass]; exact e4, by rw [hvm.assignable]; exact e5⟩
  · obtain ⟨ro, r, ix, rx, e1, e2, e3, e5, e4⟩ := h6 ow idx ci hc
    exact ⟨ro, r, ix, rx, e1, e2, e3, e5, fun a ha => gx_mv (gx_own_ok _ _ _ _ _ a ha) hA (e4 a ha)⟩
end
section
/-- all old cells stay where nothing is named -/
theorem gx_same_nil {u U : State} {k n : Nat} (h : u.sameButNew U [] k n) : ∀ q, q < u.heap.size → U.heap[q]? = u.heap[q]? := by
  intro q hq
  obtain ⟨-, -, -, -, -, h6⟩ := h
  obtain ⟨c', g1, g2, g3, g4⟩ := h6 q _ (Array.getElem?_eq_getElem hq)
  rw [g1, Array.getElem?_eq_getElem hq, g2]
  have e1 : c'.slots = (u.heap[q]).slots := by
    apply Array.ext_getElem?
    intro i
    exact g4 i (by simp)
  rw [e1]
section GXX
variable {p : Program} {l : Launch} {e : Env} {R : Room} {s : State} {m : MethodId} {args : Array Value} {below : List Frame} {meth : Method} {c : Code} {V : State} {cells slots : Nat}
theorem gx_sel {pl : Platform} {C : String} {cC : ClassId} {t : MethodName} {mt : MethodId} (hfit : t.cls ≠ "java/lang/invoke/MethodHandle" ∧ t.cls ≠ "java/lang/invoke/VarHandle") (hpl : ∀ x y, selectMethod pl s.vm x y = selectMethod {} s.vm x y) (hC : s.vm.findClass C = some cC) (hn : s.methodNamed? t = some mt) (h : (Cond.selects C t t).before args s = true) : selectMethod pl s.vm cC mt = .method mt := by
  obtain ⟨c2, r2, m2, q1, q2, q3, q4, -⟩ := Cond.selects_spec h
  have e1 : c2 = cC := Option.some.inj (q1.symm.trans hC)
  have e2 : m2 = mt := Option.some.inj (q3.symm.trans hn)
  have e3 : r2 = mt := Option.some.inj (q2.symm.trans (State.methodFound?_of_named hn hfit))
  subst e1; subst e2; subst e3
  rw [hpl]
  exact q4
set_option maxHeartbeats 1000000 in
/-- a fresh exception with a message, whose constructor is rx, is made and thrown; no trace is kept -/
theorem gx_ctorX (X : Stand p l e R s m args below meth c V [] cells slots) (hx : p.tables.exec = Jvm.exec) (htr : e.platform.stackTraces = false) {own C : String} {ic ix : Nat} {rx : ByteArray} (hrx : gx_pass ix rx)
    (hown : s.vm.findClass own = some m.cls) (hC : Bundle.fit C = true) (h : ∀ w ∈ gx_oa own C ic ix rx, w.before args s = true)
    {a : Addr} {cC : ClassId} {kC : Class} (hfC : s.vm.findClass C = some cC) (hkC : s.vm.classes[cC]? = some kC) (hcell : V.heap[a]? = some (freshCell cC kC)) (hnew : s.heap.size ≤ a) {msg : Value} (hmsg : msg.isRef = true)
    {g : JFrame} (hg : g.method = m) (hsz : g.locals.size = c.maxLocals) (hlo : g.locked = none) (hen : g.entered = []) {rest : List Value} (hst : g.stack = msg :: .ref a :: .ref a :: rest) (hd : decode c.code g.pc = .ok (.invokespecial ic, 3)) (hd3 : decode c.code (g.pc + 3) = .ok (.athrow, 1)) (hout : ∀ x ∈ c.exceptionTable.toList, covers x (g.pc + 3) = false)
    (hfr : 5 < R.frames) (hlc : 2 * g.monitorRoom + ((Value.ref a :: rest).map fun v => v.category).sum + (13 * 3 + 42) ≤ R.locals) (hlk : meth.locks = false) :
    ∃ U : State, Steps p.tables e below (V.setTop g) U ∧ U.status = .running ∧ Ended U below (.threw a) ∧ s.WarmedH U.vm ∧ s.sameButNew ({ U with vm := s.vm } : State) [] cells slots ∧ ∃ ce, U.heap[a]? = some ce ∧ ce.cls = cC ∧ ce.vm = .none := by
  obtain ⟨x0, x1, x2, x5⟩ := hrx
  have hpl : e.platform.magicAccessors = ({} : Platform).magicAccessors := by rw [X.admits.platform]
  have hb : ∀ w, w ∈ gx_oa own C ic ix rx → w.holds args s none s [] = true := fun w hw => h w hw
  obtain ⟨T, Z0, L, -, Y⟩ := ThrowableC.of_atoms (args := args) (by rw [X.admits.platform]) (by rw [X.admits.platform]) hpl (fun w hw => h w (by simp [gx_oa, hw]))
  obtain ⟨Z, M, LZ, LM, hZ⟩ := Init0T.ofS_atoms (args := args) hpl L Y (fun w hw => h w (by simp [gx_oa, hw]))
  obtain ⟨P, LP, hP, hPs⟩ := PassC.ofS_atoms (args := args) (s := s) hpl (X := C) (Y := "java/lang/RuntimeException") (Bundle.fit_spec hC).1 (by decide) x0 x1 x2 x5 (fun w hw => h w (by simp [gx_oa, hw]))
  obtain ⟨P2, Ps, hlen, LP2, LPs, hP2, hu1, hu2⟩ := Bundle.chainS (args := args) hpl hZ ["java/lang/Exception"] "java/lang/RuntimeException" (by decide +kernel) (by decide +kernel) (fun w hw => h w (by simp [gx_oa, hw]))
  have hsup : P.sup = P2.m := Option.some.inj (hPs.symm.trans hP2)
  have hPc : P.m.cls = cC := Option.some.inj ((findClass_of_methodNamed hP).symm.trans hfC)
  obtain ⟨c1, k1, hc1, hk1, hord, -⟩ := Cond.instantiable_spec (hb (.instantiable C 6) (by simp [gx_oa]))
  have : c1 = cC := Option.some.inj (hc1.symm.trans hfC)
  subst this
  have : k1 = kC := Option.some.inj (hk1.symm.trans hkC)
  subst this
  have hps := fun x y => Launch.admits_selectMethod (vm := s.vm) (c := x) (mR := y) X.admits
  have hs0 := gx_sel (by decide) hps hfC Y.fill0 (h (.selects C Bundle.tFill0 Bundle.tFill0) (by simp [gx_oa]))
  have hs1 := gx_sel (by decide) hps hfC Y.fill (h (.selects C Bundle.tFill Bundle.tFill) (by simp [gx_oa]))
  obtain ⟨cS, hcS, hiS⟩ := Y.statics
  have hcS' : V.heap[T.aS]? = some cS := (gx_same_nil X.same _ (Array.getElem?_eq_some_iff.mp hcS).1).trans hcS
  obtain ⟨u0, hu0⟩ := Cond.staticRefV Y.unassigned L.unassignedStatic L.statics hcS hiS (hb (.isRef (.static Bundle.tN "UNASSIGNED_STACK" Bundle.steD)) (by simp [gx_oa]))
  obtain ⟨v0, hv0⟩ := Cond.staticRefV Y.sentinel L.sentinelStatic L.statics hcS hiS (hb (.isRef (.static Bundle.tN "SUPPRESSED_SENTINEL" Bundle.listD)) (by simp [gx_oa]))
  obtain ⟨i1, i2, fB, y1, y2, y3, y4, -, y6, y7, y8⟩ := Cond.ownField (t := .object "java/lang/Object") Y.found L.cls (by decide +kernel) (hb (.fieldLink Bundle.tN 198 Bundle.tN "backtrace" "Ljava/lang/Object;") (by simp [gx_oa])) (hb (.lays Bundle.tN Bundle.tN "backtrace" "Ljava/lang/Object;") (by simp [gx_oa])) e.platform hpl
  obtain ⟨iM, hfM⟩ := Y.msg
  obtain ⟨tC, dC, z1, z2⟩ := Cond.laysAt hfC hkC Y.cause (hb (.lays C Bundle.tN "cause" "Ljava/lang/Throwable;") (by simp [gx_oa]))
  obtain ⟨tS, dS, z3, z4⟩ := Cond.laysAt hfC hkC Y.stack (hb (.lays C Bundle.tN "stackTrace" Bundle.steD) (by simp [gx_oa]))
  obtain ⟨tP, dP, z5, z6⟩ := Cond.laysAt hfC hkC Y.supp (hb (.lays C Bundle.tN "suppressedExceptions" Bundle.listD) (by simp [gx_oa]))
  obtain ⟨tM, dM, -, -⟩ := Cond.laysAt hfC hkC hfM (hb (.lays C Bundle.tN "detailMessage" "Ljava/lang/String;") (by simp [gx_oa]))
  obtain ⟨tB, dB, z7, z8⟩ := Cond.laysAt hfC hkC y8 (hb (.lays C Bundle.tN "backtrace" "Ljava/lang/Object;") (by simp [gx_oa]))
  have n1 := Cond.laysApart z7 z1 z8 z2 (by rw [y6, Y.causeName]; decide)
  have n2 := Cond.laysApart z7 z3 z8 z4 (by rw [y6, Y.stackName]; decide)
  have n3 := Cond.laysApart z7 z5 z8 z6 (by rw [y6, Y.suppName]; decide)
  have hskip : SkipFacts T e.platform s (fun u => u) u0 ((preparedCellV T.toThrowableT (freshCell c1 k1) a u0 v0).withEntry V.cur) := by
    refine ⟨{ ci198 := i1, i198 := i2, fBack := fB }, ⟨y1, y2, y3, y4⟩, ?_, fun _ _ => rfl⟩
    have hdf := fresh_default (c := c1) tB
    rw [y7] at hdf
    simpa [preparedCellV, Cell.setSlot, Cell.withEntry, Array.getElem?_setIfInBounds, n1, n2, n3, n1.symm, n2.symm, n3.symm, defaultValue] using hdf
  obtain ⟨tm, meC, cdC, kk, vm1, hnC, -, -, -, -, -, -, -, hW1, go1⟩ := Steps.initColdS (tb := p.tables) (e := e) (below := below) (s := s) (U := V) X.here hx X.warmed hpl hown (t := Bundle.initS C) rfl rfl (Bundle.fit_spec hC).2
    (hb (.methodLink own ic (Bundle.initS C)) (by simp [gx_oa])) (h (.instanceMethod (Bundle.initS C)) (by simp [gx_oa, Bundle.passSAtoms])) (bytes := rx) (maxL := 2) (h (.code (Bundle.initS C) rx 2 none) (by simp [gx_oa, Bundle.passSAtoms])) (f := g) hg (a := a) (msg := msg) (rest := .ref a :: rest) hst hd
  have : tm = P.m := Option.some.inj (hnC.symm.trans hP)
  subst this
  obtain ⟨vm2, X2, go2⟩ := (X.noted hW1).ctorMessageOffV hx (g := { g with stack := .ref a :: rest }) hg hsz T L Z LZ M LM (P :: P2 :: Ps) (fun Q hQ => (List.mem_cons.mp hQ).elim (fun q => q ▸ LP) (fun q => (List.mem_cons.mp q).elim (fun q => q ▸ LP2) (LPs Q))) ⟨hsup, hu1, hu2⟩ (u0 := u0) (sen := v0) (self := a) hmsg (cell := freshCell c1 k1) (cellS := cS)
    hcell (fun _ => by simp) (by simp) rfl rfl hs0 hs1 hcS' (Nat.ne_of_lt (Nat.lt_of_lt_of_le (Array.getElem?_eq_some_iff.mp hcS).1 hnew)) (fun hq => by rw [hq] at hiS; cases hiS) hu0 hv0
    (Takes.of_laid hkC hord tC (by rw [Y.causeType]; rfl)) (Takes.of_laid hkC hord tS (by rw [Y.stackType]; exact fits_refV_array _ u0)) (Takes.of_laid hkC hord tP (by rw [Y.suppType]; exact fits_refV_object _ v0)) (Takes.of_laid hkC hord tM (by rw [Y.msgType]; exact fits_refV_object _ ⟨msg, hmsg⟩)) Y.objLocals hskip htr [] hd
    (by simp only [List.length_cons, hlen]; simp; omega) (by simp only [List.length_cons, hlen]; exact hlc)
  obtain ⟨k1', k2, k3, k4, k5⟩ := X2.athrowLeaves hx (g := { g with stack := .ref a :: rest, pc := g.pc + 3 }) hg hlo hen hout (a := a) (rest := rest) rfl hd3 hlk
  have hU := heapAt_setCell_self (s := (V.setVm vm1).setVm vm2) (plainBareV T.toThrowableT (freshCell c1 k1) a u0 v0 msg) (Array.getElem?_eq_some_iff.mp hcell).1
  refine ⟨_, go1 _ (fun acts => ?_), k2, k3, k4, k5.weaken (fun y hy hlt => ?_) (Nat.le_refl _) (Nat.le_refl _), _, hU, rfl, rfl⟩
  · rw [doInvoke_state]
    exact go2 _ k1'
  · exfalso
    have hya : y.base = a := by
      simp only [List.nil_append, List.mem_cons, List.not_mem_nil, or_false] at hy
      rcases hy with rfl | rfl | rfl | rfl | rfl <;> rfl
    rw [hya] at hlt
    exact Nat.not_lt.mpr hnew hlt
end GXX
end
section
section GXH
variable {p : Program} {l : Launch} {e : Env} {R : Room} {s : State} {m : MethodId} {args : Array Value} {below : List Frame} {meth : Method} {c : Code} {T : State} {locs : List Loc} {cells slots : Nat}
/-- the walk begun anew, from where it stands -/
theorem gx_rebase (X : Stand p l e R s m args below meth c T locs cells slots) (hC : cells ≤ R.cells) (hS : slots ≤ R.slots) :
    Stand p l e { frames := R.frames, cells := R.cells - cells, slots := R.slots - slots, locals := R.locals } (T.setFrames (.invoking m args :: below)) m args below meth c T [] 0 0 := by
  obtain ⟨g₀, hfr⟩ := X.frames_eq
  have hcur := State.cur_lt_of_frames hfr
  have hfr' : (T.setFrames (.invoking m args :: below)).frames = .invoking m args :: below := State.frames_setFrames _ hcur
  have hmeth : (T.setFrames (.invoking m args :: below)).vm.method? m = some meth := X.method'
  obtain ⟨t, ht, -⟩ := State.frames_cons hfr'
  refine ⟨X.admits, X.cas, X.clock, hfr', ?_, ?_, hmeth, X.code, X.here, X.tail, State.WarmedH.refl _, by rw [State.stackLimits_setFrames], by rw [State.stackBytes_setFrames], ?_⟩
  · have h := X.room
    have h1 := State.localsInUse_invoking hfr' hmeth X.code
    have h2 := State.localsInUse_invoking X.frames X.method X.code
    have h3 : e.platform.stackLimits (T.setFrames (.invoking m args :: below)).me = e.platform.stackLimits s.me := by rw [State.stackLimits_setFrames]; exact X.limits
    have h4 : (T.setFrames (.invoking m args :: below)).me.stackBytes = s.me.stackBytes := by rw [State.stackBytes_setFrames]; exact X.bytes
    have h5 := X.heapSize
    have h6 := X.used
    simp only [State.hasRoom, Bool.and_eq_true, decide_eq_true_eq] at h ⊢
    rw [h1, h3, h4, hfr']
    rw [h2, X.frames] at h
    obtain ⟨⟨⟨⟨q1, q2⟩, q3⟩, q4⟩, q5⟩ := h
    refine ⟨⟨⟨⟨q1, q2⟩, ?_⟩, ?_⟩, X.book⟩
    · show T.heap.size + (R.cells - cells) ≤ _
      omega
    · show T.slotsUsed + (R.slots - slots) ≤ _
      omega
  · have hh := X.hears
    have e1 : (T.setFrames (.invoking m args :: below)).hears m below = s.hears m below := by
      have hvm : (T.setFrames (.invoking m args :: below)).vm = T.vm := rfl
      unfold State.hears
      split <;> simp [State.code?_eq, hvm, X.warmed.alike.method?]
    rw [e1]
    exact hh
  · have h := (State.sameButNew.refl (T.setFrames (.invoking m args :: below)) ht).setFrames T.frames (by exact State.cur_lt_of_frames hfr')
    have e2 : (T.setFrames (.invoking m args :: below)).setFrames T.frames = T := by
      obtain ⟨t2, ht2, -⟩ := State.frames_cons hfr
      rw [State.setFrames_setFrames]
      exact State.setFrames_self ht2
    rw [e2] at h
    exact h
end GXH
theorem gx_dec {cl : List vw_C} {Tb : List Cond} {M : gx_M} {p : Program} {s : State} {m : MethodId} {args : Array Value} {meth : Method} {c : Code} (hcx : gx_cx cl Tb M p s m args meth c) {pc : Nat} {i : Instr} (hi : gx_at M pc = some i) {n : Nat} (hn : gx_len i = n) (h0 : n ≠ 0) : decode (gx_cc M) pc = .ok (i, n) := by
  obtain ⟨len, h1, h2⟩ := hcx.2.2.2.2.2.2.2.2.1 pc i hi
  rcases h2 with h2 | h2
  · exact absurd (hn.symm.trans h2) h0
  · rw [h1, h2, hn]
section GXI
variable {α β π : Type}
variable {p : Program} {l : Launch} {e : Env} {R : Room} {s s0 : State} {m : MethodId} {args : Array Value} {below : List Frame} {meth : Method} {c : Code} {Q : State → Prop}
variable {cl : List vw_C} {dC : Nat → ClassId} {dI : Nat → Nat → Nat} {od : Nat → Nat} {mo base : Nat} {evI : α → Int32} {evL : β → Int64} {ok : π → Prop} {D : gx_D α β π} {G : gx_G} {Tb : List Cond} {M : gx_M}
variable {pc cells slots kc ks K N : Nat} {lv : gx_L α β} {st : List (gx_V α β)} {h : gx_H α β} {P : π} {H : Heap} {locs : List Loc} {ls : Array Slot} {r : gx_R α β π}
theorem gx_ex_inv {ci : Nat} (hi : gx_ex G M ci st h P pc = some (.inr (.inl r), kc, ks)) : ∃ k j sk, gx_at M (pc + 3) = some .dup ∧ gx_at M (pc + 4) = some (.ldc k) ∧ gx_at M (pc + 6) = some (.invokespecial j) ∧ gx_at M (pc + 9) = some .athrow ∧ gx_ks G (gx_ow M) k = some (.inr (.inr sk)) ∧ gx_mt G (gx_ow M) j = some (8, ci) ∧ gx_hs M = [] ∧ gx_wd st ≤ 8 ∧ r = (.inr h.length, h ++ [.inl (ci, [])], P) ∧ kc = 1 ∧ ks = 6 := by
  unfold gx_ex at hi
  split at hi
  · rename_i k j e1 e2 e3 e4
    split at hi
    · rename_i sk c2 e5 e6
      split at hi
      · rename_i hc
        obtain ⟨rfl, q2, q3⟩ := hc
        simp only [Option.some.injEq, Prod.mk.injEq, Sum.inr.injEq, Sum.inl.injEq] at hi
        exact ⟨k, j, sk, e1, e2, e3, e4, e5, e6, q2, q3, hi.1.symm, hi.2.1.symm, hi.2.2.symm⟩
      · cases hi
    · cases hi
  · cases hi
set_option maxHeartbeats 1000000 in
theorem gx_w_ex {idx ci n : Nat} {tys : List (Nat × Bool)} (hl : gx_law D evI evL ok) (hod : ∀ j, j < mo → od j < base) (hbase : s0.heap.size = base) (hg : gx_gd G cl Tb) (hTb : ∀ w ∈ Tb, goodWord w = true) (hF0 : gx_F G cl Tb dC dI od mo s0) (hAn : gx_An s0 s) (hfl : l.flags = pinnedFlags ++ [noTraceFlag]) (hcx : gx_cx cl Tb M p s m args meth c) (hd : decode (gx_cc M) pc = .ok (.new idx, 3)) (hR : 10 ≤ R.frames ∧ 200 ≤ R.locals)
    (hcs : gx_cs G (gx_ow M) idx = some ci) (hkl : gx_kl G ci = some (tys, n)) (hn6 : n = 6) (hi : gx_ex G M ci st h P pc = some (.inr (.inl r), kc, ks)) (hC : cells + kc ≤ K) (hS : slots + ks ≤ N) (hKR : K ≤ R.cells) (hNR : N ≤ R.slots) (hE : gx_En cl dC dI od mo base evI evL s below Q K N r) (hok : ok P) (hs : gx_sd cl dC dI od mo base evI evL s (gx_ml M) lv h H locs ls) :
    W p l e R s m args below meth c H locs cells slots Q (F0 m pc ls (st.map (gx_cv evI evL (gx_ad od mo base)))) := by
  obtain ⟨k, j, sk, i3, i4, i6, i9, hks, hmt, hhs, hwd, rfl, rfl, rfl⟩ := gx_ex_inv hi
  subst hn6
  intro T hT X
  have hd3 := gx_dec hcx i3 (n := 1) rfl (by decide)
  have hd4 := gx_dec hcx i4 (n := 2) rfl (by decide)
  have hd6 := gx_dec hcx i6 (n := 3) rfl (by decide)
  have hd9 := gx_dec hcx i9 (n := 1) rfl (by decide)
  obtain ⟨hx, hb, hml, ⟨ro, hro, hown⟩, hts, hin, hrt, hlk, -, hxt⟩ := hcx
  obtain ⟨gF, gK, gC, -, -⟩ := hg
  have X0 := gx_rebase X (by omega) (by omega)
  have hvm : (T.setFrames (.invoking m args :: below)).vm = T.vm := rfl
  have hhp : (T.setFrames (.invoking m args :: below)).heap = H := hT
  generalize hs' : T.setFrames (.invoking m args :: below) = s' at X0 hvm hhp
  have hszl : base ≤ s.heap.size := by
    have h1 := hs.1.2.1
    rcases Nat.lt_or_ge s.heap.size base with q | q
    · exfalso
      have := hAn.2 s.heap.size (by omega)
      rw [Array.getElem?_eq_none (Nat.le_refl _), Array.getElem?_eq_getElem (by omega)] at this
      cases this
    · exact q
  have hAn' : gx_An s0 s' := by
    refine ⟨by rw [hvm]; exact State.WarmedH.trans hAn.1 X.warmed, fun q hq => ?_⟩
    rw [hhp, hs.2.1.2.1 q (by omega) (by show ¬ base ≤ q; omega)]
    exact hAn.2 q hq
  have hal : s.vm.Alike s'.vm := by rw [hvm]; exact X.warmed.alike
  obtain ⟨fKn, fSt, -, -, -, fXs, fTb⟩ := gx_F_moved hTb hAn' hF0
  have hts' : ∀ w ∈ Tb, w.before args s' = true := fun w hw => fTb w hw args
  have hown' : s'.vm.findClass ro.1 = some m.cls := by rw [hal.findClass]; exact hown
  have hsd' : gx_sd cl dC dI od mo base evI evL s' (gx_ml M) lv h H [] ls := ⟨gx_rep_moved hal hs.1, by rw [← hhp]; exact va_S.rf, hs.2.2⟩
  obtain ⟨ro1, tx, f1, f2, f3⟩ := fSt _ _ _ hks
  have : ro1 = ro := Option.some.inj (f1.symm.trans hro)
  subst this
  obtain ⟨ro2, rx, ix, bx, f4, f5, f6, fp, f7⟩ := fXs _ _ _ hmt
  have : ro2 = ro1 := Option.some.inj (f4.symm.trans hro)
  subst this
  have htr : e.platform.stackTraces = false := Launch.traces_off hfl X.admits
  suffices hW : W p l e { frames := R.frames, cells := R.cells - cells, slots := R.slots - slots, locals := R.locals } s' m args below meth c H [] 0 0 Q (F0 m pc ls (st.map (gx_cv evI evL (gx_ad od mo base)))) from hW T hT X0
  refine gx_w_new hl hod hx hb hts' hro hown' fKn gK gC hcs hkl hd (by show 0 + 1 ≤ R.cells - cells; omega) (by show 0 + 6 ≤ R.slots - slots; omega) [] (fun k v hv => by simp at hv) hsd' (fun H' kC hkC g1 hs2 had => ?_)
  refine lv_dup hx hb hd3 rfl ?_
  refine va_ldcS hx hb hown' f2 hd4 ?_
  intro T1 hT1 X1
  have hatoms : ∀ a ∈ gx_oa ro2.1 rx.1 j ix bx, a.before args s' = true := fun a ha => gx_mv (gx_own_ok _ _ _ _ _ a ha) (⟨State.WarmedH.refl _, fun _ _ => rfl⟩ : gx_An s' s') (f7 a ha)
  have hfc : s'.vm.findClass rx.1 = some (dC ci) := (fKn _ _ f5).2
  have hout : ∀ x ∈ c.exceptionTable.toList, covers x (pc + 9) = false := by
    have h1 : c.exceptionTable.toList = [] := by
      rw [hhs] at hxt
      exact List.map_eq_nil_iff.mp hxt
    intro x hx1
    rw [h1] at hx1
    cases hx1
  obtain ⟨U, hsteps, hrun, hend, hWU, hsame, ce, hce, hoc, hov⟩ := gx_ctorX X1 hx htr (own := ro2.1) (C := rx.1) (ic := j) fp hown' f6 hatoms hfc hkC (a := gx_ad od mo base h.length) (by rw [hT1, had]; exact g1) (by rw [hhp, had]; exact Nat.le_refl _) (msg := .ref (od sk)) rfl
    (g := F0 m (pc + 3 + 1 + 2) ls (.ref (od sk) :: .ref (gx_ad od mo base h.length) :: .ref (gx_ad od mo base h.length) :: st.map (gx_cv evI evL (gx_ad od mo base)))) rfl (by rw [hml]; exact hs.2.2.1) rfl rfl (rest := st.map (gx_cv evI evL (gx_ad od mo base))) rfl (by rw [hb]; exact hd6) (by rw [hb]; exact hd9) hout
    (by show 2 + 3 < R.frames; omega)
    (by
      have hw := gx_wd_eq evI evL (gx_ad od mo base) st
      show 2 * 0 + (1 + ((st.map (gx_cv evI evL (gx_ad od mo base))).map fun v => v.category).sum) + (13 * (2 + 1) + 42) ≤ R.locals
      rw [hw]
      omega) hlk
  refine ⟨U, hsteps, ?_⟩
  have hkeep : ∀ q, q < H.size → U.heap[q]? = H[q]? := by
    intro q hq
    have := gx_same_nil hsame q (by rw [hhp]; exact hq)
    rw [hhp] at this
    exact this
  have hsz : U.heap.size = H.size + 1 := by
    have h1 : U.heap.size ≤ s'.heap.size + (0 + 1) := hsame.2.2.1
    have h2 := (Array.getElem?_eq_some_iff.mp hce).1
    rw [hhp] at h1
    rw [had] at h2
    omega
  have hcell : gx_cell cl dC dI (gx_cv evI evL (gx_ad od mo base)) s True U.heap H.size (.inl (ci, []) : gx_C α β) := by
    exact Or.inr ⟨ce, by rw [← had]; exact hce, hoc, hov, fun k v hv => by simp at hv⟩
  obtain ⟨hr1, -⟩ := gx_rep_push hod hs.1 hsz hkeep hcell
  have hsame2 : T.sameButNew ({ U with vm := T.vm } : State) [] (0 + 1) (0 + 6) := by
    obtain ⟨e2, q2, q3, q4, q5, q6⟩ := hsame
    subst hs'
    refine ⟨?_, q2, q3, q4, q5, q6⟩
    rw [State.setFrames_setFrames] at e2
    exact e2
  refine hE U locs (cells + 1) (slots + 6) hrun hend (State.WarmedH.trans (by rw [hvm]; exact X.warmed : s.WarmedH s'.vm) hWU) ?_ hC hS hr1 ⟨?_, fun q q1 q2 => ?_, hs.2.1.2.2⟩
  · have h9 := X.same.trans (hsame2.setVm s.vm)
    rw [List.append_nil] at h9
    exact h9
  · have := hs.2.1.1
    omega
  · rw [hkeep q (Nat.lt_of_lt_of_le q1 hs.2.1.1)]
    exact hs.2.1.2.1 q q1 q2
end GXI
end
section
/-- what the search gives, and what it resolves on its way -/
def gx_FV (e : Env) (s : State) (f : JFrame) (a : Addr) (h : Handler) (vm' : Vm) : Prop := ∀ (Q : Handler → Pre) (E : CtlPost) (d : Bool) (acts : List Action), wp (findHandler f a) Q E e d acts s ↔ Q h d acts (s.setVm vm')
section GXJ
variable {e : Env} {s : State} {f : JFrame} {a : Addr}
theorem gx_goC {E : CtlPost} {d : Bool} {acts : List Action} {Q : Handler → Pre} {x : ExceptionTableEntry} {t : List ExceptionTableEntry} {c : ClassId} {cell : Cell} {vm' : Vm} (hx : covers x f.pc = true) (h0 : x.catchType ≠ 0) (hg : (Jvm.resolveClass f.method.cls x.catchType).Gives e.toSetting s.vm (.ok c) vm') (hsz : vm'.classes.size ≤ s.vm.classes.size)
    (hcell : s.heap[a]? = some cell) (hobj : ∀ k, cell.vm ≠ .statics k) (hk : ∃ k, vm'.classes[cell.cls]? = some k) (hc : ∃ k, vm'.classes[c]? = some k) :
    wp (findHandler.go f a (x :: t)) Q E e d acts s ↔ if vm'.assignable cell.cls c = true then Q (.found x.handlerPc) d acts (s.setVm vm') else wp (findHandler.go f a t) Q E e d acts (s.setVm vm') := by
  obtain ⟨ha, ht⟩ := hg.op (op := VmOp.resolveClass f.method.cls x.catchType) rfl
  simp only [covers] at hx
  cases hfit : vm'.assignable cell.cls c <;>
    simp [findHandler.go, hx, h0, ha, ht, hsz, hcell, hobj, hk, hc, hfit, VmOp.dirties, VmOp.acts]
theorem gx_stepcatch {r : List Frame} {pc : Nat} {vm' : Vm} (hfind : gx_FV e s f a (.found pc) vm') : (stepThrowing e s a (.java f :: r)).Is ((s.setVm vm').setFrames (.java { f with pc := pc, stack := [.ref a] } :: r)) [] := by
  simp only [stepThrowing, searchFrame, vmDo]
  generalize hr : Sem.go _ e false [] s = res
  obtain ⟨as, rfl, ha⟩ := Sem.eq_ok_of hr (a := Handler.found pc) (s' := s.setVm vm') (acts' := []) (by simp [hfind _ _ _ _])
  exact ⟨rfl, ha⟩
theorem gx_caught {tb : Tables} {target : State} {g : JFrame} {c : Code} {below : List Frame} (h : At s g.method c below) {pc : Nat} {vm' : Vm} (hfind : gx_FV e ((s.setTop g).pushFrame (.throwing a)) g a (.found pc) vm')
    (hrest : Steps tb e below ((s.setVm vm').setTop { g with pc := pc, stack := [.ref a] }) target) : Steps tb e below ((s.setTop g).pushFrame (.throwing a)) target := by
  obtain ⟨hgo, hw⟩ := h.throwing a
  refine Steps.head hgo hw ?_
  rw [stepThread_throwing (frames_entered h.top _), (gx_stepcatch (s := (s.setTop g).pushFrame (.throwing a)) hfind).1]
  obtain ⟨g₀, hg⟩ := Option.isSome_iff_exists.mp h.top
  obtain ⟨r, hr⟩ := State.topJava?_eq_some.mp hg
  have hr' : (s.setVm vm').frames = .java g₀ :: r := hr
  rw [State.setTop_of_frames _ hr'] at hrest
  have e1 : (((s.setTop g).pushFrame (.throwing a)).setVm vm').setFrames (.java { g with pc := pc, stack := [.ref a] } :: s.frames.tail) = (s.setVm vm').setFrames (.java { g with pc := pc, stack := [.ref a] } :: r) := by
    rw [State.pushFrame, State.setTop_of_frames _ hr, State.setFrames_setFrames, hr]
    show ((s.setFrames (Frame.throwing a :: (s.setFrames (Frame.java g :: r)).frames)).setFrames (.java { g with pc := pc, stack := [.ref a] } :: r)).setVm vm' = (s.setFrames (.java { g with pc := pc, stack := [.ref a] } :: r)).setVm vm'
    rw [State.setFrames_setFrames]
  rw [e1]
  exact hrest
theorem gx_search {cl : List vw_C} {Tb : List Cond} {G : gx_G} {ow pc ce : Nat} {ro rce : vw_C} {args : Array Value} {sB : State} {cell : Cell} (hpl : e.platform.magicAccessors = ({} : Platform).magicAccessors) (hgC : gx_gC G cl Tb) (hts : ∀ w ∈ Tb, w.before args sB = true) (hSb : gx_Sb G cl sB) (hro : cl[ow]? = some ro) (hown : sB.vm.findClass ro.1 = some f.method.cls) (hpc : f.pc = pc)
    (hrce : cl[ce]? = some rce) (hcls : sB.vm.findClass rce.1 = some cell.cls) (hvmn : cell.vm = .none) : ∀ (es : List ExceptionTableEntry) (s : State), s.heap[a]? = some cell → sB.WarmedH s.vm → ∀ t, gx_hd G ow pc ce (es.map fun h => (h.startPc, h.endPc, h.handlerPc, h.catchType)) = some t →
    ∃ vm', sB.WarmedH vm' ∧ ∀ (Q : Handler → Pre) (E : CtlPost) (d : Bool) (acts : List Action), wp (findHandler.go f a es) Q E e d acts s ↔ Q (.found t) d acts (s.setVm vm')
  | [], s, hcell, hW, t, hh => by simp [gx_hd] at hh
  | x :: es, s, hcell, hW, t, hh => by
    simp only [List.map_cons, gx_hd] at hh
    split at hh
    · rename_i hcov
      have hx : covers x f.pc = true := by
        rw [hpc]
        simp [covers, hcov.1, hcov.2]
      split at hh
      · cases hh
      · rename_i ci hcs
        obtain ⟨ro', rci, e1, e2, hlk⟩ := hgC _ _ _ hcs
        have : ro' = ro := Option.some.inj (e1.symm.trans hro)
        subst this
        obtain ⟨cc, hfcc, hcl⟩ := Cond.classLink_spec hown (hts _ hlk) e.platform hpl
        obtain ⟨hg1, hw1, hr1⟩ := State.classEntry (e := e) hW hcl
        have hsz : (s.vm.noted f.method.cls x.catchType (.cls cc)).classes.size ≤ s.vm.classes.size := by no_record
        generalize s.vm.noted f.method.cls x.catchType (.cls cc) = vm1 at hg1 hw1 hr1 hsz
        have hk1 : ∃ k, vm1.classes[cell.cls]? = some k := by
          obtain ⟨k, hk⟩ := Vm.classAt_of_findClass hcls
          obtain ⟨k', hk', -⟩ := hw1.alike.2.2 _ _ hk
          exact ⟨k', hk'⟩
        have hc1 : ∃ k, vm1.classes[cc]? = some k := by
          obtain ⟨k, hk⟩ := Vm.classAt_of_findClass hfcc
          obtain ⟨k', hk', -⟩ := hw1.alike.2.2 _ _ hk
          exact ⟨k', hk'⟩
        have hobj : ∀ k, cell.vm ≠ .statics k := fun k hq => by rw [hvmn] at hq; cases hq
        split at hh
        · rename_i hsb
          split at hh
          · cases hh
          · rename_i h0
            cases hh
            obtain ⟨r1, r2, c1, c2, q1, q2, q3, q4, q5⟩ := hSb _ _ _ hsb
            have : r1 = rce := Option.some.inj (q1.symm.trans hrce)
            subst this
            have : r2 = rci := Option.some.inj (q2.symm.trans e2)
            subst this
            have hc1' : c1 = cell.cls := Option.some.inj (q3.symm.trans hcls)
            have hc2' : c2 = cc := Option.some.inj (q4.symm.trans hfcc)
            subst hc1'; subst hc2'
            have hfit : vm1.assignable cell.cls c2 = true := by rw [hw1.alike.assignable]; exact q5
            refine ⟨vm1, hw1, fun Q E d acts => ?_⟩
            rw [gx_goC hx h0 hg1 hsz hcell hobj hk1 hc1, if_pos hfit]
        · rename_i hsb
          split at hh
          · cases hh
          · rename_i h0
            obtain ⟨r1, r2, c1, c2, q1, q2, q3, q4, q5⟩ := hSb _ _ _ hsb
            have : r1 = rce := Option.some.inj (q1.symm.trans hrce)
            subst this
            have : r2 = rci := Option.some.inj (q2.symm.trans e2)
            subst this
            have hc1' : c1 = cell.cls := Option.some.inj (q3.symm.trans hcls)
            have hc2' : c2 = cc := Option.some.inj (q4.symm.trans hfcc)
            subst hc1'; subst hc2'
            have hfit : vm1.assignable cell.cls c2 = false := by rw [hw1.alike.assignable]; exact q5
            obtain ⟨vm', hw', hq⟩ := gx_search hpl hgC hts hSb hro hown hpc hrce hcls hvmn es (s.setVm vm1) hcell hw1 t hh
            refine ⟨vm', hw', fun Q E d acts => ?_⟩
            rw [gx_goC hx h0 hg1 hsz hcell hobj hk1 hc1, if_neg (by rw [hfit]; decide), hq]
            rfl
        · cases hh
    · rename_i hcov
      have hx : covers x f.pc = false := by
        rw [hpc]
        simp only [covers, Bool.and_eq_false_iff, decide_eq_false_iff_not]
        by_cases g1 : x.startPc ≤ pc
        · exact Or.inr (fun g2 => hcov ⟨g1, g2⟩)
        · exact Or.inl g1
      obtain ⟨vm', hw', hq⟩ := gx_search hpl hgC hts hSb hro hown hpc hrce hcls hvmn es s hcell hW t hh
      refine ⟨vm', hw', fun Q E d acts => ?_⟩
      rw [W.findHandler_go_skip hx, hq]
end GXJ
end
section
def gx_rm (d c1 s1 : Nat) : Room := { frames := d + 10, cells := c1, slots := s1, locals := 64 * d + 200 }
def gx_gY (G : gx_G) (cl : List vw_C) (Tb : List Cond) : Prop := ∀ j M, gx_mm G j = some M →
  (∃ ro : vw_C, cl[gx_ow M]? = some ro ∧ (gx_y M).cls = ro.1) ∧
  ((gx_hs M = [] ∧ Cond.code (gx_y M) (gx_cc M) (gx_ml M) (gx_rt M) ∈ Tb) ∨ Cond.codeWith (gx_y M) (gx_cc M) (gx_ml M) (gx_rt M) (gx_hs M) ∈ Tb) ∧
  Cond.initialized (gx_y M).cls ∈ Tb ∧ plainName (gx_y M).cls = true ∧ ((gx_y M).cls ≠ "java/lang/invoke/MethodHandle" ∧ (gx_y M).cls ≠ "java/lang/invoke/VarHandle") ∧ (gx_in M = true → (gx_y M).name = "<init>") ∧ gx_ml M ≤ 40 ∧
  (∀ pc i, gx_at M pc = some i → ∃ len, decode (gx_cc M) pc = .ok (i, len) ∧ (gx_len i = 0 ∨ len = gx_len i))
def gx_np (M : gx_M) (n : Nat) : Prop := (parseMethodDescriptor (gx_y M).desc).map (fun d => d.parameters.length) = some n
def gx_gL (G : gx_G) (cl : List vw_C) (Tb : List Cond) : Prop :=
  (∀ ow idx j, gx_mt G ow idx = some (0, j) → ∃ (ro : vw_C) (M : gx_M), cl[ow]? = some ro ∧ gx_mm G j = some M ∧ Cond.methodLink ro.1 idx (gx_y M) ∈ Tb ∧ Cond.static (gx_y M) ∈ Tb ∧ gx_np M (gx_na M)) ∧
  (∀ ow idx j, gx_mt G ow idx = some (1, j) → ∃ (ro : vw_C) (M : gx_M) (n : Nat), cl[ow]? = some ro ∧ gx_mm G j = some M ∧ Cond.methodLink ro.1 idx (gx_y M) ∈ Tb ∧ Cond.instanceMethod (gx_y M) ∈ Tb ∧ Cond.selects (gx_y M).cls (gx_y M) (gx_y M) ∈ Tb ∧ gx_na M = n + 1 ∧ gx_np M n) ∧
  (∀ ow idx j, gx_mt G ow idx = some (2, j) → ∃ (ro : vw_C) (M : gx_M) (n : Nat), cl[ow]? = some ro ∧ gx_mm G j = some M ∧ Cond.methodLink ro.1 idx (gx_y M) ∈ Tb ∧ Cond.instanceMethod (gx_y M) ∈ Tb ∧ Cond.code (gx_y M) (gx_cc M) (gx_ml M) none ∈ Tb ∧ (gx_y M).name = "<init>" ∧ gx_na M = n + 1 ∧ gx_np M n) ∧
  (∀ ow idx j, gx_mt G ow idx = some (7, j) → ∃ (M : gx_M) (n : Nat), gx_mm G j = some M ∧ Cond.instanceMethod (gx_y M) ∈ Tb ∧ Cond.code (gx_y M) (gx_cc M) (gx_ml M) none ∈ Tb ∧ (gx_y M).name = "<init>" ∧ gx_na M = n + 1 ∧ gx_np M n)
theorem gx_code {M : gx_M} {Tb : List Cond} {U : State} {args : Array Value} (hts : ∀ w ∈ Tb, w.before args U = true) (hw : (gx_hs M = [] ∧ Cond.code (gx_y M) (gx_cc M) (gx_ml M) (gx_rt M) ∈ Tb) ∨ Cond.codeWith (gx_y M) (gx_cc M) (gx_ml M) (gx_rt M) (gx_hs M) ∈ Tb) :
    ∃ m meth c, U.methodNamed? (gx_y M) = some m ∧ U.vm.method? m = some meth ∧ meth.code = some c ∧ c.code = gx_cc M ∧ c.maxLocals = gx_ml M ∧ c.exceptionTable.toList.map (fun h => (h.startPc, h.endPc, h.handlerPc, h.catchType)) = gx_hs M ∧ meth.sig.returnType = gx_rt M ∧ meth.locks = false ∧ parseMethodDescriptor (gx_y M).desc = some meth.sig := by
  have h1 : (Cond.codeWith (gx_y M) (gx_cc M) (gx_ml M) (gx_rt M) (gx_hs M)).before args U = true := by
    rcases hw with ⟨h0, h1⟩ | h1
    · have h2 := hts _ h1
      simp only [Cond.before, Cond.holds] at h2 ⊢
      rw [h0, ← Cond.code_iff_codeWith_nil]
      exact h2
    · exact hts _ h1
  exact Cond.codeWith_spec h1
section GXO
variable {α β π : Type}
def gx_Pc (cl : List vw_C) (dC : Nat → ClassId) (dI : Nat → Nat → Nat) (od : Nat → Nat) (mo base : Nat) (evI : α → Int32) (evL : β → Int64) (s0 : State) (as : List (gx_V α β)) (h : gx_H α β) (a : Array Value) (U : State) : Prop :=
  a = (as.map (gx_cv evI evL (gx_ad od mo base))).toArray ∧ gx_An s0 U ∧ gx_rep cl dC dI (gx_cv evI evL (gx_ad od mo base)) od mo base U U.heap h
def gx_Qc (cl : List vw_C) (dC : Nat → ClassId) (dI : Nat → Nat → Nat) (od : Nat → Nat) (mo base : Nat) (evI : α → Int32) (evL : β → Int64) (ok : π → Prop) (rs : List (gx_R α β π)) (c1 s1 : Nat) (_ : Array Value) (U : State) (o : Outcome) (t : State) : Prop :=
  ∃ r ∈ rs, ok r.2.2 ∧ o = gx_oc evI evL (gx_ad od mo base) r.1 ∧ gx_rep cl dC dI (gx_cv evI evL (gx_ad od mo base)) od mo base U t.heap r.2.1 ∧ ∃ L, gx_FE U t L c1 s1 ∧ va_S (fun q => base ≤ q) U.heap t.heap L
def gx_con (cl : List vw_C) (dC : Nat → ClassId) (dI : Nat → Nat → Nat) (od : Nat → Nat) (mo base : Nat) (evI : α → Int32) (evL : β → Int64) (ok : π → Prop) (Tb : List Cond) (s0 : State) (l : Launch) (d : Nat) (M : gx_M) (as : List (gx_V α β)) (h : gx_H α β) (rs : List (gx_R α β π)) (c1 s1 : Nat) : Prop :=
  MetFree l (gx_y M) (headSpec Tb (gx_rm d c1 s1)) (gx_Pc cl dC dI od mo base evI evL s0 as h) (fun _ _ _ _ _ => True) (gx_Qc cl dC dI od mo base evI evL ok rs c1 s1)
variable {cl : List vw_C} {dC : Nat → ClassId} {dI : Nat → Nat → Nat} {od : Nat → Nat} {mo base : Nat} {evI : α → Int32} {evL : β → Int64} {ok : π → Prop} {D : gx_D α β π} {G : gx_G} {Tb : List Cond} {M : gx_M} {s0 : State} {l : Launch}
theorem gx_cx_of {j : Nat} (hY : gx_gY G cl Tb) (hM : gx_mm G j = some M) {p : Program} {S : Spec} {e : Env} {s : State} {m : MethodId} {args : Array Value} {below : List Frame} {meth : Method} {c : Code} {s₁ : State} (B : BodyLoose p l (gx_y M) S (gx_cc M) (gx_ml M) (gx_rt M) e s m args below meth c s₁) (hml : c.maxLocals = gx_ml M) (hts : ∀ w ∈ Tb, w.before args s = true) : gx_cx cl Tb M p s m args meth c := by
  obtain ⟨⟨ro, h1, h2⟩, h3, -, -, -, h6, -, h8⟩ := hY j M hM
  obtain ⟨m', meth', c', g1, g2, g3, g4, g5, g6, -⟩ := gx_code hts h3
  have e0 : m' = m := Option.some.inj (g1.symm.trans B.named)
  subst e0
  have e1 : meth' = meth := Option.some.inj (g2.symm.trans B.method)
  subst e1
  have e2 : c' = c := Option.some.inj (g3.symm.trans (Stand.of_body B).code)
  subst e2
  exact ⟨B.exec, B.bytes, hml, ⟨ro, h1, by rw [← h2]; exact findClass_of_methodNamed B.named⟩, hts, fun hI => by rw [(name_of_methodNamed B.named B.method).1]; exact h6 hI, B.returns, B.notSynchronized, h8, g6⟩
/-- a walk of the body is a contract -/
theorem gx_con_of {j d c1 s1 : Nat} {as : List (gx_V α β)} {h : gx_H α β} {rs : List (gx_R α β π)} (hY : gx_gY G cl Tb) (hM : gx_mm G j = some M) (hwd : gx_wd as ≤ gx_ml M)
    (hw : ∀ (p : Program) (e : Env) (s : State) (m : MethodId) (args : Array Value) (below : List Frame) (meth : Method) (c : Code) (Q : State → Prop) (ls : Array Slot), gx_cx cl Tb M p s m args meth c → gx_An s0 s → gx_sd cl dC dI od mo base evI evL s (gx_ml M) (gx_args 0 as) h s.heap [] ls →
      (∀ r ∈ rs, ok r.2.2 → gx_En cl dC dI od mo base evI evL s below Q c1 s1 r) → W p l e (gx_rm d c1 s1) s m args below meth c s.heap [] 0 0 Q (F0 m 0 ls [])) :
    gx_con cl dC dI od mo base evI evL ok Tb s0 l d M as h rs c1 s1 := by
  obtain ⟨-, h3, -, h5, -⟩ := hY j M hM
  refine MetFree.of_bodyS (code := gx_cc M) (maxLocals := gx_ml M) (ret := gx_rt M) h5 ?_ ?_
  · intro args s m hp hn
    obtain ⟨m', meth, c, g1, g2, g3, g4, g5, -, g7, g8, -⟩ := gx_code (atoms_spec (ws := Tb) hp) h3
    have e0 : m' = m := Option.some.inj (g1.symm.trans hn)
    subst e0
    exact ⟨meth, c, g2, g3, g4, g5, g7, g8⟩
  · intro p e s m args below meth c s₁ B hml hP _
    obtain ⟨rfl, hAn, hrep⟩ := hP
    have hts := atoms_spec (ws := Tb) B.pre
    have hcx := gx_cx_of hY hM B hml hts
    have hh0 : s₁.heap = s.heap := by rw [B.state]; rfl
    have hlv := lv_entry (as.map (gx_cv evI evL (gx_ad od mo base))) (n := gx_ml M) (by rw [gx_sl_len]; exact hwd)
    rw [gx_args_eq] at hlv
    have K := hw p e s m (as.map (gx_cv evI evL (gx_ad od mo base))).toArray below meth c (fun t => ∃ o, t.status = .running ∧ Ended t below o ∧ gx_Qc cl dC dI od mo base evI evL ok rs c1 s1 (as.map (gx_cv evI evL (gx_ad od mo base))).toArray s o t) _ hcx hAn ⟨hrep, va_S.rf, hlv⟩ (fun r hr hok t L k n q1 q2 q3 q4 q5 q6 q7 q8 => ⟨_, q1, q2, r, hr, hok, rfl, q7, L, ⟨q3, q4.weaken (fun y hy _ => hy) q5 q6⟩, q8⟩)
    rw [← lg_entry_eq] at K
    obtain ⟨t, a1, o, b1, b2, b3⟩ := K s₁ hh0 (Stand.of_body B)
    exact ⟨t, o, a1, b1, b2, b3⟩
end GXO
end
section
section GXC
variable {α β π : Type}
variable {p : Program} {l : Launch} {e : Env} {R : Room} {s s0 : State} {m : MethodId} {args : Array Value} {below : List Frame} {meth : Method} {c : Code} {Q : State → Prop}
variable {cl : List vw_C} {dC : Nat → ClassId} {dI : Nat → Nat → Nat} {od : Nat → Nat} {mo base : Nat} {evI : α → Int32} {evL : β → Int64} {ok : π → Prop} {D : gx_D α β π} {G : gx_G} {Tb : List Cond} {M M' : gx_M}
variable {pc cells slots d c1 s1 j : Nat} {lv : gx_L α β} {as rest : List (gx_V α β)} {h : gx_H α β} {P : π} {H : Heap} {locs : List Loc} {ls : Array Slot} {rs : List (gx_R α β π)}
/-- going on behind a call -/
def gx_KC (cl : List vw_C) (dC : Nat → ClassId) (dI : Nat → Nat → Nat) (od : Nat → Nat) (mo base : Nat) (evI : α → Int32) (evL : β → Int64) (p : Program) (l : Launch) (e : Env) (R : Room) (s : State) (m : MethodId) (args : Array Value) (below : List Frame) (meth : Method) (c : Code) (ml : Nat) (Q : State → Prop) (lv : gx_L α β) (rest : List (gx_V α β)) (ls : Array Slot) (pc cells slots : Nat) (r : gx_R α β π) : Prop :=
  ∀ (T : State) (locs : List Loc), Stand p l e R s m args below meth c T locs cells slots → gx_sd cl dC dI od mo base evI evL s ml lv r.2.1 T.heap locs ls →
    match r.1 with
    | .inl v => ∃ t, Steps p.tables e below (T.setTop (F0 m (pc + 3) ls ((v.toList ++ rest).map (gx_cv evI evL (gx_ad od mo base))))) t ∧ Q t
    | .inr k => ∃ t, Steps p.tables e below ((T.setTop (F0 m pc ls (rest.map (gx_cv evI evL (gx_ad od mo base))))).pushFrame (.throwing (gx_ad od mo base k))) t ∧ Q t
theorem gx_call1 {U : State} {mk : MethodId} {ig : Instr} (hY : gx_gY G cl Tb) (hM : gx_mm G j = some M') (hTb : ∀ w ∈ Tb, goodWord w = true) (hbase : s0.heap.size = base) (hAn : gx_An s0 s) (hts : ∀ w ∈ Tb, w.before args s = true) (hcon : gx_con cl dC dI od mo base evI evL ok Tb s0 l d M' as h rs c1 s1)
    (X : Stand p l e R s m args below meth c U locs cells slots) (hs : gx_sd cl dC dI od mo base evI evL s (gx_ml M) lv h U.heap locs ls) (hml : c.maxLocals = gx_ml M) (hn : U.methodNamed? (gx_y M') = some mk) (hdg : decode c.code pc = .ok (ig, 3)) (hwd : gx_wd rest ≤ 8) (hR : d + 11 ≤ R.frames ∧ 64 * d + 264 ≤ R.locals) (hC : cells + c1 ≤ R.cells) (hS : slots + s1 ≤ R.slots)
    (hk : ∀ r ∈ rs, ok r.2.2 → gx_KC cl dC dI od mo base evI evL p l e R s m args below meth c (gx_ml M) Q lv rest ls pc (cells + c1) (slots + s1) r) :
    ∃ t, (∀ acts, Steps p.tables e below (doInvoke e (U.setTop (F0 m pc ls (rest.map (gx_cv evI evL (gx_ad od mo base))))) acts mk (as.map (gx_cv evI evL (gx_ad od mo base))).toArray).1 t) ∧ Q t := by
  obtain ⟨-, h3, h4, -, -, -, h7, -⟩ := hY j M' hM
  have htsU : ∀ (a : Array Value), ∀ w ∈ Tb, w.before a U = true := fun a w hw => word_at X.warmed (good_of_word (hTb w hw)) (hts w hw)
  obtain ⟨m', methY, cY, g1, g2, g3, g4, g5, -⟩ := gx_code (htsU args) h3
  have e0 : m' = mk := Option.some.inj (g1.symm.trans hn)
  subst e0
  have hwq := gx_wd_eq evI evL (gx_ad od mo base) rest
  have hszl : base ≤ s.heap.size := by
    rcases Nat.lt_or_ge s.heap.size base with q | q
    · exfalso
      have := hAn.2 s.heap.size (by omega)
      rw [Array.getElem?_eq_none (Nat.le_refl _), Array.getElem?_eq_getElem (by omega)] at this
      cases this
    · exact q
  have hAnU : gx_An s0 U := ⟨State.WarmedH.trans hAn.1 X.warmed, fun q hq => by rw [hs.2.1.2.1 q (by omega) (by show ¬ base ≤ q; omega)]; exact hAn.2 q hq⟩
  obtain ⟨o, t, T', L3, hq, hfe, hZ, e1, e2, X', hcase⟩ := gx_back (fun L t => ∀ q ∈ L, base ≤ q.base) hcon X (g := F0 m pc ls (rest.map (gx_cv evI evL (gx_ad od mo base)))) rfl (by rw [hml]; exact hs.2.2.1) hdg (mk := m') (a := (as.map (gx_cv evI evL (gx_ad od mo base))).toArray) hn (atoms_intro (htsU _)) g2 g3 (htsU _ _ h4) (by show d + 10 + 1 ≤ R.frames; omega)
    (by
      show 2 * 0 + ((rest.map (gx_cv evI evL (gx_ad od mo base))).map fun v => v.category).sum + (cY.maxLocals + 11) + (64 * d + 200) ≤ R.locals
      rw [hwq, g5]
      omega) hC hS
    ⟨rfl, hAnU, gx_rep_moved (u := s) (U := U.calling (F0 m pc ls (rest.map (gx_cv evI evL (gx_ad od mo base)))) m' (as.map (gx_cv evI evL (gx_ad od mo base))).toArray) X.warmed.alike hs.1⟩
    (fun o t hq => by obtain ⟨r, -, -, -, -, L, hL, hL2⟩ := hq; exact ⟨L, hL, hL2.2.2⟩)
  obtain ⟨r, hr, hokr, hoc, hrep, L2, hfe2, hS2⟩ := hq
  have hsame : s.vm.Alike U.vm := X.warmed.alike
  have X3 : Stand p l e R s m args below meth c T' (locs ++ L3) (cells + c1) (slots + s1) := X'
  have hL3 : ∀ q ∈ L3, base ≤ q.base := hZ
  have hh1 : T'.heap = t.heap := e1
  have hsd : gx_sd cl dC dI od mo base evI evL s (gx_ml M) lv r.2.1 T'.heap (locs ++ L3) ls := by
    refine ⟨?_, ⟨?_, fun q q1 q2 => ?_, fun q hq => ?_⟩, hs.2.2⟩
    · rw [hh1]
      exact gx_rep_moved (u := U.calling (F0 m pc ls (rest.map (gx_cv evI evL (gx_ad od mo base)))) m' (as.map (gx_cv evI evL (gx_ad od mo base))).toArray) hsame.symm hrep
    · rw [hh1]
      exact Nat.le_trans hs.2.1.1 hS2.1
    · rw [hh1]
      have := hS2.2.1 q (Nat.lt_of_lt_of_le q1 hs.2.1.1) q2
      exact this.trans (hs.2.1.2.1 q q1 q2)
    · rcases List.mem_append.mp hq with h1 | h1
      · exact hs.2.1.2.2 q h1
      · exact hL3 q h1
  have hK := hk r hr hokr T' (locs ++ L3) X3 hsd
  rcases hcase with ⟨v, hv, hst⟩ | ⟨x, hv, hst⟩
  · obtain ⟨ro, rh⟩ := r
    cases ro with
    | inl w =>
      obtain ⟨t2, k1, k2⟩ := hK
      refine ⟨t2, fun acts => (hst acts).trans ?_, k2⟩
      have : v.toList ++ rest.map (gx_cv evI evL (gx_ad od mo base)) = (w.toList ++ rest).map (gx_cv evI evL (gx_ad od mo base)) := by
        rw [hv] at hoc
        cases w with
        | none => simp only [gx_oc, Outcome.returned.injEq] at hoc; rw [hoc]; simp
        | some w => simp only [gx_oc, Outcome.returned.injEq] at hoc; rw [hoc]; simp
      show Steps p.tables e below (T'.setTop (F0 m (pc + 3) ls (v.toList ++ rest.map (gx_cv evI evL (gx_ad od mo base))))) t2
      rw [this]
      exact k1
    | inr k => rw [hv] at hoc; simp [gx_oc] at hoc
  · obtain ⟨ro, rh⟩ := r
    cases ro with
    | inl w => rw [hv] at hoc; cases w <;> simp [gx_oc] at hoc
    | inr k =>
      obtain ⟨t2, k1, k2⟩ := hK
      refine ⟨t2, fun acts => (hst acts).trans ?_, k2⟩
      have : x = gx_ad od mo base k := by
        rw [hv] at hoc
        simpa [gx_oc] using hoc
      rw [this]
      exact k1
theorem gx_w_c0 {idx : Nat} (hg : gx_gL G cl Tb) (hY : gx_gY G cl Tb) (hTb : ∀ w ∈ Tb, goodWord w = true) (hbase : s0.heap.size = base) (hAn : gx_An s0 s) (hcx : gx_cx cl Tb M p s m args meth c) (hmt : gx_mt G (gx_ow M) idx = some (0, j)) (hM : gx_mm G j = some M') (hlen : as.length = gx_na M') (hcon : gx_con cl dC dI od mo base evI evL ok Tb s0 l d M' as h rs c1 s1)
    (hs : gx_sd cl dC dI od mo base evI evL s (gx_ml M) lv h H locs ls) (hdg : decode (gx_cc M) pc = .ok (.invokestatic idx, 3)) (hwd : gx_wd rest ≤ 8) (hR : d + 11 ≤ R.frames ∧ 64 * d + 264 ≤ R.locals) (hC : cells + c1 ≤ R.cells) (hS : slots + s1 ≤ R.slots)
    (hk : ∀ r ∈ rs, ok r.2.2 → gx_KC cl dC dI od mo base evI evL p l e R s m args below meth c (gx_ml M) Q lv rest ls pc (cells + c1) (slots + s1) r) :
    W p l e R s m args below meth c H locs cells slots Q (F0 m pc ls ((as.reverse ++ rest).map (gx_cv evI evL (gx_ad od mo base)))) := by
  intro T hT X
  subst hT
  obtain ⟨hx, hb, hml, ⟨ro, hro, hown⟩, hts, -⟩ := hcx
  obtain ⟨ro', M2, e1, e2, lk, stc, np⟩ := hg.1 _ _ _ hmt
  have : ro' = ro := Option.some.inj (e1.symm.trans hro)
  subst this
  have : M2 = M' := Option.some.inj (e2.symm.trans hM)
  subst this
  obtain ⟨-, h3, h4, -, h5, -⟩ := hY j M2 hM
  obtain ⟨mk, methM, cM, hnamed, hmethM, -, -, -, -, -, -, hsigM⟩ := gx_code hts h3
  have hstatic : methM.isStatic = true := Cond.static_spec hnamed hmethM (hts _ stc)
  obtain ⟨kP, hkP, -⟩ := className_of_methodNamed hnamed
  have hinitP : kP.init = .initialized := Cond.initialized_spec (findClass_of_methodNamed hnamed) hkP (hts _ h4)
  have hl2 : (as.map (gx_cv evI evL (gx_ad od mo base))).length = methM.sig.parameters.length := by
    unfold gx_np at np
    rw [hsigM] at np
    rw [List.length_map, hlen]
    exact (Option.some.inj np).symm
  obtain ⟨vm₁, X₁, hstep₁⟩ := X.invokestatic hx hown (hts _ lk) hnamed hmethM hstatic hkP hinitP h5 (g := F0 m pc ls ((as.reverse ++ rest).map (gx_cv evI evL (gx_ad od mo base)))) rfl (argsL := as.map (gx_cv evI evL (gx_ad od mo base))) (rest := rest.map (gx_cv evI evL (gx_ad od mo base))) hl2 (by show (as.reverse ++ rest).map _ = _; rw [List.map_append, List.map_reverse]) (by rw [hb]; exact hdg)
  obtain ⟨t, hst, hq⟩ := gx_call1 (U := T.setVm vm₁) hY hM hTb hbase hAn hts hcon X₁ hs hml (X₁.named hnamed) (by rw [hb]; exact hdg) hwd hR hC hS hk
  exact ⟨t, hstep₁ t hst, hq⟩
theorem gx_w_c1 {idx a : Nat} {as' : List (gx_V α β)} (hg : gx_gL G cl Tb) (hY : gx_gY G cl Tb) (hKn : gx_Kn cl dC dI s) (hTb : ∀ w ∈ Tb, goodWord w = true) (hbase : s0.heap.size = base) (hAn : gx_An s0 s) (hcx : gx_cx cl Tb M p s m args meth c) (hmt : gx_mt G (gx_ow M) idx = some (1, j)) (hM : gx_mm G j = some M') (has : as = .inr (.inr (some a)) :: as') (hcls : gx_cls h a = some (gx_ow M')) (hlen : as.length = gx_na M') (hcon : gx_con cl dC dI od mo base evI evL ok Tb s0 l d M' as h rs c1 s1)
    (hs : gx_sd cl dC dI od mo base evI evL s (gx_ml M) lv h H locs ls) (hdg : decode (gx_cc M) pc = .ok (.invokevirtual idx, 3)) (hwd : gx_wd rest ≤ 8) (hR : d + 11 ≤ R.frames ∧ 64 * d + 264 ≤ R.locals) (hC : cells + c1 ≤ R.cells) (hS : slots + s1 ≤ R.slots)
    (hk : ∀ r ∈ rs, ok r.2.2 → gx_KC cl dC dI od mo base evI evL p l e R s m args below meth c (gx_ml M) Q lv rest ls pc (cells + c1) (slots + s1) r) :
    W p l e R s m args below meth c H locs cells slots Q (F0 m pc ls ((as.reverse ++ rest).map (gx_cv evI evL (gx_ad od mo base)))) := by
  intro T hT X
  subst hT
  obtain ⟨hx, hb, hml, ⟨ro, hro, hown⟩, hts, -⟩ := hcx
  obtain ⟨ro', M2, n, e1, e2, lk, ins, sel, hna, np⟩ := hg.2.1 _ _ _ hmt
  have : ro' = ro := Option.some.inj (e1.symm.trans hro)
  subst this
  have : M2 = M' := Option.some.inj (e2.symm.trans hM)
  subst this
  obtain ⟨⟨r2, hr2, hyc⟩, h3, h4, -, h5, -⟩ := hY j M2 hM
  obtain ⟨mk, methM, hnamed, hmethM, hstM, habM⟩ := Cond.instanceMethod_spec (hts _ ins)
  obtain ⟨mk', methM', cM, hnamed', hmethM', -, -, -, -, -, -, hsigM⟩ := gx_code hts h3
  cases hnamed.symm.trans hnamed'
  cases hmethM.symm.trans hmethM'
  have hobj : ∃ cell : Cell, T.heap[gx_ad od mo base a]? = some cell ∧ cell.vm.isStatics = false ∧ s.vm.findClass (gx_y M2).cls = some cell.cls := by
    unfold gx_cls at hcls
    split at hcls
    · rename_i ci fs hac
      cases hcls
      rcases hs.1.2.2 a _ hac with hbad | ⟨cell, c1, c2, c3, -⟩
      · exact absurd (List.getElem?_eq_some_iff.mp hr2).1 (Nat.not_lt.mpr hbad)
      · exact ⟨cell, c1, by rw [c3]; rfl, by rw [hyc, c2]; exact (hKn _ _ hr2).2⟩
    · cases hcls
  obtain ⟨cellB, hcell, hob, hclsB⟩ := hobj
  obtain ⟨c2, r2', m2, q1, q2, q3, q4, kP, hkP, hkPi⟩ := Cond.selects_spec (hts _ sel)
  cases hclsB.symm.trans q1
  cases (State.methodFound?_of_named hnamed h5).symm.trans q2
  cases hnamed.symm.trans q3
  have hselP : selectMethod e.platform s.vm cellB.cls mk = .method mk := by rw [Launch.admits_selectMethod X.admits]; exact q4
  have hl2 : (as'.map (gx_cv evI evL (gx_ad od mo base))).length = methM.sig.parameters.length := by
    unfold gx_np at np
    rw [hsigM] at np
    rw [has, List.length_cons, hna] at hlen
    rw [List.length_map]
    have : n = methM.sig.parameters.length := (Option.some.inj np).symm
    omega
  obtain ⟨vm₁, X₁, hstep₁⟩ := X.invokevirtual hx hown (hts _ lk) hnamed hmethM hstM hkP hkPi h5 (a := gx_ad od mo base a) (cell := cellB) hcell (fun z hz => by rw [hz] at hob; cases hob) hselP hmethM habM hkP hkPi (g := F0 m pc ls ((as.reverse ++ rest).map (gx_cv evI evL (gx_ad od mo base)))) rfl (argsL := as'.map (gx_cv evI evL (gx_ad od mo base))) (rest := rest.map (gx_cv evI evL (gx_ad od mo base))) hl2 (by show (as.reverse ++ rest).map _ = _; rw [has]; simp [gx_cv]) (by rw [hb]; exact hdg)
  obtain ⟨t, hst, hq⟩ := gx_call1 (U := T.setVm vm₁) hY hM hTb hbase hAn hts hcon X₁ hs hml (X₁.named hnamed) (by rw [hb]; exact hdg) hwd hR hC hS hk
  refine ⟨t, hstep₁ t (fun acts => ?_), hq⟩
  have := hst acts
  rw [has] at this
  exact this
theorem gx_w_c2 {idx a : Nat} {as' : List (gx_V α β)} (hg : gx_gL G cl Tb) (hY : gx_gY G cl Tb) (hNs : gx_Ns G cl s) (hTb : ∀ w ∈ Tb, goodWord w = true) (hbase : s0.heap.size = base) (hAn : gx_An s0 s) (hcx : gx_cx cl Tb M p s m args meth c) {kd : Nat} (hkd : kd = 2 ∨ kd = 7) (hmt : gx_mt G (gx_ow M) idx = some (kd, j)) (hM : gx_mm G j = some M') (has : as = .inr (.inr (some a)) :: as') (hlen : as.length = gx_na M') (hcon : gx_con cl dC dI od mo base evI evL ok Tb s0 l d M' as h rs c1 s1)
    (hs : gx_sd cl dC dI od mo base evI evL s (gx_ml M) lv h H locs ls) (hdg : decode (gx_cc M) pc = .ok (.invokespecial idx, 3)) (hwd : gx_wd rest ≤ 8) (hR : d + 11 ≤ R.frames ∧ 64 * d + 264 ≤ R.locals) (hC : cells + c1 ≤ R.cells) (hS : slots + s1 ≤ R.slots)
    (hk : ∀ r ∈ rs, ok r.2.2 → gx_KC cl dC dI od mo base evI evL p l e R s m args below meth c (gx_ml M) Q lv rest ls pc (cells + c1) (slots + s1) r) :
    W p l e R s m args below meth c H locs cells slots Q (F0 m pc ls ((as.reverse ++ rest).map (gx_cv evI evL (gx_ad od mo base)))) := by
  intro T hT X
  subst hT
  obtain ⟨hx, hb, hml, ⟨ro, hro, hown⟩, hts, -⟩ := hcx
  have hpl : e.platform.magicAccessors = ({} : Platform).magicAccessors := by rw [X.admits.platform]
  obtain ⟨-, h3, h4, -, h5, -⟩ := hY j M' hM
  have fin : ∀ {n : Nat} (vm₁ : Vm) (mk : MethodId), s.methodNamed? (gx_y M') = some mk → s.WarmedH vm₁ → (∀ target, (∀ acts, Steps p.tables e below (doInvoke e ((T.setVm vm₁).setTop (F0 m pc ls (rest.map (gx_cv evI evL (gx_ad od mo base))))) acts mk (as.map (gx_cv evI evL (gx_ad od mo base))).toArray).1 target) → Steps p.tables e below (T.setTop (F0 m pc ls ((as.reverse ++ rest).map (gx_cv evI evL (gx_ad od mo base))))) target) → ∃ t, Steps p.tables e below (T.setTop (F0 m pc ls ((as.reverse ++ rest).map (gx_cv evI evL (gx_ad od mo base))))) t ∧ Q t := by
    intro n vm₁ mk hnamed hW₁ hstep₁
    have X₁ := X.noted hW₁
    obtain ⟨t, hst, hq⟩ := gx_call1 (U := T.setVm vm₁) hY hM hTb hbase hAn hts hcon X₁ hs hml (X₁.named hnamed) (by rw [hb]; exact hdg) hwd hR hC hS hk
    exact ⟨t, hstep₁ t hst, hq⟩
  have hstk : (F0 m pc ls ((as.reverse ++ rest).map (gx_cv evI evL (gx_ad od mo base)))).stack = (as'.map (gx_cv evI evL (gx_ad od mo base))).reverse ++ .ref (gx_ad od mo base a) :: rest.map (gx_cv evI evL (gx_ad od mo base)) := by
    show (as.reverse ++ rest).map _ = _
    rw [has]
    simp [gx_cv]
  have hlk : ∀ n, gx_na M' = n + 1 → gx_np M' n → ∀ sig, parseMethodDescriptor (gx_y M').desc = some sig → (as'.map (gx_cv evI evL (gx_ad od mo base))).length = sig.parameters.length := by
    intro n hna np sig hsig
    unfold gx_np at np
    rw [hsig] at np
    rw [has, List.length_cons, hna] at hlen
    rw [List.length_map]
    have : n = sig.parameters.length := (Option.some.inj np).symm
    omega
  rcases hkd with rfl | rfl
  · obtain ⟨ro', M2, n, e1, e2, lk, ins, cod, nm, hna, np⟩ := hg.2.2.1 _ _ _ hmt
    have : ro' = ro := Option.some.inj (e1.symm.trans hro)
    subst this
    have : M2 = M' := Option.some.inj (e2.symm.trans hM)
    subst this
    obtain ⟨mk, methM, cM, kP, vm₁, hnamed, -, -, -, -, -, -, -, hW₁, hstep₁⟩ := Steps.initColdArgs (e := e) X.here hx X.warmed hpl hown nm h5 (hts _ lk) (hts _ ins) (hts _ cod) (f := F0 m pc ls ((as.reverse ++ rest).map (gx_cv evI evL (gx_ad od mo base)))) rfl (hlk n hna np) hstk (by rw [hb]; exact hdg)
    refine fin (n := n) vm₁ mk hnamed hW₁ (fun target hh => hstep₁ target (fun acts => ?_))
    have := hh acts
    rw [has] at this
    exact this
  · obtain ⟨M2, n, e2, ins, cod, nm, hna, np⟩ := hg.2.2.2 _ _ _ hmt
    have : M2 = M' := Option.some.inj (e2.symm.trans hM)
    subst this
    obtain ⟨ro', M3, host, e1, e3, nw⟩ := hNs _ _ _ hmt
    have : ro' = ro := Option.some.inj (e1.symm.trans hro)
    subst this
    have : M3 = M2 := Option.some.inj (e3.symm.trans hM)
    subst this
    obtain ⟨mk, methM, cM, kP, vm₁, hnamed, -, -, -, -, -, -, -, hW₁, hstep₁⟩ := Steps.initColdArgsNest (e := e) X.here hx X.warmed hpl hown nm h5 (va_Nw.use rfl nw) (hts _ ins) (hts _ cod) (f := F0 m pc ls ((as.reverse ++ rest).map (gx_cv evI evL (gx_ad od mo base)))) rfl (hlk n hna np) hstk (by rw [hb]; exact hdg)
    refine fin (n := n) vm₁ mk hnamed hW₁ (fun target hh => hstep₁ target (fun acts => ?_))
    have := hh acts
    rw [has] at this
    exact this
end GXC
end
section
section GXZ
variable {α β π : Type}
variable {G : gx_G} {D : gx_D α β π} {M : gx_M} {cl : List vw_C} {Tb : List Cond}
theorem gx_ca_inv {kds : List Nat} {ow idx kd j kc ks : Nat} {st as rest : List (gx_V α β)} {h : gx_H α β} (hi : (gx_ca G kds ow idx st h : gx_S α β π) = some (.inr (.inr (kd, j, as, rest)), kc, ks)) :
    kds.contains kd = true ∧ gx_mt G ow idx = some (kd, j) ∧ ∃ M', gx_mm G j = some M' ∧ st = as.reverse ++ rest ∧ as.length = gx_na M' ∧ gx_wd rest ≤ 8 ∧ gx_wd as ≤ gx_ml M' ∧ gx_rc h kd (gx_ow M') as = true := by
  unfold gx_ca at hi
  split at hi
  · rename_i k2 j2 hmt
    split at hi
    · rename_i hc
      split at hi
      · rename_i M' hM
        split at hi
        · rename_i hq
          obtain ⟨q1, q2, q3, q4⟩ := hq
          simp only [Option.some.injEq, Prod.mk.injEq, Sum.inr.injEq] at hi
          obtain ⟨⟨rfl, rfl, rfl, rfl⟩, -, -⟩ := hi
          exact ⟨hc, hmt, M', hM, by rw [List.reverse_reverse, List.take_append_drop], by rw [List.length_reverse, List.length_take]; omega, q2, q3, q4⟩
        · cases hi
      · cases hi
    · cases hi
  · cases hi
theorem gx_i_call {i : Instr} {mo pc kd j kc ks : Nat} {lv : gx_L α β} {st as rest : List (gx_V α β)} {h : gx_H α β} {P : π} (hi : gx_i G D mo M i pc lv st h P = some (.inr (.inr (kd, j, as, rest)), kc, ks)) :
    ∃ idx, ((i = .invokestatic idx ∧ kd = 0) ∨ (i = .invokevirtual idx ∧ kd = 1) ∨ (i = .invokespecial idx ∧ (kd = 2 ∨ kd = 7))) ∧ gx_mt G (gx_ow M) idx = some (kd, j) ∧ ∃ M', gx_mm G j = some M' ∧ st = as.reverse ++ rest ∧ as.length = gx_na M' ∧ gx_wd rest ≤ 8 ∧ gx_wd as ≤ gx_ml M' ∧ gx_rc h kd (gx_ow M') as = true := by
  cases i
  case invokestatic idx =>
    simp only [gx_i, gx_iv] at hi
    split at hi
    · exfalso
      unfold gx_cp at hi
      repeat' split at hi
      all_goals first | (cases hi; done) | (simp [gx_g1] at hi; done)
    · obtain ⟨h1, h2, h3⟩ := gx_ca_inv hi
      exact ⟨idx, Or.inl ⟨rfl, by simpa using h1⟩, h2, h3⟩
  case invokevirtual idx =>
    simp only [gx_i] at hi
    obtain ⟨h1, h2, h3⟩ := gx_ca_inv hi
    exact ⟨idx, Or.inr (Or.inl ⟨rfl, by simpa using h1⟩), h2, h3⟩
  case invokespecial idx =>
    simp only [gx_i, gx_sp] at hi
    split at hi
    · exfalso
      repeat' split at hi
      all_goals first | (cases hi; done) | (simp [gx_g1] at hi; done)
    · obtain ⟨h1, h2, h3⟩ := gx_ca_inv hi
      exact ⟨idx, Or.inr (Or.inr ⟨rfl, by simpa using h1⟩), h2, h3⟩
  case tableswitch dflt lo hi0 offs =>
    simp only [gx_i] at hi
    split at hi
    · exact absurd hi gx_ts_not
    · cases hi
  all_goals
    exfalso
    simp only [gx_i, gx_ld, gx_sv, gx_sl, gx_b2, gx_dv, gx_u1, gx_l2, gx_br, gx_b1, gx_bc, gx_al, gx_as, gx_asl, gx_asr, gx_gf, gx_pf, gx_na0, gx_nw0, gx_ex, gx_kc, gx_k2, gx_g1, gx_go, gx_rn, gx_rl, gx_ra, gx_rv, gx_fin] at hi
    repeat' split at hi
    all_goals first | (cases hi; done) | (simp at hi; done)
theorem gx_all_ok : ∀ {xs : List (gx_A α β π)} {rs : List (gx_R α β π)} {c s : Nat}, gx_all xs = some (rs, c, s) → ∀ x ∈ xs, ∃ rx cx sx, x = some (rx, cx, sx) ∧ (∀ r ∈ rx, r ∈ rs) ∧ cx ≤ c ∧ sx ≤ s
  | [], _, _, _, _, x, hx => by cases hx
  | none :: _, _, _, _, hi, _, _ => by simp [gx_all] at hi
  | some (a, c0, s0) :: t, rs, c, s, hi, x, hx => by
    simp only [gx_all] at hi
    split at hi
    · rename_i a2 c2 s2 ht
      simp only [Option.some.injEq, Prod.mk.injEq] at hi
      obtain ⟨rfl, rfl, rfl⟩ := hi
      rcases List.mem_cons.mp hx with rfl | hx
      · exact ⟨a, c0, s0, rfl, fun r hr => List.mem_append_left _ hr, Nat.le_max_left _ _, Nat.le_max_left _ _⟩
      · obtain ⟨rx, cx, sx, h1, h2, h3, h4⟩ := gx_all_ok ht x hx
        exact ⟨rx, cx, sx, h1, fun r hr => List.mem_append_right _ (h2 r hr), Nat.le_trans h3 (Nat.le_max_right _ _), Nat.le_trans h4 (Nat.le_max_right _ _)⟩
    · cases hi
theorem gx_add_inv {c s c1 s1 : Nat} {x : gx_A α β π} {rs : List (gx_R α β π)} (hi : gx_add c s x = some (rs, c1, s1)) : ∃ c2 s2, x = some (rs, c2, s2) ∧ c1 = c + c2 ∧ s1 = s + s2 := by
  unfold gx_add at hi
  rw [Option.map_eq_some_iff] at hi
  obtain ⟨⟨r, a, b⟩, h1, h2⟩ := hi
  simp only [Prod.mk.injEq] at h2
  obtain ⟨rfl, rfl, rfl⟩ := h2
  exact ⟨a, b, h1, rfl, rfl⟩
end GXZ
end
section
section GXQ
variable {α β π : Type}
variable {cl : List vw_C} {dC : Nat → ClassId} {dI : Nat → Nat → Nat} {od : Nat → Nat} {mo base : Nat} {evI : α → Int32} {evL : β → Int64} {ok : π → Prop} {D : gx_D α β π} {G : gx_G} {Tb : List Cond} {s0 : State} {l : Launch}
variable {E : Nat → Nat → List (gx_V α β) → gx_H α β → π → gx_A α β π}
theorem gx_hd_sb {ow pc ce : Nat} : ∀ {hs : List (Nat × Nat × Nat × Nat)} {t : Nat}, gx_hd G ow pc ce hs = some t → ∃ ci b, gx_sb G ce ci = some b
  | [], _, hh => by simp [gx_hd] at hh
  | (a, b, t0, x) :: hs, t, hh => by
    simp only [gx_hd] at hh
    split at hh
    · split at hh
      · cases hh
      · rename_i ci hcs
        split at hh
        · rename_i hsb
          exact ⟨ci, true, hsb⟩
        · rename_i hsb
          exact ⟨ci, false, hsb⟩
        · cases hh
    · exact gx_hd_sb hh
/-- THE RUN IS SOUND: what it finds is what the machine does -/
theorem gx_walk (hl : gx_law D evI evL ok) (hod : ∀ j, j < mo → od j < base) (hbase : s0.heap.size = base) (hg : gx_gd G cl Tb) (hY : gx_gY G cl Tb) (hL : gx_gL G cl Tb) (hN6 : ∀ ci tys n, gx_kl G ci = some (tys, n) → tys.length = n ∨ n = 6) (hTb : ∀ w ∈ Tb, goodWord w = true) (hF0 : gx_F G cl Tb dC dI od mo s0) (hfl : l.flags = pinnedFlags ++ [noTraceFlag])
    (hE : ∀ d j as h P rs c1 s1 M, E d j as h P = some (rs, c1, s1) → ok P → gx_mm G j = some M → gx_wd as ≤ gx_ml M → gx_con cl dC dI od mo base evI evL ok Tb s0 l d M as h rs c1 s1) :
    ∀ (n d : Nat) (M : gx_M) (pc : Nat) (lv : gx_L α β) (st : List (gx_V α β)) (h : gx_H α β) (P : π) (rs : List (gx_R α β π)) (c1 s1 : Nat), gx_run G D mo E n d M pc lv st h P = some (rs, c1, s1) →
      ∀ (p : Program) (e : Env) (R : Room) (s : State) (m : MethodId) (args : Array Value) (below : List Frame) (meth : Method) (c : Code) (Q : State → Prop) (K N cells slots : Nat) (H : Heap) (locs : List Loc) (ls : Array Slot), gx_cx cl Tb M p s m args meth c → gx_An s0 s → d + 10 ≤ R.frames ∧ 64 * d + 200 ≤ R.locals → cells + c1 ≤ K → slots + s1 ≤ N → K ≤ R.cells → N ≤ R.slots → ok P →
        gx_sd cl dC dI od mo base evI evL s (gx_ml M) lv h H locs ls → (∀ r ∈ rs, ok r.2.2 → gx_En cl dC dI od mo base evI evL s below Q K N r) → W p l e R s m args below meth c H locs cells slots Q (F0 m pc ls (st.map (gx_cv evI evL (gx_ad od mo base)))) := by
  intro n
  induction n with
  | zero => intro d M pc lv st h P rs c1 s1 hrun; simp [gx_run] at hrun
  | succ n ih =>
    intro d M pc lv st h P rs c1 s1 hrun p e R s m args below meth c Q K N cells slots H locs ls hcx hAn hR hC hS hKR hNR hok hs hEn
    have hFs := gx_F_moved hTb hAn hF0
    simp only [gx_run] at hrun
    split at hrun
    · cases hrun
    · rename_i ns kc ks hst
      obtain ⟨c2, s2, hall, rfl, rfl⟩ := gx_add_inv hrun
      unfold gx_st at hst
      split at hst
      · rename_i i hat
        obtain ⟨len, hd, hlen⟩ := hcx.2.2.2.2.2.2.2.2.1 pc i hat
        refine gx_i_go hl hod hg hFs hcx hd hlen ⟨by omega, by omega⟩ hst (by omega) (by omega) (fun q hq => ?_) hok hs
        obtain ⟨rx, cx, sx, h1, h2, h3, h4⟩ := gx_all_ok hall _ (List.mem_map.mpr ⟨q, hq, rfl⟩)
        intro hokq H' locs' ls' hs'
        exact ih d M q.1 q.2.1 q.2.2.1 q.2.2.2.1 q.2.2.2.2 rx cx sx h1 p e R s m args below meth c Q K N (cells + kc) (slots + ks) H' locs' ls' hcx hAn hR (by omega) (by omega) hKR hNR hokq hs' (fun r hr => hEn r (h2 r hr))
      · cases hst
    · rename_i r kc ks hst
      simp only [Option.some.injEq, Prod.mk.injEq] at hrun
      obtain ⟨rfl, rfl, rfl⟩ := hrun
      unfold gx_st at hst
      split at hst
      · rename_i i hat
        obtain ⟨len, hd, hlen⟩ := hcx.2.2.2.2.2.2.2.2.1 pc i hat
        by_cases hnew : ∃ idx, i = .new idx
        · obtain ⟨idx, rfl⟩ := hnew
          have e1 : len = 3 := by rcases hlen with h0 | h0; cases h0; exact h0
          subst e1
          simp only [gx_i, gx_nw0] at hst
          split at hst
          · rename_i ci hcs
            split at hst
            · rename_i tys n6 hkl
              split at hst
              · simp at hst
              · rename_i hne
                have hn6 : n6 = 6 := (hN6 _ _ _ hkl).resolve_left hne
                obtain ⟨_, _, _, -, -, -, -, -, -, -, -, hr, -, -⟩ := gx_ex_inv hst
                exact gx_w_ex hl hod hbase hg hTb hF0 hAn hfl hcx hd ⟨by omega, by omega⟩ hcs hkl hn6 hst hC hS hKR hNR (hEn r List.mem_cons_self (by rw [hr]; exact hok)) hok hs
            · cases hst
          · cases hst
        · have h9 := fun (hE1 : gx_En cl dC dI od mo base evI evL s below Q K N r) => gx_i_end (p := p) (l := l) (e := e) (R := R) (m := m) (args := args) (below := below) (Q := Q) (cells := cells) (slots := slots) (K := K) (N := N) (H := H) (locs := locs) (ls := ls) hl hcx hd hlen (fun idx hh => hnew ⟨idx, hh⟩) hst (by omega) (by omega) hE1 hok hs
          have hP : r.2.2 = P := by
            have := gx_i_end (p := p) (l := l) (e := e) (R := R) (m := m) (args := args) (below := below) (Q := fun _ => True) (cells := cells) (slots := slots) (K := K) (N := N) (H := H) (locs := locs) (ls := ls) hl hcx hd hlen (fun idx hh => hnew ⟨idx, hh⟩) hst (by omega) (by omega) (fun _ _ _ _ _ _ _ _ _ _ _ _ => trivial) hok hs
            exact this.2
          exact (h9 (hEn r List.mem_cons_self (by rw [hP]; exact hok))).1
      · cases hst
    · rename_i kd j as rest kc ks hst
      split at hrun
      · cases hrun
      · rename_i rsC cC sC hcal
        obtain ⟨c2, s2, hall, rfl, rfl⟩ := gx_add_inv hrun
        unfold gx_st at hst
        split at hst
        · rename_i i hat
          obtain ⟨len, hd, hlen⟩ := hcx.2.2.2.2.2.2.2.2.1 pc i hat
          obtain ⟨idx, hkind, hmt, M', hM', rfl, hlas, hwr, hwa, hrc⟩ := gx_i_call hst
          have hdp : ∃ d', d = d' + 1 ∧ gx_con cl dC dI od mo base evI evL ok Tb s0 l d' M' as h rsC cC sC := by
            split at hcal
            · cases hcal
            · rename_i d'
              refine ⟨d', rfl, ?_⟩
              split at hcal
              · rename_i q hEq
                cases hcal
                exact hE d' j as h P rsC cC sC M' hEq hok hM' hwa
              · split at hcal
                · rename_i M2 hM2
                  have : M2 = M' := Option.some.inj (hM2.symm.trans hM')
                  subst this
                  refine gx_con_of hY hM' hwa (fun p e s m args below meth c Q ls hcx' hAn' hs' hEn' => ?_)
                  exact ih d' M2 0 (gx_args 0 as) [] h P rsC cC sC hcal p e (gx_rm d' cC sC) s m args below meth c Q cC sC 0 0 s.heap [] ls hcx' hAn' ⟨Nat.le_refl _, Nat.le_refl _⟩ (by omega) (by omega) (Nat.le_refl _) (Nat.le_refl _) hok hs' hEn'
                · cases hcal
          obtain ⟨d', rfl, hcon⟩ := hdp
          have hKC : ∀ r ∈ rsC, ok r.2.2 → gx_KC cl dC dI od mo base evI evL p l e R s m args below meth c (gx_ml M) Q lv rest ls pc (cells + cC) (slots + sC) r := by
            intro r hr hokr T locs' X' hs'
            obtain ⟨rx, cx, sx, h1, h2, h3, h4⟩ := gx_all_ok hall _ (List.mem_map.mpr ⟨r, hr, rfl⟩)
            obtain ⟨ro, rh, rP⟩ := r
            cases ro with
            | inl v =>
              simp only at h1
              exact ih (d' + 1) M (pc + 3) lv (v.toList ++ rest) rh rP rx cx sx h1 p e R s m args below meth c Q K N (cells + cC) (slots + sC) T.heap locs' ls hcx hAn hR (by omega) (by omega) hKR hNR hokr hs' (fun r' hr' => hEn r' (h2 r' hr')) T rfl X'
            | inr k =>
              simp only at h1 ⊢
              split at h1
              · rename_i hou
                simp only [Option.some.injEq, Prod.mk.injEq] at h1
                obtain ⟨rfl, -, -⟩ := h1
                have hout : ∀ x ∈ c.exceptionTable.toList, covers x pc = false := by
                  intro x hx
                  have h5 := List.all_eq_true.mp hou (x.startPc, x.endPc, x.handlerPc, x.catchType) (by rw [← hcx.2.2.2.2.2.2.2.2.2]; exact List.mem_map.mpr ⟨x, hx, rfl⟩)
                  simp [covers] at h5 ⊢
                  omega
                obtain ⟨w1, w2, w3, w4, w5⟩ := X'.leaveThrown (gx_ad od mo base k) (g := F0 m pc ls (rest.map (gx_cv evI evL (gx_ad od mo base)))) rfl rfl rfl hout hcx.2.2.2.2.2.2.2.1
                refine ⟨_, w1, ?_⟩
                exact hEn (.inr k, rh, rP) (h2 _ List.mem_cons_self) hokr _ locs' (cells + cC) (slots + sC) w2 w3 w4 w5 (by omega) (by omega) hs'.1 hs'.2.1
              · split at h1
                · cases h1
                · rename_i ce hce
                  split at h1
                  · rename_i t hhd
                    obtain ⟨hx, hb, hml, ⟨rw0, hro, hown⟩, hts, -, -, -, -, hxt⟩ := id hcx
                    obtain ⟨hKn, -, -, -, hSb, -⟩ := id hFs
                    have hcl : ∃ (rce : vw_C) (cell : Cell), cl[ce]? = some rce ∧ T.heap[gx_ad od mo base k]? = some cell ∧ s.vm.findClass rce.1 = some cell.cls ∧ cell.vm = .none := by
                      obtain ⟨ci, b, hsb⟩ := gx_hd_sb hhd
                      obtain ⟨r1, -, -, -, hr1, -⟩ := hSb _ _ _ hsb
                      unfold gx_cls at hce
                      split at hce
                      · rename_i ci fs hk1
                        cases hce
                        rcases hs'.1.2.2 k _ hk1 with hbad | ⟨cell, q1, q2, q3, -⟩
                        · exact absurd (List.getElem?_eq_some_iff.mp hr1).1 (Nat.not_lt.mpr hbad)
                        · exact ⟨r1, cell, hr1, q1, by rw [q2]; exact (hKn _ _ hr1).2, q3⟩
                      · cases hce
                    obtain ⟨rce, cell, hrce, hcell, hfc, hvn⟩ := hcl
                    have hpl : e.platform.magicAccessors = ({} : Platform).magicAccessors := by rw [X'.admits.platform]
                    rw [← hxt] at hhd
                    obtain ⟨vm', hw', hq⟩ := gx_search (f := F0 m pc ls (rest.map (gx_cv evI evL (gx_ad od mo base)))) (a := gx_ad od mo base k) hpl hg.2.2.1 hts hSb hro hown rfl hrce hfc hvn c.exceptionTable.toList ((T.setTop (F0 m pc ls (rest.map (gx_cv evI evL (gx_ad od mo base))))).pushFrame (.throwing (gx_ad od mo base k))) (by rw [Stand.throwing_heap]; exact hcell) (by rw [Stand.throwing_vm]; exact X'.warmed) t hhd
                    have hFV : gx_FV e ((T.setTop (F0 m pc ls (rest.map (gx_cv evI evL (gx_ad od mo base))))).pushFrame (.throwing (gx_ad od mo base k))) (F0 m pc ls (rest.map (gx_cv evI evL (gx_ad od mo base)))) (gx_ad od mo base k) (.found t) vm' := by
                      intro Q E d acts
                      rw [W.findHandler_eq (meth := meth) (code := c) (by rw [Stand.throwing_vm]; exact X'.method') X'.code, hq]
                    have h8 := ih (d' + 1) M t lv [.inr (.inr (some k))] rh rP rx cx sx h1 p e R s m args below meth c Q K N (cells + cC) (slots + sC) T.heap locs' ls hcx hAn hR (by omega) (by omega) hKR hNR hokr hs' (fun r' hr' => hEn r' (h2 r' hr')) (T.setVm vm') rfl (X'.noted hw')
                    obtain ⟨t2, k1, k2⟩ := h8
                    exact ⟨t2, gx_caught X'.here hFV k1, k2⟩
                  · cases h1
          rcases hkind with ⟨rfl, rfl⟩ | ⟨rfl, rfl⟩ | ⟨rfl, hkd⟩
          · have e1 : len = 3 := by rcases hlen with h0 | h0; cases h0; exact h0
            subst e1
            exact gx_w_c0 hL hY hTb hbase hAn hcx hmt hM' hlas hcon hs hd hwr ⟨by omega, by omega⟩ (by omega) (by omega) hKC
          · have e1 : len = 3 := by rcases hlen with h0 | h0; cases h0; exact h0
            subst e1
            unfold gx_rc at hrc
            rw [if_neg (by decide)] at hrc
            split at hrc
            · rename_i a as'
              rw [if_pos rfl] at hrc
              exact gx_w_c1 hL hY hFs.1 hTb hbase hAn hcx hmt hM' rfl (of_decide_eq_true hrc) hlas hcon hs hd hwr ⟨by omega, by omega⟩ (by omega) (by omega) hKC
            · cases hrc
          · have e1 : len = 3 := by rcases hlen with h0 | h0; cases h0; exact h0
            subst e1
            unfold gx_rc at hrc
            rw [if_neg (by omega)] at hrc
            split at hrc
            · rename_i a as'
              exact gx_w_c2 hL hY hFs.2.2.2.1 hTb hbase hAn hcx hkd hmt hM' rfl hlas hcon hs hd hwr ⟨by omega, by omega⟩ (by omega) (by omega) hKC
            · cases hrc
        · cases hst
end GXQ
end
section
abbrev gs_E : Type := Lean.Data.AC.Expr
def gs_ev (xs : Nat → Int32) : gs_E → Int32 × Int64
  | .var n => (if n < 6 then xs n else Int32.ofNat (n - 6), Int64.ofNat n)
  | .op (.var o) a => (if o < 4 then gx_sun o (gs_ev xs a).1 else (gs_ev xs a).2.toInt32, (gs_ev xs a).1.toInt64)
  | .op (.op (.var o) a) b => (if o < 20 then gx_sbi o (gs_ev xs a).1 (gs_ev xs b).1 else lg_cmp (gs_ev xs a).2 (gs_ev xs b).2, gx_slb o (gs_ev xs a).2 (gs_ev xs b).2)
  | .op (.op (.op _ _) _) _ => (0, 0)
abbrev gs_I : Type := Int32 ⊕ gs_E
abbrev gs_J : Type := Int64 ⊕ gs_E
abbrev gs_P : Type := List (gs_E × Int × Int)
def gs_tI : gs_I → gs_E
  | .inl c => .var (c.toUInt32.toNat + 6)
  | .inr e => e
def gs_tL : gs_J → gs_E
  | .inl c => .var c.toUInt64.toNat
  | .inr e => e
def gs_vI (xs : Nat → Int32) : gs_I → Int32
  | .inl c => c
  | .inr e => (gs_ev xs e).1
def gs_vL (xs : Nat → Int32) : gs_J → Int64
  | .inl c => c
  | .inr e => (gs_ev xs e).2
theorem gs_c32 (c : Int32) : Int32.ofNat c.toUInt32.toNat = c := by
  apply Int32.toBitVec_inj.mp
  simp
theorem gs_c64 (c : Int64) : Int64.ofNat c.toUInt64.toNat = c := by
  apply Int64.toBitVec_inj.mp
  simp
theorem gs_tI_ev (xs : Nat → Int32) (a : gs_I) : (gs_ev xs (gs_tI a)).1 = gs_vI xs a := by
  rcases a with c | e
  · simp only [gs_tI, gs_ev, gs_vI]
    rw [if_neg (by omega), Nat.add_sub_cancel]
    exact gs_c32 c
  · rfl
theorem gs_tL_ev (xs : Nat → Int32) (a : gs_J) : (gs_ev xs (gs_tL a)).2 = gs_vL xs a := by
  rcases a with c | e
  · exact gs_c64 c
  · rfl
def gs_eq : gs_E → gs_E → Bool
  | .var a, .var b => a == b
  | .op a b, .op c d => gs_eq a c && gs_eq b d
  | _, _ => false
theorem gs_eq_ok : ∀ {a b : gs_E}, gs_eq a b = true → a = b
  | .var a, .var b, h => by simp only [gs_eq, beq_iff_eq] at h; rw [h]
  | .op a b, .op c d, h => by
    simp only [gs_eq, Bool.and_eq_true] at h
    rw [gs_eq_ok h.1, gs_eq_ok h.2]
  | .var _, .op _ _, h => by simp [gs_eq] at h
  | .op _ _, .var _, h => by simp [gs_eq] at h
def gs_un (o : Nat) : gs_I → gs_I
  | .inl c => .inl (gx_sun o c)
  | .inr e => .inr (.op (.var (min o 3)) e)
def gs_bi (o : Nat) (a b : gs_I) : gs_I := match a, b with
  | .inl x, .inl y => .inl (gx_sbi o x y)
  | a, b => .inr (.op (.op (.var (min o 11)) (gs_tI a)) (gs_tI b))
def gs_lb (o : Nat) (a b : gs_J) : gs_J := match a, b with
  | .inl x, .inl y => .inl (gx_slb o x y)
  | a, b => .inr (.op (.op (.var o) (gs_tL a)) (gs_tL b))
def gs_lc (a b : gs_J) : gs_I := match a, b with
  | .inl x, .inl y => .inl (lg_cmp x y)
  | a, b => if gs_eq (gs_tL a) (gs_tL b) then .inl 0 else .inr (.op (.op (.var 20) (gs_tL a)) (gs_tL b))
def gs_il : gs_I → gs_J
  | .inl c => .inl c.toInt64
  | .inr e => .inr (.op (.var 0) e)
def gs_li : gs_J → gs_I
  | .inl c => .inl c.toInt32
  | .inr e => .inr (.op (.var 4) e)
def gs_fn (e : gs_E) : gs_P → Option (Int × Int)
  | [] => none
  | q :: r => if gs_eq q.1 e && decide (q.2.1 ≤ q.2.2) then some q.2 else gs_fn e r
def gs_full : Int × Int := (-2147483648, 2147483647)
def gs_ar (o : Nat) (a b : Int × Int) : Int × Int := match o with
  | 0 => if -2147483648 ≤ a.1 + b.1 ∧ a.2 + b.2 ≤ 2147483647 then (a.1 + b.1, a.2 + b.2) else gs_full
  | 2 => if 0 ≤ a.1 ∧ 0 ≤ b.1 ∧ a.2 * b.2 ≤ 2147483647 then (a.1 * b.1, a.2 * b.2) else gs_full
  | _ => gs_full
def gs_iv (P : gs_P) : gs_E → Int × Int
  | .var n => match gs_fn (.var n) P with
    | some q => q
    | none => if n < 6 then gs_full else ((Int32.ofNat (n - 6)).toInt, (Int32.ofNat (n - 6)).toInt)
  | .op (.op (.var o) a) b => match gs_fn (.op (.op (.var o) a) b) P with
    | some q => q
    | none => gs_ar o (gs_iv P a) (gs_iv P b)
  | e => match gs_fn e P with
    | some q => q
    | none => gs_full
def gs_ok (xs : Nat → Int32) (P : gs_P) : Prop := ∀ q ∈ P, (q.2.1 ≤ q.2.2 → q.2.1 ≤ (gs_ev xs q.1).1.toInt ∧ (gs_ev xs q.1).1.toInt ≤ q.2.2) ∧ (q.2.2 < q.2.1 → (gs_ev xs q.1).1.toInt ≠ q.2.1)
theorem gs_fn_ok (xs : Nat → Int32) (e : gs_E) : ∀ {P : gs_P} {q : Int × Int}, gs_ok xs P → gs_fn e P = some q → q.1 ≤ (gs_ev xs e).1.toInt ∧ (gs_ev xs e).1.toInt ≤ q.2
  | [], _, _, h => by cases h
  | z :: r, q, hok, h => by
    simp only [gs_fn] at h
    split at h
    · rename_i hz
      cases h
      simp only [Bool.and_eq_true, decide_eq_true_eq] at hz
      rw [← gs_eq_ok hz.1]
      exact (hok z List.mem_cons_self).1 hz.2
    · exact gs_fn_ok xs e (fun q hq => hok q (List.mem_cons_of_mem _ hq)) h
theorem gs_full_ok (x : Int32) : gs_full.1 ≤ x.toInt ∧ x.toInt ≤ gs_full.2 := by
  have h1 := Int32.le_toInt x
  have h2 := Int32.toInt_lt x
  simp only [gs_full]
  omega
theorem gs_ar_ok (o : Nat) (a b : Int × Int) (x y : Int32) (hx : a.1 ≤ x.toInt ∧ x.toInt ≤ a.2) (hy : b.1 ≤ y.toInt ∧ y.toInt ≤ b.2) : (gs_ar o a b).1 ≤ (gx_sbi o x y).toInt ∧ (gx_sbi o x y).toInt ≤ (gs_ar o a b).2 := by
  unfold gs_ar
  split
  · split
    · rename_i hc
      show a.1 + b.1 ≤ (x + y).toInt ∧ (x + y).toInt ≤ a.2 + b.2
      rw [Int32.toInt_add, Int.bmod_eq_of_le (by omega) (by omega)]
      omega
    · exact gs_full_ok _
  · split
    · rename_i hc
      show a.1 * b.1 ≤ (x * y).toInt ∧ (x * y).toInt ≤ a.2 * b.2
      have h1 : a.1 * b.1 ≤ x.toInt * y.toInt := Int.mul_le_mul hx.1 hy.1 hc.2.1 (by omega)
      have h2 : x.toInt * y.toInt ≤ a.2 * b.2 := Int.mul_le_mul hx.2 hy.2 (by omega) (by omega)
      have h3 : 0 ≤ a.1 * b.1 := Int.mul_nonneg hc.1 hc.2.1
      rw [Int32.toInt_mul, Int.bmod_eq_of_le (by omega) (by omega)]
      exact ⟨h1, h2⟩
    · exact gs_full_ok _
  · exact gs_full_ok _
theorem gs_ar_full (o : Nat) (a b : Int × Int) (h : 20 ≤ o) : gs_ar o a b = gs_full := by
  unfold gs_ar
  split
  · omega
  · omega
  · rfl
theorem gs_iv_ok (xs : Nat → Int32) {P : gs_P} (hok : gs_ok xs P) : ∀ (e : gs_E), (gs_iv P e).1 ≤ (gs_ev xs e).1.toInt ∧ (gs_ev xs e).1.toInt ≤ (gs_iv P e).2
  | .var n => by
    simp only [gs_iv]
    split
    · rename_i q hq
      exact gs_fn_ok xs _ hok hq
    · split
      · exact gs_full_ok _
      · rename_i hn
        simp only [gs_ev]
        rw [if_neg hn]
        exact ⟨Int.le_refl _, Int.le_refl _⟩
  | .op (.op (.var o) a) b => by
    simp only [gs_iv]
    split
    · rename_i q hq
      exact gs_fn_ok xs _ hok hq
    · by_cases ho : o < 20
      · simp only [gs_ev]
        rw [if_pos ho]
        exact gs_ar_ok o _ _ _ _ (gs_iv_ok xs hok a) (gs_iv_ok xs hok b)
      · rw [gs_ar_full o _ _ (by omega)]
        exact gs_full_ok _
  | .op (.var o) a => by
    simp only [gs_iv]
    split
    · rename_i q hq
      exact gs_fn_ok xs _ hok hq
    · exact gs_full_ok _
  | .op (.op (.op _ _) _) _ => by
    simp only [gs_iv]
    split
    · rename_i q hq
      exact gs_fn_ok xs _ hok hq
    · exact gs_full_ok _
/-- the two halves of a comparison with a constant -/
def gs_cut (o : Nat) (lo hi c : Int) : List (Bool × Int × Int) := match o with
  | 0 => [(true, max lo c, min hi c), (false, if c = lo then lo + 1 else lo, if c = hi then hi - 1 else hi)]
  | 1 => [(false, max lo c, min hi c), (true, if c = lo then lo + 1 else lo, if c = hi then hi - 1 else hi)]
  | 2 => [(true, lo, min hi (c - 1)), (false, max lo c, hi)]
  | 3 => [(false, lo, min hi (c - 1)), (true, max lo c, hi)]
  | 4 => [(true, max lo (c + 1), hi), (false, lo, min hi c)]
  | _ => [(false, max lo (c + 1), hi), (true, lo, min hi c)]
theorem gs_cut_ok (o : Nat) (lo hi : Int) (x y : Int32) (h : lo ≤ x.toInt ∧ x.toInt ≤ hi) : ∃ q ∈ gs_cut o lo hi y.toInt, q.2.1 ≤ x.toInt ∧ x.toInt ≤ q.2.2 ∧ q.1 = gx_scm o x y := by
  have heq : (x = y) ↔ x.toInt = y.toInt := Int32.toInt_inj.symm
  have hlt : (x < y) ↔ x.toInt < y.toInt := Int32.lt_iff_toInt_lt
  have hle : (y ≤ x) ↔ y.toInt ≤ x.toInt := Int32.le_iff_toInt_le
  have hlt' : (y < x) ↔ y.toInt < x.toInt := Int32.lt_iff_toInt_lt
  have hle' : (x ≤ y) ↔ x.toInt ≤ y.toInt := Int32.le_iff_toInt_le
  unfold gs_cut gx_scm
  split
  · by_cases e : x = y
    · exact ⟨_, List.mem_cons_self, by dsimp only; have := heq.mp e; omega, by dsimp only; have := heq.mp e; omega, by simp [e]⟩
    · have e' : ¬ x.toInt = y.toInt := fun z => e (heq.mpr z)
      exact ⟨_, List.mem_cons_of_mem _ List.mem_cons_self, by dsimp only; split <;> omega, by dsimp only; split <;> omega, by simp [e]⟩
  · by_cases e : x = y
    · exact ⟨_, List.mem_cons_self, by dsimp only; have := heq.mp e; omega, by dsimp only; have := heq.mp e; omega, by simp [e]⟩
    · have e' : ¬ x.toInt = y.toInt := fun z => e (heq.mpr z)
      exact ⟨_, List.mem_cons_of_mem _ List.mem_cons_self, by dsimp only; split <;> omega, by dsimp only; split <;> omega, by simp [e]⟩
  · by_cases e : x < y
    · exact ⟨_, List.mem_cons_self, by dsimp only; omega, by dsimp only; have := hlt.mp e; omega, by simp [e]⟩
    · have e' : ¬ x.toInt < y.toInt := fun z => e (hlt.mpr z)
      exact ⟨_, List.mem_cons_of_mem _ List.mem_cons_self, by dsimp only; omega, by dsimp only; omega, by simp [e]⟩
  · by_cases e : y ≤ x
    · exact ⟨_, List.mem_cons_of_mem _ List.mem_cons_self, by dsimp only; have := hle.mp e; omega, by dsimp only; omega, by simp [e]⟩
    · have e' : ¬ y.toInt ≤ x.toInt := fun z => e (hle.mpr z)
      exact ⟨_, List.mem_cons_self, by dsimp only; omega, by dsimp only; omega, by simp [e]⟩
  · by_cases e : y < x
    · exact ⟨_, List.mem_cons_self, by dsimp only; have := hlt'.mp e; omega, by dsimp only; omega, by simp [e]⟩
    · have e' : ¬ y.toInt < x.toInt := fun z => e (hlt'.mpr z)
      exact ⟨_, List.mem_cons_of_mem _ List.mem_cons_self, by dsimp only; omega, by dsimp only; omega, by simp [e]⟩
  · by_cases e : x ≤ y
    · exact ⟨_, List.mem_cons_of_mem _ List.mem_cons_self, by dsimp only; omega, by dsimp only; have := hle'.mp e; omega, by simp [e]⟩
    · have e' : ¬ x.toInt ≤ y.toInt := fun z => e (hle'.mpr z)
      exact ⟨_, List.mem_cons_self, by dsimp only; omega, by dsimp only; omega, by simp [e]⟩
def gs_br (b : Bool) (e : gs_E) (lo hi : Int) (P : gs_P) : List (Bool × gs_P) := if hi = lo + 1 then [(b, (e, lo, lo) :: P), (b, (e, hi, hi) :: P)] else if lo ≤ hi then [(b, (e, lo, hi) :: P)] else []
theorem gs_br_ok (xs : Nat → Int32) (b : Bool) (e : gs_E) (lo hi : Int) (P : gs_P) (h : gs_ok xs P) (h1 : lo ≤ (gs_ev xs e).1.toInt) (h2 : (gs_ev xs e).1.toInt ≤ hi) : ∃ q ∈ gs_br b e lo hi P, gs_ok xs q.2 ∧ q.1 = b := by
  have key : ∀ l1 l2 : Int, l1 ≤ (gs_ev xs e).1.toInt → (gs_ev xs e).1.toInt ≤ l2 → gs_ok xs ((e, l1, l2) :: P) := by
    intro l1 l2 g1 g2 z hz
    rcases List.mem_cons.mp hz with rfl | hz
    · exact ⟨fun _ => ⟨g1, g2⟩, fun hlt => by dsimp only at hlt; omega⟩
    · exact h z hz
  unfold gs_br
  split
  · rename_i he
    by_cases hv : (gs_ev xs e).1.toInt = lo
    · exact ⟨_, List.mem_cons_self, key _ _ (by omega) (by omega), rfl⟩
    · exact ⟨_, List.mem_cons_of_mem _ List.mem_cons_self, key _ _ (by omega) (by omega), rfl⟩
  · rw [if_pos (by omega)]
    exact ⟨_, List.mem_cons_self, key _ _ h1 h2, rfl⟩
def gs_kn (e : gs_E) (c : Int) (P : gs_P) : Bool := P.any fun q => gs_eq q.1 e && (decide (q.2.1 = c) && decide (q.2.2 < q.2.1))
theorem gs_kn_ok (xs : Nat → Int32) (e : gs_E) (c : Int) (P : gs_P) (h : gs_ok xs P) (hk : gs_kn e c P = true) : (gs_ev xs e).1.toInt ≠ c := by
  obtain ⟨q, hq, hq2⟩ := List.any_eq_true.mp hk
  simp only [Bool.and_eq_true, decide_eq_true_eq] at hq2
  rw [← gs_eq_ok hq2.1, ← hq2.2.1]
  exact (h q hq).2 hq2.2.2
/-- is it the constant, or not -/
def gs_eqc (b : Bool) (P : gs_P) (e : gs_E) (lo hi c : Int) : List (Bool × gs_P) :=
  (if lo ≤ c ∧ c ≤ hi ∧ gs_kn e c P = false then [(b, (e, c, c) :: P)] else []) ++
  (if c = lo then gs_br (!b) e (lo + 1) hi P else if c = hi then gs_br (!b) e lo (hi - 1) P else [(!b, (e, c, c - 1) :: P)])
theorem gs_eqc_ok (xs : Nat → Int32) (b : Bool) (P : gs_P) (e : gs_E) (lo hi c : Int) (h : gs_ok xs P) (h1 : lo ≤ (gs_ev xs e).1.toInt) (h2 : (gs_ev xs e).1.toInt ≤ hi) : ∃ q ∈ gs_eqc b P e lo hi c, gs_ok xs q.2 ∧ q.1 = (if (gs_ev xs e).1.toInt = c then b else !b) := by
  unfold gs_eqc
  by_cases hv : (gs_ev xs e).1.toInt = c
  · have hk : gs_kn e c P = false := by
      cases hh : gs_kn e c P with
      | false => rfl
      | true => exact absurd hv (gs_kn_ok xs e c P h hh)
    rw [if_pos ⟨by omega, by omega, hk⟩, if_pos hv]
    refine ⟨_, List.mem_append_left _ List.mem_cons_self, ?_, rfl⟩
    intro z hz
    rcases List.mem_cons.mp hz with rfl | hz
    · exact ⟨fun _ => by dsimp only; omega, fun hlt => by dsimp only at hlt; omega⟩
    · exact h z hz
  · rw [if_neg hv]
    by_cases hl : c = lo
    · obtain ⟨q, g1, g2, g3⟩ := gs_br_ok xs (!b) e (lo + 1) hi P h (by omega) h2
      exact ⟨q, List.mem_append_right _ (by rw [if_pos hl]; exact g1), g2, g3⟩
    · by_cases hh : c = hi
      · obtain ⟨q, g1, g2, g3⟩ := gs_br_ok xs (!b) e lo (hi - 1) P h h1 (by omega)
        exact ⟨q, List.mem_append_right _ (by rw [if_neg hl, if_pos hh]; exact g1), g2, g3⟩
      · refine ⟨_, List.mem_append_right _ (by rw [if_neg hl, if_neg hh]; exact List.mem_cons_self), ?_, rfl⟩
        intro z hz
        rcases List.mem_cons.mp hz with rfl | hz
        · exact ⟨fun hlt => by dsimp only at hlt; omega, fun _ => hv⟩
        · exact h z hz
def gs_cc (o : Nat) (P : gs_P) (e : gs_E) (c : Int32) : List (Bool × gs_P) := match o with
  | 0 => gs_eqc true P e (gs_iv P e).1 (gs_iv P e).2 c.toInt
  | 1 => gs_eqc false P e (gs_iv P e).1 (gs_iv P e).2 c.toInt
  | o => (gs_cut o (gs_iv P e).1 (gs_iv P e).2 c.toInt).flatMap fun q => gs_br q.1 e q.2.1 q.2.2 P
theorem gs_cc_ok (xs : Nat → Int32) (o : Nat) (P : gs_P) (e : gs_E) (c : Int32) (h : gs_ok xs P) : ∃ q ∈ gs_cc o P e c, gs_ok xs q.2 ∧ q.1 = gx_scm o (gs_ev xs e).1 c := by
  have hiv := gs_iv_ok xs h e
  have heq : ((gs_ev xs e).1 = c) ↔ (gs_ev xs e).1.toInt = c.toInt := Int32.toInt_inj.symm
  unfold gs_cc
  split
  · obtain ⟨q, g1, g2, g3⟩ := gs_eqc_ok xs true P e _ _ c.toInt h hiv.1 hiv.2
    refine ⟨q, g1, g2, g3.trans ?_⟩
    by_cases hv : (gs_ev xs e).1 = c
    · rw [if_pos (heq.mp hv)]
      simp [gx_scm, hv]
    · rw [if_neg (fun z => hv (heq.mpr z))]
      simp [gx_scm, hv]
  · obtain ⟨q, g1, g2, g3⟩ := gs_eqc_ok xs false P e _ _ c.toInt h hiv.1 hiv.2
    refine ⟨q, g1, g2, g3.trans ?_⟩
    by_cases hv : (gs_ev xs e).1 = c
    · rw [if_pos (heq.mp hv)]
      simp [gx_scm, hv]
    · rw [if_neg (fun z => hv (heq.mpr z))]
      simp [gx_scm, hv]
  · obtain ⟨q, h1, h2, h3, h4⟩ := gs_cut_ok o _ _ (gs_ev xs e).1 c hiv
    obtain ⟨q2, g1, g2, g3⟩ := gs_br_ok xs q.1 e q.2.1 q.2.2 P h h2 h3
    exact ⟨q2, List.mem_flatMap.mpr ⟨q, h1, g1⟩, g2, g3.trans h4⟩
def gs_flip : Nat → Nat
  | 0 => 0
  | 1 => 1
  | 2 => 4
  | 3 => 5
  | 4 => 2
  | _ => 3
theorem gs_flip_ok (o : Nat) (x y : Int32) : gx_scm (gs_flip o) x y = gx_scm o y x := by
  match o with
  | 0 => simp only [gs_flip, gx_scm, eq_comm]
  | 1 => simp only [gs_flip, gx_scm, eq_comm]
  | 2 => rfl
  | 3 => rfl
  | 4 => rfl
  | _ + 5 => rfl
def gs_cm (o : Nat) (P : gs_P) (a b : gs_I) : Option (List (Bool × gs_P)) := match a, b with
  | .inl x, .inl y => some [(gx_scm o x y, P)]
  | .inr e, .inl y => some (gs_cc o P e y)
  | .inl x, .inr e => some (gs_cc (gs_flip o) P e x)
  | .inr e, .inr f => if gs_eq e f then some [(gx_scm o 0 0, P)] else some [(true, P), (false, P)]
theorem gs_same (o : Nat) (x : Int32) : gx_scm o x x = gx_scm o 0 0 := by
  have h1 : ¬ x < x := fun h => by have := Int32.lt_iff_toInt_lt.mp h; omega
  have h2 : x ≤ x := Int32.le_iff_toInt_le.mpr (Int.le_refl _)
  unfold gx_scm
  split <;> simp [h1, h2] <;> decide
theorem gs_cm_ok (xs : Nat → Int32) (o : Nat) (P : gs_P) (a b : gs_I) (l : List (Bool × gs_P)) (h : gs_cm o P a b = some l) (hok : gs_ok xs P) : ∃ q ∈ l, gs_ok xs q.2 ∧ q.1 = gx_scm o (gs_vI xs a) (gs_vI xs b) := by
  rcases a with x | e <;> rcases b with y | f
  · simp only [gs_cm, Option.some.injEq] at h
    subst h
    exact ⟨_, List.mem_cons_self, hok, rfl⟩
  · simp only [gs_cm, Option.some.injEq] at h
    subst h
    obtain ⟨q, h1, h2, h3⟩ := gs_cc_ok xs (gs_flip o) P f x hok
    exact ⟨q, h1, h2, by rw [h3, gs_flip_ok]; rfl⟩
  · simp only [gs_cm, Option.some.injEq] at h
    subst h
    exact gs_cc_ok xs o P e y hok
  · simp only [gs_cm] at h
    split at h
    · rename_i he
      cases h
      rw [gs_eq_ok he]
      exact ⟨_, List.mem_cons_self, hok, (gs_same _ _).symm⟩
    · cases h
      cases hb : gx_scm o (gs_vI xs (.inr e)) (gs_vI xs (.inr f)) with
      | true => exact ⟨_, List.mem_cons_self, hok, rfl⟩
      | false => exact ⟨_, List.mem_cons_of_mem _ List.mem_cons_self, hok, rfl⟩
/-- places: a constant, or a small range -/
def gs_en (e : gs_E) (P : gs_P) (lo : Nat) : Nat → List (Nat × gs_P)
  | 0 => []
  | n + 1 => (lo, (e, (lo : Int), (lo : Int)) :: P) :: gs_en e P (lo + 1) n
theorem gs_en_mem (e : gs_E) (P : gs_P) : ∀ (n lo k : Nat), lo ≤ k → k < lo + n → (k, (e, (k : Int), (k : Int)) :: P) ∈ gs_en e P lo n
  | 0, lo, k, h1, h2 => by omega
  | n + 1, lo, k, h1, h2 => by
    by_cases h : k = lo
    · subst h
      exact List.mem_cons_self
    · exact List.mem_cons_of_mem _ (gs_en_mem e P n (lo + 1) k (by omega) (by omega))
def gs_ix (P : gs_P) (a : gs_I) (n : Nat) : Option (List (Nat × gs_P)) := match a with
  | .inl c => if 0 ≤ c.toInt ∧ c.toInt < n then some [(c.toInt.toNat, P)] else none
  | .inr e => if 0 ≤ (gs_iv P e).1 ∧ (gs_iv P e).2 < n ∧ (gs_iv P e).2 - (gs_iv P e).1 < 8 then some (gs_en e P (gs_iv P e).1.toNat ((gs_iv P e).2 - (gs_iv P e).1 + 1).toNat) else none
theorem gs_nI (x : Int32) (h : 0 ≤ x.toInt) : x = nI x.toInt.toNat := by
  apply Int32.toInt_inj.mp
  have h2 := Int32.toInt_lt x
  show x.toInt = (Int32.ofNat x.toInt.toNat).toInt
  rw [Int32.toInt_ofNat_of_lt (by omega)]
  omega
theorem gs_ix_ok (xs : Nat → Int32) (P : gs_P) (a : gs_I) (n : Nat) (l : List (Nat × gs_P)) (h : gs_ix P a n = some l) (hok : gs_ok xs P) : ∃ q ∈ l, gs_ok xs q.2 ∧ q.1 < n ∧ gs_vI xs a = nI q.1 := by
  rcases a with c | e
  · simp only [gs_ix] at h
    split at h
    · rename_i hc
      cases h
      exact ⟨_, List.mem_cons_self, hok, by dsimp only; omega, gs_nI c hc.1⟩
    · cases h
  · simp only [gs_ix] at h
    split at h
    · rename_i hc
      cases h
      have hv := gs_iv_ok xs hok e
      refine ⟨((gs_ev xs e).1.toInt.toNat, _), gs_en_mem e P _ _ _ (by omega) (by omega), ?_, by dsimp only; omega, gs_nI (gs_ev xs e).1 (by omega)⟩
      intro z hz
      rcases List.mem_cons.mp hz with rfl | hz
      · exact ⟨fun _ => by dsimp only; omega, fun hlt => by dsimp only at hlt; omega⟩
      · exact hok z hz
    · cases h
def gs_bt (P : gs_P) (a : gs_I) : Bool := match a with
  | .inl c => decide (c = 0) || decide (c = 1)
  | .inr e => decide (0 ≤ (gs_iv P e).1) && decide ((gs_iv P e).2 ≤ 1)
def gs_D : gx_D gs_I gs_J gs_P := (Sum.inl, Sum.inl, gs_un, gs_bi, gs_lb, gs_lc, gs_il, gs_li, gs_cm, gs_ix, gs_bt)
theorem gs_un_ok (xs : Nat → Int32) (o : Nat) (a : gs_I) : gs_vI xs (gs_un o a) = gx_sun o (gs_vI xs a) := by
  rcases a with c | e
  · rfl
  · simp only [gs_un, gs_vI, gs_ev]
    rw [if_pos (by omega)]
    match o with
    | 0 => rfl
    | 1 => rfl
    | 2 => rfl
    | 3 => rfl
    | n + 4 =>
      rw [show min (n + 4) 3 = 3 by omega]
      rfl
theorem gs_sbi11 (o : Nat) (x y : Int32) : gx_sbi (min o 11) x y = gx_sbi o x y := by
  by_cases h : o ≤ 11
  · rw [Nat.min_eq_left h]
  · rw [Nat.min_eq_right (by omega)]
    obtain ⟨k, rfl⟩ : ∃ k, o = k + 11 := ⟨o - 11, by omega⟩
    rfl
theorem gs_bi_ok (xs : Nat → Int32) (o : Nat) (a b : gs_I) : gs_vI xs (gs_bi o a b) = gx_sbi o (gs_vI xs a) (gs_vI xs b) := by
  have key : (gs_ev xs (.op (.op (.var (min o 11)) (gs_tI a)) (gs_tI b))).1 = gx_sbi o (gs_vI xs a) (gs_vI xs b) := by
    simp only [gs_ev]
    rw [if_pos (by omega), gs_tI_ev, gs_tI_ev, gs_sbi11]
  rcases a with c | e <;> rcases b with d | f
  · rfl
  · exact key
  · exact key
  · exact key
theorem gs_lb_ok (xs : Nat → Int32) (o : Nat) (a b : gs_J) : gs_vL xs (gs_lb o a b) = gx_slb o (gs_vL xs a) (gs_vL xs b) := by
  have key : (gs_ev xs (.op (.op (.var o) (gs_tL a)) (gs_tL b))).2 = gx_slb o (gs_vL xs a) (gs_vL xs b) := by
    simp only [gs_ev]
    rw [gs_tL_ev, gs_tL_ev]
  rcases a with c | e <;> rcases b with d | f
  · rfl
  · exact key
  · exact key
  · exact key
theorem gs_cmp0 (x : Int64) : lg_cmp x x = 0 := by
  have h1 : ¬ x < x := fun h => by have := Int64.lt_iff_toInt_lt.mp h; omega
  simp [lg_cmp, h1]
theorem gs_lc_ok (xs : Nat → Int32) (a b : gs_J) : gs_vI xs (gs_lc a b) = lg_cmp (gs_vL xs a) (gs_vL xs b) := by
  have key : gs_vI xs (if gs_eq (gs_tL a) (gs_tL b) then .inl 0 else .inr (.op (.op (.var 20) (gs_tL a)) (gs_tL b))) = lg_cmp (gs_vL xs a) (gs_vL xs b) := by
    split
    · rename_i he
      have h1 := gs_tL_ev xs a
      have h2 := gs_tL_ev xs b
      rw [gs_eq_ok he] at h1
      rw [← h1, ← h2]
      exact (gs_cmp0 _).symm
    · show (gs_ev xs _).1 = _
      simp only [gs_ev]
      rw [if_neg (by omega), gs_tL_ev, gs_tL_ev]
  rcases a with c | e <;> rcases b with d | f
  · rfl
  · exact key
  · exact key
  · exact key
theorem gs_law (xs : Nat → Int32) : gx_law gs_D (gs_vI xs) (gs_vL xs) (gs_ok xs) := by
  refine ⟨fun _ => rfl, fun _ => rfl, gs_un_ok xs, gs_bi_ok xs, gs_lb_ok xs, gs_lc_ok xs, ?_, ?_, gs_cm_ok xs, gs_ix_ok xs, ?_⟩
  · intro a
    rcases a with c | e
    · rfl
    · rfl
  · intro a
    rcases a with c | e
    · rfl
    · rfl
  · intro P a h hok
    rcases a with c | e
    · have h' : gs_bt P (.inl c) = true := h
      simp only [gs_bt, Bool.or_eq_true, decide_eq_true_eq] at h'
      exact h'
    · have h' : gs_bt P (.inr e) = true := h
      simp only [gs_bt, Bool.and_eq_true, decide_eq_true_eq] at h'
      have hv := gs_iv_ok xs hok e
      have h0 : (gs_ev xs e).1.toInt = 0 ∨ (gs_ev xs e).1.toInt = 1 := by omega
      rcases h0 with h0 | h0
      · exact Or.inl (Int32.toInt_inj.mp (h0.trans (by decide)))
      · exact Or.inr (Int32.toInt_inj.mp (h0.trans (by decide)))
end
section
noncomputable def gy_get {A : Type} (l : List A) : Nat → Option A := @List.rec A (fun _ => Nat → Option A) (fun _ => none) (fun x _ ih n => @Nat.rec (fun _ => Option A) (some x) (fun m _ => ih m) n) l
theorem gy_get_eq {A : Type} : ∀ (l : List A) (n : Nat), gy_get l n = l[n]?
  | [], _ => rfl
  | _ :: _, 0 => rfl
  | _ :: l, n + 1 => by
    show gy_get l n = _
    rw [gy_get_eq l n, List.getElem?_cons_succ]
noncomputable def gy_put {A : Type} (l : List A) (n : Nat) (y : A) : List A := @List.rec A (fun _ => Nat → List A) (fun _ => []) (fun x xs ih n => @Nat.rec (fun _ => List A) (y :: xs) (fun m _ => x :: ih m) n) l n
theorem gy_put_eq {A : Type} : ∀ (l : List A) (n : Nat) (y : A), gy_put l n y = l.set n y
  | [], _, _ => rfl
  | _ :: _, 0, _ => rfl
  | x :: l, n + 1, y => by
    show x :: gy_put l n y = _
    rw [gy_put_eq l n y, List.set_cons_succ]
noncomputable def gy_fnd {A : Type} (f : A → Bool) (l : List A) : Option A := @List.rec A (fun _ => Option A) none (fun x _ ih => bif f x then some x else ih) l
theorem gy_fnd_eq {A : Type} (f : A → Bool) : ∀ l : List A, gy_fnd f l = l.find? f
  | [] => rfl
  | x :: l => by
    show (bif f x then some x else gy_fnd f l) = _
    rw [gy_fnd_eq f l, List.find?_cons]
    cases f x <;> rfl
noncomputable def gy_app {A : Type} (l m : List A) : List A := @List.rec A (fun _ => List A) m (fun x _ ih => x :: ih) l
theorem gy_app_eq {A : Type} : ∀ (l m : List A), gy_app l m = l ++ m
  | [], _ => rfl
  | x :: l, m => by
    show x :: gy_app l m = _
    rw [gy_app_eq l m]
    rfl
noncomputable def gy_len {A : Type} (l : List A) : Nat := @List.rec A (fun _ => Nat) 0 (fun _ _ ih => Nat.succ ih) l
theorem gy_len_eq {A : Type} : ∀ (l : List A), gy_len l = l.length
  | [] => rfl
  | x :: l => by
    show Nat.succ (gy_len l) = _
    rw [gy_len_eq l]
    rfl
section GYS
variable {α β π : Type}
noncomputable def gy_lk (lv : gx_L α β) (i : Nat) : Option (gx_V α β) := (gy_fnd (fun q => q.1 == i) lv).map (·.2)
noncomputable def gy_at (M : gx_M) (pc : Nat) : Option Instr := match gy_get (gx_is M) (pc / 64) with
  | some a => match gy_get a (pc / 8 % 8) with
    | some b => (gy_fnd (fun q => q.1 == pc) b).map (·.2)
    | none => none
  | none => none
noncomputable def gy_ld (lv : gx_L α β) (st : List (gx_V α β)) (h : gx_H α β) (P : π) (pc i kd : Nat) : gx_S α β π := match gy_lk lv i with
  | some v => if gx_kd v = kd then gx_g1 (pc, lv, v :: st, h, P) else none
  | none => none
noncomputable def gy_al (D : gx_D α β π) (ok : Nat → Bool) (lv : gx_L α β) (st : List (gx_V α β)) (h : gx_H α β) (P : π) (pc : Nat) : gx_S α β π := match st with
  | .inl i :: .inr (.inr (some a)) :: r => match gy_get h (a) with
    | some (.inr (tg, n, f)) => if ok tg then match gx_ix D P i n with
        | some l => gx_go (l.map fun q => (pc + 1, lv, f q.1 :: r, h, q.2))
        | none => none
      else none
    | _ => none
  | _ => none
noncomputable def gy_as (D : gx_D α β π) (mo : Nat) (ok : Nat → Bool) (lv : gx_L α β) (st : List (gx_V α β)) (h : gx_H α β) (P : π) (pc : Nat) : gx_S α β π := match st with
  | .inl x :: .inl i :: .inr (.inr (some a)) :: r => match gy_get h (a) with
    | some (.inr (tg, n, f)) => if ok tg ∧ mo ≤ a then match gx_ix D P i n with
        | some l => gx_go (l.map fun q => (pc + 1, lv, r, gy_put h a (.inr (tg, n, gx_up f q.1 (.inl (gx_nw D tg x)))), q.2))
        | none => none
      else none
    | _ => none
  | _ => none
noncomputable def gy_asl (D : gx_D α β π) (mo : Nat) (lv : gx_L α β) (st : List (gx_V α β)) (h : gx_H α β) (P : π) (pc : Nat) : gx_S α β π := match st with
  | .inr (.inl x) :: .inl i :: .inr (.inr (some a)) :: r => match gy_get h (a) with
    | some (.inr (tg, n, f)) => if tg = 2 ∧ mo ≤ a then match gx_ix D P i n with
        | some l => gx_go (l.map fun q => (pc + 1, lv, r, gy_put h a (.inr (tg, n, gx_up f q.1 (.inr (.inl x)))), q.2))
        | none => none
      else none
    | _ => none
  | _ => none
noncomputable def gy_isc (h : gx_H α β) (tg b : Nat) : Bool := match gy_get h (b) with
  | some (.inl (ci, _)) => tg == 10 + ci
  | some (.inr (t1, _, _)) => tg == 4 && t1 == 3
  | _ => false
noncomputable def gy_asr (D : gx_D α β π) (mo : Nat) (lv : gx_L α β) (st : List (gx_V α β)) (h : gx_H α β) (P : π) (pc : Nat) : gx_S α β π := match st with
  | .inr (.inr (some b)) :: .inl i :: .inr (.inr (some a)) :: r => match gy_get h (a) with
    | some (.inr (tg, n, f)) => if gy_isc h tg b = true ∧ mo ≤ a then match gx_ix D P i n with
        | some l => gx_go (l.map fun q => (pc + 1, lv, r, gy_put h a (.inr (tg, n, gx_up f q.1 (.inr (.inr (some b))))), q.2))
        | none => none
      else none
    | _ => none
  | _ => none
noncomputable def gy_gf (G : gx_G) (ow idx : Nat) (lv : gx_L α β) (st : List (gx_V α β)) (h : gx_H α β) (P : π) (pc : Nat) : gx_S α β π := match gx_fl G ow idx, st with
  | some (ci, k), .inr (.inr (some a)) :: r => match gy_get h (a) with
    | some (.inl (ci2, fs)) => if ci2 = ci then match gy_get fs (k) with
        | some v => gx_g1 (pc + 3, lv, v :: r, h, P)
        | none => none
      else none
    | _ => none
  | _, _ => none
noncomputable def gy_pf (G : gx_G) (D : gx_D α β π) (mo ow : Nat) (isI : Bool) (idx : Nat) (lv : gx_L α β) (st : List (gx_V α β)) (h : gx_H α β) (P : π) (pc : Nat) : gx_S α β π := match gx_fl G ow idx, st with
  | some (ci, k), v :: .inr (.inr (some a)) :: r => match gy_get h (a), gx_kl G ci with
    | some (.inl (ci2, fs)), some (tys, _) => match gy_get tys (k) with
      | some (tg, fin) => if ci2 = ci ∧ (gy_get fs (k)).isSome = true ∧ mo ≤ a ∧ gx_ft D P tg v = true ∧ (fin = false ∨ (isI = true ∧ ow = ci)) then gx_g1 (pc + 3, lv, r, gy_put h a (.inl (ci, gy_put fs k v)), P) else none
      | none => none
    | _, _ => none
  | _, _ => none
noncomputable def gy_cls (h : gx_H α β) (k : Nat) : Option Nat := match gy_get h (k) with
  | some (.inl (ci, _)) => some ci
  | _ => none
noncomputable def gy_rc (h : gx_H α β) (kd ow : Nat) (as : List (gx_V α β)) : Bool := if kd = 0 then true else match as with
  | .inr (.inr (some a)) :: _ => if kd = 1 then decide (gy_cls h a = some ow) else true
  | _ => false
noncomputable def gy_ca (G : gx_G) (kds : List Nat) (ow idx : Nat) (st : List (gx_V α β)) (h : gx_H α β) : gx_S α β π := match gx_mt G ow idx with
  | some (k2, j) => if kds.contains k2 then match gx_mm G j with
      | some M => if gx_na M ≤ st.length ∧ gx_wd (st.drop (gx_na M)) ≤ 8 ∧ gx_wd (st.take (gx_na M)).reverse ≤ gx_ml M ∧ gy_rc h k2 (gx_ow M) (st.take (gx_na M)).reverse = true then some (.inr (.inr (k2, j, (st.take (gx_na M)).reverse, st.drop (gx_na M))), 0, 0) else none
      | none => none
    else none
  | none => none
noncomputable def gy_ex (G : gx_G) (M : gx_M) (ci : Nat) (st : List (gx_V α β)) (h : gx_H α β) (P : π) (pc : Nat) : gx_S α β π := match gy_at M (pc + 3), gy_at M (pc + 4), gy_at M (pc + 6), gy_at M (pc + 9) with
  | some .dup, some (.ldc k), some (.invokespecial j), some .athrow => match gx_ks G (gx_ow M) k, gx_mt G (gx_ow M) j with
    | some (.inr (.inr _)), some (8, c2) => if c2 = ci ∧ gx_hs M = [] ∧ gx_wd st ≤ 8 then some (.inr (.inl (.inr (gy_len h), gy_app h [.inl (ci, [])], P)), 1, 6) else none
    | _, _ => none
  | _, _, _, _ => none
noncomputable def gy_nw0 (G : gx_G) (D : gx_D α β π) (M : gx_M) (idx : Nat) (lv : gx_L α β) (st : List (gx_V α β)) (h : gx_H α β) (P : π) (pc : Nat) : gx_S α β π := match gx_cs G (gx_ow M) idx with
  | some ci => match gx_kl G ci with
    | some (tys, n) => if tys.length = n then some (.inl [(pc + 3, lv, .inr (.inr (some (gy_len h))) :: st, gy_app h [.inl (ci, tys.map fun q => gx_fd D q.1)], P)], 1, n) else gy_ex G M ci st h P pc
    | none => none
  | none => none
noncomputable def gy_cp (D : gx_D α β π) (mo : Nat) (lv : gx_L α β) (st : List (gx_V α β)) (h : gx_H α β) (P : π) (pc : Nat) : gx_S α β π := match st with
  | .inl n :: .inl dp :: .inr (.inr (some b)) :: .inl sp :: .inr (.inr (some a)) :: r => match gy_get h (a), gy_get h (b) with
    | some (.inr (tg, n0, f)), some (.inr (tg1, n1, g)) => match gx_ix D P n 1000000 with
      | some [(kn, P1)] => match gx_ix D P1 sp 1000000 with
        | some [(ks, P2)] => match gx_ix D P2 dp 1000000 with
          | some [(kp, P3)] => if tg = tg1 ∧ tg < 4 ∧ ks + kn ≤ n0 ∧ kp + kn ≤ n1 ∧ mo ≤ a ∧ mo ≤ b ∧ gx_wd r ≤ 8 then gx_g1 (pc + 3, lv, r, gy_put h b (.inr (tg1, n1, gx_cpy f g ks kp kn)), P3) else none
          | _ => none
        | _ => none
      | _ => none
    | _, _ => none
  | _ => none
noncomputable def gy_iv (G : gx_G) (D : gx_D α β π) (mo : Nat) (M : gx_M) (idx : Nat) (lv : gx_L α β) (st : List (gx_V α β)) (h : gx_H α β) (P : π) (pc : Nat) : gx_S α β π := match gx_mt G (gx_ow M) idx with
  | some (4, _) => gy_cp D mo lv st h P pc
  | _ => gy_ca G [0] (gx_ow M) idx st h
noncomputable def gy_sp (G : gx_G) (M : gx_M) (idx : Nat) (lv : gx_L α β) (st : List (gx_V α β)) (h : gx_H α β) (P : π) (pc : Nat) : gx_S α β π := match gx_mt G (gx_ow M) idx with
  | some (3, _) => match st with
    | .inr (.inr (some _)) :: r => if gx_wd r ≤ 8 then gx_g1 (pc + 3, lv, r, h, P) else none
    | _ => none
  | _ => gy_ca G [2, 7] (gx_ow M) idx st h
noncomputable def gy_ts (D : gx_D α β π) (dflt lo : Int) (offs : Array Int) (lv : gx_L α β) (st : List (gx_V α β)) (h : gx_H α β) (P : π) (pc : Nat) : gx_S α β π := match st with
  | .inl a :: r => match gx_sw D a (gx_rg lo offs.size) 0 P with
    | none => none
    | some l => (gx_mp (fun q => match gx_tg pc (match q.1 with | some j => offs.toList.getD j 0 | none => dflt) with
        | some t => some ((t, lv, r, h, q.2) : gx_N α β π)
        | none => none) l).bind gx_go
  | _ => none
noncomputable def gy_i (G : gx_G) (D : gx_D α β π) (mo : Nat) (M : gx_M) (i : Instr) (pc : Nat) (lv : gx_L α β) (st : List (gx_V α β)) (h : gx_H α β) (P : π) : gx_S α β π := match i with
  | .iconst k => gx_g1 (pc + 1, lv, .inl (gx_cI D (Int32.ofInt k)) :: st, h, P)
  | .bipush k => gx_g1 (pc + 2, lv, .inl (gx_cI D (Int8.ofInt k).toInt32) :: st, h, P)
  | .sipush k => gx_g1 (pc + 3, lv, .inl (gx_cI D (Int16.ofInt k).toInt32) :: st, h, P)
  | .lconst k => gx_g1 (pc + 1, lv, .inr (.inl (gx_cL D (Int64.ofNat (k : Nat)))) :: st, h, P)
  | .aconst_null => gx_g1 (pc + 1, lv, .inr (.inr none) :: st, h, P)
  | .iload k => gy_ld lv st h P (pc + 2) k 1
  | .iload_n k => gy_ld lv st h P (pc + 1) k 1
  | .lload k => gy_ld lv st h P (pc + 2) k 2
  | .lload_n k => gy_ld lv st h P (pc + 1) k 2
  | .aload k => gy_ld lv st h P (pc + 2) k 3
  | .aload_n k => gy_ld lv st h P (pc + 1) k 3
  | .istore k => gx_sv (gx_ml M) lv st h P (pc + 2) k 1
  | .istore_n k => gx_sv (gx_ml M) lv st h P (pc + 1) k 1
  | .astore k => gx_sv (gx_ml M) lv st h P (pc + 2) k 3
  | .astore_n k => gx_sv (gx_ml M) lv st h P (pc + 1) k 3
  | .lstore k => gx_sl (gx_ml M) lv st h P (pc + 2) k
  | .lstore_n k => gx_sl (gx_ml M) lv st h P (pc + 1) k
  | .iinc k x => match gy_lk lv k with
    | some (.inl a) => if k < gx_ml M then gx_g1 (pc + 3, gx_p1 lv k (.inl (gx_bi D 0 a (gx_cI D (Int32.ofInt x)))), st, h, P) else none
    | _ => none
  | .iadd => gx_b2 D 0 lv st h P pc
  | .isub => gx_b2 D 1 lv st h P pc
  | .imul => gx_b2 D 2 lv st h P pc
  | .iand => gx_b2 D 3 lv st h P pc
  | .ior => gx_b2 D 4 lv st h P pc
  | .ixor => gx_b2 D 5 lv st h P pc
  | .ishl => gx_b2 D 6 lv st h P pc
  | .ishr => gx_b2 D 7 lv st h P pc
  | .iushr => gx_b2 D 8 lv st h P pc
  | .idiv => gx_dv D 9 lv st h P pc
  | .irem => gx_dv D 10 lv st h P pc
  | .ineg => gx_u1 D 0 lv st h P pc
  | .i2b => gx_u1 D 1 lv st h P pc
  | .i2s => gx_u1 D 2 lv st h P pc
  | .i2c => gx_u1 D 3 lv st h P pc
  | .ladd => gx_l2 D 0 lv st h P pc
  | .lsub => gx_l2 D 1 lv st h P pc
  | .land => gx_l2 D 3 lv st h P pc
  | .lcmp => match st with
    | .inr (.inl b) :: .inr (.inl a) :: r => gx_g1 (pc + 1, lv, .inl (gx_lc D a b) :: r, h, P)
    | _ => none
  | .i2l => match st with
    | .inl a :: r => gx_g1 (pc + 1, lv, .inr (.inl (gx_il D a)) :: r, h, P)
    | _ => none
  | .l2i => match st with
    | .inr (.inl b) :: r => gx_g1 (pc + 1, lv, .inl (gx_li D b) :: r, h, P)
    | _ => none
  | .dup => match st with
    | a :: r => if gx_cat a = 1 then gx_g1 (pc + 1, lv, a :: a :: r, h, P) else none
    | _ => none
  | .pop => match st with
    | a :: r => if gx_cat a = 1 then gx_g1 (pc + 1, lv, r, h, P) else none
    | _ => none
  | .dup_x1 => match st with
    | a :: b :: r => if gx_cat a = 1 ∧ gx_cat b = 1 then gx_g1 (pc + 1, lv, a :: b :: a :: r, h, P) else none
    | _ => none
  | .dup_x2 => match st with
    | a :: b :: d :: r => if gx_cat a = 1 ∧ gx_cat b = 1 ∧ gx_cat d = 1 then gx_g1 (pc + 1, lv, a :: b :: d :: a :: r, h, P) else none
    | _ => none
  | .dup2 => match st with
    | a :: b :: r => if gx_cat a = 1 ∧ gx_cat b = 1 then gx_g1 (pc + 1, lv, a :: b :: a :: b :: r, h, P) else if gx_cat a = 2 then gx_g1 (pc + 1, lv, a :: a :: b :: r, h, P) else none
    | _ => none
  | .goto off => match gx_tg pc off with
    | some t => gx_g1 (t, lv, st, h, P)
    | none => none
  | .ifCond o off => gx_b1 D (gx_co o) lv st h P pc off
  | .if_icmp o off => gx_bc D (gx_co o) lv st h P pc off
  | .ifnull off => match st with
    | .inr (.inr a) :: r => match gx_tg pc off with
      | some t => gx_g1 (if a.isNone then t else pc + 3, lv, r, h, P)
      | none => none
    | _ => none
  | .ifnonnull off => match st with
    | .inr (.inr a) :: r => match gx_tg pc off with
      | some t => gx_g1 (if a.isNone then pc + 3 else t, lv, r, h, P)
      | none => none
    | _ => none
  | .tableswitch dflt lo hi offs => if (offs.size : Int) = hi - lo + 1 ∧ -2147483648 ≤ lo ∧ hi ≤ 2147483647 then gy_ts D dflt lo offs lv st h P pc else none
  | .getfield idx => gy_gf G (gx_ow M) idx lv st h P pc
  | .putfield idx => gy_pf G D mo (gx_ow M) (gx_in M) idx lv st h P pc
  | .new idx => gy_nw0 G D M idx lv st h P pc
  | .newarray t => match gx_tyo t with
    | some tg => gx_na0 D tg 2 lv st h P pc
    | none => none
  | .anewarray idx => match gx_mt G (gx_ow M) idx with
    | some (9, ci) => gx_na0 D (10 + ci) 3 lv st h P pc
    | some (10, _) => gx_na0 D 4 3 lv st h P pc
    | _ => none
  | .arraylength => match st with
    | .inr (.inr (some a)) :: r => match gy_get h (a) with
      | some (.inr (_, n, _)) => gx_g1 (pc + 1, lv, .inl (gx_cI D (Int32.ofNat n)) :: r, h, P)
      | _ => none
    | _ => none
  | .iaload => gy_al D (fun t => t == 0) lv st h P pc
  | .baload => gy_al D (fun t => t == 1 || t == 3) lv st h P pc
  | .laload => gy_al D (fun t => t == 2) lv st h P pc
  | .aaload => gy_al D (fun t => decide (4 ≤ t)) lv st h P pc
  | .iastore => gy_as D mo (fun t => t == 0) lv st h P pc
  | .bastore => gy_as D mo (fun t => t == 1 || t == 3) lv st h P pc
  | .lastore => gy_asl D mo lv st h P pc
  | .aastore => gy_asr D mo lv st h P pc
  | .ldc idx => gx_kc G D (gx_ow M) idx 2 lv st h P pc
  | .ldc2_w idx => gx_k2 G D (gx_ow M) idx lv st h P pc
  | .invokestatic idx => gy_iv G D mo M idx lv st h P pc
  | .invokevirtual idx => gy_ca G [1] (gx_ow M) idx st h
  | .invokespecial idx => gy_sp G M idx lv st h P pc
  | .ireturn => gx_rn D (gx_rt M) st h P
  | .lreturn => gx_rl (gx_rt M) st h P
  | .areturn => gx_ra (gx_rt M) st h P
  | .return_ => gx_rv (gx_rt M) st h P
  | _ => none
noncomputable def gy_st (G : gx_G) (D : gx_D α β π) (mo : Nat) (M : gx_M) (pc : Nat) (lv : gx_L α β) (st : List (gx_V α β)) (h : gx_H α β) (P : π) : gx_S α β π := match gy_at M pc with
  | some i => gy_i G D mo M i pc lv st h P
  | none => none
noncomputable def gy_run (G : gx_G) (D : gx_D α β π) (mo : Nat) (E : Nat → Nat → List (gx_V α β) → gx_H α β → π → gx_A α β π) : Nat → Nat → gx_M → Nat → gx_L α β → List (gx_V α β) → gx_H α β → π → gx_A α β π
  | 0, _, _, _, _, _, _, _ => none
  | n + 1, d, M, pc, lv, st, h, P => match gx_st G D mo M pc lv st h P with
    | none => none
    | some (.inl ns, kc, ks) => gx_add kc ks (gx_all (ns.map fun q => gx_run G D mo E n d M q.1 q.2.1 q.2.2.1 q.2.2.2.1 q.2.2.2.2))
    | some (.inr (.inl r), kc, ks) => some ([r], kc, ks)
    | some (.inr (.inr (_, j, as, rest)), _, _) =>
      match (match d with
        | 0 => none
        | d' + 1 => match E d' j as h P with
          | some q => some q
          | none => match gx_mm G j with
            | some M' => gx_run G D mo E n d' M' 0 (gx_args 0 as) [] h P
            | none => none : gx_A α β π) with
      | none => none
      | some (rs, c1, s1) => gx_add c1 s1 (gx_all (rs.map fun r => match r.1 with
          | .inl v => gx_run G D mo E n d M (pc + 3) lv (v.toList ++ rest) r.2.1 r.2.2
          | .inr k => if gx_ou pc (gx_hs M) then some ([(.inr k, r.2.1, r.2.2)], 0, 0) else match gx_cls r.2.1 k with
            | none => none
            | some ce => match gx_hd G (gx_ow M) pc ce (gx_hs M) with
              | some t => gx_run G D mo E n d M t lv [.inr (.inr (some k))] r.2.1 r.2.2
              | none => none))
theorem gy_lk_eq (lv : gx_L α β) (i : Nat) : (gy_lk lv i : Option (gx_V α β)) = gx_lk lv i := by
  first
  | (simp only [gy_lk, gx_lk, gy_get_eq, gy_put_eq, gy_fnd_eq, gy_app_eq, gy_len_eq]; done)
  | (unfold gy_lk gx_lk; simp only [gy_get_eq, gy_put_eq, gy_fnd_eq, gy_app_eq, gy_len_eq]; done)
  | (unfold gy_lk gx_lk; simp only [gy_get_eq, gy_put_eq, gy_fnd_eq, gy_app_eq, gy_len_eq]; rfl)
  | (unfold gy_lk gx_lk; rfl)
theorem gy_at_eq (M : gx_M) (pc : Nat) : (gy_at M pc : Option Instr) = gx_at M pc := by
  first
  | (simp only [gy_at, gx_at, gy_get_eq, gy_put_eq, gy_fnd_eq, gy_app_eq, gy_len_eq]; done)
  | (unfold gy_at gx_at; simp only [gy_get_eq, gy_put_eq, gy_fnd_eq, gy_app_eq, gy_len_eq]; done)
  | (unfold gy_at gx_at; simp only [gy_get_eq, gy_put_eq, gy_fnd_eq, gy_app_eq, gy_len_eq]; rfl)
  | (unfold gy_at gx_at; rfl)
theorem gy_ld_eq (lv : gx_L α β) (st : List (gx_V α β)) (h : gx_H α β) (P : π) (pc i kd : Nat) : (gy_ld lv st h P pc i kd : gx_S α β π) = gx_ld lv st h P pc i kd := by
  first
  | (simp only [gy_ld, gx_ld, gy_get_eq, gy_put_eq, gy_fnd_eq, gy_app_eq, gy_len_eq, gy_lk_eq]; done)
  | (unfold gy_ld gx_ld; simp only [gy_get_eq, gy_put_eq, gy_fnd_eq, gy_app_eq, gy_len_eq, gy_lk_eq]; done)
  | (unfold gy_ld gx_ld; simp only [gy_get_eq, gy_put_eq, gy_fnd_eq, gy_app_eq, gy_len_eq, gy_lk_eq]; rfl)
  | (unfold gy_ld gx_ld; rfl)
theorem gy_al_eq (D : gx_D α β π) (ok : Nat → Bool) (lv : gx_L α β) (st : List (gx_V α β)) (h : gx_H α β) (P : π) (pc : Nat) : (gy_al D ok lv st h P pc : gx_S α β π) = gx_al D ok lv st h P pc := by
  first
  | (simp only [gy_al, gx_al, gy_get_eq, gy_put_eq, gy_fnd_eq, gy_app_eq, gy_len_eq]; done)
  | (unfold gy_al gx_al; simp only [gy_get_eq, gy_put_eq, gy_fnd_eq, gy_app_eq, gy_len_eq]; done)
  | (unfold gy_al gx_al; simp only [gy_get_eq, gy_put_eq, gy_fnd_eq, gy_app_eq, gy_len_eq]; rfl)
  | (unfold gy_al gx_al; rfl)
theorem gy_as_eq (D : gx_D α β π) (mo : Nat) (ok : Nat → Bool) (lv : gx_L α β) (st : List (gx_V α β)) (h : gx_H α β) (P : π) (pc : Nat) : (gy_as D mo ok lv st h P pc : gx_S α β π) = gx_as D mo ok lv st h P pc := by
  first
  | (simp only [gy_as, gx_as, gy_get_eq, gy_put_eq, gy_fnd_eq, gy_app_eq, gy_len_eq]; done)
  | (unfold gy_as gx_as; simp only [gy_get_eq, gy_put_eq, gy_fnd_eq, gy_app_eq, gy_len_eq]; done)
  | (unfold gy_as gx_as; simp only [gy_get_eq, gy_put_eq, gy_fnd_eq, gy_app_eq, gy_len_eq]; rfl)
  | (unfold gy_as gx_as; rfl)
theorem gy_asl_eq (D : gx_D α β π) (mo : Nat) (lv : gx_L α β) (st : List (gx_V α β)) (h : gx_H α β) (P : π) (pc : Nat) : (gy_asl D mo lv st h P pc : gx_S α β π) = gx_asl D mo lv st h P pc := by
  first
  | (simp only [gy_asl, gx_asl, gy_get_eq, gy_put_eq, gy_fnd_eq, gy_app_eq, gy_len_eq]; done)
  | (unfold gy_asl gx_asl; simp only [gy_get_eq, gy_put_eq, gy_fnd_eq, gy_app_eq, gy_len_eq]; done)
  | (unfold gy_asl gx_asl; simp only [gy_get_eq, gy_put_eq, gy_fnd_eq, gy_app_eq, gy_len_eq]; rfl)
  | (unfold gy_asl gx_asl; rfl)
theorem gy_isc_eq (h : gx_H α β) (tg b : Nat) : (gy_isc h tg b : Bool) = gx_isc h tg b := by
  first
  | (simp only [gy_isc, gx_isc, gy_get_eq, gy_put_eq, gy_fnd_eq, gy_app_eq, gy_len_eq]; done)
  | (unfold gy_isc gx_isc; simp only [gy_get_eq, gy_put_eq, gy_fnd_eq, gy_app_eq, gy_len_eq]; done)
  | (unfold gy_isc gx_isc; simp only [gy_get_eq, gy_put_eq, gy_fnd_eq, gy_app_eq, gy_len_eq]; rfl)
  | (unfold gy_isc gx_isc; rfl)
theorem gy_asr_eq (D : gx_D α β π) (mo : Nat) (lv : gx_L α β) (st : List (gx_V α β)) (h : gx_H α β) (P : π) (pc : Nat) : (gy_asr D mo lv st h P pc : gx_S α β π) = gx_asr D mo lv st h P pc := by
  first
  | (simp only [gy_asr, gx_asr, gy_get_eq, gy_put_eq, gy_fnd_eq, gy_app_eq, gy_len_eq, gy_isc_eq]; done)
  | (unfold gy_asr gx_asr; simp only [gy_get_eq, gy_put_eq, gy_fnd_eq, gy_app_eq, gy_len_eq, gy_isc_eq]; done)
  | (unfold gy_asr gx_asr; simp only [gy_get_eq, gy_put_eq, gy_fnd_eq, gy_app_eq, gy_len_eq, gy_isc_eq]; rfl)
  | (unfold gy_asr gx_asr; rfl)
theorem gy_gf_eq (G : gx_G) (ow idx : Nat) (lv : gx_L α β) (st : List (gx_V α β)) (h : gx_H α β) (P : π) (pc : Nat) : (gy_gf G ow idx lv st h P pc : gx_S α β π) = gx_gf G ow idx lv st h P pc := by
  first
  | (simp only [gy_gf, gx_gf, gy_get_eq, gy_put_eq, gy_fnd_eq, gy_app_eq, gy_len_eq]; done)
  | (unfold gy_gf gx_gf; simp only [gy_get_eq, gy_put_eq, gy_fnd_eq, gy_app_eq, gy_len_eq]; done)
  | (unfold gy_gf gx_gf; simp only [gy_get_eq, gy_put_eq, gy_fnd_eq, gy_app_eq, gy_len_eq]; rfl)
  | (unfold gy_gf gx_gf; rfl)
theorem gy_pf_eq (G : gx_G) (D : gx_D α β π) (mo ow : Nat) (isI : Bool) (idx : Nat) (lv : gx_L α β) (st : List (gx_V α β)) (h : gx_H α β) (P : π) (pc : Nat) : (gy_pf G D mo ow isI idx lv st h P pc : gx_S α β π) = gx_pf G D mo ow isI idx lv st h P pc := by
  first
  | (simp only [gy_pf, gx_pf, gy_get_eq, gy_put_eq, gy_fnd_eq, gy_app_eq, gy_len_eq]; done)
  | (unfold gy_pf gx_pf; simp only [gy_get_eq, gy_put_eq, gy_fnd_eq, gy_app_eq, gy_len_eq]; done)
  | (unfold gy_pf gx_pf; simp only [gy_get_eq, gy_put_eq, gy_fnd_eq, gy_app_eq, gy_len_eq]; rfl)
  | (unfold gy_pf gx_pf; rfl)
theorem gy_cls_eq (h : gx_H α β) (k : Nat) : (gy_cls h k : Option Nat) = gx_cls h k := by
  first
  | (simp only [gy_cls, gx_cls, gy_get_eq, gy_put_eq, gy_fnd_eq, gy_app_eq, gy_len_eq]; done)
  | (unfold gy_cls gx_cls; simp only [gy_get_eq, gy_put_eq, gy_fnd_eq, gy_app_eq, gy_len_eq]; done)
  | (unfold gy_cls gx_cls; simp only [gy_get_eq, gy_put_eq, gy_fnd_eq, gy_app_eq, gy_len_eq]; rfl)
  | (unfold gy_cls gx_cls; rfl)
theorem gy_rc_eq (h : gx_H α β) (kd ow : Nat) (as : List (gx_V α β)) : (gy_rc h kd ow as : Bool) = gx_rc h kd ow as := by
  first
  | (simp only [gy_rc, gx_rc, gy_get_eq, gy_put_eq, gy_fnd_eq, gy_app_eq, gy_len_eq, gy_cls_eq]; done)
  | (unfold gy_rc gx_rc; simp only [gy_get_eq, gy_put_eq, gy_fnd_eq, gy_app_eq, gy_len_eq, gy_cls_eq]; done)
  | (unfold gy_rc gx_rc; simp only [gy_get_eq, gy_put_eq, gy_fnd_eq, gy_app_eq, gy_len_eq, gy_cls_eq]; rfl)
  | (unfold gy_rc gx_rc; rfl)
theorem gy_ca_eq (G : gx_G) (kds : List Nat) (ow idx : Nat) (st : List (gx_V α β)) (h : gx_H α β) : (gy_ca G kds ow idx st h : gx_S α β π) = gx_ca G kds ow idx st h := by
  first
  | (simp only [gy_ca, gx_ca, gy_get_eq, gy_put_eq, gy_fnd_eq, gy_app_eq, gy_len_eq, gy_rc_eq]; done)
  | (unfold gy_ca gx_ca; simp only [gy_get_eq, gy_put_eq, gy_fnd_eq, gy_app_eq, gy_len_eq, gy_rc_eq]; done)
  | (unfold gy_ca gx_ca; simp only [gy_get_eq, gy_put_eq, gy_fnd_eq, gy_app_eq, gy_len_eq, gy_rc_eq]; rfl)
  | (unfold gy_ca gx_ca; rfl)
theorem gy_ex_eq (G : gx_G) (M : gx_M) (ci : Nat) (st : List (gx_V α β)) (h : gx_H α β) (P : π) (pc : Nat) : (gy_ex G M ci st h P pc : gx_S α β π) = gx_ex G M ci st h P pc := by
  first
  | (simp only [gy_ex, gx_ex, gy_get_eq, gy_put_eq, gy_fnd_eq, gy_app_eq, gy_len_eq, gy_at_eq]; done)
  | (unfold gy_ex gx_ex; simp only [gy_get_eq, gy_put_eq, gy_fnd_eq, gy_app_eq, gy_len_eq, gy_at_eq]; done)
  | (unfold gy_ex gx_ex; simp only [gy_get_eq, gy_put_eq, gy_fnd_eq, gy_app_eq, gy_len_eq, gy_at_eq]; rfl)
  | (unfold gy_ex gx_ex; rfl)
theorem gy_nw0_eq (G : gx_G) (D : gx_D α β π) (M : gx_M) (idx : Nat) (lv : gx_L α β) (st : List (gx_V α β)) (h : gx_H α β) (P : π) (pc : Nat) : (gy_nw0 G D M idx lv st h P pc : gx_S α β π) = gx_nw0 G D M idx lv st h P pc := by
  first
  | (simp only [gy_nw0, gx_nw0, gy_get_eq, gy_put_eq, gy_fnd_eq, gy_app_eq, gy_len_eq, gy_ex_eq]; done)
  | (unfold gy_nw0 gx_nw0; simp only [gy_get_eq, gy_put_eq, gy_fnd_eq, gy_app_eq, gy_len_eq, gy_ex_eq]; done)
  | (unfold gy_nw0 gx_nw0; simp only [gy_get_eq, gy_put_eq, gy_fnd_eq, gy_app_eq, gy_len_eq, gy_ex_eq]; rfl)
  | (unfold gy_nw0 gx_nw0; rfl)
theorem gy_cp_eq (D : gx_D α β π) (mo : Nat) (lv : gx_L α β) (st : List (gx_V α β)) (h : gx_H α β) (P : π) (pc : Nat) : (gy_cp D mo lv st h P pc : gx_S α β π) = gx_cp D mo lv st h P pc := by
  first
  | (simp only [gy_cp, gx_cp, gy_get_eq, gy_put_eq, gy_fnd_eq, gy_app_eq, gy_len_eq]; done)
  | (unfold gy_cp gx_cp; simp only [gy_get_eq, gy_put_eq, gy_fnd_eq, gy_app_eq, gy_len_eq]; done)
  | (unfold gy_cp gx_cp; simp only [gy_get_eq, gy_put_eq, gy_fnd_eq, gy_app_eq, gy_len_eq]; rfl)
  | (unfold gy_cp gx_cp; rfl)
theorem gy_iv_eq (G : gx_G) (D : gx_D α β π) (mo : Nat) (M : gx_M) (idx : Nat) (lv : gx_L α β) (st : List (gx_V α β)) (h : gx_H α β) (P : π) (pc : Nat) : (gy_iv G D mo M idx lv st h P pc : gx_S α β π) = gx_iv G D mo M idx lv st h P pc := by
  first
  | (simp only [gy_iv, gx_iv, gy_get_eq, gy_put_eq, gy_fnd_eq, gy_app_eq, gy_len_eq, gy_ca_eq, gy_cp_eq]; done)
  | (unfold gy_iv gx_iv; simp only [gy_get_eq, gy_put_eq, gy_fnd_eq, gy_app_eq, gy_len_eq, gy_ca_eq, gy_cp_eq]; done)
  | (unfold gy_iv gx_iv; simp only [gy_get_eq, gy_put_eq, gy_fnd_eq, gy_app_eq, gy_len_eq, gy_ca_eq, gy_cp_eq]; rfl)
  | (unfold gy_iv gx_iv; rfl)
theorem gy_sp_eq (G : gx_G) (M : gx_M) (idx : Nat) (lv : gx_L α β) (st : List (gx_V α β)) (h : gx_H α β) (P : π) (pc : Nat) : (gy_sp G M idx lv st h P pc : gx_S α β π) = gx_sp G M idx lv st h P pc := by
  first
  | (simp only [gy_sp, gx_sp, gy_get_eq, gy_put_eq, gy_fnd_eq, gy_app_eq, gy_len_eq, gy_ca_eq]; done)
  | (unfold gy_sp gx_sp; simp only [gy_get_eq, gy_put_eq, gy_fnd_eq, gy_app_eq, gy_len_eq, gy_ca_eq]; done)
  | (unfold gy_sp gx_sp; simp only [gy_get_eq, gy_put_eq, gy_fnd_eq, gy_app_eq, gy_len_eq, gy_ca_eq]; rfl)
  | (unfold gy_sp gx_sp; rfl)
theorem gy_ts_eq (D : gx_D α β π) (dflt lo : Int) (offs : Array Int) (lv : gx_L α β) (st : List (gx_V α β)) (h : gx_H α β) (P : π) (pc : Nat) : (gy_ts D dflt lo offs lv st h P pc : gx_S α β π) = gx_ts D dflt lo offs lv st h P pc := by
  first
  | (simp only [gy_ts, gx_ts, gy_get_eq, gy_put_eq, gy_fnd_eq, gy_app_eq, gy_len_eq]; done)
  | (unfold gy_ts gx_ts; simp only [gy_get_eq, gy_put_eq, gy_fnd_eq, gy_app_eq, gy_len_eq]; done)
  | (unfold gy_ts gx_ts; simp only [gy_get_eq, gy_put_eq, gy_fnd_eq, gy_app_eq, gy_len_eq]; rfl)
  | (unfold gy_ts gx_ts; rfl)
theorem gy_i_eq (G : gx_G) (D : gx_D α β π) (mo : Nat) (M : gx_M) (i : Instr) (pc : Nat) (lv : gx_L α β) (st : List (gx_V α β)) (h : gx_H α β) (P : π) : (gy_i G D mo M i pc lv st h P : gx_S α β π) = gx_i G D mo M i pc lv st h P := by
  first
  | (simp only [gy_i, gx_i, gy_get_eq, gy_put_eq, gy_fnd_eq, gy_app_eq, gy_len_eq, gy_lk_eq, gy_ld_eq, gy_al_eq, gy_as_eq, gy_asl_eq, gy_asr_eq, gy_gf_eq, gy_pf_eq, gy_ca_eq, gy_nw0_eq, gy_iv_eq, gy_sp_eq, gy_ts_eq]; done)
  | (unfold gy_i gx_i; simp only [gy_get_eq, gy_put_eq, gy_fnd_eq, gy_app_eq, gy_len_eq, gy_lk_eq, gy_ld_eq, gy_al_eq, gy_as_eq, gy_asl_eq, gy_asr_eq, gy_gf_eq, gy_pf_eq, gy_ca_eq, gy_nw0_eq, gy_iv_eq, gy_sp_eq, gy_ts_eq]; done)
  | (unfold gy_i gx_i; simp only [gy_get_eq, gy_put_eq, gy_fnd_eq, gy_app_eq, gy_len_eq, gy_lk_eq, gy_ld_eq, gy_al_eq, gy_as_eq, gy_asl_eq, gy_asr_eq, gy_gf_eq, gy_pf_eq, gy_ca_eq, gy_nw0_eq, gy_iv_eq, gy_sp_eq, gy_ts_eq]; rfl)
  | (unfold gy_i gx_i; rfl)
theorem gy_st_eq (G : gx_G) (D : gx_D α β π) (mo : Nat) (M : gx_M) (pc : Nat) (lv : gx_L α β) (st : List (gx_V α β)) (h : gx_H α β) (P : π) : (gy_st G D mo M pc lv st h P : gx_S α β π) = gx_st G D mo M pc lv st h P := by
  first
  | (simp only [gy_st, gx_st, gy_get_eq, gy_put_eq, gy_fnd_eq, gy_app_eq, gy_len_eq, gy_at_eq, gy_i_eq]; done)
  | (unfold gy_st gx_st; simp only [gy_get_eq, gy_put_eq, gy_fnd_eq, gy_app_eq, gy_len_eq, gy_at_eq, gy_i_eq]; done)
  | (unfold gy_st gx_st; simp only [gy_get_eq, gy_put_eq, gy_fnd_eq, gy_app_eq, gy_len_eq, gy_at_eq, gy_i_eq]; rfl)
  | (unfold gy_st gx_st; rfl)
end GYS
end
section
theorem gy_run_eq {α β π : Type} (G : gx_G) (D : gx_D α β π) (mo : Nat) (E : Nat → Nat → List (gx_V α β) → gx_H α β → π → gx_A α β π) : ∀ (n d : Nat) (M : gx_M) (pc : Nat) (lv : gx_L α β) (st : List (gx_V α β)) (h : gx_H α β) (P : π), gy_run G D mo E n d M pc lv st h P = gx_run G D mo E n d M pc lv st h P
  | 0, _, _, _, _, _, _, _ => rfl
  | n + 1, d, M, pc, lv, st, h, P => by
    have ih := gy_run_eq G D mo E n
    simp only [gy_run, gx_run, gy_st_eq, gy_cls_eq, ih]
    rfl
end
section
section GZ
variable {α β π : Type}
def gz_V (mo s : Nat) : gx_V α β → gx_V α β
  | .inr (.inr (some k)) => .inr (.inr (some (if k < mo then k else k + s)))
  | v => v
def gz_C (mo s : Nat) : gx_C α β → gx_C α β
  | .inl (ci, fs) => .inl (ci, fs.map (gz_V mo s))
  | .inr (tg, n, f) => .inr (tg, n, fun j => gz_V mo s (f j))
variable {cl : List vw_C} {dC : Nat → ClassId} {dI : Nat → Nat → Nat} {od : Nat → Nat} {mo base s : Nat} {evI : α → Int32} {evL : β → Int64} {ok : π → Prop} {D : gx_D α β π} {G : gx_G} {Tb : List Cond} {M : gx_M} {s0 U : State} {l : Launch}
theorem gz_cv (v : gx_V α β) : gx_cv evI evL (gx_ad od mo base) (gz_V mo s v) = gx_cv evI evL (gx_ad od mo (base + s)) v := by
  rcases v with a | b | _ | k
  · rfl
  · rfl
  · rfl
  · simp only [gz_V, gx_cv, gx_ad]
    by_cases hk : k < mo
    · simp [hk]
    · rw [if_neg hk, if_neg hk, if_neg (show ¬ k + s < mo by omega)]
      have : base + (k + s - mo) = base + s + (k - mo) := by omega
      rw [this]
theorem gz_cell {nw : Prop} {H : Heap} {q : Nat} (x : gx_C α β) : gx_cell cl dC dI (gx_cv evI evL (gx_ad od mo base)) U nw H q (gz_C mo s x) ↔ gx_cell cl dC dI (gx_cv evI evL (gx_ad od mo (base + s))) U nw H q x := by
  rcases x with ⟨ci, fs⟩ | ⟨tg, n, f⟩
  · simp only [gz_C, gx_cell]
    refine or_congr Iff.rfl (exists_congr fun cell => and_congr Iff.rfl (and_congr Iff.rfl (and_congr Iff.rfl ⟨fun h k v hv => ?_, fun h k v hv => ?_⟩)))
    · have := h k (gz_V mo s v) (by rw [List.getElem?_map, hv]; rfl)
      rw [gz_cv] at this
      exact this
    · rw [List.getElem?_map] at hv
      cases hw : fs[k]? with
      | none => rw [hw] at hv; cases hv
      | some w =>
        rw [hw] at hv
        cases hv
        rw [gz_cv]
        exact h k w hw
  · simp only [gz_C, gx_cell, gz_cv]
theorem gz_nw {nw nw' : Prop} {cv : gx_V α β → Value} {H : Heap} {q : Nat} {x : gx_C α β} (hn : nw' → nw) (h : gx_cell cl dC dI cv U nw H q x) : gx_cell cl dC dI cv U nw' H q x := by
  rcases x with ⟨ci, fs⟩ | ⟨tg, n, f⟩
  · exact h
  · obtain ⟨h1, h2, cell, h3, h4, h5, h6, h7, h8⟩ := h
    exact ⟨h1, h2, cell, h3, h4, h5, h6, h7, fun z => h8 (hn z)⟩
theorem gz_rep {H : Heap} {hs pre : gx_H α β} (hr : gx_rep cl dC dI (gx_cv evI evL (gx_ad od mo (base + s))) od mo (base + s) U H hs) (hp : pre.length = mo + s)
    (hc : ∀ k x, pre[k]? = some x → gx_cell cl dC dI (gx_cv evI evL (gx_ad od mo base)) U (mo ≤ k) H (gx_ad od mo base k) x) : gx_rep cl dC dI (gx_cv evI evL (gx_ad od mo base)) od mo base U H (pre ++ (hs.drop mo).map (gz_C mo s)) := by
  obtain ⟨h1, h2, h3⟩ := hr
  refine ⟨by simp; omega, by simp; omega, fun k x hx => ?_⟩
  by_cases hk : k < mo + s
  · rw [List.getElem?_append_left (by omega)] at hx
    exact hc k x hx
  · rw [List.getElem?_append_right (by omega), List.getElem?_map, List.getElem?_drop] at hx
    cases hw : hs[mo + (k - pre.length)]? with
    | none => rw [hw] at hx; cases hx
    | some w =>
      rw [hw] at hx
      cases hx
      have h4 := h3 _ _ hw
      have e1 : gx_ad od mo (base + s) (mo + (k - pre.length)) = gx_ad od mo base k := by
        unfold gx_ad
        rw [if_neg (by omega), if_neg (by omega)]
        omega
      rw [e1] at h4
      exact gz_nw (fun _ => by omega) ((gz_cell w).mpr h4)
/-- a constructor, run on a heap of its own, is so on any heap -/
theorem gz_con {d c1 s1 : Nat} {pre : gx_H α β} {x0 : gx_C α β} {hr : gx_H α β} {P P0 : π} (hTb : ∀ w ∈ Tb, goodWord w = true) (hF0 : gx_F G cl Tb dC dI od mo s0) (hbase : s0.heap.size = base) (hod : ∀ j, j < mo → od j < base) (hcl : cl.length ≤ 1000) (hok : ok P) (hp : pre.length = mo + s)
    (hrun : ∀ (base' : Nat) (s0' : State), s0'.heap.size = base' → gx_F G cl Tb dC dI od mo s0' → (∀ j, j < mo → od j < base') → gx_con cl dC dI od mo base' evI evL ok Tb s0' l d M [.inr (.inr (some mo))] (List.replicate mo (.inl (1000, [])) ++ [x0]) [(.inl none, hr, P0)] c1 s1) :
    gx_con cl dC dI od mo base evI evL ok Tb s0 l d M [.inr (.inr (some (mo + s)))] (pre ++ [gz_C mo s x0]) [(.inl none, pre ++ (hr.drop mo).map (gz_C mo s), P)] c1 s1 := by
  intro p e ha hc hk U m args below hfr happ hP _
  obtain ⟨rfl, hAn, hrep⟩ := hP
  obtain ⟨r1, r2, r3⟩ := id hrep
  have hsz : U.heap.size = base + s + 1 := by rw [r2]; simp; omega
  have hsz' : ({ U with heap := U.heap.extract 0 (base + s) } : State).heap.size = base + s := by
    show (U.heap.extract 0 (base + s)).size = _
    rw [Array.size_extract]
    omega
  have hx : ∀ q, q < base + s → (U.heap.extract 0 (base + s))[q]? = U.heap[q]? := fun q hq => by
    simp [Array.getElem?_extract, Nat.zero_add]
    omega
  have hA1 : gx_An s0 ({ U with heap := U.heap.extract 0 (base + s) } : State) := ⟨hAn.1, fun q hq => (hx q (by omega)).trans (hAn.2 q hq)⟩
  have hA2 : gx_An ({ U with heap := U.heap.extract 0 (base + s) } : State) U := ⟨State.WarmedH.refl ({ U with heap := U.heap.extract 0 (base + s) } : State), fun q hq => by rw [hsz'] at hq; exact (hx q hq).symm⟩
  have hlast : (pre ++ [gz_C mo s x0])[mo + s]? = some (gz_C mo s x0) := by
    rw [List.getElem?_append_right (by omega), hp, Nat.sub_self]
    rfl
  have hrepS : gx_rep cl dC dI (gx_cv evI evL (gx_ad od mo (base + s))) od mo (base + s) U U.heap (List.replicate mo (.inl (1000, [])) ++ [x0]) := by
    refine ⟨by simp, by simp; omega, fun k x hkx => ?_⟩
    by_cases hkm : k < mo
    · rw [List.getElem?_append_left (by simp; exact hkm), List.getElem?_replicate, if_pos hkm] at hkx
      cases hkx
      exact Or.inl hcl
    · rw [List.getElem?_append_right (by simp; omega), List.length_replicate] at hkx
      have hk0 : k = mo := by
        have := (List.getElem?_eq_some_iff.mp hkx).1
        simp at this
        omega
      subst hk0
      rw [Nat.sub_self] at hkx
      cases hkx
      have h4 := (gz_cell x0).mp (r3 _ _ hlast)
      have e1 : gx_ad od k base (k + s) = gx_ad od k (base + s) k := by
        unfold gx_ad
        rw [if_neg (by omega), if_neg (by omega)]
        omega
      rw [e1] at h4
      exact gz_nw (fun _ => by omega) h4
  have eargs : ([.inr (.inr (some (mo + s)))] : List (gx_V α β)).map (gx_cv evI evL (gx_ad od mo base)) = ([.inr (.inr (some mo))] : List (gx_V α β)).map (gx_cv evI evL (gx_ad od mo (base + s))) := by
    have := gz_cv (od := od) (mo := mo) (base := base) (s := s) (evI := evI) (evL := evL) (.inr (.inr (some mo)) : gx_V α β)
    simp only [gz_V] at this
    rw [if_neg (by omega)] at this
    simp only [List.map_cons, List.map_nil, this]
  rw [eargs] at hfr
  obtain ⟨n, o, q1, q2, q3, r, hr', hokr, ho, hrep', L, hFE, hS⟩ := hrun (base + s) _ hsz' (gx_F_moved hTb hA1 hF0) (fun j hj => by have := hod j hj; omega) p e ha hc hk U m _ below hfr happ ⟨rfl, hA2, hrepS⟩ trivial
  rw [List.mem_singleton] at hr'
  subst hr'
  refine ⟨n, o, q1, q2, q3, _, List.mem_singleton.mpr rfl, hok, ho, gz_rep hrep' hp (fun k x hkx => ?_), L, hFE, hS.1, fun q h1 h2 => hS.2.1 q h1 (by omega), fun q hq => by have := hS.2.2 q hq; dsimp only at this ⊢; omega⟩
  have hkl := (List.getElem?_eq_some_iff.mp hkx).1
  have h5 := r3 k x (by rw [List.getElem?_append_left hkl]; exact hkx)
  have had : gx_ad od mo base k < base + s := by
    unfold gx_ad
    split
    · rename_i hkm
      have := hod k hkm
      omega
    · omega
  exact gx_cell_kept h5 (hS.2.1 _ (by omega) (by omega))
end GZ
end
section
/-- the numbers as they are -/
def ga_D : gx_D Int32 Int64 Unit := (fun x => x, fun x => x, gx_sun, gx_sbi, gx_slb, lg_cmp, Int32.toInt64, Int64.toInt32, fun o _ a b => some [(gx_scm o a b, ())], fun _ a n => if 0 ≤ a.toInt ∧ a.toInt < n then some [(a.toInt.toNat, ())] else none, fun _ a => decide (a = 0) || decide (a = 1))
theorem ga_law : gx_law ga_D (fun x => x) (fun x => x) (fun _ => True) := by
  refine ⟨fun _ => rfl, fun _ => rfl, fun _ _ => rfl, fun _ _ _ => rfl, fun _ _ _ => rfl, fun _ _ => rfl, fun _ => rfl, fun _ => rfl, ?_, ?_, ?_⟩
  · intro o P a b l h _
    have h' : some [(gx_scm o a b, ())] = some l := h
    cases h'
    exact ⟨_, List.mem_cons_self, trivial, rfl⟩
  · intro P a n l h _
    have h' : (if 0 ≤ a.toInt ∧ a.toInt < n then some [(a.toInt.toNat, ())] else none) = some l := h
    split at h'
    · rename_i hc
      cases h'
      exact ⟨_, List.mem_cons_self, trivial, by dsimp only; omega, gs_nI a hc.1⟩
    · cases h'
  · intro P a h _
    have h' : (decide (a = 0) || decide (a = 1)) = true := h
    simpa using h'
section GMAP
variable {α β π : Type}
def gm_V (evI : α → Int32) (evL : β → Int64) : gx_V α β → gx_V Int32 Int64
  | .inl a => .inl (evI a)
  | .inr (.inl b) => .inr (.inl (evL b))
  | .inr (.inr r) => .inr (.inr r)
def gm_C (evI : α → Int32) (evL : β → Int64) : gx_C α β → gx_C Int32 Int64
  | .inl (ci, fs) => .inl (ci, fs.map (gm_V evI evL))
  | .inr (tg, n, f) => .inr (tg, n, fun j => gm_V evI evL (f j))
def gm_O (evI : α → Int32) (evL : β → Int64) : gx_O α β → gx_O Int32 Int64
  | .inl v => .inl (v.map (gm_V evI evL))
  | .inr k => .inr k
variable {cl : List vw_C} {dC : Nat → ClassId} {dI : Nat → Nat → Nat} {od : Nat → Nat} {mo base : Nat} {evI : α → Int32} {evL : β → Int64} {ok : π → Prop} {Tb : List Cond} {M : gx_M} {s0 U : State} {l : Launch} {ad : Nat → Nat}
theorem gm_cv (v : gx_V α β) : gx_cv (fun x => x) (fun x => x) ad (gm_V evI evL v) = gx_cv evI evL ad v := by
  rcases v with a | b | _ | k <;> rfl
theorem gm_oc (o : gx_O α β) : gx_oc (fun x => x) (fun x => x) ad (gm_O evI evL o) = gx_oc evI evL ad o := by
  rcases o with (_ | v) | k
  · rfl
  · show Outcome.returned (some (gx_cv _ _ ad (gm_V evI evL v))) = Outcome.returned (some (gx_cv evI evL ad v))
    rw [gm_cv]
  · rfl
theorem gm_cell {nw : Prop} {H : Heap} {q : Nat} (x : gx_C α β) : gx_cell cl dC dI (gx_cv (fun x => x) (fun x => x) ad) U nw H q (gm_C evI evL x) ↔ gx_cell cl dC dI (gx_cv evI evL ad) U nw H q x := by
  rcases x with ⟨ci, fs⟩ | ⟨tg, n, f⟩
  · simp only [gm_C, gx_cell]
    refine or_congr Iff.rfl (exists_congr fun cell => and_congr Iff.rfl (and_congr Iff.rfl (and_congr Iff.rfl ⟨fun h k v hv => ?_, fun h k v hv => ?_⟩)))
    · have := h k (gm_V evI evL v) (by rw [List.getElem?_map, hv]; rfl)
      rw [gm_cv] at this
      exact this
    · rw [List.getElem?_map] at hv
      cases hw : fs[k]? with
      | none => rw [hw] at hv; cases hv
      | some w =>
        rw [hw] at hv
        cases hv
        rw [gm_cv]
        exact h k w hw
  · simp only [gm_C, gx_cell, gm_cv]
theorem gm_rep {H : Heap} (h : gx_H α β) : gx_rep cl dC dI (gx_cv (fun x => x) (fun x => x) (gx_ad od mo base)) od mo base U H (h.map (gm_C evI evL)) ↔ gx_rep cl dC dI (gx_cv evI evL (gx_ad od mo base)) od mo base U H h := by
  unfold gx_rep
  rw [List.length_map]
  refine and_congr Iff.rfl (and_congr Iff.rfl ⟨fun g k x hx => ?_, fun g k x hx => ?_⟩)
  · exact (gm_cell x).mp (g k _ (by rw [List.getElem?_map, hx]; rfl))
  · rw [List.getElem?_map] at hx
    cases hw : h[k]? with
    | none => rw [hw] at hx; cases hx
    | some w =>
      rw [hw] at hx
      cases hx
      exact (gm_cell w).mpr (g k w hw)
/-- a contract over the numbers themselves is one over any domain -/
theorem gm_con {d c1 s1 : Nat} {as : List (gx_V α β)} {h : gx_H α β} {rs : List (gx_R α β π)} {rsA : List (gx_R Int32 Int64 Unit)}
    (hA : gx_con cl dC dI od mo base (fun x => x) (fun x => x) (fun _ => True) Tb s0 l d M (as.map (gm_V evI evL)) (h.map (gm_C evI evL)) rsA c1 s1)
    (hr : ∀ rA ∈ rsA, ∃ r ∈ rs, ok r.2.2 ∧ rA.1 = gm_O evI evL r.1 ∧ rA.2.1 = r.2.1.map (gm_C evI evL)) : gx_con cl dC dI od mo base evI evL ok Tb s0 l d M as h rs c1 s1 := by
  intro p e ha hc hk U m args below hfr happ hP hT
  obtain ⟨e1, hAn, hrep⟩ := hP
  obtain ⟨n, o, q1, q2, q3, rA, hrA, -, ho, hrep', hFE⟩ := hA p e ha hc hk U m args below hfr happ ⟨by rw [e1, List.map_map]; congr 1; exact List.map_congr_left (fun v _ => (gm_cv v).symm), hAn, (gm_rep h).mpr hrep⟩ hT
  obtain ⟨r, h1, h2, h3, h4⟩ := hr rA hrA
  rw [h3, gm_oc] at ho
  rw [h4] at hrep'
  exact ⟨n, o, q1, q2, q3, r, h1, h2, ho, (gm_rep _).mp hrep', hFE⟩
end GMAP
end
section
section GR
variable {α β π : Type} {G : gx_G} {D : gx_D α β π} {mo n d : Nat} {E : Nat → Nat → List (gx_V α β) → gx_H α β → π → gx_A α β π} {M : gx_M} {pc pc' : Nat} {lv lv' : gx_L α β} {st st' : List (gx_V α β)} {h h' : gx_H α β} {P P' : π}
theorem gq_0 (x : gx_A α β π) : gx_add 0 0 (gx_all [x]) = x := by
  rcases x with _ | ⟨rs, c, s⟩
  · rfl
  · simp [gx_all, gx_add]
/-- one step that goes on at one place -/
theorem gq_1 (hst : gx_st G D mo M pc lv st h P = some (.inl [(pc', lv', st', h', P')], 0, 0)) : gx_run G D mo E (n + 1) d M pc lv st h P = gx_run G D mo E n d M pc' lv' st' h' P' := by
  simp only [gx_run, hst, List.map_cons, List.map_nil]
  exact gq_0 _
/-- one step that ends -/
theorem gq_e {r : gx_R α β π} {kc ks : Nat} (hst : gx_st G D mo M pc lv st h P = some (.inr (.inl r), kc, ks)) : gx_run G D mo E (n + 1) d M pc lv st h P = some ([r], kc, ks) := by
  simp only [gx_run, hst]
theorem gq_gf {ow idx ci k a : Nat} {fs : List (gx_V α β)} {v : gx_V α β} {r : List (gx_V α β)} (hfl : gx_fl G ow idx = some (ci, k)) (ha : h[a]? = some (.inl (ci, fs))) (hk : fs[k]? = some v) : gx_gf G ow idx lv (.inr (.inr (some a)) :: r) h P pc = some (.inl [(pc + 3, lv, v :: r, h, P)], 0, 0) := by
  simp only [gx_gf, hfl, ha, hk, if_pos, gx_g1]
theorem gq_pf {ow idx ci k a nn tg : Nat} {isI fin : Bool} {fs : List (gx_V α β)} {tys : List (Nat × Bool)} {v : gx_V α β} {r : List (gx_V α β)} (hfl : gx_fl G ow idx = some (ci, k)) (ha : h[a]? = some (.inl (ci, fs))) (hkl : gx_kl G ci = some (tys, nn)) (htg : tys[k]? = some (tg, fin)) (hk : (fs[k]?).isSome = true) (hma : mo ≤ a) (hft : gx_ft D P tg v = true) (hfin : fin = false ∨ (isI = true ∧ ow = ci)) :
    gx_pf G D mo ow isI idx lv (v :: .inr (.inr (some a)) :: r) h P pc = some (.inl [(pc + 3, lv, r, h.set a (.inl (ci, fs.set k v)), P)], 0, 0) := by
  simp only [gx_pf, hfl, ha, hkl, htg]
  rw [if_pos ⟨trivial, hk, hma, hft, hfin⟩]
  rfl
theorem gq_as {okt : Nat → Bool} {x i : α} {a tg m k : Nat} {f : Nat → gx_V α β} {r : List (gx_V α β)} (ha : h[a]? = some (.inr (tg, m, f))) (ho : okt tg = true) (hma : mo ≤ a) (hix : gx_ix D P i m = some [(k, P')]) :
    gx_as D mo okt lv (.inl x :: .inl i :: .inr (.inr (some a)) :: r) h P pc = some (.inl [(pc + 1, lv, r, h.set a (.inr (tg, m, gx_up f k (.inl (gx_nw D tg x)))), P')], 0, 0) := by
  simp only [gx_as, ha]
  rw [if_pos ⟨ho, hma⟩, hix]
  rfl
/-- a store that changes nothing -/
theorem gq_same {a tg m k : Nat} {f : Nat → gx_V α β} {v : gx_V α β} (ha : h[a]? = some (.inr (tg, m, f))) (hv : f k = v) : h.set a (.inr (tg, m, gx_up f k v)) = h := by
  have e1 : gx_up f k v = f := by
    funext j
    unfold gx_up
    split
    · rename_i hj
      rw [hj, hv]
    · rfl
  rw [e1]
  apply List.ext_getElem?
  intro j
  by_cases hj : j = a
  · subst hj
    rw [List.getElem?_set_self (List.getElem?_eq_some_iff.mp ha).1, ha]
  · rw [List.getElem?_set_ne (Ne.symm hj)]
end GR
section GR2
variable {α β π : Type} {G : gx_G} {D : gx_D α β π} {mo n d : Nat} {E : Nat → Nat → List (gx_V α β) → gx_H α β → π → gx_A α β π} {M M' : gx_M} {pc : Nat} {lv : gx_L α β} {st : List (gx_V α β)} {h h' : gx_H α β} {P P' : π}
/-- a call that returns at one place, and makes nothing -/
theorem gq_c {kd j kc ks : Nat} {as rest : List (gx_V α β)} {v : Option (gx_V α β)} (hst : gx_st G D mo M pc lv st h P = some (.inr (.inr (kd, j, as, rest)), kc, ks)) (hE : E d j as h P = none) (hM : gx_mm G j = some M') (hrun : gx_run G D mo E n d M' 0 (gx_args 0 as) [] h P = some ([(.inl v, h', P')], 0, 0)) :
    gx_run G D mo E (n + 1) (d + 1) M pc lv st h P = gx_run G D mo E n (d + 1) M (pc + 3) lv (v.toList ++ rest) h' P' := by
  simp only [gx_run, hst, hE, hM, hrun, List.map_cons, List.map_nil]
  exact gq_0 _
theorem gq_set {a : Nat} {x : gx_C α β} (ha : h[a]? = some x) : h.set a x = h := by
  apply List.ext_getElem?
  intro j
  by_cases hj : j = a
  · subst hj
    rw [List.getElem?_set_self (List.getElem?_eq_some_iff.mp ha).1, ha]
  · rw [List.getElem?_set_ne (Ne.symm hj)]
end GR2
end
section
section GCR
variable {α β π : Type} {cl : List vw_C} {dC : Nat → ClassId} {dI : Nat → Nat → Nat} {od : Nat → Nat} {mo base : Nat} {evI : α → Int32} {evL : β → Int64} {ok : π → Prop} {D : gx_D α β π} {G : gx_G} {Tb : List Cond} {M : gx_M} {s0 : State} {l : Launch} {E : Nat → Nat → List (gx_V α β) → gx_H α β → π → gx_A α β π}
/-- a method's contract out of its run -/
theorem gx_con_run (hl : gx_law D evI evL ok) (hod : ∀ j, j < mo → od j < base) (hbase : s0.heap.size = base) (hg : gx_gd G cl Tb) (hY : gx_gY G cl Tb) (hL : gx_gL G cl Tb) (hN6 : ∀ ci tys n, gx_kl G ci = some (tys, n) → tys.length = n ∨ n = 6) (hTb : ∀ w ∈ Tb, goodWord w = true) (hF0 : gx_F G cl Tb dC dI od mo s0) (hfl : l.flags = pinnedFlags ++ [noTraceFlag])
    (hE : ∀ d j as h P rs c1 s1 M, E d j as h P = some (rs, c1, s1) → ok P → gx_mm G j = some M → gx_wd as ≤ gx_ml M → gx_con cl dC dI od mo base evI evL ok Tb s0 l d M as h rs c1 s1)
    {n d j c0 k0 c1 s1 : Nat} {as : List (gx_V α β)} {h : gx_H α β} {P : π} {rs : List (gx_R α β π)} (hM : gx_mm G j = some M) (hwd : gx_wd as ≤ gx_ml M) (hrun : gx_run G D mo E n d M 0 (gx_args 0 as) [] h P = some (rs, c0, k0)) (hc : c0 ≤ c1) (hk : k0 ≤ s1) (hok : ok P) :
    gx_con cl dC dI od mo base evI evL ok Tb s0 l d M as h rs c1 s1 :=
  gx_con_of hY hM hwd (fun p e s m args below meth c Q ls hcx hAn hs hEn =>
    gx_walk hl hod hbase hg hY hL hN6 hTb hF0 hfl hE n d M 0 (gx_args 0 as) [] h P rs c0 k0 hrun p e (gx_rm d c1 s1) s m args below meth c Q c1 s1 0 0 s.heap [] ls hcx hAn ⟨Nat.le_refl _, Nat.le_refl _⟩ (by omega) (by omega) (Nat.le_refl _) (Nat.le_refl _) hok hs hEn)
end GCR
end
section
section GWK
variable {α β π : Type} {cl : List vw_C} {dC : Nat → ClassId} {dI : Nat → Nat → Nat} {od : Nat → Nat} {mo base : Nat} {evI : α → Int32} {evL : β → Int64} {ok : π → Prop} {D : gx_D α β π} {Tb : List Cond} {M : gx_M} {s0 : State} {l : Launch}
/-- a picture that says nothing of one cell -/
theorem gw_forget {cv : gx_V α β → Value} {U : State} {H : Heap} {h : gx_H α β} {t : Nat} (hcl : cl.length ≤ 1000) (hr : gx_rep cl dC dI cv od mo base U H h) : gx_rep cl dC dI cv od mo base U H (h.set t (.inl (1000, []))) := by
  refine ⟨by rw [List.length_set]; exact hr.1, by rw [List.length_set]; exact hr.2.1, fun k x hx => ?_⟩
  rw [List.getElem?_set] at hx
  split at hx
  · split at hx
    · cases hx
      exact Or.inl hcl
    · cases hx
  · exact hr.2.2 k x hx
theorem gw_con {d c1 s1 : Nat} {as : List (gx_V α β)} {h : gx_H α β} {rs : List (gx_R α β π)} {rsA : List (gx_R Int32 Int64 Unit)}
    (hA : gx_con cl dC dI od mo base (fun x => x) (fun x => x) (fun _ => True) Tb s0 l d M (as.map (gm_V evI evL)) (h.map (gm_C evI evL)) rsA c1 s1)
    (hr : ∀ rA ∈ rsA, ∃ r ∈ rs, ok r.2.2 ∧ rA.1 = gm_O evI evL r.1 ∧ ∀ U H, gx_rep cl dC dI (gx_cv (fun x => x) (fun x => x) (gx_ad od mo base)) od mo base U H rA.2.1 → gx_rep cl dC dI (gx_cv (fun x => x) (fun x => x) (gx_ad od mo base)) od mo base U H (r.2.1.map (gm_C evI evL))) : gx_con cl dC dI od mo base evI evL ok Tb s0 l d M as h rs c1 s1 := by
  intro p e ha hc hk U m args below hfr happ hP hT
  obtain ⟨e1, hAn, hrep⟩ := hP
  obtain ⟨n, o, q1, q2, q3, rA, hrA, -, ho, hrep', hFE⟩ := hA p e ha hc hk U m args below hfr happ ⟨by rw [e1, List.map_map]; congr 1; exact List.map_congr_left (fun v _ => (gm_cv v).symm), hAn, (gm_rep h).mpr hrep⟩ hT
  obtain ⟨r, h1, h2, h3, h4⟩ := hr rA hrA
  rw [h3, gm_oc] at ho
  exact ⟨n, o, q1, q2, q3, r, h1, h2, ho, (gm_rep _).mp (h4 _ _ hrep'), hFE⟩
/-- the roads of 'n is below 0 or above 65536' (true) and of the rest (false) -/
def gw_2 (D : gx_D α β π) (n : α) : List (Bool × π) → Option (List (Bool × π))
  | [] => some []
  | q :: t => match gw_2 D n t with
    | none => none
    | some r => if q.1 then some ((true, q.2) :: r) else match gx_cm D 4 q.2 n (gx_cI D 65536) with
      | none => none
      | some l => some (l ++ r)
def gw_r (D : gx_D α β π) (P : π) (n : α) : Option (List (Bool × π)) := match gx_cm D 2 P n (gx_cI D 0) with
  | none => none
  | some l => gw_2 D n l
theorem gw_2_ok (hl : gx_law D evI evL ok) {n : α} : ∀ {l r : List (Bool × π)} {q : Bool × π}, gw_2 D n l = some r → q ∈ l → ok q.2 → ∃ z ∈ r, ok z.2 ∧ z.1 = (q.1 || gx_scm 4 (evI n) 65536)
  | [], _, _, _, hq, _ => absurd hq List.not_mem_nil
  | y :: t, r, q, h, hq, hok => by
    simp only [gw_2] at h
    split at h
    · cases h
    · rename_i r0 hr0
      rcases List.mem_cons.mp hq with rfl | hq
      · split at h
        · rename_i hb
          cases h
          exact ⟨_, List.mem_cons_self, hok, by rw [hb]; rfl⟩
        · rename_i hb
          split at h
          · cases h
          · rename_i l1 hl1
            cases h
            obtain ⟨z, hz, hz1, hz2⟩ := hl.2.2.2.2.2.2.2.2.1 4 _ n (gx_cI D 65536) l1 hl1 hok
            refine ⟨z, List.mem_append_left _ hz, hz1, ?_⟩
            rw [hl.1] at hz2
            rw [hz2]
            cases hq1 : q.1 with
            | true => exact absurd hq1 hb
            | false => rfl
      · obtain ⟨z, hz, hz1⟩ := gw_2_ok hl hr0 hq hok
        split at h
        · cases h
          exact ⟨z, List.mem_cons_of_mem _ hz, hz1⟩
        · split at h
          · cases h
          · cases h
            exact ⟨z, List.mem_append_right _ hz, hz1⟩
theorem gw_r_ok (hl : gx_law D evI evL ok) {n : α} {P : π} {r : List (Bool × π)} (h : gw_r D P n = some r) (hok : ok P) : ∃ z ∈ r, ok z.2 ∧ z.1 = (gx_scm 2 (evI n) 0 || gx_scm 4 (evI n) 65536) := by
  unfold gw_r at h
  split at h
  · cases h
  · rename_i l1 hl1
    obtain ⟨q, hq, hq1, hq2⟩ := hl.2.2.2.2.2.2.2.2.1 2 _ n (gx_cI D 0) l1 hl1 hok
    rw [hl.1] at hq2
    obtain ⟨z, hz, hz1, hz2⟩ := gw_2_ok hl h hq hq1
    exact ⟨z, hz, hz1, by rw [hz2, hq2]⟩
end GWK
end
section
def gt_f0 : List (String × String × String × Bool) := []
def gt_f1 : List (String × String × String × Bool) := [("HandheldPair", "tape", "[I", true), ("HandheldPair", "tapeLength", "I", false), ("HandheldPair", "refusal", "I", false), ("HandheldPair", "goal", "J", false), ("HandheldPair", "steps", "I", false), ("HandheldPair", "consoles", "[LHandheldPair$Console;", true), ("HandheldPair", "kept", "[LHandheldPair$Console;", true), ("HandheldPair", "isKept", "[Z", true), ("HandheldPair", "keptGoals", "[J", true)]
def gt_f2 : List (String × String × String × Bool) := [("HandheldPair$Block", "places", "[I", true), ("HandheldPair$Block", "source", "I", false), ("HandheldPair$Block", "target", "I", false), ("HandheldPair$Block", "left", "I", false), ("HandheldPair$Block", "atOnce", "I", false), ("HandheldPair$Block", "owed", "I", false), ("HandheldPair$Block", "lastTold", "I", false)]
def gt_f3 : List (String × String × String × Bool) := [("HandheldPair$Cable", "sb", "I", false), ("HandheldPair$Cable", "sc", "I", false), ("HandheldPair$Cable", "bits", "I", false), ("HandheldPair$Cable", "rate", "I", false), ("HandheldPair$Cable", "colour", "Z", false)]
def gt_f4 : List (String × String × String × Bool) := [("HandheldPair$Cartridge", "image", "[I", true), ("HandheldPair$Cartridge", "ram", "[I", true), ("HandheldPair$Cartridge", "clock", "LHandheldPair$CartridgeClock;", true), ("HandheldPair$Cartridge", "family", "I", false), ("HandheldPair$Cartridge", "banks", "I", false), ("HandheldPair$Cartridge", "ramSize", "I", false), ("HandheldPair$Cartridge", "ramBanks", "I", false), ("HandheldPair$Cartridge", "ramOn", "Z", false), ("HandheldPair$Cartridge", "low", "I", false), ("HandheldPair$Cartridge", "high", "I", false), ("HandheldPair$Cartridge", "mode", "I", false), ("HandheldPair$Cartridge", "latchReady", "Z", false)]
def gt_f5 : List (String × String × String × Bool) := [("HandheldPair$CartridgeClock", "now", "[I", true), ("HandheldPair$CartridgeClock", "latched", "[I", true), ("HandheldPair$CartridgeClock", "dotsLeft", "I", false)]
def gt_f6 : List (String × String × String × Bool) := [("HandheldPair$Channel", "which", "I", true), ("HandheldPair$Channel", "\x72", "[I", true), ("HandheldPair$Channel", "on", "Z", false), ("HandheldPair$Channel", "length", "I", false), ("HandheldPair$Channel", "period", "I", false), ("HandheldPair$Channel", "position", "I", false), ("HandheldPair$Channel", "volume", "I", false), ("HandheldPair$Channel", "envelopeCount", "I", false), ("HandheldPair$Channel", "noise", "I", false), ("HandheldPair$Channel", "shadow", "I", false), ("HandheldPair$Channel", "sweepCount", "I", false), ("HandheldPair$Channel", "sweepCounts", "Z", false)]
def gt_f7 : List (String × String × String × Bool) := [("HandheldPair$Console", "processor", "LHandheldPair$Processor;", true), ("HandheldPair$Console", "cartridge", "LHandheldPair$Cartridge;", true), ("HandheldPair$Console", "timer", "LHandheldPair$Timer;", true), ("HandheldPair$Console", "cable", "LHandheldPair$Cable;", true), ("HandheldPair$Console", "copy", "LHandheldPair$Copy;", true), ("HandheldPair$Console", "block", "LHandheldPair$Block;", true), ("HandheldPair$Console", "screen", "LHandheldPair$Screen;", true), ("HandheldPair$Console", "sound", "LHandheldPair$Sound;", true), ("HandheldPair$Console", "work", "[I", true), ("HandheldPair$Console", "high", "[I", true), ("HandheldPair$Console", "other", "LHandheldPair$Console;", false), ("HandheldPair$Console", "on", "Z", false), ("HandheldPair$Console", "colour", "Z", false), ("HandheldPair$Console", "fast", "Z", false), ("HandheldPair$Console", "fastArmed", "Z", false), ("HandheldPair$Console", "keysDown", "I", false), ("HandheldPair$Console", "chosenHalves", "I", false), ("HandheldPair$Console", "workBank", "I", false), ("HandheldPair$Console", "time", "J", false)]
def gt_f8 : List (String × String × String × Bool) := [("HandheldPair$Copy", "written", "I", false), ("HandheldPair$Copy", "wait", "I", false), ("HandheldPair$Copy", "left", "I", false), ("HandheldPair$Copy", "source", "I", false)]
def gt_f9 : List (String × String × String × Bool) := [("HandheldPair$Processor", "\x72", "[I", true), ("HandheldPair$Processor", "sp", "I", false), ("HandheldPair$Processor", "pc", "I", false), ("HandheldPair$Processor", "state", "I", false), ("HandheldPair$Processor", "ime", "Z", false), ("HandheldPair$Processor", "imeIn", "I", false), ("HandheldPair$Processor", "again", "Z", false), ("HandheldPair$Processor", "asked", "I", false), ("HandheldPair$Processor", "allowed", "I", false), ("HandheldPair$Processor", "program", "Ljava/lang/String;", false), ("HandheldPair$Processor", "place", "I", false), ("HandheldPair$Processor", "part", "I", false), ("HandheldPair$Processor", "opcode", "I", false), ("HandheldPair$Processor", "word", "I", false), ("HandheldPair$Processor", "data", "I", false), ("HandheldPair$Processor", "address", "I", false), ("HandheldPair$Processor", "pushed", "I", false), ("HandheldPair$Processor", "vector", "I", false)]
def gt_f10 : List (String × String × String × Bool) := [("HandheldPair$Screen", "video", "[I", true), ("HandheldPair$Screen", "sprites", "[I", true), ("HandheldPair$Screen", "picture", "[I", true), ("HandheldPair$Screen", "colours", "[I", true), ("HandheldPair$Screen", "colourIndexes", "[I", true), ("HandheldPair$Screen", "\x72", "[I", true), ("HandheldPair$Screen", "chosen", "[I", true), ("HandheldPair$Screen", "chosenCount", "I", false), ("HandheldPair$Screen", "colour", "Z", false), ("HandheldPair$Screen", "videoBank", "I", false), ("HandheldPair$Screen", "dot", "I", false), ("HandheldPair$Screen", "mode", "I", false), ("HandheldPair$Screen", "fine", "I", false), ("HandheldPair$Screen", "window", "I", false), ("HandheldPair$Screen", "windowDrawn", "Z", false), ("HandheldPair$Screen", "statLine", "Z", false)]
def gt_f11 : List (String × String × String × Bool) := [("HandheldPair$Sound", "channels", "[LHandheldPair$Channel;", true), ("HandheldPair$Sound", "wave", "[I", true), ("HandheldPair$Sound", "isOn", "Z", false), ("HandheldPair$Sound", "loudness", "I", false), ("HandheldPair$Sound", "sides", "I", false), ("HandheldPair$Sound", "stepAt", "I", false), ("HandheldPair$Sound", "owedDots", "I", false), ("HandheldPair$Sound", "untilSample", "I", false), ("HandheldPair$Sound", "heard", "I", false)]
def gt_f12 : List (String × String × String × Bool) := [("HandheldPair$Timer", "divider", "I", false), ("HandheldPair$Timer", "tima", "I", false), ("HandheldPair$Timer", "tma", "I", false), ("HandheldPair$Timer", "tac", "I", false), ("HandheldPair$Timer", "wait", "I", false)]
def gt_f13 : List (String × String × String × Bool) := [("HandheldPairModel", "tape", "[B", true), ("HandheldPairModel", "size", "I", false), ("HandheldPairModel", "thrown", "I", false), ("HandheldPairModel", "refusal", "I", false), ("HandheldPairModel", "done", "I", false), ("HandheldPairModel", "both", "[LHandheldPairModel$Console;", true), ("HandheldPairModel", "kept", "[LHandheldPairModel$Console;", true), ("HandheldPairModel", "has", "[Z", true), ("HandheldPairModel", "keptGoal", "[J", true), ("HandheldPairModel", "goal", "J", false)]
def gt_f14 : List (String × String × String × Bool) := [("HandheldPairModel$Cart", "image", "[B", false), ("HandheldPairModel$Cart", "ram", "[B", true), ("HandheldPairModel$Cart", "size", "I", false), ("HandheldPairModel$Cart", "banks", "I", false), ("HandheldPairModel$Cart", "rams", "I", false), ("HandheldPairModel$Cart", "sort", "I", false), ("HandheldPairModel$Cart", "colour", "Z", false), ("HandheldPairModel$Cart", "on", "Z", false), ("HandheldPairModel$Cart", "low", "I", false), ("HandheldPairModel$Cart", "high", "I", false), ("HandheldPairModel$Cart", "mode", "I", false), ("HandheldPairModel$Cart", "before", "I", false), ("HandheldPairModel$Cart", "dots", "I", false), ("HandheldPairModel$Cart", "clock", "[I", true), ("HandheldPairModel$Cart", "latched", "[I", true)]
def gt_f15 : List (String × String × String × Bool) := [("HandheldPairModel$Console", "cart", "LHandheldPairModel$Cart;", true), ("HandheldPairModel$Console", "voices", "LHandheldPairModel$Voices;", true), ("HandheldPairModel$Console", "other", "LHandheldPairModel$Console;", false), ("HandheldPairModel$Console", "on", "Z", false), ("HandheldPairModel$Console", "colour", "Z", false), ("HandheldPairModel$Console", "time", "J", false), ("HandheldPairModel$Console", "video", "[B", true), ("HandheldPairModel$Console", "work", "[B", true), ("HandheldPairModel$Console", "sprites", "[B", true), ("HandheldPairModel$Console", "small", "[B", true), ("HandheldPairModel$Console", "pixels", "[I", true), ("HandheldPairModel$Console", "keys", "I", false), ("HandheldPairModel$Console", "select", "I", false), ("HandheldPairModel$Console", "enable", "I", false), ("HandheldPairModel$Console", "asked", "I", false), ("HandheldPairModel$Console", "divider", "I", false), ("HandheldPairModel$Console", "tima", "I", false), ("HandheldPairModel$Console", "tma", "I", false), ("HandheldPairModel$Console", "tac", "I", false), ("HandheldPairModel$Console", "wait", "I", false), ("HandheldPairModel$Console", "sb", "I", false), ("HandheldPairModel$Console", "sc", "I", false), ("HandheldPairModel$Console", "rate", "I", false), ("HandheldPairModel$Console", "bits", "I", false), ("HandheldPairModel$Console", "fast", "Z", false), ("HandheldPairModel$Console", "key1", "I", false), ("HandheldPairModel$Console", "vbk", "I", false), ("HandheldPairModel$Console", "svbk", "I", false), ("HandheldPairModel$Console", "page", "I", false), ("HandheldPairModel$Console", "pages", "I", false), ("HandheldPairModel$Console", "begins", "I", false), ("HandheldPairModel$Console", "left", "I", false), ("HandheldPairModel$Console", "block", "[I", true), ("HandheldPairModel$Console", "source", "I", false), ("HandheldPairModel$Console", "goal", "I", false), ("HandheldPairModel$Console", "told", "I", false), ("HandheldPairModel$Console", "idle", "I", false), ("HandheldPairModel$Console", "slow", "I", false), ("HandheldPairModel$Console", "lcdc", "I", false), ("HandheldPairModel$Console", "stat", "I", false), ("HandheldPairModel$Console", "scy", "I", false), ("HandheldPairModel$Console", "scx", "I", false), ("HandheldPairModel$Console", "ly", "I", false), ("HandheldPairModel$Console", "lyc", "I", false), ("HandheldPairModel$Console", "bgp", "I", false), ("HandheldPairModel$Console", "obp0", "I", false), ("HandheldPairModel$Console", "obp1", "I", false), ("HandheldPairModel$Console", "wy", "I", false), ("HandheldPairModel$Console", "wx", "I", false), ("HandheldPairModel$Console", "mode", "I", false), ("HandheldPairModel$Console", "fine", "I", false), ("HandheldPairModel$Console", "dot", "I", false), ("HandheldPairModel$Console", "window", "I", false), ("HandheldPairModel$Console", "ofWindow", "Z", false), ("HandheldPairModel$Console", "statLine", "Z", false), ("HandheldPairModel$Console", "chosen", "[I", true), ("HandheldPairModel$Console", "many", "I", false), ("HandheldPairModel$Console", "index", "[I", true), ("HandheldPairModel$Console", "colours", "[[B", true), ("HandheldPairModel$Console", "\x72", "[I", true), ("HandheldPairModel$Console", "sp", "I", false), ("HandheldPairModel$Console", "pc", "I", false), ("HandheldPairModel$Console", "state", "I", false), ("HandheldPairModel$Console", "ime", "Z", false), ("HandheldPairModel$Console", "soon", "Z", false), ("HandheldPairModel$Console", "stays", "Z", false), ("HandheldPairModel$Console", "cancelled", "Z", false), ("HandheldPairModel$Console", "comes", "Z", false)]
def gt_f16 : List (String × String × String × Bool) := [("HandheldPairModel$Voices", "reg", "[I", true), ("HandheldPairModel$Voices", "on", "Z", false), ("HandheldPairModel$Voices", "works", "[Z", true), ("HandheldPairModel$Voices", "length", "[I", true), ("HandheldPairModel$Voices", "volume", "[I", true), ("HandheldPairModel$Voices", "count", "[I", true), ("HandheldPairModel$Voices", "period", "[I", true), ("HandheldPairModel$Voices", "place", "[I", true), ("HandheldPairModel$Voices", "noise", "I", false), ("HandheldPairModel$Voices", "shadow", "I", false), ("HandheldPairModel$Voices", "sweep", "I", false), ("HandheldPairModel$Voices", "step", "I", false), ("HandheldPairModel$Voices", "dots", "I", false), ("HandheldPairModel$Voices", "sweeps", "Z", false), ("HandheldPairModel$Voices", "heard", "I", false)]
def gt_f17 : List (String × String × String × Bool) := []
def gt_f18 : List (String × String × String × Bool) := []
def gt_f19 : List (String × String × String × Bool) := []
def gt_f20 : List (String × String × String × Bool) := []
def gt_f21 : List (String × String × String × Bool) := []
def gt_T (l : List (String × String × String × Bool)) : u_T := fun k => l.getD k ("", "", "", false)
def gt_cl : List vw_C := [("HandheldPairLaw", gt_T gt_f0, 0), ("HandheldPair", gt_T gt_f1, 9), ("HandheldPair$Block", gt_T gt_f2, 7), ("HandheldPair$Cable", gt_T gt_f3, 5), ("HandheldPair$Cartridge", gt_T gt_f4, 12), ("HandheldPair$CartridgeClock", gt_T gt_f5, 3), ("HandheldPair$Channel", gt_T gt_f6, 12), ("HandheldPair$Console", gt_T gt_f7, 19), ("HandheldPair$Copy", gt_T gt_f8, 4), ("HandheldPair$Processor", gt_T gt_f9, 18), ("HandheldPair$Screen", gt_T gt_f10, 16), ("HandheldPair$Sound", gt_T gt_f11, 9), ("HandheldPair$Timer", gt_T gt_f12, 5), ("HandheldPairModel", gt_T gt_f13, 10), ("HandheldPairModel$Cart", gt_T gt_f14, 15), ("HandheldPairModel$Console", gt_T gt_f15, 68), ("HandheldPairModel$Voices", gt_T gt_f16, 15), ("java/lang/IllegalStateException", gt_T gt_f17, 0), ("java/lang/IllegalArgumentException", gt_T gt_f18, 0), ("java/util/NoSuchElementException", gt_T gt_f19, 0), ("java/lang/UnsupportedOperationException", gt_T gt_f20, 0), ("java/lang/IndexOutOfBoundsException", gt_T gt_f21, 0)]
def gt_kl : List (Option (List (Nat × Bool) × Nat)) := [none, some ([(3, true), (0, false), (0, false), (2, false), (0, false), (3, true), (3, true), (3, true), (3, true)], 9), some ([(3, true), (0, false), (0, false), (0, false), (0, false), (0, false), (0, false)], 7), some ([(0, false), (0, false), (0, false), (0, false), (1, false)], 5), some ([(3, true), (3, true), (3, true), (0, false), (0, false), (0, false), (0, false), (1, false), (0, false), (0, false), (0, false), (1, false)], 12), some ([(3, true), (3, true), (0, false)], 3), some ([(0, true), (3, true), (1, false), (0, false), (0, false), (0, false), (0, false), (0, false), (0, false), (0, false), (0, false), (1, false)], 12), some ([(3, true), (3, true), (3, true), (3, true), (3, true), (3, true), (3, true), (3, true), (3, true), (3, true), (3, false), (1, false), (1, false), (1, false), (1, false), (0, false), (0, false), (0, false), (2, false)], 19), some ([(0, false), (0, false), (0, false), (0, false)], 4), some ([(3, true), (0, false), (0, false), (0, false), (1, false), (0, false), (1, false), (0, false), (0, false), (3, false), (0, false), (0, false), (0, false), (0, false), (0, false), (0, false), (0, false), (0, false)], 18), some ([(3, true), (3, true), (3, true), (3, true), (3, true), (3, true), (3, true), (0, false), (1, false), (0, false), (0, false), (0, false), (0, false), (0, false), (1, false), (1, false)], 16), some ([(3, true), (3, true), (1, false), (0, false), (0, false), (0, false), (0, false), (0, false), (0, false)], 9), some ([(0, false), (0, false), (0, false), (0, false), (0, false)], 5), some ([(3, true), (0, false), (0, false), (0, false), (0, false), (3, true), (3, true), (3, true), (3, true), (2, false)], 10), some ([(3, false), (3, true), (0, false), (0, false), (0, false), (0, false), (1, false), (1, false), (0, false), (0, false), (0, false), (0, false), (0, false), (3, true), (3, true)], 15), some ([(3, true), (3, true), (3, false), (1, false), (1, false), (2, false), (3, true), (3, true), (3, true), (3, true), (3, true), (0, false), (0, false), (0, false), (0, false), (0, false), (0, false), (0, false), (0, false), (0, false), (0, false), (0, false), (0, false), (0, false), (1, false), (0, false), (0, false), (0, false), (0, false), (0, false), (0, false), (0, false), (3, true), (0, false), (0, false), (0, false), (0, false), (0, false), (0, false), (0, false), (0, false), (0, false), (0, false), (0, false), (0, false), (0, false), (0, false), (0, false), (0, false), (0, false), (0, false), (0, false), (0, false), (1, false), (1, false), (3, true), (0, false), (3, true), (3, true), (3, true), (0, false), (0, false), (0, false), (1, false), (1, false), (1, false), (1, false), (1, false)], 68), some ([(3, true), (1, false), (3, true), (3, true), (3, true), (3, true), (3, true), (3, true), (0, false), (0, false), (0, false), (0, false), (0, false), (1, false), (0, false)], 15), some ([], 6), some ([], 6), some ([], 6), some ([], 6), some ([], 6)]
def gt_klp : List ((Nat × Nat) × (Nat × Nat) × List (Nat × Nat)) := [((0, 0), (0, 0), []), ((1, 38), (1, 1), [(3, 34), (3, 36), (3, 38), (3, 40), (3, 42), (3, 44), (3, 46), (3, 48), (3, 50)]), ((2, 24), (1, 9), [(2, 42), (2, 44), (2, 46), (2, 48), (2, 50), (2, 52), (2, 54)]), ((1, 217), (1, 7), [(1, 230), (1, 232), (1, 234), (1, 236), (1, 238)]), ((1, 123), (1, 4), [(1, 165), (1, 167), (1, 169), (1, 171), (1, 173), (1, 175), (1, 177), (1, 179), (1, 181), (1, 183), (1, 185), (1, 187)]), ((1, 131), (1, 5), [(1, 140), (1, 142), (1, 144)]), ((2, 127), (1, 12), [(2, 147), (2, 149), (2, 151), (2, 153), (2, 155), (2, 157), (2, 159), (2, 161), (2, 163), (2, 165), (2, 167), (2, 169)]), ((1, 48), (1, 2), [(2, 226), (2, 228), (2, 230), (2, 232), (2, 234), (2, 236), (2, 238), (3, 0), (3, 2), (3, 4), (3, 6), (3, 8), (3, 10), (3, 12), (3, 14), (3, 16), (3, 18), (3, 20), (3, 22)]), ((2, 2), (1, 8), [(2, 14), (2, 16), (2, 18), (2, 20)]), ((1, 54), (1, 3), [(1, 83), (1, 85), (1, 87), (1, 89), (1, 91), (1, 93), (1, 95), (1, 97), (1, 99), (1, 101), (1, 103), (1, 105), (1, 107), (1, 109), (1, 111), (1, 113), (1, 115), (1, 117)]), ((2, 58), (1, 10), [(2, 86), (2, 88), (2, 90), (2, 92), (2, 94), (2, 96), (2, 98), (2, 100), (2, 102), (2, 104), (2, 106), (2, 108), (2, 110), (2, 112), (2, 114), (2, 116)]), ((2, 120), (1, 11), [(2, 182), (2, 184), (2, 186), (2, 188), (2, 190), (2, 192), (2, 194), (2, 196), (2, 198)]), ((1, 191), (1, 6), [(1, 205), (1, 207), (1, 209), (1, 211), (1, 213)]), ((7, 214), (1, 13), [(9, 85), (9, 87), (9, 89), (9, 91), (9, 93), (9, 95), (9, 97), (9, 99), (9, 101), (9, 103)]), ((7, 228), (1, 15), [(8, 15), (8, 17), (8, 19), (8, 21), (8, 23), (8, 25), (8, 27), (8, 29), (8, 31), (8, 33), (8, 35), (8, 37), (8, 39), (8, 41), (8, 43)]), ((7, 222), (1, 14), [(8, 174), (8, 176), (8, 178), (8, 180), (8, 182), (8, 184), (8, 186), (8, 188), (8, 190), (8, 192), (8, 194), (8, 196), (8, 198), (8, 200), (8, 202), (8, 204), (8, 206), (8, 208), (8, 210), (8, 212), (8, 214), (8, 216), (8, 218), (8, 220), (8, 222), (8, 224), (8, 226), (8, 228), (8, 230), (8, 232), (8, 234), (8, 236), (8, 238), (9, 0), (9, 2), (9, 4), (9, 6), (9, 8), (9, 10), (9, 12), (9, 14), (9, 16), (9, 18), (9, 20), (9, 22), (9, 24), (9, 26), (9, 28), (9, 30), (9, 32), (9, 34), (9, 36), (9, 38), (9, 40), (9, 42), (9, 44), (9, 46), (9, 48), (9, 50), (9, 52), (9, 54), (9, 56), (9, 58), (9, 60), (9, 62), (9, 64), (9, 66), (9, 68)]), ((8, 47), (1, 16), [(8, 68), (8, 70), (8, 72), (8, 74), (8, 76), (8, 78), (8, 80), (8, 82), (8, 84), (8, 86), (8, 88), (8, 90), (8, 92), (8, 94), (8, 96)]), ((3, 73), (1, 20), []), ((3, 155), (1, 21), []), ((3, 179), (1, 22), []), ((3, 221), (1, 23), []), ((7, 108), (1, 35), [])]
def gt_fl0 : List (List (Nat × (Nat × Nat × Nat × Nat))) := []
def gt_fl1 : List (List (Nat × (Nat × Nat × Nat × Nat))) := [[], [(10, 1, 0, 3, 25)], [(16, 1, 5, 3, 30), (21, 7, 10, 2, 214)], [(25, 1, 6, 3, 31), (28, 1, 7, 3, 32)], [(32, 1, 8, 3, 33), (36, 1, 2, 3, 27)], [(40, 1, 1, 3, 26)], [], [], [], [(78, 7, 11, 2, 217)], [(87, 7, 1, 2, 204)], [(95, 1, 3, 3, 28)], [(103, 4, 4, 1, 154)], [], [(114, 7, 18, 2, 225)], [], [(131, 1, 4, 3, 29)], [], [(151, 7, 6, 2, 210)], [(155, 10, 2, 2, 68)], [(162, 4, 5, 1, 156), (167, 4, 1, 1, 149)]]
def gt_fl2 : List (List (Nat × (Nat × Nat × Nat × Nat))) := [[(7, 2, 0, 2, 29)], [], [(19, 2, 1, 2, 31), (23, 2, 2, 2, 33)], [(26, 2, 3, 2, 35), (29, 2, 4, 2, 37)], [(32, 2, 5, 2, 39), (35, 2, 6, 2, 41)]]
def gt_fl3 : List (List (Nat × (Nat × Nat × Nat × Nat))) := [[(7, 3, 0, 1, 222)], [(13, 3, 1, 1, 224)], [(16, 3, 2, 1, 226), (19, 3, 3, 1, 228), (22, 3, 4, 1, 229)]]
def gt_fl4 : List (List (Nat × (Nat × Nat × Nat × Nat))) := [[], [(10, 4, 0, 1, 147), (15, 4, 1, 1, 148)], [(21, 4, 2, 1, 150)], [(25, 4, 4, 1, 153)], [(33, 4, 3, 1, 152)], [(45, 4, 6, 1, 157)], [(48, 4, 5, 1, 155)], [(59, 4, 7, 1, 158), (63, 4, 8, 1, 159)], [(66, 4, 9, 1, 161), (69, 4, 10, 1, 163)], [(72, 4, 11, 1, 164)]]
def gt_fl5 : List (List (Nat × (Nat × Nat × Nat × Nat))) := [[(7, 5, 0, 1, 136)], [(13, 5, 1, 1, 137)], [(23, 5, 2, 1, 139)]]
def gt_fl6 : List (List (Nat × (Nat × Nat × Nat × Nat))) := [[(7, 6, 1, 2, 133)], [(13, 6, 0, 2, 132)], [(20, 6, 3, 2, 137), (23, 6, 4, 2, 138)], [(26, 6, 5, 2, 139), (29, 6, 6, 2, 141)], [(32, 6, 7, 2, 142), (35, 6, 8, 2, 143), (38, 6, 9, 2, 144)], [(41, 6, 10, 2, 145), (44, 6, 11, 2, 146)], [(54, 6, 2, 2, 135)]]
def gt_fl7 : List (List (Nat × (Nat × Nat × Nat × Nat))) := [[], [(10, 7, 0, 2, 202)], [(19, 7, 1, 2, 203)], [(26, 7, 2, 2, 205)], [(33, 7, 3, 2, 206)], [(40, 7, 4, 2, 207), (47, 7, 5, 2, 208)], [(54, 7, 6, 2, 209)], [(61, 7, 7, 2, 211)], [(66, 7, 8, 2, 212), (70, 7, 9, 2, 213)], [], [], [], [], [(104, 7, 11, 2, 216), (108, 7, 12, 2, 218), (111, 7, 13, 2, 219)], [(114, 7, 14, 2, 220), (117, 7, 15, 2, 221)], [(121, 7, 16, 2, 222), (124, 7, 17, 2, 223), (127, 7, 18, 2, 224)], [], [], [], [], [], [], [], [], [], [], [], [], [], [(239, 9, 7, 1, 69)]]
def gt_fl8 : List (List (Nat × (Nat × Nat × Nat × Nat))) := [[(7, 8, 0, 2, 7)], [(13, 8, 1, 2, 9)], [(16, 8, 2, 2, 10), (19, 8, 3, 2, 12)]]
def gt_fl9 : List (List (Nat × (Nat × Nat × Nat × Nat))) := [[(7, 9, 0, 1, 60)], [(15, 9, 9, 1, 72)], [], [(24, 9, 1, 1, 61), (28, 9, 2, 1, 62), (31, 9, 3, 1, 63)], [(34, 9, 4, 1, 65), (38, 9, 5, 1, 66)], [(41, 9, 6, 1, 67), (44, 9, 7, 1, 68), (47, 9, 8, 1, 70)]]
def gt_fl10 : List (List (Nat × (Nat × Nat × Nat × Nat))) := [[(7, 10, 0, 2, 63)], [(13, 10, 1, 2, 65)], [(16, 10, 2, 2, 67), (19, 10, 3, 2, 69), (22, 10, 4, 2, 70)], [(25, 10, 5, 2, 72), (28, 10, 6, 2, 73)], [(37, 10, 8, 2, 75)], [(41, 10, 9, 2, 76), (45, 10, 12, 2, 81)], [(48, 10, 7, 2, 74), (51, 10, 14, 2, 84)], [(57, 10, 10, 2, 78), (60, 10, 11, 2, 80), (63, 10, 13, 2, 82)], [(66, 10, 15, 2, 85)]]
def gt_fl11 : List (List (Nat × (Nat × Nat × Nat × Nat))) := [[], [(11, 11, 0, 2, 172), (15, 11, 1, 2, 173)], [], [(31, 11, 2, 2, 174)], [(35, 11, 3, 2, 175), (39, 11, 4, 2, 176)], [(42, 11, 5, 2, 177), (45, 11, 6, 2, 178)], [(48, 11, 7, 2, 179), (51, 11, 8, 2, 180)]]
def gt_fl12 : List (List (Nat × (Nat × Nat × Nat × Nat))) := [[(7, 12, 0, 1, 196)], [(13, 12, 1, 1, 198)], [(16, 12, 2, 1, 200), (19, 12, 3, 1, 202), (22, 12, 4, 1, 204)]]
def gt_fl13 : List (List (Nat × (Nat × Nat × Nat × Nat))) := [[], [(8, 13, 0, 9, 75), (14, 13, 1, 9, 76)], [(18, 13, 2, 9, 77), (21, 13, 3, 9, 78)], [(24, 13, 4, 9, 79), (30, 13, 5, 9, 80)], [(34, 13, 6, 9, 81), (37, 13, 7, 9, 82)], [(41, 13, 8, 9, 83), (45, 13, 9, 9, 84)], [], [(62, 15, 0, 8, 103)], [], [(72, 15, 3, 8, 107)], [(84, 14, 3, 8, 0), (87, 15, 5, 8, 110)], [], [], [(106, 15, 10, 8, 116)], [(114, 14, 1, 7, 237)]]
def gt_fl14 : List (List (Nat × (Nat × Nat × Nat × Nat))) := [[], [(8, 14, 0, 7, 235), (15, 14, 1, 7, 236)], [(18, 14, 2, 7, 238), (22, 14, 3, 7, 239)], [(25, 14, 4, 8, 1), (28, 14, 5, 8, 2), (31, 14, 6, 8, 3)], [(35, 14, 7, 8, 5), (38, 14, 8, 8, 6)], [(41, 14, 9, 8, 8), (44, 14, 10, 8, 10), (47, 14, 11, 8, 11)], [(50, 14, 12, 8, 12), (53, 14, 13, 8, 13)], [(57, 14, 14, 8, 14)]]
def gt_fl15 : List (List (Nat × (Nat × Nat × Nat × Nat))) := [[], [(10, 15, 0, 8, 102)], [(19, 15, 1, 8, 104), (23, 15, 2, 8, 105)], [(27, 15, 3, 8, 106), (31, 15, 4, 8, 108)], [(34, 15, 5, 8, 109), (38, 15, 6, 8, 111)], [(43, 15, 7, 8, 112), (46, 15, 8, 8, 113)], [(49, 15, 9, 8, 114), (52, 15, 10, 8, 115)], [(56, 15, 11, 8, 117), (60, 15, 12, 8, 118), (63, 15, 13, 8, 119)], [(66, 15, 14, 8, 120), (69, 15, 15, 8, 121)], [(72, 15, 16, 8, 122), (75, 15, 17, 8, 123), (78, 15, 18, 8, 124)], [(81, 15, 19, 8, 125), (84, 15, 20, 8, 126), (87, 15, 21, 8, 127)], [(90, 15, 22, 8, 128), (93, 15, 23, 8, 129)], [(96, 15, 24, 8, 130), (99, 15, 25, 8, 131), (102, 15, 26, 8, 132)], [(105, 15, 27, 8, 133), (108, 15, 28, 8, 134), (111, 15, 29, 8, 135)], [(114, 15, 30, 8, 136), (117, 15, 31, 8, 137)], [(120, 15, 32, 8, 138), (123, 15, 33, 8, 139), (126, 15, 34, 8, 140)], [(129, 15, 35, 8, 141), (132, 15, 36, 8, 142), (135, 15, 37, 8, 143)], [(138, 15, 38, 8, 144), (141, 15, 39, 8, 145)], [(144, 15, 40, 8, 146), (147, 15, 41, 8, 147), (150, 15, 42, 8, 148)], [(153, 15, 43, 8, 149), (156, 15, 44, 8, 150), (159, 15, 45, 8, 151)], [(162, 15, 46, 8, 152), (165, 15, 47, 8, 153)], [(168, 15, 48, 8, 154), (171, 15, 49, 8, 155), (174, 15, 50, 8, 156)], [(177, 15, 51, 8, 157), (180, 15, 52, 8, 158), (183, 15, 53, 8, 159)], [(186, 15, 54, 8, 160), (189, 15, 55, 8, 161)], [(192, 15, 56, 8, 162), (195, 15, 57, 8, 163), (199, 15, 58, 8, 164)], [(203, 15, 59, 8, 165), (206, 15, 60, 8, 166)], [(209, 15, 61, 8, 167), (212, 15, 62, 8, 168), (215, 15, 63, 8, 169)], [(218, 15, 64, 8, 170), (221, 15, 65, 8, 171)], [(224, 15, 66, 8, 172), (227, 15, 67, 8, 173)]]
def gt_fl16 : List (List (Nat × (Nat × Nat × Nat × Nat))) := [[(7, 16, 0, 8, 52)], [(13, 16, 1, 8, 53)], [(17, 16, 2, 8, 54), (21, 16, 3, 8, 55)], [(24, 16, 4, 8, 56), (27, 16, 5, 8, 57), (30, 16, 6, 8, 58)], [(33, 16, 7, 8, 59), (36, 16, 8, 8, 60)], [(40, 16, 9, 8, 61), (43, 16, 10, 8, 62), (46, 16, 11, 8, 63)], [(49, 16, 12, 8, 64), (52, 16, 13, 8, 65), (55, 16, 14, 8, 66)]]
def gt_fl17 : List (List (Nat × (Nat × Nat × Nat × Nat))) := []
def gt_fl18 : List (List (Nat × (Nat × Nat × Nat × Nat))) := []
def gt_fl19 : List (List (Nat × (Nat × Nat × Nat × Nat))) := []
def gt_fl20 : List (List (Nat × (Nat × Nat × Nat × Nat))) := []
def gt_fl21 : List (List (Nat × (Nat × Nat × Nat × Nat))) := []
def gt_fl : List (List (List (Nat × (Nat × Nat × Nat × Nat)))) := [gt_fl0, gt_fl1, gt_fl2, gt_fl3, gt_fl4, gt_fl5, gt_fl6, gt_fl7, gt_fl8, gt_fl9, gt_fl10, gt_fl11, gt_fl12, gt_fl13, gt_fl14, gt_fl15, gt_fl16, gt_fl17, gt_fl18, gt_fl19, gt_fl20, gt_fl21]
def gt_mt0 : List (List (Nat × (Nat × Nat × Nat × Nat))) := [[(7, 1, 19, 3, 68)], [(15, 1, 25, 3, 150)], [(21, 1, 28, 3, 174)], [(27, 1, 31, 3, 201)], [(32, 1, 40, 4, 87), (36, 1, 43, 4, 95)], [(40, 1, 51, 4, 114), (43, 1, 55, 7, 62), (47, 1, 58, 7, 71)], [(50, 1, 61, 7, 95), (53, 1, 64, 7, 103)], [(59, 1, 67, 7, 126), (62, 1, 70, 7, 137)], [(65, 1, 73, 7, 145), (69, 1, 92, 7, 208)], [(72, 2, 1, 1, 39), (75, 2, 13, 7, 215), (76, 0, 18, 3, 64)], [(81, 1, 21, 9, 110), (82, 1, 23, 9, 106), (86, 0, 24, 3, 146)], [(89, 1, 26, 9, 119), (90, 0, 27, 3, 170), (93, 1, 29, 9, 123), (94, 0, 30, 3, 197)], [(96, 1, 33, 9, 127), (97, 1, 37, 3, 55), (100, 1, 38, 9, 182), (101, 0, 39, 4, 84), (103, 1, 41, 9, 186)], [(104, 0, 42, 4, 92), (107, 1, 44, 9, 190), (108, 0, 50, 4, 111), (110, 1, 52, 9, 206), (111, 0, 54, 7, 59)], [(114, 1, 56, 12, 123), (115, 0, 57, 7, 68), (117, 1, 59, 12, 129), (118, 0, 60, 7, 92)], [(120, 1, 62, 12, 138), (121, 0, 63, 7, 99), (124, 1, 65, 12, 142), (125, 0, 66, 7, 123), (127, 1, 68, 12, 146)], [(128, 0, 69, 7, 134), (130, 1, 71, 12, 150), (131, 0, 72, 7, 142), (134, 1, 75, 12, 158), (135, 0, 91, 7, 205)], [(137, 1, 93, 12, 179), (138, 1, 94, 3, 59), (141, 1, 95, 12, 183)]]
def gt_mt1 : List (List (Nat × (Nat × Nat × Nat × Nat))) := [[(1, 3, 0, 1, 42)], [(14, 9, 7, 1, 46)], [(20, 7, 2, 1, 49)], [], [], [(47, 8, 17, 3, 117)], [(50, 1, 20, 3, 142)], [(58, 8, 18, 3, 164), (63, 8, 19, 3, 188)], [(70, 1, 32, 3, 205)], [(74, 1, 35, 3, 210)], [(86, 8, 20, 3, 230)], [], [], [], [(117, 1, 45, 4, 99)], [(123, 1, 53, 4, 120)], [], [], [(150, 8, 21, 7, 117)], [], [], [(170, 1, 74, 7, 149), (173, 1, 76, 7, 154)]]
def gt_mt2 : List (List (Nat × (Nat × Nat × Nat × Nat))) := [[(1, 3, 0, 2, 28)], [], [], [], [(38, 4, 0, 7, 188)]]
def gt_mt3 : List (List (Nat × (Nat × Nat × Nat × Nat))) := [[(1, 3, 0, 1, 221)]]
def gt_mt4 : List (List (Nat × (Nat × Nat × Nat × Nat))) := [[(1, 3, 0, 1, 127)], [], [(20, 7, 5, 1, 132)], [], [], [], [], [], [], [(78, 4, 0, 7, 167)], [(84, 1, 79, 7, 168)]]
def gt_mt5 : List (List (Nat × (Nat × Nat × Nat × Nat))) := [[(1, 3, 0, 1, 135)], [], [], [(27, 4, 0, 7, 43)]]
def gt_mt6 : List (List (Nat × (Nat × Nat × Nat × Nat))) := [[(1, 3, 0, 2, 131)], [], [], [], [], [], [], [(57, 4, 0, 7, 202)]]
def gt_mt7 : List (List (Nat × (Nat × Nat × Nat × Nat))) := [[(1, 3, 0, 1, 52)], [(9, 7, 3, 1, 55)], [(18, 7, 4, 1, 124)], [(25, 7, 6, 1, 192)], [(32, 7, 7, 1, 218), (39, 7, 8, 2, 3)], [(46, 7, 9, 2, 25)], [(53, 7, 10, 2, 59)], [(60, 2, 11, 2, 121)], [], [(73, 1, 77, 7, 158), (77, 1, 78, 7, 163)], [(80, 1, 80, 7, 172), (83, 1, 81, 7, 176), (86, 1, 82, 7, 180)], [(89, 1, 83, 7, 184), (92, 1, 84, 7, 189), (95, 1, 85, 7, 194)], [(98, 4, 0, 7, 204)], [], [], [], [], [], [], [(157, 1, 46, 4, 103)], [], [], [], [], [], [], [], [], [], [], [], [], [], [], [], [], [(291, 1, 47, 4, 107)]]
def gt_mt8 : List (List (Nat × (Nat × Nat × Nat × Nat))) := [[(1, 3, 0, 2, 6)]]
def gt_mt9 : List (List (Nat × (Nat × Nat × Nat × Nat))) := [[(1, 3, 0, 1, 58)], [], [], [], [], [], [(50, 4, 0, 7, 162)]]
def gt_mt10 : List (List (Nat × (Nat × Nat × Nat × Nat))) := [[(1, 3, 0, 2, 62)], [], [], [], [], [], [], [], [(69, 4, 0, 7, 193)]]
def gt_mt11 : List (List (Nat × (Nat × Nat × Nat × Nat))) := [[(1, 3, 0, 2, 124)], [(9, 9, 6, 2, 125)], [(19, 2, 12, 2, 128)], [], [], [], [(54, 1, 86, 7, 198)], [(58, 4, 0, 7, 203)]]
def gt_mt12 : List (List (Nat × (Nat × Nat × Nat × Nat))) := [[(1, 3, 0, 1, 195)]]
def gt_mt13 : List (List (Nat × (Nat × Nat × Nat × Nat))) := [[(1, 3, 0, 7, 218)], [], [], [(27, 9, 15, 7, 220), (29, 7, 14, 7, 223)], [], [], [(49, 1, 17, 9, 71), (53, 1, 22, 9, 115)], [(58, 1, 34, 9, 131)], [(66, 1, 36, 9, 135)], [], [], [(90, 1, 48, 9, 194)], [], [], [(117, 1, 87, 12, 162)]]
def gt_mt14 : List (List (Nat × (Nat × Nat × Nat × Nat))) := [[(1, 3, 0, 7, 232)], [], [], [], [], [], [], [], [(64, 4, 0, 9, 146)]]
def gt_mt15 : List (List (Nat × (Nat × Nat × Nat × Nat))) := [[(1, 3, 0, 7, 226)], [(9, 7, 15, 7, 229)], [(18, 7, 16, 8, 48)], [], [], [], [], [], [], [], [], [], [], [], [], [], [], [], [], [], [], [], [], [], [(198, 10, 0, 8, 100)], [], [], [], [], [], [], [], [(256, 4, 0, 9, 179), (263, 1, 88, 12, 166)], [(267, 1, 89, 12, 170), (270, 1, 90, 12, 175)], [], [], [], [], [], [], [], [], [], [], [(358, 1, 49, 9, 198)]]
def gt_mt16 : List (List (Nat × (Nat × Nat × Nat × Nat))) := [[(1, 3, 0, 8, 51)], [], [], [], [], [], [], [], [(67, 4, 0, 12, 174)]]
def gt_mt17 : List (List (Nat × (Nat × Nat × Nat × Nat))) := []
def gt_mt18 : List (List (Nat × (Nat × Nat × Nat × Nat))) := []
def gt_mt19 : List (List (Nat × (Nat × Nat × Nat × Nat))) := []
def gt_mt20 : List (List (Nat × (Nat × Nat × Nat × Nat))) := []
def gt_mt21 : List (List (Nat × (Nat × Nat × Nat × Nat))) := []
def gt_mt : List (List (List (Nat × (Nat × Nat × Nat × Nat)))) := [gt_mt0, gt_mt1, gt_mt2, gt_mt3, gt_mt4, gt_mt5, gt_mt6, gt_mt7, gt_mt8, gt_mt9, gt_mt10, gt_mt11, gt_mt12, gt_mt13, gt_mt14, gt_mt15, gt_mt16, gt_mt17, gt_mt18, gt_mt19, gt_mt20, gt_mt21]
def gt_cs0 : List (List (Nat × (Nat × Nat × Nat))) := [[], [(8, 1, 1, 37), (13, 17, 3, 67)], [(19, 18, 3, 149)], [(25, 19, 3, 173), (30, 20, 3, 200)], [], [], [], [(57, 21, 7, 102)], [], [(73, 13, 7, 213)]]
def gt_cs1 : List (List (Nat × (Nat × Nat × Nat))) := [[], [(14, 7, 1, 46)], [], [], [], [(43, 17, 3, 72)], [(54, 18, 3, 154)], [(59, 19, 3, 178)], [], [], [(82, 20, 3, 220)], [], [], [], [], [], [], [], [(146, 21, 7, 107)]]
def gt_cs2 : List (List (Nat × (Nat × Nat × Nat))) := []
def gt_cs3 : List (List (Nat × (Nat × Nat × Nat))) := []
def gt_cs4 : List (List (Nat × (Nat × Nat × Nat))) := [[], [], [(18, 5, 1, 130)]]
def gt_cs5 : List (List (Nat × (Nat × Nat × Nat))) := []
def gt_cs6 : List (List (Nat × (Nat × Nat × Nat))) := []
def gt_cs7 : List (List (Nat × (Nat × Nat × Nat))) := [[(7, 9, 1, 53)], [], [(16, 4, 1, 122), (23, 12, 1, 190)], [(30, 3, 1, 216)], [(37, 8, 2, 1)], [(44, 2, 2, 23)], [(51, 10, 2, 57)], [(58, 11, 2, 119)]]
def gt_cs8 : List (List (Nat × (Nat × Nat × Nat))) := []
def gt_cs9 : List (List (Nat × (Nat × Nat × Nat))) := []
def gt_cs10 : List (List (Nat × (Nat × Nat × Nat))) := []
def gt_cs11 : List (List (Nat × (Nat × Nat × Nat))) := [[], [(9, 6, 2, 125)]]
def gt_cs12 : List (List (Nat × (Nat × Nat × Nat))) := []
def gt_cs13 : List (List (Nat × (Nat × Nat × Nat))) := [[], [], [], [(27, 15, 7, 220)]]
def gt_cs14 : List (List (Nat × (Nat × Nat × Nat))) := []
def gt_cs15 : List (List (Nat × (Nat × Nat × Nat))) := [[(7, 14, 7, 227)], [], [(16, 16, 8, 46)]]
def gt_cs16 : List (List (Nat × (Nat × Nat × Nat))) := []
def gt_cs17 : List (List (Nat × (Nat × Nat × Nat))) := []
def gt_cs18 : List (List (Nat × (Nat × Nat × Nat))) := []
def gt_cs19 : List (List (Nat × (Nat × Nat × Nat))) := []
def gt_cs20 : List (List (Nat × (Nat × Nat × Nat))) := []
def gt_cs21 : List (List (Nat × (Nat × Nat × Nat))) := []
def gt_cs : List (List (List (Nat × (Nat × Nat × Nat)))) := [gt_cs0, gt_cs1, gt_cs2, gt_cs3, gt_cs4, gt_cs5, gt_cs6, gt_cs7, gt_cs8, gt_cs9, gt_cs10, gt_cs11, gt_cs12, gt_cs13, gt_cs14, gt_cs15, gt_cs16, gt_cs17, gt_cs18, gt_cs19, gt_cs20, gt_cs21]
def gt_ks0 : List (List (Nat × ((Int32 ⊕ (Int64 ⊕ Nat)) × Nat × Nat))) := []
def gt_ks1 : List (List (Nat × ((Int32 ⊕ (Int64 ⊕ Nat)) × Nat × Nat))) := [[], [(9, (.inl 65536), 1, 45)], [], [], [], [(45, (.inr (.inr 1)), 3, 116)], [], [(56, (.inr (.inr 2)), 3, 163), (61, (.inr (.inr 3)), 3, 187)], [], [], [(84, (.inr (.inr 4)), 3, 229)], [], [], [], [(112, (.inr (.inr 5)), 4, 91)], [(120, (.inl 80000), 4, 118), (121, (.inr (.inr 6)), 4, 119), (127, (.inl 1000000), 4, 124)], [(134, (.inl 2147483647), 7, 58), (135, (.inl 65535), 7, 66)], [(139, (.inr (.inr 7)), 7, 75)], [(148, (.inr (.inr 8)), 7, 116)], [], [(165, (.inr (.inr 9)), 7, 141)], [], [(177, (.inr (.inr 10)), 7, 212), (179, (.inr (.inr 11)), 7, 153), (181, (.inr (.inl 2147483647)), 3, 63), (183, (.inr (.inr 12)), 3, 209)]]
def gt_ks2 : List (List (Nat × ((Int32 ⊕ (Int64 ⊕ Nat)) × Nat × Nat))) := []
def gt_ks3 : List (List (Nat × ((Int32 ⊕ (Int64 ⊕ Nat)) × Nat × Nat))) := []
def gt_ks4 : List (List (Nat × ((Int32 ⊕ (Int64 ⊕ Nat)) × Nat × Nat))) := [[], [(9, (.inl 65536), 1, 128), (14, (.inl 32768), 1, 129)]]
def gt_ks5 : List (List (Nat × ((Int32 ⊕ (Int64 ⊕ Nat)) × Nat × Nat))) := []
def gt_ks6 : List (List (Nat × ((Int32 ⊕ (Int64 ⊕ Nat)) × Nat × Nat))) := []
def gt_ks7 : List (List (Nat × ((Int32 ⊕ (Int64 ⊕ Nat)) × Nat × Nat))) := [[], [], [], [], [], [], [], [], [(65, (.inl 32768), 2, 201)]]
def gt_ks8 : List (List (Nat × ((Int32 ⊕ (Int64 ⊕ Nat)) × Nat × Nat))) := []
def gt_ks9 : List (List (Nat × ((Int32 ⊕ (Int64 ⊕ Nat)) × Nat × Nat))) := [[], [(13, (.inr (.inr 13)), 1, 59)]]
def gt_ks10 : List (List (Nat × ((Int32 ⊕ (Int64 ⊕ Nat)) × Nat × Nat))) := []
def gt_ks11 : List (List (Nat × ((Int32 ⊕ (Int64 ⊕ Nat)) × Nat × Nat))) := []
def gt_ks12 : List (List (Nat × ((Int32 ⊕ (Int64 ⊕ Nat)) × Nat × Nat))) := []
def gt_ks13 : List (List (Nat × ((Int32 ⊕ (Int64 ⊕ Nat)) × Nat × Nat))) := [[(7, (.inl 65536), 7, 219)], [], [], [], [], [], [], [(57, (.inl 65516), 9, 114)], [], [], [], [(94, (.inl 80000), 9, 210)], [(98, (.inl 65535), 12, 127)], [], [], [(120, (.inr (.inl 2147483647)), 12, 187), (122, (.inl 2147483647), 12, 188)]]
def gt_ks14 : List (List (Nat × ((Int32 ⊕ (Int64 ⊕ Nat)) × Nat × Nat))) := [[(7, (.inl 65536), 7, 233)], [(14, (.inl 32768), 7, 234)]]
def gt_ks15 : List (List (Nat × ((Int32 ⊕ (Int64 ⊕ Nat)) × Nat × Nat))) := [[], [], [], [], [], [(42, (.inl 32768), 8, 99)]]
def gt_ks16 : List (List (Nat × ((Int32 ⊕ (Int64 ⊕ Nat)) × Nat × Nat))) := []
def gt_ks17 : List (List (Nat × ((Int32 ⊕ (Int64 ⊕ Nat)) × Nat × Nat))) := []
def gt_ks18 : List (List (Nat × ((Int32 ⊕ (Int64 ⊕ Nat)) × Nat × Nat))) := []
def gt_ks19 : List (List (Nat × ((Int32 ⊕ (Int64 ⊕ Nat)) × Nat × Nat))) := []
def gt_ks20 : List (List (Nat × ((Int32 ⊕ (Int64 ⊕ Nat)) × Nat × Nat))) := []
def gt_ks21 : List (List (Nat × ((Int32 ⊕ (Int64 ⊕ Nat)) × Nat × Nat))) := []
def gt_ks : List (List (List (Nat × ((Int32 ⊕ (Int64 ⊕ Nat)) × Nat × Nat)))) := [gt_ks0, gt_ks1, gt_ks2, gt_ks3, gt_ks4, gt_ks5, gt_ks6, gt_ks7, gt_ks8, gt_ks9, gt_ks10, gt_ks11, gt_ks12, gt_ks13, gt_ks14, gt_ks15, gt_ks16, gt_ks17, gt_ks18, gt_ks19, gt_ks20, gt_ks21]
noncomputable def gt_lu {A : Type} (T : List (List (List (Nat × A)))) (ow idx : Nat) : Option A := match gy_get T ow with
  | some l => match gy_get l (idx / 8) with
    | some b => (gy_fnd (fun q => q.1 == idx) b).map (·.2)
    | none => none
  | none => none
def gt_sb : List (Nat × Nat × Bool) := [(17, 17, true), (17, 18, false), (17, 19, false), (17, 20, false), (17, 21, false), (18, 17, false), (18, 18, true), (18, 19, false), (18, 20, false), (18, 21, false), (19, 17, false), (19, 18, false), (19, 19, true), (19, 20, false), (19, 21, false), (20, 17, false), (20, 18, false), (20, 19, false), (20, 20, true), (20, 21, false), (21, 17, false), (21, 18, false), (21, 19, false), (21, 20, false), (21, 21, true)]
def gt_i0_0 : List (List (Nat × Instr)) := [[(0, .new 8), (3, .dup), (4, .invokespecial 72), (7, .astore_n 1)], [(8, .new 73), (11, .dup), (12, .invokespecial 75), (15, .astore_n 2)], [(16, .iconst 1), (17, .newarray .long), (19, .astore_n 3), (20, .iconst 0), (21, .istore 4), (23, .iload 4)], [(25, .aload_n 0), (26, .arraylength), (27, .bipush 6), (29, .isub), (30, .if_icmp .gt 1056)], [(33, .aload_n 0), (34, .iload 4), (36, .iaload), (37, .bipush 31), (39, .iand)], [(40, .tableswitch 1040 0 16 #[84, 188, 244, 320, 376, 389, 444, 492, 548, 616, 684, 739, 819, 875, 943, 979, 1015])], [], []]
def gt_i0_1 : List (List (Nat × Instr)) := [[], [], [], [], [], [], [], [(124, .aload_n 1), (125, .aload_n 0), (126, .iload 4)]]
def gt_i0_2 : List (List (Nat × Instr)) := [[(128, .iconst 1), (129, .iadd), (130, .iaload), (131, .aload_n 0), (132, .iload 4), (134, .iconst 2), (135, .iadd)], [(136, .iaload), (137, .aload_n 0), (138, .iload 4), (140, .iconst 3), (141, .iadd), (142, .iaload), (143, .aload_n 0)], [(144, .iload 4), (146, .iconst 4), (147, .iadd), (148, .iaload), (149, .aload_n 0), (150, .iload 4)], [(152, .iconst 5), (153, .iadd), (154, .iaload), (155, .aload_n 3), (156, .invokestatic 76), (159, .istore 5)], [(161, .aload_n 2), (162, .aload_n 0), (163, .iload 4), (165, .iconst 1), (166, .iadd), (167, .iaload)], [(168, .aload_n 0), (169, .iload 4), (171, .iconst 2), (172, .iadd), (173, .iaload), (174, .aload_n 0), (175, .iload 4)], [(177, .iconst 3), (178, .iadd), (179, .iaload), (180, .aload_n 0), (181, .iload 4), (183, .iconst 4)], [(184, .iadd), (185, .iaload), (186, .aload_n 0), (187, .iload 4), (189, .iconst 5), (190, .iadd), (191, .iaload)]]
def gt_i0_3 : List (List (Nat × Instr)) := [[(192, .invokevirtual 81), (195, .istore 6), (197, .aload_n 2), (198, .invokevirtual 82)], [(201, .iload 5), (203, .if_icmp .eq 5), (206, .iconst 0), (207, .ireturn)], [(208, .iload 5), (210, .ifCond .ne 15), (213, .aload_n 3), (214, .iconst 0), (215, .laload)], [(216, .iload 6), (218, .i2l), (219, .lcmp), (220, .ifCond .eq 5), (223, .iconst 0)], [(224, .ireturn), (225, .goto 855), (228, .aload_n 1), (229, .aload_n 0), (230, .iload 4)], [(232, .iconst 1), (233, .iadd), (234, .iaload), (235, .aload_n 3), (236, .invokestatic 86), (239, .istore 5)], [(241, .aload_n 2), (242, .aload_n 0), (243, .iload 4), (245, .iconst 1), (246, .iadd), (247, .iaload)], [(248, .invokevirtual 89), (251, .istore 6), (253, .aload_n 2), (254, .invokevirtual 82)]]
def gt_i0_4 : List (List (Nat × Instr)) := [[(257, .iload 5), (259, .if_icmp .eq 5), (262, .iconst 0), (263, .ireturn)], [(264, .iload 5), (266, .ifCond .ne 15), (269, .aload_n 3), (270, .iconst 0), (271, .laload)], [(272, .iload 6), (274, .i2l), (275, .lcmp), (276, .ifCond .eq 5), (279, .iconst 0)], [(280, .ireturn), (281, .goto 799), (284, .aload_n 1), (285, .aload_n 0), (286, .iload 4)], [(288, .iconst 1), (289, .iadd), (290, .iaload), (291, .aload_n 0), (292, .iload 4), (294, .iconst 2), (295, .iadd)], [(296, .iaload), (297, .aload_n 0), (298, .iload 4), (300, .iconst 3), (301, .iadd), (302, .iaload), (303, .ifCond .eq 7)], [(306, .iconst 1), (307, .goto 4), (310, .iconst 0), (311, .invokestatic 90)], [(314, .istore 5), (316, .aload_n 2), (317, .aload_n 0), (318, .iload 4)]]
def gt_i0_5 : List (List (Nat × Instr)) := [[(320, .iconst 1), (321, .iadd), (322, .iaload), (323, .aload_n 0), (324, .iload 4), (326, .iconst 2), (327, .iadd)], [(328, .iaload), (329, .aload_n 0), (330, .iload 4), (332, .iconst 3), (333, .iadd), (334, .iaload), (335, .ifCond .eq 7)], [(338, .iconst 1), (339, .goto 4), (342, .iconst 0), (343, .invokevirtual 93)], [(346, .aload_n 2), (347, .invokevirtual 82), (350, .iload 5)], [(352, .if_icmp .eq 5), (355, .iconst 0), (356, .ireturn), (357, .goto 723)], [(360, .aload_n 1), (361, .aload_n 0), (362, .iload 4), (364, .iconst 1), (365, .iadd), (366, .iaload), (367, .aload_n 3)], [(368, .invokestatic 94), (371, .istore 5), (373, .aload_n 2), (374, .aload_n 0), (375, .iload 4)], [(377, .iconst 1), (378, .iadd), (379, .iaload), (380, .invokevirtual 96), (383, .istore 6)]]
def gt_i0_6 : List (List (Nat × Instr)) := [[(385, .aload_n 2), (386, .invokevirtual 82), (389, .iload 5), (391, .if_icmp .eq 5)], [(394, .iconst 0), (395, .ireturn), (396, .iload 5), (398, .ifCond .ne 15)], [(401, .aload_n 3), (402, .iconst 0), (403, .laload), (404, .iload 6), (406, .i2l), (407, .lcmp)], [(408, .ifCond .eq 5), (411, .iconst 0), (412, .ireturn), (413, .goto 667)], [(416, .aload_n 1), (417, .invokevirtual 97), (420, .aload_n 2), (421, .invokevirtual 100)], [(424, .if_icmp .eq 656), (427, .iconst 0), (428, .ireturn), (429, .aload_n 1), (430, .aload_n 0), (431, .iload 4)], [(433, .iconst 1), (434, .iadd), (435, .iaload), (436, .aload_n 3), (437, .invokestatic 101)], [(440, .istore 5), (442, .aload_n 2), (443, .aload_n 0), (444, .iload 4), (446, .iconst 1), (447, .iadd)]]
def gt_i0_7 : List (List (Nat × Instr)) := [[(448, .iaload), (449, .invokevirtual 103), (452, .lstore 6), (454, .aload_n 2), (455, .invokevirtual 82)], [(458, .iload 5), (460, .if_icmp .eq 5), (463, .iconst 0)], [(464, .ireturn), (465, .iload 5), (467, .ifCond .ne 14), (470, .aload_n 3), (471, .iconst 0)], [(472, .laload), (473, .lload 6), (475, .lcmp), (476, .ifCond .eq 5), (479, .iconst 0)], [(480, .ireturn), (481, .goto 599), (484, .aload_n 1), (485, .aload_n 0), (486, .iload 4)], [(488, .iconst 1), (489, .iadd), (490, .iaload), (491, .aload_n 0), (492, .iload 4), (494, .iconst 2), (495, .iadd)], [(496, .iaload), (497, .invokestatic 104), (500, .istore 5), (502, .aload_n 2), (503, .aload_n 0)], [(504, .iload 4), (506, .iconst 1), (507, .iadd), (508, .iaload), (509, .aload_n 0), (510, .iload 4)]]
def gt_i0_8 : List (List (Nat × Instr)) := [[(512, .iconst 2), (513, .iadd), (514, .iaload), (515, .invokevirtual 107), (518, .aload_n 2), (519, .invokevirtual 82)], [(522, .iload 5), (524, .if_icmp .eq 5), (527, .iconst 0)], [(528, .ireturn), (529, .goto 551), (532, .aload_n 1), (533, .aload_n 0), (534, .iload 4)], [(536, .iconst 1), (537, .iadd), (538, .iaload), (539, .aload_n 3), (540, .invokestatic 108), (543, .istore 5)], [(545, .aload_n 2), (546, .aload_n 0), (547, .iload 4), (549, .iconst 1), (550, .iadd), (551, .iaload)], [(552, .invokevirtual 110), (555, .istore 6), (557, .aload_n 2), (558, .invokevirtual 82)], [(561, .iload 5), (563, .if_icmp .eq 5), (566, .iconst 0), (567, .ireturn)], [(568, .iload 5), (570, .ifCond .ne 15), (573, .aload_n 3), (574, .iconst 0), (575, .laload)]]
def gt_i0_9 : List (List (Nat × Instr)) := [[(576, .iload 6), (578, .i2l), (579, .lcmp), (580, .ifCond .eq 5), (583, .iconst 0)], [(584, .ireturn), (585, .goto 495), (588, .aload_n 1), (589, .aload_n 0), (590, .iload 4)], [(592, .iconst 1), (593, .iadd), (594, .iaload), (595, .aload_n 0), (596, .iload 4), (598, .iconst 2), (599, .iadd)], [(600, .iaload), (601, .aload_n 3), (602, .invokestatic 111), (605, .istore 5), (607, .aload_n 2)], [(608, .aload_n 0), (609, .iload 4), (611, .iconst 1), (612, .iadd), (613, .iaload), (614, .aload_n 0), (615, .iload 4)], [(617, .iconst 2), (618, .iadd), (619, .iaload), (620, .invokevirtual 114), (623, .istore 6)], [(625, .aload_n 2), (626, .invokevirtual 82), (629, .iload 5), (631, .if_icmp .eq 5)], [(634, .iconst 0), (635, .ireturn), (636, .iload 5), (638, .ifCond .ne 15)]]
def gt_i0_10 : List (List (Nat × Instr)) := [[(641, .aload_n 3), (642, .iconst 0), (643, .laload), (644, .iload 6), (646, .i2l), (647, .lcmp)], [(648, .ifCond .eq 5), (651, .iconst 0), (652, .ireturn), (653, .goto 427)], [(656, .aload_n 1), (657, .aload_n 0), (658, .iload 4), (660, .iconst 1), (661, .iadd), (662, .iaload), (663, .aload_n 0)], [(664, .iload 4), (666, .iconst 2), (667, .iadd), (668, .iaload), (669, .aload_n 3), (670, .invokestatic 115)], [(673, .istore 5), (675, .aload_n 2), (676, .aload_n 0), (677, .iload 4), (679, .iconst 1)], [(680, .iadd), (681, .iaload), (682, .aload_n 0), (683, .iload 4), (685, .iconst 2), (686, .iadd), (687, .iaload)], [(688, .invokevirtual 117), (691, .istore 6), (693, .aload_n 2), (694, .invokevirtual 82)], [(697, .iload 5), (699, .if_icmp .eq 5), (702, .iconst 0), (703, .ireturn)]]
def gt_i0_11 : List (List (Nat × Instr)) := [[(704, .iload 5), (706, .ifCond .ne 15), (709, .aload_n 3), (710, .iconst 0), (711, .laload)], [(712, .iload 6), (714, .i2l), (715, .lcmp), (716, .ifCond .eq 5), (719, .iconst 0)], [(720, .ireturn), (721, .goto 359), (724, .aload_n 1), (725, .aload_n 0), (726, .iload 4)], [(728, .iconst 1), (729, .iadd), (730, .iaload), (731, .aload_n 3), (732, .invokestatic 118), (735, .istore 5)], [(737, .aload_n 2), (738, .aload_n 0), (739, .iload 4), (741, .iconst 1), (742, .iadd), (743, .iaload)], [(744, .invokevirtual 120), (747, .lstore 6), (749, .aload_n 2), (750, .invokevirtual 82)], [(753, .iload 5), (755, .if_icmp .eq 5), (758, .iconst 0), (759, .ireturn)], [(760, .iload 5), (762, .ifCond .ne 14), (765, .aload_n 3), (766, .iconst 0), (767, .laload)]]
def gt_i0_12 : List (List (Nat × Instr)) := [[(768, .lload 6), (770, .lcmp), (771, .ifCond .eq 5), (774, .iconst 0), (775, .ireturn)], [(776, .goto 304), (779, .aload_n 1), (780, .aload_n 0), (781, .iload 4), (783, .iconst 1)], [(784, .iadd), (785, .iaload), (786, .aload_n 0), (787, .iload 4), (789, .iconst 2), (790, .iadd), (791, .iaload)], [(792, .aload_n 0), (793, .iload 4), (795, .iconst 3), (796, .iadd), (797, .iaload), (798, .aload_n 3), (799, .invokestatic 121)], [(802, .istore 5), (804, .aload_n 2), (805, .aload_n 0), (806, .iload 4)], [(808, .iconst 1), (809, .iadd), (810, .iaload), (811, .aload_n 0), (812, .iload 4), (814, .iconst 2), (815, .iadd)], [(816, .iaload), (817, .aload_n 0), (818, .iload 4), (820, .iconst 3), (821, .iadd), (822, .iaload), (823, .invokevirtual 124)], [(826, .istore 6), (828, .aload_n 2), (829, .invokevirtual 82)]]
def gt_i0_13 : List (List (Nat × Instr)) := [[(832, .iload 5), (834, .if_icmp .eq 5), (837, .iconst 0), (838, .ireturn), (839, .iload 5)], [(841, .ifCond .ne 15), (844, .aload_n 3), (845, .iconst 0), (846, .laload), (847, .iload 6)], [(849, .i2l), (850, .lcmp), (851, .ifCond .eq 5), (854, .iconst 0), (855, .ireturn)], [(856, .goto 224), (859, .aload_n 1), (860, .aload_n 0), (861, .iload 4), (863, .iconst 1)], [(864, .iadd), (865, .iaload), (866, .aload_n 3), (867, .invokestatic 125), (870, .istore 5)], [(872, .aload_n 2), (873, .aload_n 0), (874, .iload 4), (876, .iconst 1), (877, .iadd), (878, .iaload), (879, .invokevirtual 127)], [(882, .istore 6), (884, .aload_n 2), (885, .invokevirtual 82)], [(888, .iload 5), (890, .if_icmp .eq 5), (893, .iconst 0), (894, .ireturn), (895, .iload 5)]]
def gt_i0_14 : List (List (Nat × Instr)) := [[(897, .ifCond .ne 15), (900, .aload_n 3), (901, .iconst 0), (902, .laload), (903, .iload 6)], [(905, .i2l), (906, .lcmp), (907, .ifCond .eq 5), (910, .iconst 0), (911, .ireturn)], [(912, .goto 168), (915, .aload_n 1), (916, .aload_n 0), (917, .iload 4), (919, .iconst 1)], [(920, .iadd), (921, .iaload), (922, .aload_n 0), (923, .iload 4), (925, .iconst 2), (926, .iadd), (927, .iaload)], [(928, .aload_n 3), (929, .invokestatic 128), (932, .istore 5), (934, .aload_n 2), (935, .aload_n 0)], [(936, .iload 4), (938, .iconst 1), (939, .iadd), (940, .iaload), (941, .aload_n 0), (942, .iload 4)], [(944, .iconst 2), (945, .iadd), (946, .iaload), (947, .invokevirtual 130), (950, .istore 6)], [(952, .aload_n 2), (953, .invokevirtual 82), (956, .iload 5), (958, .if_icmp .eq 5)]]
def gt_i0_15 : List (List (Nat × Instr)) := [[(961, .iconst 0), (962, .ireturn), (963, .iload 5), (965, .ifCond .ne 15)], [(968, .aload_n 3), (969, .iconst 0), (970, .laload), (971, .iload 6), (973, .i2l), (974, .lcmp), (975, .ifCond .eq 5)], [(978, .iconst 0), (979, .ireturn), (980, .goto 100), (983, .aload_n 1)], [(984, .aload_n 0), (985, .iload 4), (987, .iconst 1), (988, .iadd), (989, .iaload), (990, .invokestatic 131)], [(993, .istore 5), (995, .aload_n 2), (996, .aload_n 0), (997, .iload 4), (999, .iconst 1)], [(1000, .iadd), (1001, .iaload), (1002, .invokevirtual 134), (1005, .aload_n 2), (1006, .invokevirtual 82)], [(1009, .iload 5), (1011, .if_icmp .eq 5), (1014, .iconst 0), (1015, .ireturn)], [(1016, .goto 64), (1019, .aload_n 1), (1020, .aload_n 0), (1021, .iload 4), (1023, .iconst 1)]]
def gt_i0_16 : List (List (Nat × Instr)) := [[(1024, .iadd), (1025, .iaload), (1026, .invokestatic 135), (1029, .istore 5), (1031, .aload_n 2)], [(1032, .aload_n 0), (1033, .iload 4), (1035, .iconst 1), (1036, .iadd), (1037, .iaload), (1038, .invokevirtual 137)], [(1041, .aload_n 2), (1042, .invokevirtual 82), (1045, .iload 5), (1047, .if_icmp .eq 5)], [(1050, .iconst 0), (1051, .ireturn), (1052, .goto 28), (1055, .aload_n 1)], [(1056, .aload_n 0), (1057, .iload 4), (1059, .iconst 1), (1060, .iadd), (1061, .iaload), (1062, .invokevirtual 138)], [(1065, .aload_n 2), (1066, .aload_n 0), (1067, .iload 4), (1069, .iconst 1), (1070, .iadd), (1071, .iaload)], [(1072, .invokevirtual 141), (1075, .if_icmp .eq 5), (1078, .iconst 0), (1079, .ireturn)], [(1080, .iinc 4 6), (1083, .goto (-1060)), (1086, .iconst 1), (1087, .ireturn)]]
def gt_i0 : List (List (List (Nat × Instr))) := [gt_i0_0, gt_i0_1, gt_i0_2, gt_i0_3, gt_i0_4, gt_i0_5, gt_i0_6, gt_i0_7, gt_i0_8, gt_i0_9, gt_i0_10, gt_i0_11, gt_i0_12, gt_i0_13, gt_i0_14, gt_i0_15, gt_i0_16]
def gt_m0 : gx_M := (⟨"HandheldPairLaw", "law", "([I)Z"⟩, code, 8, some .boolean, 1, 0, false, gt_i0, [])
def gt_i1_0 : List (List (Nat × Instr)) := [[(0, .aload_n 0), (1, .invokespecial 1), (4, .aload_n 0), (5, .ldc 9), (7, .newarray .int)], [(9, .putfield 10), (12, .aload_n 0), (13, .iconst 2), (14, .anewarray 14)], [(17, .putfield 16), (20, .aload_n 0), (21, .getfield 16)], [(24, .iconst 0), (25, .new 14), (28, .dup), (29, .invokespecial 20)], [(32, .aastore), (33, .aload_n 0), (34, .getfield 16), (37, .iconst 1), (38, .new 14)], [(41, .dup), (42, .invokespecial 20), (45, .aastore), (46, .aload_n 0), (47, .getfield 16)], [(50, .iconst 0), (51, .aaload), (52, .aload_n 0), (53, .getfield 16)], [(56, .iconst 1), (57, .aaload), (58, .putfield 21), (61, .aload_n 0), (62, .getfield 16)]]
def gt_i1_1 : List (List (Nat × Instr)) := [[(65, .iconst 1), (66, .aaload), (67, .aload_n 0), (68, .getfield 16), (71, .iconst 0)], [(72, .aaload), (73, .putfield 21), (76, .aload_n 0), (77, .iconst 4), (78, .anewarray 14)], [(81, .putfield 25), (84, .iconst 0), (85, .istore_n 1), (86, .iload_n 1), (87, .iconst 4)], [(88, .if_icmp .ge 22), (91, .aload_n 0), (92, .getfield 25), (95, .iload_n 1)], [(96, .new 14), (99, .dup), (100, .invokespecial 20), (103, .aastore)], [(104, .iinc 1 1), (107, .goto (-21)), (110, .aload_n 0), (111, .iconst 2)], [(112, .newarray .boolean), (114, .putfield 28), (117, .aload_n 0), (118, .iconst 2), (119, .newarray .long)], [(121, .putfield 32), (124, .aload_n 0), (125, .iconst 0), (126, .putfield 36)]]
def gt_i1_2 : List (List (Nat × Instr)) := [[(129, .return_)], [], [], [], [], [], [], []]
def gt_i1 : List (List (List (Nat × Instr))) := [gt_i1_0, gt_i1_1, gt_i1_2]
def gt_m1 : gx_M := (⟨"HandheldPair", "<init>", "()V"⟩, prog_1_method_1_code, 2, none, 1, 1, true, gt_i1, [])
def gt_i2_0 : List (List (Nat × Instr)) := [[(0, .aload_n 0), (1, .invokespecial 1), (4, .aload_n 0), (5, .new 7)], [(8, .dup), (9, .invokespecial 9), (12, .putfield 10), (15, .aload_n 0)], [(16, .new 16), (19, .dup), (20, .invokespecial 18), (23, .putfield 19)], [(26, .aload_n 0), (27, .new 23), (30, .dup), (31, .invokespecial 25)], [(34, .putfield 26), (37, .aload_n 0), (38, .new 30)], [(41, .dup), (42, .invokespecial 32), (45, .putfield 33)], [(48, .aload_n 0), (49, .new 37), (52, .dup), (53, .invokespecial 39)], [(56, .putfield 40), (59, .aload_n 0), (60, .new 44), (63, .dup)]]
def gt_i2_1 : List (List (Nat × Instr)) := [[(64, .invokespecial 46), (67, .putfield 47), (70, .aload_n 0), (71, .new 51)], [(74, .dup), (75, .invokespecial 53), (78, .putfield 54)], [(81, .aload_n 0), (82, .new 58), (85, .dup), (86, .invokespecial 60)], [(89, .putfield 61), (92, .aload_n 0), (93, .ldc 65), (95, .newarray .int)], [(97, .putfield 66), (100, .aload_n 0), (101, .sipush 128)], [(104, .newarray .int), (106, .putfield 70), (109, .return_)], [], []]
def gt_i2 : List (List (List (Nat × Instr))) := [gt_i2_0, gt_i2_1]
def gt_m2 : gx_M := (⟨"HandheldPair$Console", "<init>", "()V"⟩, prog_7_method_1_code, 1, none, 1, 7, true, gt_i2, [])
def gt_i3_0 : List (List (Nat × Instr)) := [[(0, .aload_n 0), (1, .invokespecial 1), (4, .aload_n 0), (5, .bipush 8), (7, .newarray .int)], [(9, .putfield 7), (12, .aload_n 0), (13, .ldc 13), (15, .putfield 15)], [(18, .return_)], [], [], [], [], []]
def gt_i3 : List (List (List (Nat × Instr))) := [gt_i3_0]
def gt_m3 : gx_M := (⟨"HandheldPair$Processor", "<init>", "()V"⟩, prog_9_method_1_code, 1, none, 1, 9, true, gt_i3, [])
def gt_i4_0 : List (List (Nat × Instr)) := [[(0, .aload_n 0), (1, .invokespecial 1), (4, .aload_n 0), (5, .ldc 9), (7, .newarray .int)], [(9, .putfield 10), (12, .aload_n 0), (13, .ldc 14), (15, .newarray .int)], [(17, .putfield 15), (20, .aload_n 0), (21, .new 18)], [(24, .dup), (25, .invokespecial 20), (28, .putfield 21), (31, .return_)], [], [], [], []]
def gt_i4 : List (List (List (Nat × Instr))) := [gt_i4_0]
def gt_m4 : gx_M := (⟨"HandheldPair$Cartridge", "<init>", "()V"⟩, prog_4_method_1_code, 1, none, 1, 4, true, gt_i4, [])
def gt_i5_0 : List (List (Nat × Instr)) := [[(0, .aload_n 0), (1, .invokespecial 1), (4, .aload_n 0), (5, .iconst 5), (6, .newarray .int)], [(8, .putfield 7), (11, .aload_n 0), (12, .iconst 5), (13, .newarray .int), (15, .putfield 13)], [(18, .return_)], [], [], [], [], []]
def gt_i5 : List (List (List (Nat × Instr))) := [gt_i5_0]
def gt_m5 : gx_M := (⟨"HandheldPair$CartridgeClock", "<init>", "()V"⟩, prog_5_method_1_code, 1, none, 1, 5, true, gt_i5, [])
def gt_i6_0 : List (List (Nat × Instr)) := [[(0, .aload_n 0), (1, .invokespecial 1), (4, .return_)], [], [], [], [], [], [], []]
def gt_i6 : List (List (List (Nat × Instr))) := [gt_i6_0]
def gt_m6 : gx_M := (⟨"HandheldPair$Timer", "<init>", "()V"⟩, prog_12_method_1_code, 1, none, 1, 12, true, gt_i6, [])
def gt_i7_0 : List (List (Nat × Instr)) := [[(0, .aload_n 0), (1, .invokespecial 1), (4, .return_)], [], [], [], [], [], [], []]
def gt_i7 : List (List (List (Nat × Instr))) := [gt_i7_0]
def gt_m7 : gx_M := (⟨"HandheldPair$Cable", "<init>", "()V"⟩, prog_3_method_1_code, 1, none, 1, 3, true, gt_i7, [])
def gt_i8_0 : List (List (Nat × Instr)) := [[(0, .aload_n 0), (1, .invokespecial 1), (4, .return_)], [], [], [], [], [], [], []]
def gt_i8 : List (List (List (Nat × Instr))) := [gt_i8_0]
def gt_m8 : gx_M := (⟨"HandheldPair$Copy", "<init>", "()V"⟩, prog_8_method_1_code, 1, none, 1, 8, true, gt_i8, [])
def gt_i9_0 : List (List (Nat × Instr)) := [[(0, .aload_n 0), (1, .invokespecial 1), (4, .aload_n 0), (5, .iconst 4), (6, .newarray .int)], [(8, .putfield 7), (11, .return_)], [], [], [], [], [], []]
def gt_i9 : List (List (List (Nat × Instr))) := [gt_i9_0]
def gt_m9 : gx_M := (⟨"HandheldPair$Block", "<init>", "()V"⟩, prog_2_method_1_code, 1, none, 1, 2, true, gt_i9, [])
def gt_i10_0 : List (List (Nat × Instr)) := [[(0, .aload_n 0), (1, .invokespecial 1), (4, .aload_n 0), (5, .sipush 16384)], [(8, .newarray .int), (10, .putfield 7), (13, .aload_n 0), (14, .sipush 160)], [(17, .newarray .int), (19, .putfield 13), (22, .aload_n 0), (23, .sipush 23040)], [(26, .newarray .int), (28, .putfield 16), (31, .aload_n 0)], [(32, .sipush 128), (35, .newarray .int), (37, .putfield 19)], [(40, .aload_n 0), (41, .iconst 2), (42, .newarray .int), (44, .putfield 22), (47, .aload_n 0)], [(48, .bipush 12), (50, .newarray .int), (52, .putfield 25), (55, .aload_n 0)], [(56, .bipush 10), (58, .newarray .int), (60, .putfield 28), (63, .return_)]]
def gt_i10 : List (List (List (Nat × Instr))) := [gt_i10_0]
def gt_m10 : gx_M := (⟨"HandheldPair$Screen", "<init>", "()V"⟩, prog_10_method_1_code, 1, none, 1, 10, true, gt_i10, [])
def gt_i11_0 : List (List (Nat × Instr)) := [[(0, .aload_n 0), (1, .invokespecial 1), (4, .aload_n 0), (5, .iconst 4), (6, .anewarray 9)], [(9, .putfield 11), (12, .aload_n 0), (13, .bipush 16), (15, .newarray .int)], [(17, .putfield 15), (20, .iconst 0), (21, .istore_n 1), (22, .iload_n 1), (23, .iconst 4)], [(24, .if_icmp .ge 23), (27, .aload_n 0), (28, .getfield 11), (31, .iload_n 1)], [(32, .new 9), (35, .dup), (36, .iload_n 1), (37, .invokespecial 19)], [(40, .aastore), (41, .iinc 1 1), (44, .goto (-22)), (47, .return_)], [], []]
def gt_i11 : List (List (List (Nat × Instr))) := [gt_i11_0]
def gt_m11 : gx_M := (⟨"HandheldPair$Sound", "<init>", "()V"⟩, prog_11_method_1_code, 2, none, 1, 11, true, gt_i11, [])
def gt_i12_0 : List (List (Nat × Instr)) := [[(0, .aload_n 0), (1, .invokespecial 1), (4, .aload_n 0), (5, .iconst 5), (6, .newarray .int)], [(8, .putfield 7), (11, .aload_n 0), (12, .iload_n 1), (13, .putfield 13)], [(16, .return_)], [], [], [], [], []]
def gt_i12 : List (List (List (Nat × Instr))) := [gt_i12_0]
def gt_m12 : gx_M := (⟨"HandheldPair$Channel", "<init>", "(I)V"⟩, prog_6_method_1_code, 2, none, 2, 6, true, gt_i12, [])
def gt_i13_0 : List (List (Nat × Instr)) := [[(0, .aload_n 0), (1, .invokespecial 1), (4, .aload_n 0), (5, .ldc 7), (7, .newarray .byte)], [(9, .putfield 8), (12, .aload_n 0), (13, .iconst 0), (14, .putfield 14)], [(17, .aload_n 0), (18, .iconst 0), (19, .putfield 18), (22, .aload_n 0), (23, .iconst 0)], [(24, .putfield 21), (27, .aload_n 0), (28, .iconst 0), (29, .putfield 24)], [(32, .aload_n 0), (33, .iconst 2), (34, .anewarray 27), (37, .dup), (38, .iconst 0), (39, .new 27)], [(42, .dup), (43, .invokespecial 29), (46, .aastore), (47, .dup)], [(48, .iconst 1), (49, .new 27), (52, .dup), (53, .invokespecial 29)], [(56, .aastore), (57, .putfield 30), (60, .aload_n 0), (61, .iconst 4), (62, .anewarray 27)]]
def gt_i13_1 : List (List (Nat × Instr)) := [[(65, .dup), (66, .iconst 0), (67, .new 27), (70, .dup), (71, .invokespecial 29)], [(74, .aastore), (75, .dup), (76, .iconst 1), (77, .new 27)], [(80, .dup), (81, .invokespecial 29), (84, .aastore), (85, .dup), (86, .iconst 2), (87, .new 27)], [(90, .dup), (91, .invokespecial 29), (94, .aastore), (95, .dup)], [(96, .iconst 3), (97, .new 27), (100, .dup), (101, .invokespecial 29)], [(104, .aastore), (105, .putfield 34), (108, .aload_n 0), (109, .iconst 2), (110, .newarray .boolean)], [(112, .putfield 37), (115, .aload_n 0), (116, .iconst 2), (117, .newarray .long), (119, .putfield 41)], [(122, .aload_n 0), (123, .lconst 0), (124, .putfield 45), (127, .aload_n 0)]]
def gt_i13_2 : List (List (Nat × Instr)) := [[(128, .getfield 30), (131, .iconst 0), (132, .aaload), (133, .aload_n 0), (134, .getfield 30)], [(137, .iconst 1), (138, .aaload), (139, .invokevirtual 49), (142, .aload_n 0), (143, .getfield 30)], [(146, .iconst 1), (147, .aaload), (148, .aload_n 0), (149, .getfield 30)], [(152, .iconst 0), (153, .aaload), (154, .invokevirtual 49), (157, .return_)], [], [], [], []]
def gt_i13 : List (List (List (Nat × Instr))) := [gt_i13_0, gt_i13_1, gt_i13_2]
def gt_m13 : gx_M := (⟨"HandheldPairModel", "<init>", "()V"⟩, prog_14_method_1_code, 1, none, 1, 13, true, gt_i13, [])
def gt_i14_0 : List (List (Nat × Instr)) := [[(0, .aload_n 0), (1, .invokespecial 1), (4, .aload_n 0), (5, .new 7)], [(8, .dup), (9, .invokespecial 9), (12, .putfield 10), (15, .aload_n 0)], [(16, .new 16), (19, .dup), (20, .invokespecial 18), (23, .putfield 19)], [(26, .aload_n 0), (27, .aconst_null), (28, .putfield 23), (31, .aload_n 0)], [(32, .iconst 0), (33, .putfield 27), (36, .aload_n 0), (37, .iconst 0), (38, .putfield 31)], [(41, .aload_n 0), (42, .lconst 0), (43, .putfield 34), (46, .aload_n 0), (47, .sipush 16384)], [(50, .newarray .byte), (52, .putfield 38), (55, .aload_n 0)], [(56, .ldc 42), (58, .newarray .byte), (60, .putfield 43), (63, .aload_n 0)]]
def gt_i14_1 : List (List (Nat × Instr)) := [[(64, .sipush 160), (67, .newarray .byte), (69, .putfield 46)], [(72, .aload_n 0), (73, .bipush 127), (75, .newarray .byte), (77, .putfield 49)], [(80, .aload_n 0), (81, .sipush 23040), (84, .newarray .int), (86, .putfield 52)], [(89, .aload_n 0), (90, .iconst 0), (91, .putfield 56), (94, .aload_n 0), (95, .iconst 0)], [(96, .putfield 60), (99, .aload_n 0), (100, .iconst 0), (101, .putfield 63)], [(104, .aload_n 0), (105, .iconst 0), (106, .putfield 66), (109, .aload_n 0), (110, .iconst 0), (111, .putfield 69)], [(114, .aload_n 0), (115, .iconst 0), (116, .putfield 72), (119, .aload_n 0)], [(120, .iconst 0), (121, .putfield 75), (124, .aload_n 0), (125, .iconst 0), (126, .putfield 78)]]
def gt_i14_2 : List (List (Nat × Instr)) := [[(129, .aload_n 0), (130, .iconst 0), (131, .putfield 81), (134, .aload_n 0), (135, .iconst 0)], [(136, .putfield 84), (139, .aload_n 0), (140, .iconst 0), (141, .putfield 87)], [(144, .aload_n 0), (145, .iconst 0), (146, .putfield 90), (149, .aload_n 0), (150, .bipush 8)], [(152, .putfield 93), (155, .aload_n 0), (156, .iconst 0), (157, .putfield 96)], [(160, .aload_n 0), (161, .iconst 0), (162, .putfield 99), (165, .aload_n 0), (166, .iconst 0), (167, .putfield 102)], [(170, .aload_n 0), (171, .iconst 0), (172, .putfield 105), (175, .aload_n 0)], [(176, .iconst 0), (177, .putfield 108), (180, .aload_n 0), (181, .iconst 0), (182, .putfield 111)], [(185, .aload_n 0), (186, .iconst 0), (187, .putfield 114), (190, .aload_n 0), (191, .iconst 0)]]
def gt_i14_3 : List (List (Nat × Instr)) := [[(192, .putfield 117), (195, .aload_n 0), (196, .iconst 4), (197, .newarray .int), (199, .putfield 120)], [(202, .aload_n 0), (203, .iconst 0), (204, .putfield 123), (207, .aload_n 0)], [(208, .iconst 0), (209, .putfield 126), (212, .aload_n 0), (213, .sipush 255)], [(216, .putfield 129), (219, .aload_n 0), (220, .iconst 0), (221, .putfield 132)], [(224, .aload_n 0), (225, .iconst 0), (226, .putfield 135), (229, .aload_n 0), (230, .iconst 0), (231, .putfield 138)], [(234, .aload_n 0), (235, .iconst 0), (236, .putfield 141), (239, .aload_n 0)], [(240, .iconst 0), (241, .putfield 144), (244, .aload_n 0), (245, .iconst 0), (246, .putfield 147)], [(249, .aload_n 0), (250, .iconst 0), (251, .putfield 150), (254, .aload_n 0), (255, .iconst 0)]]
def gt_i14_4 : List (List (Nat × Instr)) := [[(256, .putfield 153), (259, .aload_n 0), (260, .iconst 0), (261, .putfield 156)], [(264, .aload_n 0), (265, .iconst 0), (266, .putfield 159), (269, .aload_n 0), (270, .iconst 0), (271, .putfield 162)], [(274, .aload_n 0), (275, .iconst 0), (276, .putfield 165), (279, .aload_n 0)], [(280, .iconst 0), (281, .putfield 168), (284, .aload_n 0), (285, .iconst 0), (286, .putfield 171)], [(289, .aload_n 0), (290, .iconst 0), (291, .putfield 174), (294, .aload_n 0), (295, .iconst 0)], [(296, .putfield 177), (299, .aload_n 0), (300, .iconst 0), (301, .putfield 180)], [(304, .aload_n 0), (305, .iconst 0), (306, .putfield 183), (309, .aload_n 0), (310, .iconst 0), (311, .putfield 186)], [(314, .aload_n 0), (315, .bipush 10), (317, .newarray .int), (319, .putfield 189)]]
def gt_i14_5 : List (List (Nat × Instr)) := [[(322, .aload_n 0), (323, .iconst 0), (324, .putfield 192), (327, .aload_n 0)], [(328, .iconst 2), (329, .newarray .int), (331, .putfield 195), (334, .aload_n 0), (335, .iconst 2)], [(336, .anewarray 198), (339, .dup), (340, .iconst 0), (341, .bipush 64), (343, .newarray .byte)], [(345, .aastore), (346, .dup), (347, .iconst 1), (348, .bipush 64), (350, .newarray .byte)], [(352, .aastore), (353, .putfield 199), (356, .aload_n 0), (357, .bipush 8), (359, .newarray .int)], [(361, .putfield 203), (364, .aload_n 0), (365, .iconst 0), (366, .putfield 206)], [(369, .aload_n 0), (370, .iconst 0), (371, .putfield 209), (374, .aload_n 0), (375, .iconst 0)], [(376, .putfield 212), (379, .aload_n 0), (380, .iconst 0), (381, .putfield 215)]]
def gt_i14_6 : List (List (Nat × Instr)) := [[(384, .aload_n 0), (385, .iconst 0), (386, .putfield 218), (389, .aload_n 0), (390, .iconst 0), (391, .putfield 221)], [(394, .aload_n 0), (395, .iconst 0), (396, .putfield 224), (399, .aload_n 0)], [(400, .iconst 0), (401, .putfield 227), (404, .return_)], [], [], [], [], []]
def gt_i14 : List (List (List (Nat × Instr))) := [gt_i14_0, gt_i14_1, gt_i14_2, gt_i14_3, gt_i14_4, gt_i14_5, gt_i14_6]
def gt_m14 : gx_M := (⟨"HandheldPairModel$Console", "<init>", "()V"⟩, prog_16_method_1_code, 1, none, 1, 15, true, gt_i14, [])
def gt_i15_0 : List (List (Nat × Instr)) := [[(0, .aload_n 0), (1, .invokespecial 1), (4, .aload_n 0), (5, .ldc 7), (7, .newarray .byte)], [(9, .putfield 8), (12, .aload_n 0), (13, .ldc 14), (15, .newarray .byte)], [(17, .putfield 15), (20, .aload_n 0), (21, .iconst 0), (22, .putfield 18)], [(25, .aload_n 0), (26, .iconst 0), (27, .putfield 22), (30, .aload_n 0), (31, .iconst 0)], [(32, .putfield 25), (35, .aload_n 0), (36, .iconst (-1)), (37, .putfield 28)], [(40, .aload_n 0), (41, .iconst 0), (42, .putfield 31), (45, .aload_n 0), (46, .iconst 0), (47, .putfield 35)], [(50, .aload_n 0), (51, .iconst 1), (52, .putfield 38), (55, .aload_n 0)], [(56, .iconst 0), (57, .putfield 41), (60, .aload_n 0), (61, .iconst 0), (62, .putfield 44)]]
def gt_i15_1 : List (List (Nat × Instr)) := [[(65, .aload_n 0), (66, .iconst (-1)), (67, .putfield 47), (70, .aload_n 0), (71, .iconst 0)], [(72, .putfield 50), (75, .aload_n 0), (76, .iconst 5), (77, .newarray .int), (79, .putfield 53)], [(82, .aload_n 0), (83, .iconst 5), (84, .newarray .int), (86, .putfield 57)], [(89, .return_)], [], [], [], []]
def gt_i15 : List (List (List (Nat × Instr))) := [gt_i15_0, gt_i15_1]
def gt_m15 : gx_M := (⟨"HandheldPairModel$Cart", "<init>", "()V"⟩, prog_15_method_1_code, 1, none, 1, 14, true, gt_i15, [])
def gt_i16_0 : List (List (Nat × Instr)) := [[(0, .aload_n 0), (1, .invokespecial 1), (4, .aload_n 0), (5, .bipush 48), (7, .newarray .int)], [(9, .putfield 7), (12, .aload_n 0), (13, .iconst 0), (14, .putfield 13)], [(17, .aload_n 0), (18, .iconst 4), (19, .newarray .boolean), (21, .putfield 17)], [(24, .aload_n 0), (25, .iconst 4), (26, .newarray .int), (28, .putfield 21), (31, .aload_n 0)], [(32, .iconst 4), (33, .newarray .int), (35, .putfield 24), (38, .aload_n 0), (39, .iconst 4)], [(40, .newarray .int), (42, .putfield 27), (45, .aload_n 0), (46, .iconst 4), (47, .newarray .int)], [(49, .putfield 30), (52, .aload_n 0), (53, .iconst 4), (54, .newarray .int)], [(56, .putfield 33), (59, .aload_n 0), (60, .iconst 0), (61, .putfield 36)]]
def gt_i16_1 : List (List (Nat × Instr)) := [[(64, .aload_n 0), (65, .iconst 0), (66, .putfield 40), (69, .aload_n 0), (70, .iconst 0), (71, .putfield 43)], [(74, .aload_n 0), (75, .iconst 0), (76, .putfield 46), (79, .aload_n 0)], [(80, .iconst 0), (81, .putfield 49), (84, .aload_n 0), (85, .iconst 0), (86, .putfield 52)], [(89, .aload_n 0), (90, .iconst 0), (91, .putfield 55), (94, .return_)], [], [], [], []]
def gt_i16 : List (List (List (Nat × Instr))) := [gt_i16_0, gt_i16_1]
def gt_m16 : gx_M := (⟨"HandheldPairModel$Voices", "<init>", "()V"⟩, prog_17_method_1_code, 1, none, 1, 16, true, gt_i16, [])
def gt_i17_0 : List (List (Nat × Instr)) := [[(0, .aload_n 0), (1, .aload_n 1), (2, .putfield 23), (5, .return_)], [], [], [], [], [], [], []]
def gt_i17 : List (List (List (Nat × Instr))) := [gt_i17_0]
def gt_m17 : gx_M := (⟨"HandheldPairModel$Console", "join", "(LHandheldPairModel$Console;)V"⟩, prog_16_method_2_code, 2, none, 2, 15, false, gt_i17, [])
def gt_i18_0 : List (List (Nat × Instr)) := [[(0, .aload 6), (2, .iconst 0), (3, .aload_n 0), (4, .iload_n 1), (5, .iload_n 2), (6, .iload_n 3), (7, .iload 4)], [(9, .iload 5), (11, .invokevirtual 7), (14, .i2l), (15, .lastore)], [(16, .goto 7), (19, .astore 7), (21, .iconst 1), (22, .ireturn), (23, .iconst 0)], [(24, .ireturn)], [], [], [], []]
def gt_i18 : List (List (List (Nat × Instr))) := [gt_i18_0]
def gt_m18 : gx_M := (⟨"HandheldPairLaw", "feed", "(LHandheldPair;IIIII[J)I"⟩, method_3_code, 8, (Option.some FieldType.int), 7, 0, false, gt_i18, [(0, 16, 19, 13)])
def gt_i19_0 : List (List (Nat × Instr)) := [[(0, .aload_n 0), (1, .getfield 40), (4, .bipush 20), (6, .iadd), (7, .ldc 9)], [(9, .if_icmp .le 13), (12, .new 43), (15, .dup)], [(16, .ldc 45), (18, .invokespecial 47), (21, .athrow), (22, .aload_n 0), (23, .iload_n 1)], [(24, .invokevirtual 50), (27, .aload_n 0), (28, .iload_n 2), (29, .invokevirtual 50)], [(32, .aload_n 0), (33, .iload_n 3), (34, .invokevirtual 50), (37, .aload_n 0), (38, .iload 4)], [(40, .invokevirtual 50), (43, .aload_n 0), (44, .iload 5), (46, .invokevirtual 50)], [(49, .aload_n 0), (50, .getfield 40), (53, .ireturn)], []]
def gt_i19 : List (List (List (Nat × Instr))) := [gt_i19_0]
def gt_m19 : gx_M := (⟨"HandheldPair", "feed", "(IIIII)I"⟩, prog_1_method_2_code, 6, (Option.some FieldType.int), 6, 1, false, gt_i19, [])
def gt_i20_0 : List (List (Nat × Instr)) := [[(0, .bipush 24), (2, .istore_n 2), (3, .iload_n 2), (4, .ifCond .lt 35), (7, .aload_n 0)], [(8, .getfield 10), (11, .aload_n 0), (12, .getfield 40), (15, .iload_n 1)], [(16, .iload_n 2), (17, .iushr), (18, .sipush 255), (21, .iand), (22, .iastore), (23, .aload_n 0)], [(24, .dup), (25, .getfield 40), (28, .iconst 1), (29, .iadd), (30, .putfield 40)], [(33, .iinc 2 (-8)), (36, .goto (-33)), (39, .return_)], [], [], []]
def gt_i20 : List (List (List (Nat × Instr))) := [gt_i20_0]
def gt_m20 : gx_M := (⟨"HandheldPair", "appendWord", "(I)V"⟩, prog_1_method_3_code, 3, none, 2, 1, false, gt_i20, [])
def gt_i21_0 : List (List (Nat × Instr)) := [[(0, .aload_n 0), (1, .iconst 0), (2, .putfield 18), (5, .aload_n 0), (6, .iconst 1), (7, .aload_n 0)], [(8, .getfield 14), (11, .ldc 57), (13, .if_icmp .le 7)], [(16, .iconst 1), (17, .goto 4), (20, .iconst 0), (21, .invokevirtual 53)], [(24, .ifCond .eq 5), (27, .iconst 0), (28, .ireturn), (29, .iconst 5), (30, .newarray .int)], [(32, .dup), (33, .iconst 0), (34, .iload_n 1), (35, .iastore), (36, .dup), (37, .iconst 1), (38, .iload_n 2), (39, .iastore)], [(40, .dup), (41, .iconst 2), (42, .iload_n 3), (43, .iastore), (44, .dup), (45, .iconst 3), (46, .iload 4)], [(48, .iastore), (49, .dup), (50, .iconst 4), (51, .iload 5), (53, .iastore), (54, .astore 6)], [(56, .iconst 0), (57, .istore 7), (59, .iload 7), (61, .bipush 20), (63, .if_icmp .ge 44)]]
def gt_i21_1 : List (List (Nat × Instr)) := [[(66, .aload_n 0), (67, .getfield 8), (70, .aload_n 0), (71, .dup)], [(72, .getfield 14), (75, .dup_x1), (76, .iconst 1), (77, .iadd), (78, .putfield 14)], [(81, .aload 6), (83, .iload 7), (85, .iconst 4), (86, .idiv), (87, .iaload)], [(88, .bipush 24), (90, .bipush 8), (92, .iload 7), (94, .iconst 4), (95, .irem)], [(96, .imul), (97, .isub), (98, .iushr), (99, .i2b), (100, .bastore), (101, .iinc 7 1)], [(104, .goto (-45)), (107, .aload_n 0), (108, .getfield 14), (111, .ireturn)], [], []]
def gt_i21 : List (List (List (Nat × Instr))) := [gt_i21_0, gt_i21_1]
def gt_m21 : gx_M := (⟨"HandheldPairModel", "feed", "(IIIII)I"⟩, prog_14_method_5_code, 8, (Option.some FieldType.int), 6, 13, false, gt_i21, [])
def gt_i22_0 : List (List (Nat × Instr)) := [[(0, .iload_n 2), (1, .ifCond .eq 8), (4, .aload_n 0), (5, .iload_n 1), (6, .putfield 18)], [(9, .iload_n 2), (10, .ireturn)], [], [], [], [], [], []]
def gt_i22 : List (List (List (Nat × Instr))) := [gt_i22_0]
def gt_m22 : gx_M := (⟨"HandheldPairModel", "refuse", "(IZ)Z"⟩, prog_14_method_3_code, 3, (Option.some FieldType.boolean), 3, 13, false, gt_i22, [])
def gt_i23_0 : List (List (Nat × Instr)) := [[(0, .aload_n 0), (1, .getfield 18), (4, .ireturn)], [], [], [], [], [], [], []]
def gt_i23 : List (List (List (Nat × Instr))) := [gt_i23_0]
def gt_m23 : gx_M := (⟨"HandheldPairModel", "thrown", "()I"⟩, prog_14_method_2_code, 1, (Option.some FieldType.int), 1, 13, false, gt_i23, [])
def gt_i24_0 : List (List (Nat × Instr)) := [[(0, .aload_n 2), (1, .iconst 0), (2, .aload_n 0), (3, .iload_n 1), (4, .invokevirtual 15), (7, .i2l)], [(8, .lastore), (9, .goto 6), (12, .astore_n 3), (13, .iconst 1), (14, .ireturn), (15, .iconst 0)], [(16, .ireturn)], [], [], [], [], []]
def gt_i24 : List (List (List (Nat × Instr))) := [gt_i24_0]
def gt_m24 : gx_M := (⟨"HandheldPairLaw", "end", "(LHandheldPair;I[J)I"⟩, method_4_code, 4, (Option.some FieldType.int), 3, 0, false, gt_i24, [(0, 9, 12, 19)])
def gt_i25_0 : List (List (Nat × Instr)) := [[(0, .iload_n 1), (1, .ifCond .lt 9), (4, .iload_n 1), (5, .ldc 9), (7, .if_icmp .le 13)], [(10, .new 54), (13, .dup), (14, .ldc 56)], [(16, .invokespecial 58), (19, .athrow), (20, .aload_n 0), (21, .getfield 40)], [(24, .istore_n 2), (25, .iload_n 2), (26, .iload_n 1), (27, .if_icmp .ge 16), (30, .aload_n 0), (31, .getfield 10)], [(34, .iload_n 2), (35, .iconst 0), (36, .iastore), (37, .iinc 2 1)], [(40, .goto (-15)), (43, .aload_n 0), (44, .iload_n 1), (45, .putfield 40)], [(48, .iload_n 1), (49, .ireturn)], []]
def gt_i25 : List (List (List (Nat × Instr))) := [gt_i25_0]
def gt_m25 : gx_M := (⟨"HandheldPair", "end", "(I)I"⟩, prog_1_method_4_code, 3, (Option.some FieldType.int), 2, 1, false, gt_i25, [])
def gt_i26_0 : List (List (Nat × Instr)) := [[(0, .aload_n 0), (1, .iconst 0), (2, .putfield 18), (5, .aload_n 0), (6, .iconst 1), (7, .iload_n 1)], [(8, .ifCond .lt 9), (11, .iload_n 1), (12, .ldc 7), (14, .if_icmp .le 7)], [(17, .iconst 1), (18, .goto 4), (21, .iconst 0), (22, .invokevirtual 53)], [(25, .ifCond .eq 5), (28, .iconst 0), (29, .ireturn), (30, .aload_n 0), (31, .getfield 14)], [(34, .iload_n 1), (35, .if_icmp .ge 23), (38, .aload_n 0), (39, .getfield 8)], [(42, .aload_n 0), (43, .dup), (44, .getfield 14), (47, .dup_x1)], [(48, .iconst 1), (49, .iadd), (50, .putfield 14), (53, .iconst 0), (54, .bastore), (55, .goto (-25))], [(58, .aload_n 0), (59, .iload_n 1), (60, .putfield 14), (63, .iload_n 1)]]
def gt_i26_1 : List (List (Nat × Instr)) := [[(64, .ireturn)], [], [], [], [], [], [], []]
def gt_i26 : List (List (List (Nat × Instr))) := [gt_i26_0, gt_i26_1]
def gt_m26 : gx_M := (⟨"HandheldPairModel", "end", "(I)I"⟩, prog_14_method_6_code, 2, (Option.some FieldType.int), 2, 13, false, gt_i26, [])
def gt_i27_0 : List (List (Nat × Instr)) := [[(0, .aload_n 0), (1, .iload_n 1), (2, .iload_n 2), (3, .iload_n 3), (4, .invokevirtual 21), (7, .goto 7)], [(10, .astore 4), (12, .iconst 1), (13, .ireturn), (14, .iconst 0), (15, .ireturn)], [], [], [], [], [], []]
def gt_i27 : List (List (List (Nat × Instr))) := [gt_i27_0]
def gt_m27 : gx_M := (⟨"HandheldPairLaw", "patch", "(LHandheldPair;IIZ)I"⟩, method_5_code, 5, (Option.some FieldType.int), 4, 0, false, gt_i27, [(0, 7, 10, 25)])
def gt_i28_0 : List (List (Nat × Instr)) := [[(0, .iload_n 1), (1, .ifCond .lt 11), (4, .iload_n 1), (5, .aload_n 0), (6, .getfield 40)], [(9, .if_icmp .lt 13), (12, .new 59), (15, .dup)], [(16, .ldc 61), (18, .invokespecial 63), (21, .athrow), (22, .aload_n 0), (23, .getfield 10)], [(26, .iload_n 1), (27, .iload_n 2), (28, .sipush 255), (31, .iand)], [(32, .iastore), (33, .iload_n 3), (34, .ifCond .eq 28), (37, .aload_n 0), (38, .getfield 40)], [(41, .sipush 333), (44, .if_icmp .le 18), (47, .aload_n 0)], [(48, .getfield 10), (51, .sipush 333), (54, .aload_n 0), (55, .getfield 10)], [(58, .invokestatic 66), (61, .iastore), (62, .return_)]]
def gt_i28 : List (List (List (Nat × Instr))) := [gt_i28_0]
def gt_m28 : gx_M := (⟨"HandheldPair", "patch", "(IIZ)V"⟩, prog_1_method_5_code, 4, none, 4, 1, false, gt_i28, [])
def gt_i29_0 : List (List (Nat × Instr)) := [[(0, .aload_n 0), (1, .iconst 0), (2, .putfield 18), (5, .aload_n 0), (6, .iconst 1), (7, .iload_n 1)], [(8, .ifCond .lt 11), (11, .iload_n 1), (12, .aload_n 0), (13, .getfield 14)], [(16, .if_icmp .lt 7), (19, .iconst 1), (20, .goto 4), (23, .iconst 0)], [(24, .invokevirtual 53), (27, .ifCond .eq 4), (30, .return_), (31, .aload_n 0)], [(32, .getfield 8), (35, .iload_n 1), (36, .iload_n 2), (37, .i2b), (38, .bastore), (39, .iload_n 3)], [(40, .ifCond .eq 13), (43, .aload_n 0), (44, .getfield 14), (47, .sipush 334)], [(50, .if_icmp .ge 4), (53, .return_), (54, .iconst 0), (55, .istore 4)], [(57, .sipush 308), (60, .istore 5), (62, .iload 5)]]
def gt_i29_1 : List (List (Nat × Instr)) := [[(64, .sipush 333), (67, .if_icmp .ge 23), (70, .iload 4)], [(72, .aload_n 0), (73, .getfield 8), (76, .iload 5), (78, .baload), (79, .isub)], [(80, .iconst 1), (81, .isub), (82, .istore 4), (84, .iinc 5 1), (87, .goto (-25))], [(90, .aload_n 0), (91, .getfield 8), (94, .sipush 333)], [(97, .iload 4), (99, .i2b), (100, .bastore), (101, .return_)], [], [], []]
def gt_i29 : List (List (List (Nat × Instr))) := [gt_i29_0, gt_i29_1]
def gt_m29 : gx_M := (⟨"HandheldPairModel", "patch", "(IIZ)V"⟩, prog_14_method_7_code, 6, none, 4, 13, false, gt_i29, [])
def gt_i30_0 : List (List (Nat × Instr)) := [[(0, .aload_n 2), (1, .iconst 0), (2, .aload_n 0), (3, .iload_n 1), (4, .invokevirtual 27), (7, .i2l)], [(8, .lastore), (9, .goto 9), (12, .astore_n 3), (13, .iconst 1), (14, .ireturn), (15, .astore_n 3)], [(16, .iconst 2), (17, .ireturn), (18, .iconst 0), (19, .ireturn)], [], [], [], [], []]
def gt_i30 : List (List (List (Nat × Instr))) := [gt_i30_0]
def gt_m30 : gx_M := (⟨"HandheldPairLaw", "insert", "(LHandheldPair;I[J)I"⟩, method_6_code, 4, (Option.some FieldType.int), 3, 0, false, gt_i30, [(0, 9, 12, 25), (0, 9, 15, 30)])
def gt_i31_0 : List (List (Nat × Instr)) := [[(0, .aload_n 0), (1, .getfield 40), (4, .istore_n 2), (5, .aload_n 0), (6, .iconst 0), (7, .putfield 40)], [(10, .aload_n 0), (11, .iload_n 1), (12, .invokevirtual 70), (15, .astore_n 3)], [(16, .aload_n 0), (17, .iload_n 2), (18, .invokevirtual 74), (21, .istore 4), (23, .iload 4)], [(25, .ifCond .eq 24), (28, .aload_n 0), (29, .iload 4), (31, .putfield 36)], [(34, .aload_n 3), (35, .iconst 0), (36, .putfield 78), (39, .new 82)], [(42, .dup), (43, .ldc 84), (45, .invokespecial 86)], [(48, .athrow), (49, .aload_n 3), (50, .getfield 87), (53, .aload_n 0), (54, .getfield 10)], [(57, .iload_n 2), (58, .invokevirtual 91), (61, .aload_n 3), (62, .aload_n 0), (63, .getfield 95)]]
def gt_i31_1 : List (List (Nat × Instr)) := [[(66, .invokevirtual 99), (69, .aload_n 3), (70, .getfield 87)], [(73, .getfield 103), (76, .ireturn)], [], [], [], [], [], []]
def gt_i31 : List (List (List (Nat × Instr))) := [gt_i31_0, gt_i31_1]
def gt_m31 : gx_M := (⟨"HandheldPair", "insert", "(I)I"⟩, prog_1_method_6_code, 5, (Option.some FieldType.int), 2, 1, false, gt_i31, [])
def gt_i32_0 : List (List (Nat × Instr)) := [[(0, .iload_n 1), (1, .ifCond .lt 8), (4, .iload_n 1), (5, .iconst 2), (6, .if_icmp .lt 13)], [(9, .new 59), (12, .dup), (13, .ldc 183), (15, .invokespecial 63)], [(18, .athrow), (19, .aload_n 0), (20, .getfield 16), (23, .iload_n 1)], [(24, .aaload), (25, .areturn)], [], [], [], []]
def gt_i32 : List (List (List (Nat × Instr))) := [gt_i32_0]
def gt_m32 : gx_M := (⟨"HandheldPair", "consoleOf", "(I)LHandheldPair$Console;"⟩, prog_1_method_23_code, 2, (Option.some (FieldType.object "HandheldPair$Console")), 2, 1, false, gt_i32, [])
def gt_i33_0 : List (List (Nat × Instr)) := [[(0, .aload_n 0), (1, .getfield 14), (4, .istore_n 2), (5, .aload_n 0), (6, .iconst 0), (7, .putfield 14)], [(10, .aload_n 0), (11, .iload_n 1), (12, .invokevirtual 58), (15, .ifCond .eq 5)], [(18, .iconst 0), (19, .ireturn), (20, .aload_n 0), (21, .getfield 30)], [(24, .iload_n 1), (25, .aaload), (26, .getfield 62), (29, .aload_n 0), (30, .getfield 8)], [(33, .iload_n 2), (34, .invokevirtual 66), (37, .istore_n 3), (38, .iload_n 3), (39, .ifCond .le 25)], [(42, .aload_n 0), (43, .iload_n 3), (44, .putfield 21), (47, .aload_n 0)], [(48, .getfield 30), (51, .iload_n 1), (52, .aaload), (53, .iconst 0), (54, .putfield 72)], [(57, .aload_n 0), (58, .iconst 2), (59, .putfield 18), (62, .iconst 0), (63, .ireturn)]]
def gt_i33_1 : List (List (Nat × Instr)) := [[(64, .aload_n 0), (65, .getfield 30), (68, .iload_n 1), (69, .aaload), (70, .getfield 62)], [(73, .aload_n 0), (74, .getfield 8), (77, .iload_n 2), (78, .invokevirtual 76)], [(81, .aload_n 0), (82, .getfield 30), (85, .iload_n 1), (86, .aaload), (87, .aload_n 0)], [(88, .getfield 45), (91, .invokevirtual 80), (94, .aload_n 0), (95, .getfield 30)], [(98, .iload_n 1), (99, .aaload), (100, .getfield 62), (103, .getfield 84)], [(106, .ireturn)], [], []]
def gt_i33 : List (List (List (Nat × Instr))) := [gt_i33_0, gt_i33_1]
def gt_m33 : gx_M := (⟨"HandheldPairModel", "insert", "(I)I"⟩, prog_14_method_8_code, 4, (Option.some FieldType.int), 2, 13, false, gt_i33, [])
def gt_i34_0 : List (List (Nat × Instr)) := [[(0, .aload_n 0), (1, .iconst 0), (2, .putfield 18), (5, .aload_n 0), (6, .iconst 1), (7, .iload_n 1)], [(8, .ifCond .lt 8), (11, .iload_n 1), (12, .iconst 1), (13, .if_icmp .le 7)], [(16, .iconst 1), (17, .goto 4), (20, .iconst 0), (21, .invokevirtual 53)], [(24, .ireturn)], [], [], [], []]
def gt_i34 : List (List (List (Nat × Instr))) := [gt_i34_0]
def gt_m34 : gx_M := (⟨"HandheldPairModel", "none", "(I)Z"⟩, prog_14_method_4_code, 2, (Option.some FieldType.boolean), 2, 13, false, gt_i34, [])
def gt_i35_0 : List (List (Nat × Instr)) := [[(0, .iload_n 1), (1, .sipush 336), (4, .if_icmp .lt 9), (7, .iload_n 1)], [(8, .ldc 9), (10, .if_icmp .le 5), (13, .iconst 1), (14, .ireturn), (15, .aload_n 0)], [(16, .getfield 10), (19, .sipush 333), (22, .iaload), (23, .aload_n 0)], [(24, .getfield 10), (27, .invokestatic 66), (30, .if_icmp .eq 5)], [(33, .iconst 2), (34, .ireturn), (35, .aload_n 0), (36, .getfield 10), (39, .sipush 327)], [(42, .iaload), (43, .invokestatic 106), (46, .iconst (-1)), (47, .if_icmp .ne 5)], [(50, .iconst 3), (51, .ireturn), (52, .aload_n 0), (53, .getfield 10)], [(56, .sipush 329), (59, .iaload), (60, .invokestatic 109), (63, .ifCond .ge 5)]]
def gt_i35_1 : List (List (Nat × Instr)) := [[(66, .iconst 4), (67, .ireturn), (68, .iconst 0), (69, .ireturn)], [], [], [], [], [], [], []]
def gt_i35 : List (List (List (Nat × Instr))) := [gt_i35_0, gt_i35_1]
def gt_m35 : gx_M := (⟨"HandheldPair", "reasonToRefuse", "(I)I"⟩, prog_1_method_7_code, 2, (Option.some FieldType.int), 2, 1, false, gt_i35, [])
def gt_i36_0 : List (List (Nat × Instr)) := [[(0, .iload_n 2), (1, .sipush 336), (4, .if_icmp .lt 9), (7, .iload_n 2)], [(8, .ldc 7), (10, .if_icmp .le 5), (13, .iconst 1), (14, .ireturn), (15, .iconst 0)], [(16, .istore_n 3), (17, .sipush 308), (20, .istore 4), (22, .iload 4)], [(24, .sipush 333), (27, .if_icmp .ge 22), (30, .iload_n 3), (31, .aload_n 1)], [(32, .iload 4), (34, .baload), (35, .isub), (36, .iconst 1), (37, .isub), (38, .sipush 255)], [(41, .iand), (42, .istore_n 3), (43, .iinc 4 1), (46, .goto (-24))], [(49, .iload_n 3), (50, .aload_n 1), (51, .sipush 333), (54, .baload), (55, .sipush 255)], [(58, .iand), (59, .if_icmp .eq 5), (62, .iconst 2), (63, .ireturn)]]
def gt_i36_1 : List (List (Nat × Instr)) := [[(64, .aload_n 1), (65, .sipush 327), (68, .baload), (69, .sipush 255)], [(72, .iand), (73, .istore 4), (75, .iload 4), (77, .invokestatic 60)], [(80, .ifCond .ge 5), (83, .iconst 3), (84, .ireturn), (85, .aload_n 1), (86, .sipush 329)], [(89, .baload), (90, .istore 5), (92, .iload 5), (94, .ifCond .eq 15)], [(97, .iload 5), (99, .iconst 2), (100, .if_icmp .eq 9), (103, .iload 5)], [(105, .iconst 3), (106, .if_icmp .ne 7), (109, .iconst 0), (110, .goto 4)], [(113, .iconst 4), (114, .ireturn)], []]
def gt_i36 : List (List (List (Nat × Instr))) := [gt_i36_0, gt_i36_1]
def gt_m36 : gx_M := (⟨"HandheldPairModel$Cart", "check", "([BI)I"⟩, prog_15_method_2_code, 6, (Option.some FieldType.int), 3, 14, false, gt_i36, [])
def gt_i37_0 : List (List (Nat × Instr)) := [[(0, .aload_n 0), (1, .getfield 36), (4, .ireturn)], [], [], [], [], [], [], []]
def gt_i37 : List (List (List (Nat × Instr))) := [gt_i37_0]
def gt_m37 : gx_M := (⟨"HandheldPair", "refused", "()I"⟩, prog_1_method_8_code, 1, (Option.some FieldType.int), 1, 1, false, gt_i37, [])
def gt_i38_0 : List (List (Nat × Instr)) := [[(0, .aload_n 0), (1, .iconst 0), (2, .putfield 18), (5, .aload_n 0), (6, .getfield 21)], [(9, .ireturn)], [], [], [], [], [], []]
def gt_i38 : List (List (List (Nat × Instr))) := [gt_i38_0]
def gt_m38 : gx_M := (⟨"HandheldPairModel", "refused", "()I"⟩, prog_14_method_9_code, 1, (Option.some FieldType.int), 1, 13, false, gt_i38, [])
def gt_i39_0 : List (List (Nat × Instr)) := [[(0, .aload_n 2), (1, .iconst 0), (2, .aload_n 0), (3, .iload_n 1), (4, .invokevirtual 32), (7, .lastore)], [(8, .goto 9), (11, .astore_n 3), (12, .iconst 1), (13, .ireturn), (14, .astore_n 3), (15, .iconst 2)], [(16, .ireturn), (17, .iconst 0), (18, .ireturn)], [], [], [], [], []]
def gt_i39 : List (List (List (Nat × Instr))) := [gt_i39_0]
def gt_m39 : gx_M := (⟨"HandheldPairLaw", "power", "(LHandheldPair;I[J)I"⟩, method_7_code, 4, (Option.some FieldType.int), 3, 0, false, gt_i39, [(0, 8, 11, 25), (0, 8, 14, 13)])
def gt_i40_0 : List (List (Nat × Instr)) := [[(0, .aload_n 0), (1, .iload_n 1), (2, .invokevirtual 70), (5, .astore_n 2), (6, .aload_n 2), (7, .getfield 78)], [(10, .ifCond .ne 13), (13, .new 43)], [(16, .dup), (17, .ldc 112), (19, .invokespecial 47), (22, .athrow), (23, .aload_n 2)], [(24, .aload_n 0), (25, .getfield 95), (28, .invokevirtual 99), (31, .aload_n 2)], [(32, .getfield 114), (35, .lreturn)], [], [], []]
def gt_i40 : List (List (List (Nat × Instr))) := [gt_i40_0]
def gt_m40 : gx_M := (⟨"HandheldPair", "power", "(I)J"⟩, prog_1_method_9_code, 3, (Option.some FieldType.long), 2, 1, false, gt_i40, [])
def gt_i41_0 : List (List (Nat × Instr)) := [[(0, .aload_n 0), (1, .iload_n 1), (2, .invokevirtual 58), (5, .ifCond .ne 28)], [(8, .aload_n 0), (9, .iconst 2), (10, .aload_n 0), (11, .getfield 30), (14, .iload_n 1), (15, .aaload)], [(16, .getfield 72), (19, .ifCond .ne 7), (22, .iconst 1), (23, .goto 4)], [(26, .iconst 0), (27, .invokevirtual 53), (30, .ifCond .eq 5)], [(33, .lconst 0), (34, .lreturn), (35, .aload_n 0), (36, .getfield 30), (39, .iload_n 1)], [(40, .aaload), (41, .aload_n 0), (42, .getfield 45), (45, .invokevirtual 80)], [(48, .aload_n 0), (49, .getfield 30), (52, .iload_n 1), (53, .aaload), (54, .getfield 87)], [(57, .lreturn)]]
def gt_i41 : List (List (List (Nat × Instr))) := [gt_i41_0]
def gt_m41 : gx_M := (⟨"HandheldPairModel", "power", "(I)J"⟩, prog_14_method_10_code, 2, (Option.some FieldType.long), 2, 13, false, gt_i41, [])
def gt_i42_0 : List (List (Nat × Instr)) := [[(0, .aload_n 0), (1, .iload_n 1), (2, .iload_n 2), (3, .invokevirtual 36), (6, .goto 6)], [(9, .astore_n 3), (10, .iconst 1), (11, .ireturn), (12, .iconst 0), (13, .ireturn)], [], [], [], [], [], []]
def gt_i42 : List (List (List (Nat × Instr))) := [gt_i42_0]
def gt_m42 : gx_M := (⟨"HandheldPairLaw", "keys", "(LHandheldPair;II)I"⟩, method_8_code, 4, (Option.some FieldType.int), 3, 0, false, gt_i42, [(0, 6, 9, 25)])
def gt_i43_0 : List (List (Nat × Instr)) := [[(0, .aload_n 0), (1, .iload_n 1), (2, .invokevirtual 70), (5, .iload_n 2), (6, .sipush 255)], [(9, .iand), (10, .invokevirtual 117), (13, .return_)], [], [], [], [], [], []]
def gt_i43 : List (List (List (Nat × Instr))) := [gt_i43_0]
def gt_m43 : gx_M := (⟨"HandheldPair", "keys", "(II)V"⟩, prog_1_method_10_code, 3, none, 3, 1, false, gt_i43, [])
def gt_i44_0 : List (List (Nat × Instr)) := [[(0, .aload_n 0), (1, .iload_n 1), (2, .invokevirtual 58), (5, .ifCond .eq 4)], [(8, .return_), (9, .aload_n 0), (10, .getfield 30), (13, .iload_n 1), (14, .aaload), (15, .iload_n 2)], [(16, .invokevirtual 90), (19, .return_)], [], [], [], [], []]
def gt_i44 : List (List (List (Nat × Instr))) := [gt_i44_0]
def gt_m44 : gx_M := (⟨"HandheldPairModel", "keys", "(II)V"⟩, prog_14_method_11_code, 3, none, 3, 13, false, gt_i44, [])
def gt_i45_0 : List (List (Nat × Instr)) := [[(0, .aload_n 0), (1, .invokevirtual 157), (4, .istore_n 2), (5, .aload_n 0), (6, .iload_n 1), (7, .putfield 117)], [(10, .aload_n 0), (11, .iload_n 2), (12, .invokevirtual 291), (15, .return_)], [], [], [], [], [], []]
def gt_i45 : List (List (List (Nat × Instr))) := [gt_i45_0]
def gt_m45 : gx_M := (⟨"HandheldPair$Console", "press", "(I)V"⟩, prog_7_method_13_code, 3, none, 2, 7, false, gt_i45, [])
def gt_i46_0 : List (List (Nat × Instr)) := [[(0, .iconst 0), (1, .istore_n 1), (2, .aload_n 0), (3, .getfield 121), (6, .bipush 16)], [(8, .iand), (9, .ifCond .ne 13), (12, .iload_n 1), (13, .aload_n 0), (14, .getfield 117)], [(17, .bipush 15), (19, .iand), (20, .ior), (21, .istore_n 1), (22, .aload_n 0), (23, .getfield 121)], [(26, .bipush 32), (28, .iand), (29, .ifCond .ne 12)], [(32, .iload_n 1), (33, .aload_n 0), (34, .getfield 117), (37, .iconst 4), (38, .ishr), (39, .ior)], [(40, .istore_n 1), (41, .bipush 15), (43, .iload_n 1), (44, .iconst (-1)), (45, .ixor), (46, .iand), (47, .ireturn)], [], []]
def gt_i46 : List (List (List (Nat × Instr))) := [gt_i46_0]
def gt_m46 : gx_M := (⟨"HandheldPair$Console", "keyBits", "()I"⟩, prog_7_method_16_code, 2, (Option.some FieldType.int), 1, 7, false, gt_i46, [])
def gt_i47_0 : List (List (Nat × Instr)) := [[(0, .aload_n 0), (1, .getfield 104), (4, .ifCond .eq 28), (7, .iload_n 1)], [(8, .aload_n 0), (9, .invokevirtual 157), (12, .iconst (-1)), (13, .ixor), (14, .iand), (15, .ifCond .eq 17)], [(18, .aload_n 0), (19, .getfield 10), (22, .dup), (23, .getfield 239)], [(26, .bipush 16), (28, .ior), (29, .putfield 239)], [(32, .return_)], [], [], []]
def gt_i47 : List (List (List (Nat × Instr))) := [gt_i47_0]
def gt_m47 : gx_M := (⟨"HandheldPair$Console", "askForFallenKeys", "(I)V"⟩, prog_7_method_15_code, 2, none, 2, 7, false, gt_i47, [])
def gt_i48_0 : List (List (Nat × Instr)) := [[(0, .aload_n 0), (1, .invokevirtual 358), (4, .istore_n 2), (5, .aload_n 0), (6, .iload_n 1), (7, .sipush 255)], [(10, .iand), (11, .putfield 56), (14, .aload_n 0), (15, .getfield 27)], [(18, .ifCond .eq 19), (21, .iload_n 2), (22, .aload_n 0), (23, .invokevirtual 358)], [(26, .iconst (-1)), (27, .ixor), (28, .iand), (29, .ifCond .eq 8)], [(32, .aload_n 0), (33, .iconst 4), (34, .invokevirtual 304), (37, .return_)], [], [], []]
def gt_i48 : List (List (List (Nat × Instr))) := [gt_i48_0]
def gt_m48 : gx_M := (⟨"HandheldPairModel$Console", "hold", "(I)V"⟩, prog_16_method_27_code, 3, none, 2, 15, false, gt_i48, [])
def gt_i49_0 : List (List (Nat × Instr)) := [[(0, .bipush 15), (2, .istore_n 1), (3, .aload_n 0), (4, .getfield 60), (7, .bipush 16)], [(9, .iand), (10, .ifCond .ne 12), (13, .iload_n 1), (14, .aload_n 0), (15, .getfield 56)], [(18, .iconst (-1)), (19, .ixor), (20, .iand), (21, .istore_n 1), (22, .aload_n 0), (23, .getfield 60)], [(26, .bipush 32), (28, .iand), (29, .ifCond .ne 14)], [(32, .iload_n 1), (33, .aload_n 0), (34, .getfield 56), (37, .iconst 4), (38, .ishr), (39, .iconst (-1))], [(40, .ixor), (41, .iand), (42, .istore_n 1), (43, .iload_n 1), (44, .bipush 15), (46, .iand), (47, .ireturn)], [], []]
def gt_i49 : List (List (List (Nat × Instr))) := [gt_i49_0]
def gt_m49 : gx_M := (⟨"HandheldPairModel$Console", "pressed", "()I"⟩, prog_16_method_26_code, 2, (Option.some FieldType.int), 1, 15, false, gt_i49, [])
def gt_i50_0 : List (List (Nat × Instr)) := [[(0, .aload_n 2), (1, .iconst 0), (2, .aload_n 0), (3, .iload_n 1), (4, .invokevirtual 40), (7, .i2l)], [(8, .lastore), (9, .goto 6), (12, .astore_n 3), (13, .iconst 1), (14, .ireturn), (15, .iconst 0)], [(16, .ireturn)], [], [], [], [], []]
def gt_i50 : List (List (List (Nat × Instr))) := [gt_i50_0]
def gt_m50 : gx_M := (⟨"HandheldPairLaw", "run", "(LHandheldPair;I[J)I"⟩, method_9_code, 4, (Option.some FieldType.int), 3, 0, false, gt_i50, [(0, 9, 12, 19)])
def gt_i51_0 : List (List (Nat × Instr)) := [[(0, .iload_n 1), (1, .iconst 1), (2, .if_icmp .lt 9), (5, .iload_n 1), (6, .ldc 120)], [(8, .if_icmp .le 13), (11, .new 54), (14, .dup), (15, .ldc 121)], [(17, .invokespecial 58), (20, .athrow), (21, .aload_n 0), (22, .dup), (23, .getfield 95)], [(26, .iload_n 1), (27, .i2l), (28, .ladd), (29, .putfield 95)], [(32, .iconst 0), (33, .istore_n 2), (34, .aload_n 0), (35, .invokevirtual 123), (38, .astore_n 3), (39, .aload_n 3)], [(40, .ifnull 24), (43, .iload_n 2), (44, .ldc 127), (46, .if_icmp .ge 18)], [(49, .aload_n 3), (50, .invokevirtual 128), (53, .iinc 2 1)], [(56, .aload_n 0), (57, .invokevirtual 123), (60, .astore_n 3), (61, .goto (-22))]]
def gt_i51_1 : List (List (Nat × Instr)) := [[(64, .aload_n 0), (65, .aload_n 0), (66, .getfield 131), (69, .iload_n 2), (70, .iadd), (71, .ldc 134)], [(73, .iand), (74, .putfield 131), (77, .iload_n 2), (78, .ireturn)], [], [], [], [], [], []]
def gt_i51 : List (List (List (Nat × Instr))) := [gt_i51_0, gt_i51_1]
def gt_m51 : gx_M := (⟨"HandheldPair", "run", "(I)I"⟩, prog_1_method_11_code, 4, (Option.some FieldType.int), 2, 1, false, gt_i51, [])
def gt_i52_0 : List (List (Nat × Instr)) := [[(0, .aload_n 0), (1, .iconst 0), (2, .putfield 18), (5, .aload_n 0), (6, .iconst 1), (7, .iload_n 1)], [(8, .iconst 1), (9, .if_icmp .lt 9), (12, .iload_n 1), (13, .ldc 94), (15, .if_icmp .le 7)], [(18, .iconst 1), (19, .goto 4), (22, .iconst 0), (23, .invokevirtual 53)], [(26, .ifCond .eq 5), (29, .iconst 0), (30, .ireturn), (31, .aload_n 0)], [(32, .dup), (33, .getfield 45), (36, .iload_n 1), (37, .i2l), (38, .ladd), (39, .putfield 45)], [(42, .iconst 0), (43, .istore_n 2), (44, .aconst_null), (45, .astore_n 3), (46, .iconst 0), (47, .istore 4)], [(49, .iload 4), (51, .iconst 2), (52, .if_icmp .ge 70), (55, .aload_n 0)], [(56, .getfield 30), (59, .iload 4), (61, .aaload), (62, .getfield 72)]]
def gt_i52_1 : List (List (Nat × Instr)) := [[(65, .ifCond .eq 51), (68, .aload_n 0), (69, .getfield 30)], [(72, .iload 4), (74, .aaload), (75, .getfield 87), (78, .aload_n 0), (79, .getfield 45)], [(82, .lcmp), (83, .ifCond .ge 33), (86, .aload_n 3), (87, .ifnull 21)], [(90, .aload_n 0), (91, .getfield 30), (94, .iload 4)], [(96, .aaload), (97, .getfield 87), (100, .aload_n 3), (101, .getfield 87)], [(104, .lcmp), (105, .ifCond .ge 11), (108, .aload_n 0), (109, .getfield 30)], [(112, .iload 4), (114, .aaload), (115, .astore_n 3), (116, .iinc 4 1), (119, .goto (-70))], [(122, .aload_n 3), (123, .ifnonnull 6), (126, .goto 13)]]
def gt_i52_2 : List (List (Nat × Instr)) := [[(129, .aload_n 3), (130, .invokevirtual 95), (133, .iinc 2 1)], [(136, .goto (-92)), (139, .aload_n 0), (140, .dup), (141, .getfield 24)], [(144, .iload_n 2), (145, .iadd), (146, .putfield 24), (149, .iload_n 2), (150, .ireturn)], [], [], [], [], []]
def gt_i52 : List (List (List (Nat × Instr))) := [gt_i52_0, gt_i52_1, gt_i52_2]
def gt_m52 : gx_M := (⟨"HandheldPairModel", "run", "(I)I"⟩, prog_14_method_12_code, 5, (Option.some FieldType.int), 2, 13, false, gt_i52, [])
def gt_i53_0 : List (List (Nat × Instr)) := [[(0, .aload_n 0), (1, .getfield 16), (4, .iconst 0), (5, .aaload), (6, .astore_n 1), (7, .aload_n 0)], [(8, .getfield 16), (11, .iconst 1), (12, .aaload), (13, .astore_n 2), (14, .aload_n 1), (15, .getfield 78)], [(18, .ifCond .eq 19), (21, .aload_n 1), (22, .getfield 114)], [(25, .aload_n 0), (26, .getfield 95), (29, .lcmp), (30, .ifCond .ge 7)], [(33, .iconst 1), (34, .goto 4), (37, .iconst 0), (38, .istore_n 3), (39, .aload_n 2)], [(40, .getfield 78), (43, .ifCond .eq 19), (46, .aload_n 2), (47, .getfield 114)], [(50, .aload_n 0), (51, .getfield 95), (54, .lcmp), (55, .ifCond .ge 7)], [(58, .iconst 1), (59, .goto 4), (62, .iconst 0), (63, .istore 4)]]
def gt_i53_1 : List (List (Nat × Instr)) := [[(65, .iload_n 3), (66, .ifCond .eq 26), (69, .iload 4), (71, .ifCond .eq 21)], [(74, .aload_n 2), (75, .getfield 114), (78, .aload_n 1), (79, .getfield 114)], [(82, .lcmp), (83, .ifCond .ge 7), (86, .aload_n 2), (87, .goto 4)], [(90, .aload_n 1), (91, .areturn), (92, .iload_n 3), (93, .ifCond .eq 5)], [(96, .aload_n 1), (97, .areturn), (98, .iload 4), (100, .ifCond .eq 7), (103, .aload_n 2)], [(104, .goto 4), (107, .aconst_null), (108, .areturn)], [], []]
def gt_i53 : List (List (List (Nat × Instr))) := [gt_i53_0, gt_i53_1]
def gt_m53 : gx_M := (⟨"HandheldPair", "nextToGo", "()LHandheldPair$Console;"⟩, prog_1_method_12_code, 5, (Option.some (FieldType.object "HandheldPair$Console")), 1, 1, false, gt_i53, [])
def gt_i54_0 : List (List (Nat × Instr)) := [[(0, .aload_n 3), (1, .iconst 0), (2, .aload_n 0), (3, .iload_n 1), (4, .iload_n 2), (5, .invokevirtual 43)], [(8, .i2l), (9, .lastore), (10, .goto 7), (13, .astore 4), (15, .iconst 1)], [(16, .ireturn), (17, .iconst 0), (18, .ireturn)], [], [], [], [], []]
def gt_i54 : List (List (List (Nat × Instr))) := [gt_i54_0]
def gt_m54 : gx_M := (⟨"HandheldPairLaw", "memory", "(LHandheldPair;II[J)I"⟩, method_10_code, 5, (Option.some FieldType.int), 4, 0, false, gt_i54, [(0, 10, 13, 25)])
def gt_i55_0 : List (List (Nat × Instr)) := [[(0, .aload_n 0), (1, .iload_n 1), (2, .invokevirtual 70), (5, .astore_n 3), (6, .aload_n 3), (7, .getfield 78)], [(10, .ifCond .eq 14), (13, .aload_n 3), (14, .iload_n 2), (15, .ldc 135)], [(17, .iand), (18, .invokevirtual 136), (21, .goto 4)], [(24, .iconst 0), (25, .ireturn)], [], [], [], []]
def gt_i55 : List (List (List (Nat × Instr))) := [gt_i55_0]
def gt_m55 : gx_M := (⟨"HandheldPair", "memory", "(II)I"⟩, prog_1_method_13_code, 4, (Option.some FieldType.int), 3, 1, false, gt_i55, [])
def gt_i56_0 : List (List (Nat × Instr)) := [[(0, .aload_n 0), (1, .iload_n 1), (2, .invokevirtual 58), (5, .ifCond .ne 15)], [(8, .aload_n 0), (9, .getfield 30), (12, .iload_n 1), (13, .aaload), (14, .getfield 72)], [(17, .ifCond .ne 7), (20, .iconst 0), (21, .goto 16)], [(24, .aload_n 0), (25, .getfield 30), (28, .iload_n 1), (29, .aaload), (30, .iload_n 2), (31, .ldc 98)], [(33, .iand), (34, .invokevirtual 99), (37, .ireturn)], [], [], []]
def gt_i56 : List (List (List (Nat × Instr))) := [gt_i56_0]
def gt_m56 : gx_M := (⟨"HandheldPairModel", "memory", "(II)I"⟩, prog_14_method_13_code, 3, (Option.some FieldType.int), 3, 13, false, gt_i56, [])
def gt_i57_0 : List (List (Nat × Instr)) := [[(0, .aload_n 3), (1, .iconst 0), (2, .aload_n 0), (3, .iload_n 1), (4, .iload_n 2), (5, .invokevirtual 47)], [(8, .i2l), (9, .lastore), (10, .goto 11), (13, .astore 4), (15, .iconst 1)], [(16, .ireturn), (17, .astore 4), (19, .iconst 2), (20, .ireturn), (21, .iconst 0), (22, .ireturn)], [], [], [], [], []]
def gt_i57 : List (List (List (Nat × Instr))) := [gt_i57_0]
def gt_m57 : gx_M := (⟨"HandheldPairLaw", "about", "(LHandheldPair;II[J)I"⟩, method_11_code, 5, (Option.some FieldType.int), 4, 0, false, gt_i57, [(0, 10, 13, 25), (0, 10, 17, 19)])
def gt_i58_0 : List (List (Nat × Instr)) := [[(0, .aload_n 0), (1, .iload_n 1), (2, .invokevirtual 70), (5, .astore_n 3), (6, .iload_n 2), (7, .ifCond .lt 9)], [(10, .iload_n 2), (11, .bipush 25), (13, .if_icmp .le 13)], [(16, .new 54), (19, .dup), (20, .ldc 139), (22, .invokespecial 58)], [(25, .athrow), (26, .aload_n 3), (27, .getfield 78), (30, .ifCond .eq 11)], [(33, .aload_n 3), (34, .iload_n 2), (35, .invokevirtual 141), (38, .goto 4)], [(41, .iconst 0), (42, .ireturn)], [], []]
def gt_i58 : List (List (List (Nat × Instr))) := [gt_i58_0]
def gt_m58 : gx_M := (⟨"HandheldPair", "about", "(II)I"⟩, prog_1_method_14_code, 4, (Option.some FieldType.int), 3, 1, false, gt_i58, [])
def gt_i59_0 : List (List (Nat × Instr)) := [[(0, .aload_n 0), (1, .iload_n 1), (2, .invokevirtual 58), (5, .ifCond .ne 26)], [(8, .aload_n 0), (9, .iconst 2), (10, .iload_n 2), (11, .ifCond .lt 9), (14, .iload_n 2), (15, .bipush 25)], [(17, .if_icmp .le 7), (20, .iconst 1), (21, .goto 4)], [(24, .iconst 0), (25, .invokevirtual 53), (28, .ifCond .eq 5), (31, .iconst 0)], [(32, .ireturn), (33, .aload_n 0), (34, .getfield 30), (37, .iload_n 1), (38, .aaload), (39, .getfield 72)], [(42, .ifCond .eq 16), (45, .aload_n 0), (46, .getfield 30)], [(49, .iload_n 1), (50, .aaload), (51, .iload_n 2), (52, .invokevirtual 103), (55, .goto 4)], [(58, .iconst 0), (59, .ireturn)]]
def gt_i59 : List (List (List (Nat × Instr))) := [gt_i59_0]
def gt_m59 : gx_M := (⟨"HandheldPairModel", "about", "(II)I"⟩, prog_14_method_14_code, 3, (Option.some FieldType.int), 3, 13, false, gt_i59, [])
def gt_i60_0 : List (List (Nat × Instr)) := [[(0, .aload_n 2), (1, .iconst 0), (2, .aload_n 0), (3, .iload_n 1), (4, .invokevirtual 50), (7, .lastore)], [(8, .goto 6), (11, .astore_n 3), (12, .iconst 1), (13, .ireturn), (14, .iconst 0), (15, .ireturn)], [], [], [], [], [], []]
def gt_i60 : List (List (List (Nat × Instr))) := [gt_i60_0]
def gt_m60 : gx_M := (⟨"HandheldPairLaw", "time", "(LHandheldPair;I[J)I"⟩, method_12_code, 4, (Option.some FieldType.int), 3, 0, false, gt_i60, [(0, 8, 11, 25)])
def gt_i61_0 : List (List (Nat × Instr)) := [[(0, .aload_n 0), (1, .iload_n 1), (2, .invokevirtual 70), (5, .getfield 114)], [(8, .lreturn)], [], [], [], [], [], []]
def gt_i61 : List (List (List (Nat × Instr))) := [gt_i61_0]
def gt_m61 : gx_M := (⟨"HandheldPair", "time", "(I)J"⟩, prog_1_method_15_code, 2, (Option.some FieldType.long), 2, 1, false, gt_i61, [])
def gt_i62_0 : List (List (Nat × Instr)) := [[(0, .aload_n 0), (1, .iload_n 1), (2, .invokevirtual 58), (5, .ifCond .eq 7)], [(8, .lconst 0), (9, .goto 12), (12, .aload_n 0), (13, .getfield 30)], [(16, .iload_n 1), (17, .aaload), (18, .getfield 87), (21, .lreturn)], [], [], [], [], []]
def gt_i62 : List (List (List (Nat × Instr))) := [gt_i62_0]
def gt_m62 : gx_M := (⟨"HandheldPairModel", "time", "(I)J"⟩, prog_14_method_15_code, 2, (Option.some FieldType.long), 2, 13, false, gt_i62, [])
def gt_i63_0 : List (List (Nat × Instr)) := [[(0, .aload 4), (2, .iconst 0), (3, .aload_n 0), (4, .iload_n 1), (5, .iload_n 2), (6, .iload_n 3), (7, .invokevirtual 53)], [(10, .i2l), (11, .lastore), (12, .goto 11), (15, .astore 5)], [(17, .iconst 1), (18, .ireturn), (19, .astore 5), (21, .iconst 2), (22, .ireturn), (23, .iconst 0)], [(24, .ireturn)], [], [], [], []]
def gt_i63 : List (List (List (Nat × Instr))) := [gt_i63_0]
def gt_m63 : gx_M := (⟨"HandheldPairLaw", "pixel", "(LHandheldPair;III[J)I"⟩, method_13_code, 6, (Option.some FieldType.int), 5, 0, false, gt_i63, [(0, 12, 15, 25), (0, 12, 19, 57)])
def gt_i64_0 : List (List (Nat × Instr)) := [[(0, .aload_n 0), (1, .iload_n 1), (2, .invokevirtual 70), (5, .astore 4), (7, .iload_n 2)], [(8, .ifCond .lt 21), (11, .iload_n 2), (12, .sipush 160), (15, .if_icmp .ge 14)], [(18, .iload_n 3), (19, .ifCond .lt 10), (22, .iload_n 3), (23, .sipush 144)], [(26, .if_icmp .lt 13), (29, .new 146)], [(32, .dup), (33, .ldc 148), (35, .invokespecial 150), (38, .athrow), (39, .aload 4)], [(41, .getfield 78), (44, .ifCond .eq 22), (47, .aload 4)], [(49, .getfield 151), (52, .getfield 155), (55, .iload_n 3)], [(56, .sipush 160), (59, .imul), (60, .iload_n 2), (61, .iadd), (62, .iaload), (63, .goto 4)]]
def gt_i64_1 : List (List (Nat × Instr)) := [[(66, .iconst 0), (67, .ireturn)], [], [], [], [], [], [], []]
def gt_i64 : List (List (List (Nat × Instr))) := [gt_i64_0, gt_i64_1]
def gt_m64 : gx_M := (⟨"HandheldPair", "pixel", "(III)I"⟩, prog_1_method_16_code, 5, (Option.some FieldType.int), 4, 1, false, gt_i64, [])
def gt_i65_0 : List (List (Nat × Instr)) := [[(0, .aload_n 0), (1, .iload_n 1), (2, .invokevirtual 58), (5, .ifCond .ne 38)], [(8, .aload_n 0), (9, .iconst 2), (10, .iload_n 2), (11, .ifCond .lt 21), (14, .iload_n 2), (15, .sipush 159)], [(18, .if_icmp .gt 14), (21, .iload_n 3), (22, .ifCond .lt 10)], [(25, .iload_n 3), (26, .sipush 143), (29, .if_icmp .le 7)], [(32, .iconst 1), (33, .goto 4), (36, .iconst 0), (37, .invokevirtual 53)], [(40, .ifCond .eq 5), (43, .iconst 0), (44, .ireturn), (45, .aload_n 0), (46, .getfield 30)], [(49, .iload_n 1), (50, .aaload), (51, .getfield 72), (54, .ifCond .eq 23)], [(57, .aload_n 0), (58, .getfield 30), (61, .iload_n 1), (62, .aaload), (63, .getfield 106)]]
def gt_i65_1 : List (List (Nat × Instr)) := [[(66, .sipush 160), (69, .iload_n 3), (70, .imul), (71, .iload_n 2)], [(72, .iadd), (73, .iaload), (74, .goto 4), (77, .iconst 0), (78, .ireturn)], [], [], [], [], [], []]
def gt_i65 : List (List (List (Nat × Instr))) := [gt_i65_0, gt_i65_1]
def gt_m65 : gx_M := (⟨"HandheldPairModel", "pixel", "(III)I"⟩, prog_14_method_16_code, 4, (Option.some FieldType.int), 4, 13, false, gt_i65, [])
def gt_i66_0 : List (List (Nat × Instr)) := [[(0, .aload_n 2), (1, .iconst 0), (2, .aload_n 0), (3, .iload_n 1), (4, .invokevirtual 59), (7, .i2l)], [(8, .lastore), (9, .goto 6), (12, .astore_n 3), (13, .iconst 1), (14, .ireturn), (15, .iconst 0)], [(16, .ireturn)], [], [], [], [], []]
def gt_i66 : List (List (List (Nat × Instr))) := [gt_i66_0]
def gt_m66 : gx_M := (⟨"HandheldPairLaw", "picture", "(LHandheldPair;I[J)I"⟩, method_14_code, 4, (Option.some FieldType.int), 3, 0, false, gt_i66, [(0, 9, 12, 25)])
def gt_i67_0 : List (List (Nat × Instr)) := [[(0, .aload_n 0), (1, .iload_n 1), (2, .invokevirtual 70), (5, .astore_n 2), (6, .aload_n 2), (7, .getfield 78)], [(10, .ifCond .eq 13), (13, .aload_n 2), (14, .getfield 151)], [(17, .invokevirtual 158), (20, .goto 4), (23, .iconst 0)], [(24, .ireturn)], [], [], [], []]
def gt_i67 : List (List (List (Nat × Instr))) := [gt_i67_0]
def gt_m67 : gx_M := (⟨"HandheldPair", "picture", "(I)I"⟩, prog_1_method_17_code, 3, (Option.some FieldType.int), 2, 1, false, gt_i67, [])
def gt_i68_0 : List (List (Nat × Instr)) := [[(0, .aload_n 0), (1, .iload_n 1), (2, .invokevirtual 58), (5, .ifCond .ne 15)], [(8, .aload_n 0), (9, .getfield 30), (12, .iload_n 1), (13, .aaload), (14, .getfield 72)], [(17, .ifCond .ne 5), (20, .iconst 0), (21, .ireturn), (22, .iconst 0), (23, .istore_n 2)], [(24, .iconst 0), (25, .istore_n 3), (26, .iload_n 3), (27, .sipush 23040), (30, .if_icmp .ge 26)], [(33, .iload_n 2), (34, .bipush 31), (36, .imul), (37, .aload_n 0), (38, .getfield 30)], [(41, .iload_n 1), (42, .aaload), (43, .getfield 106), (46, .iload_n 3), (47, .iaload)], [(48, .iadd), (49, .istore_n 2), (50, .iinc 3 1), (53, .goto (-27))], [(56, .iload_n 2), (57, .ireturn)]]
def gt_i68 : List (List (List (Nat × Instr))) := [gt_i68_0]
def gt_m68 : gx_M := (⟨"HandheldPairModel", "picture", "(I)I"⟩, prog_14_method_17_code, 4, (Option.some FieldType.int), 2, 13, false, gt_i68, [])
def gt_i69_0 : List (List (Nat × Instr)) := [[(0, .aload_n 3), (1, .iconst 0), (2, .aload_n 0), (3, .iload_n 1), (4, .iload_n 2), (5, .invokevirtual 62)], [(8, .i2l), (9, .lastore), (10, .goto 11), (13, .astore 4), (15, .iconst 1)], [(16, .ireturn), (17, .astore 4), (19, .iconst 2), (20, .ireturn), (21, .iconst 0), (22, .ireturn)], [], [], [], [], []]
def gt_i69 : List (List (List (Nat × Instr))) := [gt_i69_0]
def gt_m69 : gx_M := (⟨"HandheldPairLaw", "saved", "(LHandheldPair;II[J)I"⟩, method_15_code, 5, (Option.some FieldType.int), 4, 0, false, gt_i69, [(0, 10, 13, 25), (0, 10, 17, 57)])
def gt_i70_0 : List (List (Nat × Instr)) := [[(0, .aload_n 0), (1, .iload_n 1), (2, .invokevirtual 70), (5, .astore_n 3), (6, .aload_n 3), (7, .getfield 78)], [(10, .ifCond .eq 18), (13, .iload_n 2), (14, .ifCond .lt 14)], [(17, .iload_n 2), (18, .aload_n 3), (19, .getfield 87), (22, .getfield 162)], [(25, .if_icmp .lt 13), (28, .new 146), (31, .dup)], [(32, .ldc 165), (34, .invokespecial 150), (37, .athrow), (38, .aload_n 3), (39, .getfield 87)], [(42, .getfield 167), (45, .iload_n 2), (46, .iaload), (47, .ireturn)], [], []]
def gt_i70 : List (List (List (Nat × Instr))) := [gt_i70_0]
def gt_m70 : gx_M := (⟨"HandheldPair", "saved", "(II)I"⟩, prog_1_method_18_code, 4, (Option.some FieldType.int), 3, 1, false, gt_i70, [])
def gt_i71_0 : List (List (Nat × Instr)) := [[(0, .aload_n 0), (1, .iload_n 1), (2, .invokevirtual 58), (5, .ifCond .eq 5)], [(8, .iconst 0), (9, .ireturn), (10, .aload_n 0), (11, .iconst 2), (12, .aload_n 0), (13, .getfield 30)], [(16, .iload_n 1), (17, .aaload), (18, .getfield 72), (21, .ifCond .eq 23)], [(24, .iload_n 2), (25, .ifCond .lt 19), (28, .iload_n 2), (29, .aload_n 0), (30, .getfield 30)], [(33, .iload_n 1), (34, .aaload), (35, .getfield 62), (38, .invokevirtual 110)], [(41, .if_icmp .lt 7), (44, .iconst 1), (45, .goto 4)], [(48, .iconst 0), (49, .invokevirtual 53), (52, .ifCond .eq 5), (55, .iconst 0)], [(56, .ireturn), (57, .aload_n 0), (58, .getfield 30), (61, .iload_n 1), (62, .aaload), (63, .getfield 62)]]
def gt_i71_1 : List (List (Nat × Instr)) := [[(66, .getfield 114), (69, .iload_n 2), (70, .baload), (71, .sipush 255)], [(74, .iand), (75, .ireturn)], [], [], [], [], [], []]
def gt_i71 : List (List (List (Nat × Instr))) := [gt_i71_0, gt_i71_1]
def gt_m71 : gx_M := (⟨"HandheldPairModel", "saved", "(II)I"⟩, prog_14_method_18_code, 3, (Option.some FieldType.int), 3, 13, false, gt_i71, [])
def gt_i72_0 : List (List (Nat × Instr)) := [[(0, .aload_n 0), (1, .iload_n 1), (2, .invokevirtual 65), (5, .goto 6)], [(8, .astore_n 2), (9, .iconst 1), (10, .ireturn), (11, .iconst 0), (12, .ireturn)], [], [], [], [], [], []]
def gt_i72 : List (List (List (Nat × Instr))) := [gt_i72_0]
def gt_m72 : gx_M := (⟨"HandheldPairLaw", "keep", "(LHandheldPair;I)I"⟩, method_16_code, 3, (Option.some FieldType.int), 2, 0, false, gt_i72, [(0, 5, 8, 57)])
def gt_i73_0 : List (List (Nat × Instr)) := [[(0, .aload_n 0), (1, .iload_n 1), (2, .invokevirtual 170), (5, .iconst 0), (6, .istore_n 2), (7, .iload_n 2)], [(8, .iconst 2), (9, .if_icmp .ge 28), (12, .aload_n 0), (13, .getfield 25)], [(16, .iload_n 1), (17, .iconst 2), (18, .imul), (19, .iload_n 2), (20, .iadd), (21, .aaload), (22, .aload_n 0), (23, .getfield 16)], [(26, .iload_n 2), (27, .aaload), (28, .invokevirtual 173), (31, .iinc 2 1)], [(34, .goto (-27)), (37, .aload_n 0), (38, .getfield 32)], [(41, .iload_n 1), (42, .aload_n 0), (43, .getfield 95), (46, .lastore), (47, .aload_n 0)], [(48, .getfield 28), (51, .iload_n 1), (52, .iconst 1), (53, .bastore), (54, .return_)], []]
def gt_i73 : List (List (List (Nat × Instr))) := [gt_i73_0]
def gt_m73 : gx_M := (⟨"HandheldPair", "keep", "(I)V"⟩, prog_1_method_19_code, 3, none, 2, 1, false, gt_i73, [])
def gt_i74_0 : List (List (Nat × Instr)) := [[(0, .iload_n 1), (1, .ifCond .lt 8), (4, .iload_n 1), (5, .iconst 2), (6, .if_icmp .lt 13)], [(9, .new 146), (12, .dup), (13, .ldc 179), (15, .invokespecial 150)], [(18, .athrow), (19, .return_)], [], [], [], [], []]
def gt_i74 : List (List (List (Nat × Instr))) := [gt_i74_0]
def gt_m74 : gx_M := (⟨"HandheldPair", "checkState", "(I)V"⟩, prog_1_method_21_code, 2, none, 2, 1, false, gt_i74, [])
def gt_i75_0 : List (List (Nat × Instr)) := [[(0, .aload_n 0), (1, .iconst 0), (2, .putfield 18), (5, .aload_n 0), (6, .iconst 1), (7, .iload_n 1)], [(8, .ifCond .lt 8), (11, .iload_n 1), (12, .iconst 1), (13, .if_icmp .le 7)], [(16, .iconst 1), (17, .goto 4), (20, .iconst 0), (21, .invokevirtual 53)], [(24, .ifCond .eq 4), (27, .return_), (28, .iconst 0), (29, .istore_n 2), (30, .iload_n 2), (31, .iconst 2)], [(32, .if_icmp .ge 28), (35, .aload_n 0), (36, .getfield 34), (39, .iconst 2)], [(40, .iload_n 1), (41, .imul), (42, .iload_n 2), (43, .iadd), (44, .aaload), (45, .aload_n 0), (46, .getfield 30)], [(49, .iload_n 2), (50, .aaload), (51, .invokevirtual 117), (54, .iinc 2 1)], [(57, .goto (-27)), (60, .aload_n 0), (61, .getfield 41)]]
def gt_i75_1 : List (List (Nat × Instr)) := [[(64, .iload_n 1), (65, .aload_n 0), (66, .getfield 45), (69, .lastore), (70, .aload_n 0), (71, .getfield 37)], [(74, .iload_n 1), (75, .iconst 1), (76, .bastore), (77, .return_)], [], [], [], [], [], []]
def gt_i75 : List (List (List (Nat × Instr))) := [gt_i75_0, gt_i75_1]
def gt_m75 : gx_M := (⟨"HandheldPairModel", "keep", "(I)V"⟩, prog_14_method_19_code, 3, none, 2, 13, false, gt_i75, [])
def gt_i76_0 : List (List (Nat × Instr)) := [[(0, .aload_n 0), (1, .getfield 10), (4, .aload_n 1), (5, .getfield 10)], [(8, .invokevirtual 73), (11, .aload_n 0), (12, .getfield 19), (15, .aload_n 1)], [(16, .getfield 19), (19, .invokevirtual 77), (22, .aload_n 0), (23, .getfield 26)], [(26, .aload_n 1), (27, .getfield 26), (30, .invokevirtual 80)], [(33, .aload_n 0), (34, .getfield 33), (37, .aload_n 1), (38, .getfield 33)], [(41, .invokevirtual 83), (44, .aload_n 0), (45, .getfield 40)], [(48, .aload_n 1), (49, .getfield 40), (52, .invokevirtual 86), (55, .aload_n 0)], [(56, .getfield 47), (59, .aload_n 1), (60, .getfield 47), (63, .invokevirtual 89)]]
def gt_i76_1 : List (List (Nat × Instr)) := [[(66, .aload_n 0), (67, .getfield 54), (70, .aload_n 1), (71, .getfield 54)], [(74, .invokevirtual 92), (77, .aload_n 0), (78, .getfield 61)], [(81, .aload_n 1), (82, .getfield 61), (85, .invokevirtual 95)], [(88, .aload_n 1), (89, .getfield 66), (92, .iconst 0), (93, .aload_n 0), (94, .getfield 66)], [(97, .iconst 0), (98, .aload_n 0), (99, .getfield 66), (102, .arraylength), (103, .invokestatic 98)], [(106, .aload_n 1), (107, .getfield 70), (110, .iconst 0), (111, .aload_n 0)], [(112, .getfield 70), (115, .iconst 0), (116, .aload_n 0), (117, .getfield 70)], [(120, .arraylength), (121, .invokestatic 98), (124, .aload_n 0), (125, .aload_n 1), (126, .getfield 104)]]
def gt_i76_2 : List (List (Nat × Instr)) := [[(129, .putfield 104), (132, .aload_n 0), (133, .aload_n 1), (134, .getfield 108)], [(137, .putfield 108), (140, .aload_n 0), (141, .aload_n 1), (142, .getfield 111)], [(145, .putfield 111), (148, .aload_n 0), (149, .aload_n 1), (150, .getfield 114)], [(153, .putfield 114), (156, .aload_n 0), (157, .aload_n 1), (158, .getfield 117)], [(161, .putfield 117), (164, .aload_n 0), (165, .aload_n 1), (166, .getfield 121)], [(169, .putfield 121), (172, .aload_n 0), (173, .aload_n 1), (174, .getfield 124)], [(177, .putfield 124), (180, .aload_n 0), (181, .aload_n 1), (182, .getfield 127)], [(185, .putfield 127), (188, .return_)]]
def gt_i76 : List (List (List (Nat × Instr))) := [gt_i76_0, gt_i76_1, gt_i76_2]
def gt_m76 : gx_M := (⟨"HandheldPair$Console", "copyFrom", "(LHandheldPair$Console;)V"⟩, prog_7_method_2_code, 2, none, 2, 7, false, gt_i76, [])
def gt_i77_0 : List (List (Nat × Instr)) := [[(0, .aload_n 1), (1, .getfield 7), (4, .iconst 0), (5, .aload_n 0), (6, .getfield 7)], [(9, .iconst 0), (10, .aload_n 0), (11, .getfield 7), (14, .arraylength), (15, .invokestatic 50)], [(18, .aload_n 0), (19, .aload_n 1), (20, .getfield 24), (23, .putfield 24)], [(26, .aload_n 0), (27, .aload_n 1), (28, .getfield 28), (31, .putfield 28)], [(34, .aload_n 0), (35, .aload_n 1), (36, .getfield 31), (39, .putfield 31)], [(42, .aload_n 0), (43, .aload_n 1), (44, .getfield 34), (47, .putfield 34)], [(50, .aload_n 0), (51, .aload_n 1), (52, .getfield 38), (55, .putfield 38)], [(58, .aload_n 0), (59, .aload_n 1), (60, .getfield 41), (63, .putfield 41)]]
def gt_i77_1 : List (List (Nat × Instr)) := [[(66, .aload_n 0), (67, .aload_n 1), (68, .getfield 44), (71, .putfield 44)], [(74, .aload_n 0), (75, .aload_n 1), (76, .getfield 47), (79, .putfield 47)], [(82, .return_)], [], [], [], [], []]
def gt_i77 : List (List (List (Nat × Instr))) := [gt_i77_0, gt_i77_1]
def gt_m77 : gx_M := (⟨"HandheldPair$Processor", "copyFrom", "(LHandheldPair$Processor;)V"⟩, prog_9_method_3_code, 2, none, 2, 9, false, gt_i77, [])
def gt_i78_0 : List (List (Nat × Instr)) := [[(0, .aload_n 1), (1, .getfield 10), (4, .iconst 0), (5, .aload_n 0), (6, .getfield 10)], [(9, .iconst 0), (10, .aload_n 0), (11, .getfield 10), (14, .arraylength), (15, .invokestatic 78)], [(18, .aload_n 1), (19, .getfield 15), (22, .iconst 0), (23, .aload_n 0)], [(24, .getfield 15), (27, .iconst 0), (28, .aload_n 0), (29, .getfield 15)], [(32, .arraylength), (33, .invokestatic 78), (36, .aload_n 0), (37, .getfield 21)], [(40, .aload_n 1), (41, .getfield 21), (44, .invokevirtual 84), (47, .aload_n 0)], [(48, .aload_n 1), (49, .getfield 33), (52, .putfield 33), (55, .aload_n 0)], [(56, .aload_n 1), (57, .getfield 25), (60, .putfield 25), (63, .aload_n 0)]]
def gt_i78_1 : List (List (Nat × Instr)) := [[(64, .aload_n 1), (65, .getfield 48), (68, .putfield 48), (71, .aload_n 0)], [(72, .aload_n 1), (73, .getfield 45), (76, .putfield 45), (79, .aload_n 0)], [(80, .aload_n 1), (81, .getfield 59), (84, .putfield 59), (87, .aload_n 0)], [(88, .aload_n 1), (89, .getfield 63), (92, .putfield 63), (95, .aload_n 0)], [(96, .aload_n 1), (97, .getfield 66), (100, .putfield 66), (103, .aload_n 0)], [(104, .aload_n 1), (105, .getfield 69), (108, .putfield 69), (111, .aload_n 0)], [(112, .aload_n 1), (113, .getfield 72), (116, .putfield 72), (119, .return_)], []]
def gt_i78 : List (List (List (Nat × Instr))) := [gt_i78_0, gt_i78_1]
def gt_m78 : gx_M := (⟨"HandheldPair$Cartridge", "copyFrom", "(LHandheldPair$Cartridge;)V"⟩, prog_4_method_7_code, 2, none, 2, 4, false, gt_i78, [])
def gt_i79_0 : List (List (Nat × Instr)) := [[(0, .aload_n 1), (1, .getfield 7), (4, .iconst 0), (5, .aload_n 0), (6, .getfield 7)], [(9, .iconst 0), (10, .aload_n 0), (11, .getfield 7), (14, .arraylength), (15, .invokestatic 27)], [(18, .aload_n 1), (19, .getfield 13), (22, .iconst 0), (23, .aload_n 0)], [(24, .getfield 13), (27, .iconst 0), (28, .aload_n 0), (29, .getfield 13)], [(32, .arraylength), (33, .invokestatic 27), (36, .aload_n 0), (37, .aload_n 1), (38, .getfield 23)], [(41, .putfield 23), (44, .return_)], [], []]
def gt_i79 : List (List (List (Nat × Instr))) := [gt_i79_0]
def gt_m79 : gx_M := (⟨"HandheldPair$CartridgeClock", "copyFrom", "(LHandheldPair$CartridgeClock;)V"⟩, prog_5_method_4_code, 2, none, 2, 5, false, gt_i79, [])
def gt_i80_0 : List (List (Nat × Instr)) := [[(0, .aload_n 0), (1, .aload_n 1), (2, .getfield 7), (5, .putfield 7)], [(8, .aload_n 0), (9, .aload_n 1), (10, .getfield 13), (13, .putfield 13)], [(16, .aload_n 0), (17, .aload_n 1), (18, .getfield 16), (21, .putfield 16)], [(24, .aload_n 0), (25, .aload_n 1), (26, .getfield 19), (29, .putfield 19)], [(32, .aload_n 0), (33, .aload_n 1), (34, .getfield 22), (37, .putfield 22)], [(40, .return_)], [], []]
def gt_i80 : List (List (List (Nat × Instr))) := [gt_i80_0]
def gt_m80 : gx_M := (⟨"HandheldPair$Timer", "copyFrom", "(LHandheldPair$Timer;)V"⟩, prog_12_method_3_code, 2, none, 2, 12, false, gt_i80, [])
def gt_i81_0 : List (List (Nat × Instr)) := [[(0, .aload_n 0), (1, .aload_n 1), (2, .getfield 7), (5, .putfield 7)], [(8, .aload_n 0), (9, .aload_n 1), (10, .getfield 13), (13, .putfield 13)], [(16, .aload_n 0), (17, .aload_n 1), (18, .getfield 16), (21, .putfield 16)], [(24, .aload_n 0), (25, .aload_n 1), (26, .getfield 19), (29, .putfield 19)], [(32, .aload_n 0), (33, .aload_n 1), (34, .getfield 22), (37, .putfield 22)], [(40, .return_)], [], []]
def gt_i81 : List (List (List (Nat × Instr))) := [gt_i81_0]
def gt_m81 : gx_M := (⟨"HandheldPair$Cable", "copyFrom", "(LHandheldPair$Cable;)V"⟩, prog_3_method_3_code, 2, none, 2, 3, false, gt_i81, [])
def gt_i82_0 : List (List (Nat × Instr)) := [[(0, .aload_n 0), (1, .aload_n 1), (2, .getfield 7), (5, .putfield 7)], [(8, .aload_n 0), (9, .aload_n 1), (10, .getfield 13), (13, .putfield 13)], [(16, .aload_n 0), (17, .aload_n 1), (18, .getfield 16), (21, .putfield 16)], [(24, .aload_n 0), (25, .aload_n 1), (26, .getfield 19), (29, .putfield 19)], [(32, .return_)], [], [], []]
def gt_i82 : List (List (List (Nat × Instr))) := [gt_i82_0]
def gt_m82 : gx_M := (⟨"HandheldPair$Copy", "copyFrom", "(LHandheldPair$Copy;)V"⟩, prog_8_method_3_code, 2, none, 2, 8, false, gt_i82, [])
def gt_i83_0 : List (List (Nat × Instr)) := [[(0, .aload_n 1), (1, .getfield 7), (4, .iconst 0), (5, .aload_n 0), (6, .getfield 7)], [(9, .iconst 0), (10, .aload_n 0), (11, .getfield 7), (14, .arraylength), (15, .invokestatic 38)], [(18, .aload_n 0), (19, .aload_n 1), (20, .getfield 19), (23, .putfield 19)], [(26, .aload_n 0), (27, .aload_n 1), (28, .getfield 23), (31, .putfield 23)], [(34, .aload_n 0), (35, .aload_n 1), (36, .getfield 26), (39, .putfield 26)], [(42, .aload_n 0), (43, .aload_n 1), (44, .getfield 29), (47, .putfield 29)], [(50, .aload_n 0), (51, .aload_n 1), (52, .getfield 32), (55, .putfield 32)], [(58, .aload_n 0), (59, .aload_n 1), (60, .getfield 35), (63, .putfield 35)]]
def gt_i83_1 : List (List (Nat × Instr)) := [[(66, .return_)], [], [], [], [], [], [], []]
def gt_i83 : List (List (List (Nat × Instr))) := [gt_i83_0, gt_i83_1]
def gt_m83 : gx_M := (⟨"HandheldPair$Block", "copyFrom", "(LHandheldPair$Block;)V"⟩, prog_2_method_3_code, 2, none, 2, 2, false, gt_i83, [])
def gt_i84_0 : List (List (Nat × Instr)) := [[(0, .aload_n 1), (1, .getfield 7), (4, .iconst 0), (5, .aload_n 0), (6, .getfield 7)], [(9, .iconst 0), (10, .aload_n 0), (11, .getfield 7), (14, .arraylength), (15, .invokestatic 69)], [(18, .aload_n 1), (19, .getfield 13), (22, .iconst 0), (23, .aload_n 0)], [(24, .getfield 13), (27, .iconst 0), (28, .aload_n 0), (29, .getfield 13)], [(32, .arraylength), (33, .invokestatic 69), (36, .aload_n 1), (37, .getfield 16)], [(40, .iconst 0), (41, .aload_n 0), (42, .getfield 16), (45, .iconst 0), (46, .aload_n 0), (47, .getfield 16)], [(50, .arraylength), (51, .invokestatic 69), (54, .aload_n 1), (55, .getfield 19)], [(58, .iconst 0), (59, .aload_n 0), (60, .getfield 19), (63, .iconst 0)]]
def gt_i84_1 : List (List (Nat × Instr)) := [[(64, .aload_n 0), (65, .getfield 19), (68, .arraylength), (69, .invokestatic 69)], [(72, .aload_n 1), (73, .getfield 22), (76, .iconst 0), (77, .aload_n 0), (78, .getfield 22)], [(81, .iconst 0), (82, .aload_n 0), (83, .getfield 22), (86, .arraylength), (87, .invokestatic 69)], [(90, .aload_n 1), (91, .getfield 25), (94, .iconst 0), (95, .aload_n 0)], [(96, .getfield 25), (99, .iconst 0), (100, .aload_n 0), (101, .getfield 25)], [(104, .arraylength), (105, .invokestatic 69), (108, .aload_n 1), (109, .getfield 28)], [(112, .iconst 0), (113, .aload_n 0), (114, .getfield 28), (117, .iconst 0), (118, .aload_n 0), (119, .getfield 28)], [(122, .arraylength), (123, .invokestatic 69), (126, .aload_n 0), (127, .aload_n 1)]]
def gt_i84_2 : List (List (Nat × Instr)) := [[(128, .getfield 48), (131, .putfield 48), (134, .aload_n 0), (135, .aload_n 1)], [(136, .getfield 37), (139, .putfield 37), (142, .aload_n 0), (143, .aload_n 1)], [(144, .getfield 41), (147, .putfield 41), (150, .aload_n 0), (151, .aload_n 1)], [(152, .getfield 57), (155, .putfield 57), (158, .aload_n 0), (159, .aload_n 1)], [(160, .getfield 60), (163, .putfield 60), (166, .aload_n 0), (167, .aload_n 1)], [(168, .getfield 45), (171, .putfield 45), (174, .aload_n 0), (175, .aload_n 1)], [(176, .getfield 63), (179, .putfield 63), (182, .aload_n 0), (183, .aload_n 1)], [(184, .getfield 51), (187, .putfield 51), (190, .aload_n 0), (191, .aload_n 1)]]
def gt_i84_3 : List (List (Nat × Instr)) := [[(192, .getfield 66), (195, .putfield 66), (198, .return_)], [], [], [], [], [], [], []]
def gt_i84 : List (List (List (Nat × Instr))) := [gt_i84_0, gt_i84_1, gt_i84_2, gt_i84_3]
def gt_m84 : gx_M := (⟨"HandheldPair$Screen", "copyFrom", "(LHandheldPair$Screen;)V"⟩, prog_10_method_4_code, 2, none, 2, 10, false, gt_i84, [])
def gt_i85_0 : List (List (Nat × Instr)) := [[(0, .iconst 0), (1, .istore_n 2), (2, .iload_n 2), (3, .iconst 4), (4, .if_icmp .ge 24), (7, .aload_n 0)], [(8, .getfield 11), (11, .iload_n 2), (12, .aaload), (13, .aload_n 1), (14, .getfield 11)], [(17, .iload_n 2), (18, .aaload), (19, .invokevirtual 54), (22, .iinc 2 1)], [(25, .goto (-23)), (28, .aload_n 1), (29, .getfield 15)], [(32, .iconst 0), (33, .aload_n 0), (34, .getfield 15), (37, .iconst 0), (38, .aload_n 0), (39, .getfield 15)], [(42, .arraylength), (43, .invokestatic 58), (46, .aload_n 0), (47, .aload_n 1)], [(48, .getfield 31), (51, .putfield 31), (54, .aload_n 0), (55, .aload_n 1)], [(56, .getfield 35), (59, .putfield 35), (62, .aload_n 0), (63, .aload_n 1)]]
def gt_i85_1 : List (List (Nat × Instr)) := [[(64, .getfield 39), (67, .putfield 39), (70, .aload_n 0), (71, .aload_n 1)], [(72, .getfield 42), (75, .putfield 42), (78, .aload_n 0), (79, .aload_n 1)], [(80, .getfield 45), (83, .putfield 45), (86, .aload_n 0), (87, .aload_n 1)], [(88, .getfield 48), (91, .putfield 48), (94, .aload_n 0), (95, .aload_n 1)], [(96, .getfield 51), (99, .putfield 51), (102, .return_)], [], [], []]
def gt_i85 : List (List (List (Nat × Instr))) := [gt_i85_0, gt_i85_1]
def gt_m85 : gx_M := (⟨"HandheldPair$Sound", "copyFrom", "(LHandheldPair$Sound;)V"⟩, prog_11_method_3_code, 3, none, 2, 11, false, gt_i85, [])
def gt_i86_0 : List (List (Nat × Instr)) := [[(0, .aload_n 1), (1, .getfield 7), (4, .iconst 0), (5, .aload_n 0), (6, .getfield 7)], [(9, .iconst 0), (10, .aload_n 0), (11, .getfield 7), (14, .arraylength), (15, .invokestatic 57)], [(18, .aload_n 0), (19, .aload_n 1), (20, .getfield 54), (23, .putfield 54)], [(26, .aload_n 0), (27, .aload_n 1), (28, .getfield 20), (31, .putfield 20)], [(34, .aload_n 0), (35, .aload_n 1), (36, .getfield 23), (39, .putfield 23)], [(42, .aload_n 0), (43, .aload_n 1), (44, .getfield 26), (47, .putfield 26)], [(50, .aload_n 0), (51, .aload_n 1), (52, .getfield 29), (55, .putfield 29)], [(58, .aload_n 0), (59, .aload_n 1), (60, .getfield 32), (63, .putfield 32)]]
def gt_i86_1 : List (List (Nat × Instr)) := [[(66, .aload_n 0), (67, .aload_n 1), (68, .getfield 35), (71, .putfield 35)], [(74, .aload_n 0), (75, .aload_n 1), (76, .getfield 38), (79, .putfield 38)], [(82, .aload_n 0), (83, .aload_n 1), (84, .getfield 41), (87, .putfield 41)], [(90, .aload_n 0), (91, .aload_n 1), (92, .getfield 44), (95, .putfield 44)], [(98, .return_)], [], [], []]
def gt_i86 : List (List (List (Nat × Instr))) := [gt_i86_0, gt_i86_1]
def gt_m86 : gx_M := (⟨"HandheldPair$Channel", "copyFrom", "(LHandheldPair$Channel;)V"⟩, prog_6_method_4_code, 2, none, 2, 6, false, gt_i86, [])
def gt_i87_0 : List (List (Nat × Instr)) := [[(0, .aload_n 0), (1, .getfield 10), (4, .aload_n 1), (5, .getfield 10)], [(8, .invokevirtual 263), (11, .aload_n 0), (12, .getfield 19), (15, .aload_n 1)], [(16, .getfield 19), (19, .invokevirtual 267), (22, .aload_n 0), (23, .aload_n 1)], [(24, .getfield 27), (27, .putfield 27), (30, .aload_n 0), (31, .aload_n 1)], [(32, .getfield 31), (35, .putfield 31), (38, .aload_n 0), (39, .aload_n 1)], [(40, .getfield 34), (43, .putfield 34), (46, .aload_n 1), (47, .getfield 38)], [(50, .iconst 0), (51, .aload_n 0), (52, .getfield 38), (55, .iconst 0)], [(56, .sipush 16384), (59, .invokestatic 256), (62, .aload_n 1), (63, .getfield 43)]]
def gt_i87_1 : List (List (Nat × Instr)) := [[(66, .iconst 0), (67, .aload_n 0), (68, .getfield 43), (71, .iconst 0)], [(72, .ldc 42), (74, .invokestatic 256), (77, .aload_n 1), (78, .getfield 46)], [(81, .iconst 0), (82, .aload_n 0), (83, .getfield 46), (86, .iconst 0), (87, .sipush 160)], [(90, .invokestatic 256), (93, .aload_n 1), (94, .getfield 49)], [(97, .iconst 0), (98, .aload_n 0), (99, .getfield 49), (102, .iconst 0), (103, .bipush 127)], [(105, .invokestatic 256), (108, .aload_n 1), (109, .getfield 52)], [(112, .iconst 0), (113, .aload_n 0), (114, .getfield 52), (117, .iconst 0), (118, .sipush 23040)], [(121, .invokestatic 256), (124, .aload_n 0), (125, .aload_n 1), (126, .getfield 56)]]
def gt_i87_2 : List (List (Nat × Instr)) := [[(129, .putfield 56), (132, .aload_n 0), (133, .aload_n 1), (134, .getfield 60)], [(137, .putfield 60), (140, .aload_n 0), (141, .aload_n 1), (142, .getfield 63)], [(145, .putfield 63), (148, .aload_n 0), (149, .aload_n 1), (150, .getfield 66)], [(153, .putfield 66), (156, .aload_n 0), (157, .aload_n 1), (158, .getfield 69)], [(161, .putfield 69), (164, .aload_n 0), (165, .aload_n 1), (166, .getfield 72)], [(169, .putfield 72), (172, .aload_n 0), (173, .aload_n 1), (174, .getfield 75)], [(177, .putfield 75), (180, .aload_n 0), (181, .aload_n 1), (182, .getfield 78)], [(185, .putfield 78), (188, .aload_n 0), (189, .aload_n 1), (190, .getfield 81)]]
def gt_i87_3 : List (List (Nat × Instr)) := [[(193, .putfield 81), (196, .aload_n 0), (197, .aload_n 1), (198, .getfield 84)], [(201, .putfield 84), (204, .aload_n 0), (205, .aload_n 1), (206, .getfield 87)], [(209, .putfield 87), (212, .aload_n 0), (213, .aload_n 1), (214, .getfield 90)], [(217, .putfield 90), (220, .aload_n 0), (221, .aload_n 1), (222, .getfield 93)], [(225, .putfield 93), (228, .aload_n 0), (229, .aload_n 1), (230, .getfield 96)], [(233, .putfield 96), (236, .aload_n 0), (237, .aload_n 1), (238, .getfield 99)], [(241, .putfield 99), (244, .aload_n 0), (245, .aload_n 1), (246, .getfield 102)], [(249, .putfield 102), (252, .aload_n 0), (253, .aload_n 1), (254, .getfield 105)]]
def gt_i87_4 : List (List (Nat × Instr)) := [[(257, .putfield 105), (260, .aload_n 0), (261, .aload_n 1), (262, .getfield 108)], [(265, .putfield 108), (268, .aload_n 0), (269, .aload_n 1), (270, .getfield 111)], [(273, .putfield 111), (276, .aload_n 0), (277, .aload_n 1), (278, .getfield 114)], [(281, .putfield 114), (284, .aload_n 0), (285, .aload_n 1), (286, .getfield 117)], [(289, .putfield 117), (292, .aload_n 1), (293, .getfield 120)], [(296, .iconst 0), (297, .aload_n 0), (298, .getfield 120), (301, .iconst 0), (302, .iconst 4), (303, .invokestatic 256)], [(306, .aload_n 0), (307, .aload_n 1), (308, .getfield 123), (311, .putfield 123)], [(314, .aload_n 0), (315, .aload_n 1), (316, .getfield 126), (319, .putfield 126)]]
def gt_i87_5 : List (List (Nat × Instr)) := [[(322, .aload_n 0), (323, .aload_n 1), (324, .getfield 129), (327, .putfield 129)], [(330, .aload_n 0), (331, .aload_n 1), (332, .getfield 132), (335, .putfield 132)], [(338, .aload_n 0), (339, .aload_n 1), (340, .getfield 135), (343, .putfield 135)], [(346, .aload_n 0), (347, .aload_n 1), (348, .invokevirtual 270), (351, .aload_n 1)], [(352, .getfield 203), (355, .iconst 0), (356, .aload_n 0), (357, .getfield 203)], [(360, .iconst 0), (361, .bipush 8), (363, .invokestatic 256), (366, .aload_n 0), (367, .aload_n 1)], [(368, .getfield 206), (371, .putfield 206), (374, .aload_n 0), (375, .aload_n 1)], [(376, .getfield 209), (379, .putfield 209), (382, .aload_n 0), (383, .aload_n 1)]]
def gt_i87_6 : List (List (Nat × Instr)) := [[(384, .getfield 212), (387, .putfield 212), (390, .aload_n 0), (391, .aload_n 1)], [(392, .getfield 215), (395, .putfield 215), (398, .aload_n 0), (399, .aload_n 1)], [(400, .getfield 218), (403, .putfield 218), (406, .aload_n 0), (407, .aload_n 1)], [(408, .getfield 221), (411, .putfield 221), (414, .aload_n 0), (415, .aload_n 1)], [(416, .getfield 224), (419, .putfield 224), (422, .return_)], [], [], []]
def gt_i87 : List (List (List (Nat × Instr))) := [gt_i87_0, gt_i87_1, gt_i87_2, gt_i87_3, gt_i87_4, gt_i87_5, gt_i87_6]
def gt_m87 : gx_M := (⟨"HandheldPairModel$Console", "become", "(LHandheldPairModel$Console;)V"⟩, prog_16_method_6_code, 2, none, 2, 15, false, gt_i87, [])
def gt_i88_0 : List (List (Nat × Instr)) := [[(0, .aload_n 0), (1, .aload_n 1), (2, .getfield 18), (5, .putfield 18)], [(8, .aload_n 1), (9, .getfield 8), (12, .iconst 0), (13, .aload_n 0), (14, .getfield 8)], [(17, .iconst 0), (18, .ldc 7), (20, .invokestatic 64), (23, .aload_n 1)], [(24, .getfield 15), (27, .iconst 0), (28, .aload_n 0), (29, .getfield 15)], [(32, .iconst 0), (33, .ldc 14), (35, .invokestatic 64), (38, .aload_n 0), (39, .aload_n 1)], [(40, .getfield 22), (43, .putfield 22), (46, .aload_n 0), (47, .aload_n 1)], [(48, .getfield 25), (51, .putfield 25), (54, .aload_n 0), (55, .aload_n 1)], [(56, .getfield 28), (59, .putfield 28), (62, .aload_n 0), (63, .aload_n 1)]]
def gt_i88_1 : List (List (Nat × Instr)) := [[(64, .getfield 31), (67, .putfield 31), (70, .aload_n 0), (71, .aload_n 1)], [(72, .getfield 35), (75, .putfield 35), (78, .aload_n 0), (79, .aload_n 1)], [(80, .getfield 38), (83, .putfield 38), (86, .aload_n 0), (87, .aload_n 1)], [(88, .getfield 41), (91, .putfield 41), (94, .aload_n 0), (95, .aload_n 1)], [(96, .getfield 44), (99, .putfield 44), (102, .aload_n 0), (103, .aload_n 1)], [(104, .getfield 47), (107, .putfield 47), (110, .aload_n 0), (111, .aload_n 1)], [(112, .getfield 50), (115, .putfield 50), (118, .aload_n 1), (119, .getfield 53)], [(122, .iconst 0), (123, .aload_n 0), (124, .getfield 53), (127, .iconst 0)]]
def gt_i88_2 : List (List (Nat × Instr)) := [[(128, .iconst 5), (129, .invokestatic 64), (132, .aload_n 1), (133, .getfield 57)], [(136, .iconst 0), (137, .aload_n 0), (138, .getfield 57), (141, .iconst 0), (142, .iconst 5), (143, .invokestatic 64)], [(146, .return_)], [], [], [], [], []]
def gt_i88 : List (List (List (Nat × Instr))) := [gt_i88_0, gt_i88_1, gt_i88_2]
def gt_m88 : gx_M := (⟨"HandheldPairModel$Cart", "become", "(LHandheldPairModel$Cart;)V"⟩, prog_15_method_6_code, 2, none, 2, 14, false, gt_i88, [])
def gt_i89_0 : List (List (Nat × Instr)) := [[(0, .aload_n 1), (1, .getfield 7), (4, .iconst 0), (5, .aload_n 0), (6, .getfield 7)], [(9, .iconst 0), (10, .bipush 48), (12, .invokestatic 67), (15, .aload_n 1)], [(16, .getfield 17), (19, .iconst 0), (20, .aload_n 0), (21, .getfield 17)], [(24, .iconst 0), (25, .iconst 4), (26, .invokestatic 67), (29, .aload_n 1), (30, .getfield 21)], [(33, .iconst 0), (34, .aload_n 0), (35, .getfield 21), (38, .iconst 0), (39, .iconst 4)], [(40, .invokestatic 67), (43, .aload_n 1), (44, .getfield 24), (47, .iconst 0)], [(48, .aload_n 0), (49, .getfield 24), (52, .iconst 0), (53, .iconst 4), (54, .invokestatic 67)], [(57, .aload_n 1), (58, .getfield 27), (61, .iconst 0), (62, .aload_n 0), (63, .getfield 27)]]
def gt_i89_1 : List (List (Nat × Instr)) := [[(66, .iconst 0), (67, .iconst 4), (68, .invokestatic 67), (71, .aload_n 1)], [(72, .getfield 30), (75, .iconst 0), (76, .aload_n 0), (77, .getfield 30)], [(80, .iconst 0), (81, .iconst 4), (82, .invokestatic 67), (85, .aload_n 1), (86, .getfield 33)], [(89, .iconst 0), (90, .aload_n 0), (91, .getfield 33), (94, .iconst 0), (95, .iconst 4)], [(96, .invokestatic 67), (99, .aload_n 0), (100, .aload_n 1), (101, .getfield 36)], [(104, .putfield 36), (107, .aload_n 0), (108, .aload_n 1), (109, .getfield 40)], [(112, .putfield 40), (115, .aload_n 0), (116, .aload_n 1), (117, .getfield 43)], [(120, .putfield 43), (123, .aload_n 0), (124, .aload_n 1), (125, .getfield 46)]]
def gt_i89_2 : List (List (Nat × Instr)) := [[(128, .putfield 46), (131, .aload_n 0), (132, .aload_n 1), (133, .getfield 49)], [(136, .putfield 49), (139, .aload_n 0), (140, .aload_n 1), (141, .getfield 52)], [(144, .putfield 52), (147, .aload_n 0), (148, .aload_n 1), (149, .getfield 55)], [(152, .putfield 55), (155, .aload_n 0), (156, .aload_n 1), (157, .getfield 13)], [(160, .putfield 13), (163, .return_)], [], [], []]
def gt_i89 : List (List (List (Nat × Instr))) := [gt_i89_0, gt_i89_1, gt_i89_2]
def gt_m89 : gx_M := (⟨"HandheldPairModel$Voices", "become", "(LHandheldPairModel$Voices;)V"⟩, prog_17_method_3_code, 2, none, 2, 16, false, gt_i89, [])
def gt_i90_0 : List (List (Nat × Instr)) := [[(0, .aload_n 0), (1, .aload_n 1), (2, .getfield 138), (5, .putfield 138)], [(8, .aload_n 0), (9, .aload_n 1), (10, .getfield 141), (13, .putfield 141)], [(16, .aload_n 0), (17, .aload_n 1), (18, .getfield 144), (21, .putfield 144)], [(24, .aload_n 0), (25, .aload_n 1), (26, .getfield 147), (29, .putfield 147)], [(32, .aload_n 0), (33, .aload_n 1), (34, .getfield 150), (37, .putfield 150)], [(40, .aload_n 0), (41, .aload_n 1), (42, .getfield 153), (45, .putfield 153)], [(48, .aload_n 0), (49, .aload_n 1), (50, .getfield 156), (53, .putfield 156)], [(56, .aload_n 0), (57, .aload_n 1), (58, .getfield 159), (61, .putfield 159)]]
def gt_i90_1 : List (List (Nat × Instr)) := [[(64, .aload_n 0), (65, .aload_n 1), (66, .getfield 162), (69, .putfield 162)], [(72, .aload_n 0), (73, .aload_n 1), (74, .getfield 165), (77, .putfield 165)], [(80, .aload_n 0), (81, .aload_n 1), (82, .getfield 168), (85, .putfield 168)], [(88, .aload_n 0), (89, .aload_n 1), (90, .getfield 171), (93, .putfield 171)], [(96, .aload_n 0), (97, .aload_n 1), (98, .getfield 174), (101, .putfield 174)], [(104, .aload_n 0), (105, .aload_n 1), (106, .getfield 177), (109, .putfield 177)], [(112, .aload_n 0), (113, .aload_n 1), (114, .getfield 180), (117, .putfield 180)], [(120, .aload_n 0), (121, .aload_n 1), (122, .getfield 183), (125, .putfield 183)]]
def gt_i90_2 : List (List (Nat × Instr)) := [[(128, .aload_n 0), (129, .aload_n 1), (130, .getfield 186), (133, .putfield 186)], [(136, .aload_n 0), (137, .aload_n 1), (138, .getfield 192), (141, .putfield 192)], [(144, .aload_n 1), (145, .getfield 189), (148, .iconst 0), (149, .aload_n 0), (150, .getfield 189)], [(153, .iconst 0), (154, .bipush 10), (156, .invokestatic 256), (159, .iconst 0)], [(160, .istore_n 2), (161, .iload_n 2), (162, .iconst 2), (163, .if_icmp .ge 40), (166, .aload_n 0), (167, .getfield 195)], [(170, .iload_n 2), (171, .aload_n 1), (172, .getfield 195), (175, .iload_n 2)], [(176, .iaload), (177, .iastore), (178, .aload_n 1), (179, .getfield 199), (182, .iload_n 2), (183, .aaload)], [(184, .iconst 0), (185, .aload_n 0), (186, .getfield 199), (189, .iload_n 2), (190, .aaload), (191, .iconst 0)]]
def gt_i90_3 : List (List (Nat × Instr)) := [[(192, .bipush 64), (194, .invokestatic 256), (197, .iinc 2 1)], [(200, .goto (-39)), (203, .return_)], [], [], [], [], [], []]
def gt_i90 : List (List (List (Nat × Instr))) := [gt_i90_0, gt_i90_1, gt_i90_2, gt_i90_3]
def gt_m90 : gx_M := (⟨"HandheldPairModel$Console", "becomeScreen", "(LHandheldPairModel$Console;)V"⟩, prog_16_method_7_code, 3, none, 2, 15, false, gt_i90, [])
def gt_i91_0 : List (List (Nat × Instr)) := [[(0, .aload_n 0), (1, .iload_n 1), (2, .invokevirtual 69), (5, .goto 9)], [(8, .astore_n 2), (9, .iconst 1), (10, .ireturn), (11, .astore_n 2), (12, .iconst 2), (13, .ireturn), (14, .iconst 0), (15, .ireturn)], [], [], [], [], [], []]
def gt_i91 : List (List (List (Nat × Instr))) := [gt_i91_0]
def gt_m91 : gx_M := (⟨"HandheldPairLaw", "take", "(LHandheldPair;I)I"⟩, method_17_code, 3, (Option.some FieldType.int), 2, 0, false, gt_i91, [(0, 5, 8, 57), (0, 5, 11, 13)])
def gt_i92_0 : List (List (Nat × Instr)) := [[(0, .aload_n 0), (1, .iload_n 1), (2, .invokevirtual 170), (5, .aload_n 0), (6, .getfield 28)], [(9, .iload_n 1), (10, .baload), (11, .ifCond .ne 13), (14, .new 43)], [(17, .dup), (18, .ldc 177), (20, .invokespecial 47), (23, .athrow)], [(24, .iconst 0), (25, .istore_n 2), (26, .iload_n 2), (27, .iconst 2), (28, .if_icmp .ge 28), (31, .aload_n 0)], [(32, .getfield 16), (35, .iload_n 2), (36, .aaload), (37, .aload_n 0), (38, .getfield 25)], [(41, .iload_n 1), (42, .iconst 2), (43, .imul), (44, .iload_n 2), (45, .iadd), (46, .aaload), (47, .invokevirtual 173)], [(50, .iinc 2 1), (53, .goto (-27))], [(56, .aload_n 0), (57, .aload_n 0), (58, .getfield 32), (61, .iload_n 1), (62, .laload), (63, .putfield 95)]]
def gt_i92_1 : List (List (Nat × Instr)) := [[(66, .return_)], [], [], [], [], [], [], []]
def gt_i92 : List (List (List (Nat × Instr))) := [gt_i92_0, gt_i92_1]
def gt_m92 : gx_M := (⟨"HandheldPair", "take", "(I)V"⟩, prog_1_method_20_code, 3, none, 2, 1, false, gt_i92, [])
def gt_i93_0 : List (List (Nat × Instr)) := [[(0, .aload_n 0), (1, .iconst 0), (2, .putfield 18), (5, .aload_n 0), (6, .iconst 1), (7, .iload_n 1)], [(8, .ifCond .lt 8), (11, .iload_n 1), (12, .iconst 1), (13, .if_icmp .le 7)], [(16, .iconst 1), (17, .goto 4), (20, .iconst 0), (21, .invokevirtual 53)], [(24, .ifCond .ne 25), (27, .aload_n 0), (28, .iconst 2), (29, .aload_n 0), (30, .getfield 37)], [(33, .iload_n 1), (34, .baload), (35, .ifCond .ne 7), (38, .iconst 1), (39, .goto 4)], [(42, .iconst 0), (43, .invokevirtual 53), (46, .ifCond .eq 4)], [(49, .return_), (50, .iconst 0), (51, .istore_n 2), (52, .iload_n 2), (53, .iconst 2), (54, .if_icmp .ge 28)], [(57, .aload_n 0), (58, .getfield 30), (61, .iload_n 2), (62, .aaload), (63, .aload_n 0)]]
def gt_i93_1 : List (List (Nat × Instr)) := [[(64, .getfield 34), (67, .iconst 2), (68, .iload_n 1), (69, .imul), (70, .iload_n 2), (71, .iadd)], [(72, .aaload), (73, .invokevirtual 117), (76, .iinc 2 1), (79, .goto (-27))], [(82, .aload_n 0), (83, .aload_n 0), (84, .getfield 41), (87, .iload_n 1)], [(88, .laload), (89, .putfield 45), (92, .return_)], [], [], [], []]
def gt_i93 : List (List (List (Nat × Instr))) := [gt_i93_0, gt_i93_1]
def gt_m93 : gx_M := (⟨"HandheldPairModel", "take", "(I)V"⟩, prog_14_method_20_code, 3, none, 2, 13, false, gt_i93, [])
def gt_i94_0 : List (List (Nat × Instr)) := [[(0, .iload_n 1), (1, .tableswitch 47 0 2 #[27, 32, 42])], [], [], [(28, .aload_n 0), (29, .getfield 40)], [(32, .ireturn), (33, .aload_n 0), (34, .getfield 95), (37, .ldc2_w 181)], [(40, .land), (41, .l2i), (42, .ireturn), (43, .aload_n 0), (44, .getfield 131), (47, .ireturn)], [(48, .iconst (-1)), (49, .ireturn)], []]
def gt_i94 : List (List (List (Nat × Instr))) := [gt_i94_0]
def gt_m94 : gx_M := (⟨"HandheldPair", "count", "(I)I"⟩, prog_1_method_22_code, 2, (Option.some FieldType.int), 2, 1, false, gt_i94, [])
def gt_i95_0 : List (List (Nat × Instr)) := [[(0, .aload_n 0), (1, .iconst 0), (2, .putfield 18), (5, .iload_n 1), (6, .ifCond .ne 10)], [(9, .aload_n 0), (10, .getfield 14), (13, .goto 36)], [(16, .iload_n 1), (17, .iconst 1), (18, .if_icmp .ne 15), (21, .aload_n 0), (22, .getfield 45)], [(25, .ldc2_w 120), (28, .land), (29, .l2i), (30, .goto 19)], [(33, .iload_n 1), (34, .iconst 2), (35, .if_icmp .ne 13), (38, .aload_n 0), (39, .getfield 24)], [(42, .ldc 122), (44, .iand), (45, .goto 4)], [(48, .iconst (-1)), (49, .ireturn)], []]
def gt_i95 : List (List (List (Nat × Instr))) := [gt_i95_0]
def gt_m95 : gx_M := (⟨"HandheldPairModel", "count", "(I)I"⟩, prog_14_method_21_code, 2, (Option.some FieldType.int), 2, 13, false, gt_i95, [])
def gt_mm : List gx_M := [gt_m0, gt_m1, gt_m2, gt_m3, gt_m4, gt_m5, gt_m6, gt_m7, gt_m8, gt_m9, gt_m10, gt_m11, gt_m12, gt_m13, gt_m14, gt_m15, gt_m16, gt_m17, gt_m18, gt_m19, gt_m20, gt_m21, gt_m22, gt_m23, gt_m24, gt_m25, gt_m26, gt_m27, gt_m28, gt_m29, gt_m30, gt_m31, gt_m32, gt_m33, gt_m34, gt_m35, gt_m36, gt_m37, gt_m38, gt_m39, gt_m40, gt_m41, gt_m42, gt_m43, gt_m44, gt_m45, gt_m46, gt_m47, gt_m48, gt_m49, gt_m50, gt_m51, gt_m52, gt_m53, gt_m54, gt_m55, gt_m56, gt_m57, gt_m58, gt_m59, gt_m60, gt_m61, gt_m62, gt_m63, gt_m64, gt_m65, gt_m66, gt_m67, gt_m68, gt_m69, gt_m70, gt_m71, gt_m72, gt_m73, gt_m74, gt_m75, gt_m76, gt_m77, gt_m78, gt_m79, gt_m80, gt_m81, gt_m82, gt_m83, gt_m84, gt_m85, gt_m86, gt_m87, gt_m88, gt_m89, gt_m90, gt_m91, gt_m92, gt_m93, gt_m94, gt_m95]
noncomputable def gt_G : gx_G := (fun ow idx => (gt_lu gt_fl ow idx).map fun e => (e.1, e.2.1), fun ow idx => (gt_lu gt_mt ow idx).map fun e => (e.1, e.2.1), fun ow idx => (gt_lu gt_cs ow idx).map fun e => e.1, fun ow idx => (gt_lu gt_ks ow idx).map fun e => e.1, fun k => (gy_get gt_kl k).join, fun a b => (gt_sb.find? (fun q => q.1 == a && q.2.1 == b)).map (·.2.2), fun j => if j = 0 then none else gy_get gt_mm j)
def gt_mo : Nat := 14
def gt_mp : List ((Nat × Nat) × (Nat × Nat) × (Nat × Nat) × (Nat × Nat) × (Nat × Nat) × List Nat) := [((99, 0), (1, 0), (99, 0), (99, 0), (99, 0), [3, 1, 3, 1, 3, 1, 3, 1, 1, 2, 1, 1, 2, 2, 1, 1, 2, 1, 3, 1, 2, 1, 2, 1, 84, 1, 1, 2, 1, 1, 1, 1, 2, 1, 1, 1, 1, 2, 1, 1, 1, 1, 2, 1, 1, 1, 1, 2, 1, 1, 1, 1, 3, 2, 1, 1, 2, 1, 1, 1, 1, 2, 1, 1, 1, 1, 2, 1, 1, 1, 1, 2, 1, 1, 1, 1, 2, 1, 1, 1, 3, 2, 1, 3, 2, 3, 1, 1, 2, 3, 1, 1, 1, 2, 1, 1, 3, 1, 1, 3, 1, 1, 2, 1, 1, 1, 1, 3, 2, 1, 1, 2, 1, 1, 1, 3, 2, 1, 3, 2, 3, 1, 1, 2, 3, 1, 1, 1, 2, 1, 1, 3, 1, 1, 3, 1, 1, 2, 1, 1, 1, 1, 2, 1, 1, 1, 1, 2, 1, 1, 1, 3, 1, 3, 1, 3, 2, 1, 1, 2, 1, 1, 1, 1, 2, 1, 1, 1, 1, 2, 1, 1, 1, 3, 1, 3, 1, 3, 1, 3, 2, 3, 1, 1, 3, 1, 1, 2, 1, 1, 1, 1, 3, 2, 1, 1, 2, 1, 1, 1, 3, 2, 1, 3, 2, 3, 1, 1, 2, 3, 1, 1, 1, 2, 1, 1, 3, 1, 1, 3, 1, 3, 1, 3, 3, 1, 1, 1, 1, 2, 1, 1, 1, 1, 3, 2, 1, 1, 2, 1, 1, 1, 3, 2, 1, 3, 2, 3, 1, 1, 2, 3, 1, 1, 1, 2, 1, 3, 1, 1, 3, 1, 1, 2, 1, 1, 1, 1, 2, 1, 1, 1, 3, 2, 1, 1, 2, 1, 1, 1, 1, 2, 1, 1, 1, 3, 1, 3, 2, 3, 1, 1, 3, 1, 1, 2, 1, 1, 1, 1, 3, 2, 1, 1, 2, 1, 1, 1, 3, 2, 1, 3, 2, 3, 1, 1, 2, 3, 1, 1, 1, 2, 1, 1, 3, 1, 1, 3, 1, 1, 2, 1, 1, 1, 1, 2, 1, 1, 1, 1, 3, 2, 1, 1, 2, 1, 1, 1, 1, 2, 1, 1, 1, 3, 2, 1, 3, 2, 3, 1, 1, 2, 3, 1, 1, 1, 2, 1, 1, 3, 1, 1, 3, 1, 1, 2, 1, 1, 1, 1, 2, 1, 1, 1, 1, 3, 2, 1, 1, 2, 1, 1, 1, 1, 2, 1, 1, 1, 3, 2, 1, 3, 2, 3, 1, 1, 2, 3, 1, 1, 1, 2, 1, 1, 3, 1, 1, 3, 1, 1, 2, 1, 1, 1, 1, 3, 2, 1, 1, 2, 1, 1, 1, 3, 2, 1, 3, 2, 3, 1, 1, 2, 3, 1, 1, 1, 2, 1, 3, 1, 1, 3, 1, 1, 2, 1, 1, 1, 1, 2, 1, 1, 1, 1, 2, 1, 1, 1, 1, 3, 2, 1, 1, 2, 1, 1, 1, 1, 2, 1, 1, 1, 1, 2, 1, 1, 1, 3, 2, 1, 3, 2, 3, 1, 1, 2, 3, 1, 1, 1, 2, 1, 1, 3, 1, 1, 3, 1, 1, 2, 1, 1, 1, 1, 3, 2, 1, 1, 2, 1, 1, 1, 3, 2, 1, 3, 2, 3, 1, 1, 2, 3, 1, 1, 1, 2, 1, 1, 3, 1, 1, 3, 1, 1, 2, 1, 1, 1, 1, 2, 1, 1, 1, 1, 3, 2, 1, 1, 2, 1, 1, 1, 1, 2, 1, 1, 1, 3, 2, 1, 3, 2, 3, 1, 1, 2, 3, 1, 1, 1, 2, 1, 1, 3, 1, 1, 3, 1, 1, 2, 1, 1, 1, 3, 2, 1, 1, 2, 1, 1, 1, 3, 1, 3, 2, 3, 1, 1, 3, 1, 1, 2, 1, 1, 1, 3, 2, 1, 1, 2, 1, 1, 1, 3, 1, 3, 2, 3, 1, 1, 3, 1, 1, 2, 1, 1, 1, 3, 1, 1, 2, 1, 1, 1, 3, 3, 1, 1, 3, 3, 1, 1]),
  ((1, 41), (1, 1), (99, 0), (1, 40), (99, 0), [1, 3, 1, 2, 2, 3, 1, 1, 3, 3, 1, 3, 1, 3, 1, 3, 1, 1, 3, 1, 3, 1, 3, 1, 1, 3, 1, 1, 1, 3, 1, 1, 3, 1, 3, 1, 1, 1, 3, 1, 1, 3, 1, 1, 3, 3, 1, 1, 1, 1, 3, 1, 3, 1, 3, 1, 3, 1, 3, 3, 1, 1, 2, 3, 1, 1, 2, 3, 1, 1, 3, 1]),
  ((1, 51), (1, 2), (99, 0), (1, 50), (99, 0), [1, 3, 1, 3, 1, 3, 3, 1, 3, 1, 3, 3, 1, 3, 1, 3, 3, 1, 3, 1, 3, 3, 1, 3, 1, 3, 3, 1, 3, 1, 3, 3, 1, 3, 1, 3, 3, 1, 3, 1, 3, 3, 1, 2, 2, 3, 1, 3, 2, 3, 1]),
  ((1, 57), (1, 3), (99, 0), (1, 56), (99, 0), [1, 3, 1, 2, 2, 3, 1, 2, 3, 1]),
  ((1, 126), (1, 4), (99, 0), (1, 125), (99, 0), [1, 3, 1, 2, 2, 3, 1, 2, 2, 3, 1, 3, 1, 3, 3, 1]),
  ((1, 134), (1, 5), (99, 0), (1, 133), (99, 0), [1, 3, 1, 1, 2, 3, 1, 1, 2, 3, 1]),
  ((1, 194), (1, 6), (99, 0), (1, 193), (99, 0), [1, 3, 1]),
  ((1, 220), (1, 7), (99, 0), (1, 219), (99, 0), [1, 3, 1]),
  ((2, 5), (1, 8), (99, 0), (2, 4), (99, 0), [1, 3, 1]),
  ((2, 27), (1, 9), (99, 0), (2, 26), (99, 0), [1, 3, 1, 1, 2, 3, 1]),
  ((2, 61), (1, 10), (99, 0), (2, 60), (99, 0), [1, 3, 1, 3, 2, 3, 1, 3, 2, 3, 1, 3, 2, 3, 1, 3, 2, 3, 1, 1, 2, 3, 1, 2, 2, 3, 1, 2, 2, 3, 1]),
  ((2, 123), (1, 11), (99, 0), (2, 122), (99, 0), [1, 3, 1, 1, 3, 3, 1, 2, 2, 3, 1, 1, 1, 1, 3, 1, 3, 1, 3, 1, 1, 3, 1, 3, 3, 1]),
  ((2, 130), (1, 12), (99, 0), (2, 129), (99, 0), [1, 3, 1, 1, 2, 3, 1, 1, 3, 1]),
  ((7, 217), (1, 13), (99, 0), (7, 216), (99, 0), [1, 3, 1, 2, 2, 3, 1, 1, 3, 1, 1, 3, 1, 1, 3, 1, 1, 3, 1, 1, 3, 1, 1, 3, 1, 3, 1, 1, 1, 3, 1, 3, 1, 3, 1, 1, 3, 1, 1, 3, 1, 3, 1, 1, 1, 3, 1, 3, 1, 1, 1, 3, 1, 3, 1, 1, 1, 3, 1, 3, 1, 3, 1, 1, 2, 3, 1, 1, 2, 3, 1, 1, 3, 1, 3, 1, 1, 1, 3, 1, 1, 3, 1, 3, 1, 1, 1, 3, 1, 1, 3, 1]),
  ((7, 225), (1, 14), (99, 0), (7, 224), (99, 0), [1, 3, 1, 3, 1, 3, 3, 1, 3, 1, 3, 3, 1, 1, 3, 1, 1, 3, 1, 1, 3, 1, 1, 3, 1, 3, 2, 3, 1, 2, 2, 3, 1, 3, 2, 3, 1, 2, 2, 3, 1, 3, 2, 3, 1, 1, 3, 1, 1, 3, 1, 1, 3, 1, 1, 3, 1, 1, 3, 1, 1, 3, 1, 1, 3, 1, 1, 3, 1, 1, 3, 1, 1, 3, 1, 1, 3, 1, 1, 3, 1, 2, 3, 1, 1, 3, 1, 1, 3, 1, 1, 3, 1, 1, 3, 1, 1, 3, 1, 1, 3, 1, 1, 3, 1, 1, 3, 1, 1, 2, 3, 1, 1, 3, 1, 1, 3, 1, 3, 3, 1, 1, 3, 1, 1, 3, 1, 1, 3, 1, 1, 3, 1, 1, 3, 1, 1, 3, 1, 1, 3, 1, 1, 3, 1, 1, 3, 1, 1, 3, 1, 1, 3, 1, 1, 3, 1, 1, 3, 1, 1, 3, 1, 1, 3, 1, 1, 3, 1, 1, 3, 1, 1, 3, 1, 1, 3, 1, 2, 2, 3, 1, 1, 3, 1, 1, 2, 3, 1, 1, 3, 1, 1, 2, 2, 1, 1, 1, 2, 2, 1, 3, 1, 2, 2, 3, 1, 1, 3, 1, 1, 3, 1, 1, 3, 1, 1, 3, 1, 1, 3, 1, 1, 3, 1, 1, 3, 1, 1, 3, 1]),
  ((7, 231), (1, 15), (99, 0), (7, 230), (99, 0), [1, 3, 1, 2, 2, 3, 1, 2, 2, 3, 1, 1, 3, 1, 1, 3, 1, 1, 3, 1, 1, 3, 1, 1, 3, 1, 1, 3, 1, 1, 3, 1, 1, 3, 1, 1, 3, 1, 1, 3, 1, 1, 3, 1, 1, 2, 3, 1, 1, 2, 3, 1]),
  ((8, 50), (1, 16), (99, 0), (8, 49), (99, 0), [1, 3, 1, 2, 2, 3, 1, 1, 3, 1, 1, 2, 3, 1, 1, 2, 3, 1, 1, 2, 3, 1, 1, 2, 3, 1, 1, 2, 3, 1, 1, 2, 3, 1, 1, 3, 1, 1, 3, 1, 1, 3, 1, 1, 3, 1, 1, 3, 1, 1, 3, 1, 1, 3, 1]),
  ((9, 74), (1, 14), (99, 0), (9, 72), (9, 73), [1, 1, 3, 1]),
  ((3, 66), (1, 0), (3, 65), (99, 0), (99, 0), [2, 1, 1, 1, 1, 1, 2, 2, 3, 1, 1, 3, 2, 1, 1, 1, 1]),
  ((3, 71), (1, 1), (99, 0), (3, 69), (3, 70), [1, 3, 2, 1, 2, 3, 3, 1, 2, 3, 1, 1, 1, 3, 1, 1, 3, 1, 1, 3, 1, 2, 3, 1, 2, 3, 1, 3, 1]),
  ((3, 145), (1, 1), (99, 0), (3, 144), (0, 1), [2, 1, 1, 3, 1, 3, 1, 3, 1, 1, 1, 3, 1, 1, 1, 1, 3, 1, 1, 3, 3, 3, 1]),
  ((9, 113), (1, 13), (99, 0), (9, 111), (9, 112), [1, 1, 3, 1, 1, 1, 3, 2, 3, 1, 3, 1, 3, 3, 1, 1, 1, 2, 1, 1, 1, 1, 1, 1, 1, 1, 1, 1, 1, 1, 1, 1, 2, 1, 1, 1, 2, 1, 2, 1, 2, 2, 2, 3, 1, 3, 1, 1, 3, 1, 1, 1, 3, 2, 2, 1, 1, 1, 2, 2, 2, 1, 1, 1, 1, 1, 1, 1, 3, 3, 1, 3, 1]),
  ((9, 118), (1, 13), (99, 0), (9, 117), (0, 6), [1, 3, 1, 1, 3, 1, 1]),
  ((9, 109), (1, 13), (99, 0), (9, 107), (9, 108), [1, 3, 1]),
  ((3, 148), (1, 0), (3, 147), (99, 0), (99, 0), [1, 1, 1, 1, 3, 1, 1, 3, 1, 1, 1, 1, 1]),
  ((3, 153), (1, 1), (99, 0), (3, 151), (3, 152), [1, 3, 1, 2, 3, 3, 1, 2, 3, 1, 1, 3, 1, 1, 1, 3, 1, 3, 1, 1, 1, 3, 3, 1, 1, 3, 1, 1]),
  ((9, 122), (1, 13), (99, 0), (9, 120), (9, 121), [1, 1, 3, 1, 1, 1, 3, 1, 2, 3, 1, 3, 1, 3, 3, 1, 1, 1, 3, 1, 3, 1, 3, 1, 1, 3, 1, 1, 1, 3, 1, 1, 3, 1, 1, 3, 1, 1]),
  ((3, 172), (1, 0), (3, 171), (99, 0), (99, 0), [1, 1, 1, 1, 3, 3, 2, 1, 1, 1, 1]),
  ((3, 177), (1, 1), (99, 0), (3, 175), (3, 176), [1, 3, 1, 1, 3, 3, 3, 1, 2, 3, 1, 1, 3, 1, 1, 3, 1, 1, 1, 3, 1, 3, 3, 3, 1, 3, 3, 1, 3, 3, 1, 1]),
  ((9, 126), (1, 13), (99, 0), (9, 124), (9, 125), [1, 1, 3, 1, 1, 1, 3, 1, 1, 3, 3, 1, 3, 1, 3, 3, 1, 1, 3, 1, 1, 1, 1, 1, 3, 1, 3, 3, 3, 1, 1, 2, 3, 2, 2, 3, 3, 2, 1, 3, 2, 1, 1, 1, 1, 2, 3, 3, 1, 3, 3, 2, 1, 1, 1]),
  ((3, 199), (1, 0), (3, 198), (99, 0), (99, 0), [1, 1, 1, 1, 3, 1, 1, 3, 1, 1, 1, 1, 1, 1, 1, 1]),
  ((3, 204), (1, 1), (99, 0), (3, 202), (3, 203), [1, 3, 1, 1, 1, 3, 1, 1, 3, 1, 1, 1, 3, 2, 2, 3, 1, 2, 3, 1, 1, 3, 3, 1, 2, 3, 1, 1, 3, 1, 3, 1, 3, 1, 1, 3, 3, 1, 3, 3, 1]),
  ((3, 208), (1, 1), (99, 0), (3, 207), (0, 2), [1, 3, 1, 1, 3, 3, 1, 2, 3, 1, 1, 3, 1, 1, 1]),
  ((9, 130), (1, 13), (99, 0), (9, 128), (9, 129), [1, 3, 1, 1, 1, 3, 1, 1, 3, 3, 1, 1, 1, 3, 1, 1, 3, 1, 3, 1, 3, 1, 1, 3, 1, 1, 3, 1, 3, 1, 1, 1, 3, 1, 1, 3, 1, 1, 1, 3, 1, 1, 3, 1, 3, 1, 3, 1, 3, 1, 1, 1, 3, 3, 1, 3, 1, 1, 3, 3, 1]),
  ((9, 134), (1, 13), (99, 0), (9, 133), (0, 7), [1, 1, 3, 1, 1, 1, 3, 1, 1, 3, 1, 3, 1, 3, 1]),
  ((3, 213), (1, 1), (99, 0), (3, 212), (0, 3), [1, 3, 3, 1, 2, 3, 1, 1, 1, 3, 3, 1, 1, 3, 3, 3, 1, 1, 1, 3, 3, 1, 3, 1, 3, 1, 1, 1, 3, 3, 1, 3, 3, 1, 1, 1, 1]),
  ((9, 138), (1, 15), (99, 0), (9, 136), (9, 137), [1, 3, 3, 1, 2, 3, 1, 1, 1, 1, 3, 2, 2, 3, 3, 1, 1, 2, 1, 1, 1, 1, 3, 1, 1, 3, 3, 1, 1, 3, 1, 3, 1, 3, 1, 1, 1, 3, 1, 3, 1, 2, 2, 3, 3, 1, 1, 1, 3, 1, 2, 2, 3, 2, 1, 3, 2, 1, 3, 1, 3, 1, 1]),
  ((3, 58), (1, 1), (99, 0), (3, 56), (3, 57), [1, 3, 1]),
  ((9, 185), (1, 13), (99, 0), (9, 183), (9, 184), [1, 1, 3, 1, 3, 1]),
  ((4, 86), (1, 0), (4, 85), (99, 0), (99, 0), [1, 1, 1, 1, 3, 1, 3, 1, 1, 1, 1, 1, 1, 1, 1]),
  ((4, 90), (1, 1), (99, 0), (4, 88), (4, 89), [1, 1, 3, 1, 1, 3, 3, 3, 1, 2, 3, 1, 1, 1, 3, 3, 1, 3, 1]),
  ((9, 189), (1, 13), (99, 0), (9, 187), (9, 188), [1, 1, 3, 3, 1, 1, 1, 3, 1, 1, 3, 3, 1, 3, 1, 3, 3, 1, 1, 1, 3, 1, 1, 1, 3, 3, 1, 3, 1, 1, 3, 1]),
  ((4, 94), (1, 0), (4, 93), (99, 0), (99, 0), [1, 1, 1, 3, 3, 1, 1, 1, 1, 1]),
  ((4, 98), (1, 1), (99, 0), (4, 96), (4, 97), [1, 1, 3, 1, 3, 1, 3, 1]),
  ((9, 193), (1, 13), (99, 0), (9, 191), (9, 192), [1, 1, 3, 3, 1, 1, 3, 1, 1, 1, 3, 1]),
  ((4, 102), (1, 2), (99, 0), (4, 100), (4, 101), [1, 3, 1, 1, 1, 3, 1, 1, 3, 1]),
  ((4, 106), (1, 2), (99, 0), (4, 104), (4, 105), [1, 1, 1, 3, 2, 1, 3, 1, 1, 3, 2, 1, 1, 1, 1, 3, 2, 1, 3, 1, 1, 3, 1, 1, 1, 1, 2, 1, 1, 1, 1, 1]),
  ((4, 110), (1, 2), (99, 0), (4, 108), (4, 109), [1, 3, 3, 1, 1, 3, 1, 1, 1, 3, 1, 3, 1, 3, 2, 1, 3, 1]),
  ((9, 197), (1, 14), (99, 0), (9, 195), (9, 196), [1, 3, 1, 1, 1, 3, 1, 3, 1, 3, 3, 1, 1, 3, 1, 1, 1, 3, 1, 1, 3, 1]),
  ((9, 201), (1, 14), (99, 0), (9, 200), (0, 10), [2, 1, 1, 3, 2, 1, 3, 1, 1, 3, 1, 1, 1, 1, 1, 3, 2, 1, 3, 1, 1, 3, 1, 1, 1, 1, 1, 1, 1, 2, 1, 1]),
  ((4, 113), (1, 0), (4, 112), (99, 0), (99, 0), [1, 1, 1, 1, 3, 1, 1, 3, 1, 1, 1, 1, 1]),
  ((4, 117), (1, 1), (99, 0), (4, 115), (4, 116), [1, 1, 3, 1, 2, 3, 3, 1, 2, 3, 1, 1, 1, 3, 1, 1, 1, 3, 1, 1, 1, 3, 1, 1, 3, 1, 2, 3, 1, 3, 3, 1, 3, 1, 3, 1, 1, 3, 1, 1, 2, 1, 3, 1, 1]),
  ((9, 209), (1, 13), (99, 0), (9, 207), (9, 208), [1, 1, 3, 1, 1, 1, 1, 3, 1, 2, 3, 1, 3, 1, 3, 3, 1, 1, 1, 1, 3, 1, 1, 1, 3, 1, 1, 1, 1, 1, 2, 2, 1, 3, 1, 3, 2, 1, 3, 3, 1, 3, 2, 1, 3, 1, 3, 1, 3, 1, 3, 1, 3, 2, 1, 3, 1, 3, 1, 3, 1, 3, 2, 1, 1, 3, 3, 1, 3, 3, 1, 3, 3, 3, 1, 1, 3, 1, 1, 3, 1, 1]),
  ((4, 123), (1, 1), (99, 0), (4, 122), (0, 4), [1, 3, 1, 1, 1, 1, 3, 1, 1, 1, 1, 3, 3, 1, 3, 1, 3, 1, 3, 1, 3, 1, 1, 1, 3, 3, 1, 3, 1, 3, 1, 3, 1, 3, 1, 2, 1, 3, 2, 3, 1, 3, 1, 3, 1, 3, 1, 3, 1, 1, 1, 3, 1, 1, 2, 3, 1, 3, 1, 1]),
  ((7, 61), (1, 0), (7, 60), (99, 0), (99, 0), [1, 1, 1, 1, 1, 3, 1, 1, 3, 2, 1, 1, 1, 1]),
  ((7, 65), (1, 1), (99, 0), (7, 63), (7, 64), [1, 1, 3, 1, 1, 3, 3, 1, 1, 2, 1, 3, 3, 1, 1]),
  ((12, 126), (1, 13), (99, 0), (12, 124), (12, 125), [1, 1, 3, 3, 1, 3, 1, 1, 3, 3, 1, 3, 1, 3, 1, 1, 1, 2, 1, 3, 1]),
  ((7, 70), (1, 0), (7, 69), (99, 0), (99, 0), [1, 1, 1, 1, 1, 3, 1, 1, 3, 2, 1, 1, 2, 1, 1, 1, 1]),
  ((7, 74), (1, 1), (99, 0), (7, 72), (7, 73), [1, 1, 3, 1, 1, 3, 1, 2, 3, 3, 1, 2, 3, 1, 1, 3, 3, 1, 1, 3, 3, 1, 1]),
  ((12, 132), (1, 13), (99, 0), (12, 130), (12, 131), [1, 1, 3, 3, 1, 1, 1, 3, 1, 2, 3, 1, 3, 1, 3, 3, 1, 1, 1, 3, 1, 1, 3, 3, 1, 3, 1, 1, 1, 3, 3, 1, 1]),
  ((7, 94), (1, 0), (7, 93), (99, 0), (99, 0), [1, 1, 1, 1, 3, 1, 3, 1, 1, 1, 1, 1]),
  ((7, 98), (1, 1), (99, 0), (7, 96), (7, 97), [1, 1, 3, 3, 1]),
  ((12, 141), (1, 13), (99, 0), (12, 139), (12, 140), [1, 1, 3, 3, 1, 3, 1, 3, 1, 1, 3, 1]),
  ((7, 101), (1, 0), (7, 100), (99, 0), (99, 0), [2, 1, 1, 1, 1, 1, 3, 1, 1, 3, 2, 1, 1, 2, 1, 1, 1, 1]),
  ((7, 106), (1, 1), (99, 0), (7, 104), (7, 105), [1, 1, 3, 2, 1, 3, 1, 3, 3, 1, 3, 1, 3, 3, 3, 1, 2, 3, 1, 2, 3, 3, 2, 3, 3, 1, 3, 1, 1, 1, 1, 3, 1, 1]),
  ((12, 145), (1, 13), (99, 0), (12, 143), (12, 144), [1, 1, 3, 3, 1, 1, 1, 3, 1, 3, 3, 1, 3, 1, 3, 3, 1, 3, 1, 3, 3, 1, 1, 1, 3, 1, 1, 3, 3, 1, 3, 1, 1, 3, 3, 1, 1, 1, 1, 1, 3, 1, 1]),
  ((7, 125), (1, 0), (7, 124), (99, 0), (99, 0), [1, 1, 1, 1, 3, 1, 1, 3, 1, 1, 1, 1, 1]),
  ((7, 129), (1, 1), (99, 0), (7, 127), (7, 128), [1, 1, 3, 1, 1, 3, 3, 1, 3, 3, 3, 1, 1]),
  ((12, 149), (1, 13), (99, 0), (12, 147), (12, 148), [1, 1, 3, 3, 1, 3, 1, 1, 3, 3, 1, 1, 1, 1, 1, 1, 1, 3, 3, 1, 2, 1, 1, 3, 1, 1, 3, 1, 1, 1, 1, 3, 3, 1, 1]),
  ((7, 136), (1, 0), (7, 135), (99, 0), (99, 0), [1, 1, 1, 1, 1, 3, 1, 1, 3, 2, 1, 1, 2, 1, 1, 1, 1]),
  ((7, 140), (1, 1), (99, 0), (7, 138), (7, 139), [1, 1, 3, 1, 1, 3, 3, 1, 3, 1, 1, 3, 3, 3, 3, 1, 2, 3, 1, 1, 3, 3, 1, 1, 1]),
  ((12, 153), (1, 13), (99, 0), (12, 151), (12, 152), [1, 1, 3, 3, 1, 1, 1, 1, 1, 3, 1, 1, 3, 3, 1, 3, 1, 1, 3, 1, 1, 3, 3, 3, 1, 3, 1, 3, 3, 1, 1, 1, 3, 1, 1, 3, 3, 1, 1, 3, 1, 1]),
  ((7, 144), (1, 0), (7, 143), (99, 0), (99, 0), [1, 1, 3, 3, 1, 1, 1, 1, 1]),
  ((7, 148), (1, 1), (99, 0), (7, 146), (7, 147), [1, 1, 3, 1, 1, 1, 1, 3, 1, 3, 1, 1, 1, 1, 1, 1, 1, 3, 1, 1, 3, 3, 3, 1, 3, 1, 1, 3, 1, 1, 3, 1, 1, 1, 1]),
  ((7, 152), (1, 1), (99, 0), (7, 151), (0, 5), [1, 3, 1, 1, 3, 3, 1, 2, 3, 1, 1]),
  ((12, 161), (1, 13), (99, 0), (12, 159), (12, 160), [1, 1, 3, 1, 1, 1, 3, 1, 1, 3, 1, 3, 1, 3, 3, 1, 1, 1, 1, 1, 3, 1, 3, 1, 1, 1, 1, 1, 1, 1, 3, 1, 1, 3, 3, 3, 1, 3, 1, 1, 3, 1, 1, 3, 1, 1, 1, 1]),
  ((7, 157), (1, 2), (99, 0), (7, 155), (7, 156), [1, 3, 1, 3, 3, 1, 3, 1, 3, 3, 1, 3, 1, 3, 3, 1, 3, 1, 3, 3, 1, 3, 1, 3, 3, 1, 3, 1, 3, 3, 1, 3, 1, 3, 3, 1, 3, 1, 3, 3, 1, 3, 1, 1, 3, 1, 1, 3, 1, 3, 1, 3, 1, 1, 3, 1, 1, 3, 1, 3, 1, 1, 3, 3, 1, 1, 3, 3, 1, 1, 3, 3, 1, 1, 3, 3, 1, 1, 3, 3, 1, 1, 3, 3, 1, 1, 3, 3, 1, 1, 3, 3, 1]),
  ((7, 161), (1, 3), (99, 0), (7, 159), (7, 160), [1, 3, 1, 1, 3, 1, 1, 3, 1, 3, 1, 1, 3, 3, 1, 1, 3, 3, 1, 1, 3, 3, 1, 1, 3, 3, 1, 1, 3, 3, 1, 1, 3, 3, 1, 1, 3, 3, 1, 1, 3, 3, 1]),
  ((7, 166), (1, 4), (99, 0), (7, 164), (7, 165), [1, 3, 1, 1, 3, 1, 1, 3, 1, 3, 1, 3, 1, 1, 3, 1, 1, 3, 1, 3, 1, 3, 1, 3, 3, 1, 1, 3, 3, 1, 1, 3, 3, 1, 1, 3, 3, 1, 1, 3, 3, 1, 1, 3, 3, 1, 1, 3, 3, 1, 1, 3, 3, 1, 1, 3, 3, 1, 1, 3, 3, 1]),
  ((7, 171), (1, 5), (99, 0), (7, 169), (7, 170), [1, 3, 1, 1, 3, 1, 1, 3, 1, 3, 1, 3, 1, 1, 3, 1, 1, 3, 1, 3, 1, 1, 3, 3, 1]),
  ((7, 175), (1, 6), (99, 0), (7, 173), (7, 174), [1, 1, 3, 3, 1, 1, 3, 3, 1, 1, 3, 3, 1, 1, 3, 3, 1, 1, 3, 3, 1]),
  ((7, 179), (1, 7), (99, 0), (7, 177), (7, 178), [1, 1, 3, 3, 1, 1, 3, 3, 1, 1, 3, 3, 1, 1, 3, 3, 1, 1, 3, 3, 1]),
  ((7, 183), (1, 8), (99, 0), (7, 181), (7, 182), [1, 1, 3, 3, 1, 1, 3, 3, 1, 1, 3, 3, 1, 1, 3, 3, 1]),
  ((7, 187), (1, 9), (99, 0), (7, 185), (7, 186), [1, 3, 1, 1, 3, 1, 1, 3, 1, 3, 1, 1, 3, 3, 1, 1, 3, 3, 1, 1, 3, 3, 1, 1, 3, 3, 1, 1, 3, 3, 1, 1, 3, 3, 1]),
  ((7, 192), (1, 10), (99, 0), (7, 190), (7, 191), [1, 3, 1, 1, 3, 1, 1, 3, 1, 3, 1, 3, 1, 1, 3, 1, 1, 3, 1, 3, 1, 3, 1, 1, 3, 1, 1, 3, 1, 3, 1, 3, 1, 1, 3, 1, 1, 3, 1, 3, 1, 3, 1, 1, 3, 1, 1, 3, 1, 3, 1, 3, 1, 1, 3, 1, 1, 3, 1, 3, 1, 3, 1, 1, 3, 1, 1, 3, 1, 3, 1, 1, 3, 3, 1, 1, 3, 3, 1, 1, 3, 3, 1, 1, 3, 3, 1, 1, 3, 3, 1, 1, 3, 3, 1, 1, 3, 3, 1, 1, 3, 3, 1, 1, 3, 3, 1]),
  ((7, 197), (1, 11), (99, 0), (7, 195), (7, 196), [1, 1, 1, 1, 3, 1, 3, 1, 1, 1, 3, 1, 1, 3, 3, 3, 1, 3, 1, 1, 3, 1, 1, 3, 1, 3, 1, 1, 3, 3, 1, 1, 3, 3, 1, 1, 3, 3, 1, 1, 3, 3, 1, 1, 3, 3, 1, 1, 3, 3, 1, 1, 3, 3, 1]),
  ((7, 201), (1, 12), (99, 0), (7, 199), (7, 200), [1, 3, 1, 1, 3, 1, 1, 3, 1, 3, 1, 1, 3, 3, 1, 1, 3, 3, 1, 1, 3, 3, 1, 1, 3, 3, 1, 1, 3, 3, 1, 1, 3, 3, 1, 1, 3, 3, 1, 1, 3, 3, 1, 1, 3, 3, 1, 1, 3, 3, 1]),
  ((12, 165), (1, 14), (99, 0), (12, 163), (12, 164), [1, 3, 1, 3, 3, 1, 3, 1, 3, 3, 1, 1, 3, 3, 1, 1, 3, 3, 1, 1, 3, 3, 1, 3, 1, 1, 3, 1, 3, 3, 1, 3, 1, 1, 3, 1, 2, 3, 1, 3, 1, 1, 3, 1, 3, 3, 1, 3, 1, 1, 3, 1, 2, 3, 1, 3, 1, 1, 3, 1, 3, 3, 1, 1, 3, 3, 1, 1, 3, 3, 1, 1, 3, 3, 1, 1, 3, 3, 1, 1, 3, 3, 1, 1, 3, 3, 1, 1, 3, 3, 1, 1, 3, 3, 1, 1, 3, 3, 1, 1, 3, 3, 1, 1, 3, 3, 1, 1, 3, 3, 1, 1, 3, 3, 1, 1, 3, 3, 1, 1, 3, 3, 1, 1, 3, 3, 1, 1, 3, 3, 1, 1, 3, 3, 1, 1, 3, 3, 1, 1, 3, 3, 1, 1, 3, 3, 1, 3, 1, 1, 3, 1, 1, 3, 1, 1, 3, 3, 1, 1, 3, 3, 1, 1, 3, 3, 1, 1, 3, 3, 1, 1, 3, 3, 1, 1, 3, 1, 3, 1, 1, 3, 1, 2, 3, 1, 1, 3, 3, 1, 1, 3, 3, 1, 1, 3, 3, 1, 1, 3, 3, 1, 1, 3, 3, 1, 1, 3, 3, 1, 1, 3, 3, 1]),
  ((12, 169), (1, 15), (99, 0), (12, 167), (12, 168), [1, 1, 3, 3, 1, 3, 1, 1, 3, 1, 2, 3, 1, 3, 1, 1, 3, 1, 2, 3, 1, 1, 3, 3, 1, 1, 3, 3, 1, 1, 3, 3, 1, 1, 3, 3, 1, 1, 3, 3, 1, 1, 3, 3, 1, 1, 3, 3, 1, 1, 3, 3, 1, 1, 3, 3, 1, 1, 3, 3, 1, 3, 1, 1, 3, 1, 1, 3, 1, 3, 1, 1, 3, 1, 1, 3, 1]),
  ((12, 173), (1, 16), (99, 0), (12, 171), (12, 172), [1, 3, 1, 1, 3, 1, 2, 3, 1, 3, 1, 1, 3, 1, 1, 3, 1, 3, 1, 1, 3, 1, 1, 3, 1, 3, 1, 1, 3, 1, 1, 3, 1, 3, 1, 1, 3, 1, 1, 3, 1, 3, 1, 1, 3, 1, 1, 3, 1, 3, 1, 1, 3, 1, 1, 3, 1, 1, 3, 3, 1, 1, 3, 3, 1, 1, 3, 3, 1, 1, 3, 3, 1, 1, 3, 3, 1, 1, 3, 3, 1, 1, 3, 3, 1, 1, 3, 3, 1]),
  ((12, 178), (1, 14), (99, 0), (12, 177), (0, 96), [1, 1, 3, 3, 1, 1, 3, 3, 1, 1, 3, 3, 1, 1, 3, 3, 1, 1, 3, 3, 1, 1, 3, 3, 1, 1, 3, 3, 1, 1, 3, 3, 1, 1, 3, 3, 1, 1, 3, 3, 1, 1, 3, 3, 1, 1, 3, 3, 1, 1, 3, 3, 1, 1, 3, 3, 1, 1, 3, 3, 1, 1, 3, 3, 1, 1, 3, 3, 1, 1, 3, 3, 1, 3, 1, 1, 3, 1, 2, 3, 1, 1, 1, 1, 3, 1, 3, 1, 1, 3, 1, 1, 1, 1, 3, 1, 1, 1, 1, 3, 1, 1, 1, 2, 3, 3, 3, 1]),
  ((7, 207), (1, 0), (7, 206), (99, 0), (99, 0), [1, 1, 3, 3, 1, 1, 1, 1, 1, 1, 1, 1]),
  ((7, 211), (1, 1), (99, 0), (7, 209), (7, 210), [1, 1, 3, 1, 3, 1, 1, 3, 3, 1, 2, 3, 1, 1, 1, 1, 1, 3, 1, 3, 1, 1, 1, 3, 1, 1, 1, 1, 1, 1, 3, 3, 3, 1, 1, 3, 1, 1, 3, 1]),
  ((12, 182), (1, 13), (99, 0), (12, 180), (12, 181), [1, 1, 3, 1, 1, 1, 3, 1, 1, 3, 1, 3, 1, 3, 3, 1, 1, 1, 3, 1, 1, 3, 1, 3, 1, 3, 3, 1, 1, 1, 1, 1, 3, 1, 3, 1, 1, 1, 3, 1, 1, 1, 1, 1, 1, 3, 3, 3, 1, 1, 3, 1, 1, 3, 1]),
  ((3, 62), (1, 1), (99, 0), (3, 60), (3, 61), [1, 27, 1, 3, 1, 1, 3, 3, 1, 1, 1, 1, 3, 1, 1, 1]),
  ((12, 186), (1, 13), (99, 0), (12, 184), (12, 185), [1, 1, 3, 1, 3, 1, 3, 3, 1, 1, 3, 1, 3, 3, 1, 1, 3, 1, 1, 3, 1, 3, 2, 1, 3, 1, 1])]
noncomputable def gt_ch : List (List Cond) := [k2_sels lw_privs, tables_1_1, tables_1_2, tables_1_3, tables_1_4, tables_1_5, tables_1_6, tables_1_7, tables_1_8, tables_1_9, tables_1_10, tables_1_11, tables_1_12]
end
section
def gt_bz (tg : Nat) (v : gx_V gs_I gs_J) : Bool := match v with
  | .inl (.inl c) => decide (tg < 2) && decide (c = 0)
  | .inr (.inl (.inl c)) => decide (tg = 2) && decide (c = 0)
  | .inr (.inr none) => decide (2 < tg)
  | _ => false
theorem gt_bz_ok {tg : Nat} {v : gx_V gs_I gs_J} (h : gt_bz tg v = true) : v = gx_fd gs_D tg := by
  unfold gt_bz at h
  unfold gx_fd
  split at h
  · simp only [Bool.and_eq_true, decide_eq_true_eq] at h
    rw [if_neg (by omega), if_pos (by omega), h.2]
    rfl
  · simp only [Bool.and_eq_true, decide_eq_true_eq] at h
    rw [if_pos (by omega), h.2]
    rfl
  · simp only [decide_eq_true_eq] at h
    rw [if_neg (by omega), if_neg (by omega)]
  · cases h
def gt_bzs : List (Nat × Bool) → List (gx_V gs_I gs_J) → Bool
  | [], [] => true
  | q :: t, v :: r => gt_bz q.1 v && gt_bzs t r
  | _, _ => false
theorem gt_bzs_ok : ∀ {tys : List (Nat × Bool)} {fs : List (gx_V gs_I gs_J)}, gt_bzs tys fs = true → fs = tys.map fun q => gx_fd gs_D q.1
  | [], [], _ => rfl
  | q :: t, v :: r, h => by
    simp only [gt_bzs, Bool.and_eq_true] at h
    rw [List.map_cons, ← gt_bz_ok h.1, ← gt_bzs_ok h.2]
  | [], _ :: _, h => by simp [gt_bzs] at h
  | _ :: _, [], h => by simp [gt_bzs] at h
noncomputable def gt_small (d j ci : Nat) : gx_A gs_I gs_J gs_P := match gy_get gt_mm j, (gy_get gt_kl ci).join with
  | some M, some (tys, _) => gy_run gt_G gs_D gt_mo (fun _ _ _ _ _ => none) 3000 d M 0 [(0, .inr (.inr (some gt_mo)))] [] (List.replicate gt_mo (.inl (1000, [])) ++ [.inl (ci, tys.map fun q => gx_fd gs_D q.1)]) []
  | _, _ => none
noncomputable def gt_Ec (d j ci : Nat) (as : List (gx_V gs_I gs_J)) (h : gx_H gs_I gs_J) (P : gs_P) : gx_A gs_I gs_J gs_P := match as with
  | [.inr (.inr (some a))] => if gt_mo ≤ a ∧ a + 1 = gy_len h then match gy_get h a, (gy_get gt_kl ci).join with
      | some (.inl (ci', fs)), some (tys, _) => if ci' = ci ∧ gt_bzs tys fs = true then match gt_small d j ci with
          | some ([(.inl none, hr, _)], c1, s1) => some ([(.inl none, h.take a ++ (hr.drop gt_mo).map (gz_C gt_mo (a - gt_mo)), P)], c1, s1)
          | _ => none
        else none
      | _, _ => none
    else none
  | _ => none
def gt_h0 (L : Nat) : gx_H gs_I gs_J := .inr (0, L, fun k => .inl (.inr (.var k))) :: List.replicate 13 (.inl (1000, []))
noncomputable def gt_tp (h : gx_H gs_I gs_J) (t tg : Nat) : Bool := match gy_get h t with
  | some (.inr (tg1, n, _)) => decide (tg1 = tg) && decide (n = 65536)
  | _ => false
/-- the class's end -/
noncomputable def gt_e25 (as : List (gx_V gs_I gs_J)) (h : gx_H gs_I gs_J) (P : gs_P) : gx_A gs_I gs_J gs_P := match as with
  | [.inr (.inr (some a)), .inl n] => match gy_get h a with
    | some (.inl (ci, fs)) => match gy_get fs 0, gy_get fs 1 with
      | some (.inr (.inr (some t))), some (.inl (.inl c)) => if ci = 1 ∧ c = 0 ∧ gt_mo ≤ a ∧ gt_mo ≤ t ∧ gt_tp h t 0 = true then (match gw_r gs_D P n with
          | none => none
          | some l => some (l.map fun q => if q.1 then (.inr (gy_len h), gy_app h [.inl (18, [])], q.2) else (.inl (some (.inl n)), gy_put (gy_put h t (.inl (1000, []))) a (.inl (1, gy_put fs 1 (.inl n))), q.2), 1, 6)) else none
      | _, _ => none
    | _ => none
  | _ => none
/-- the reference's end -/
noncomputable def gt_e26 (d : Nat) (as : List (gx_V gs_I gs_J)) (h : gx_H gs_I gs_J) (P : gs_P) : gx_A gs_I gs_J gs_P := match as with
  | [.inr (.inr (some a)), .inl n] => match gy_get h a with
    | some (.inl (ci, fs)) => match gy_get fs 0, gy_get fs 1, gy_get fs 2 with
      | some (.inr (.inr (some t))), some (.inl (.inl c)), some _ => if ci = 13 ∧ c = 0 ∧ 0 < d ∧ gt_mo ≤ a ∧ gt_mo ≤ t ∧ gt_tp h t 3 = true then (match gw_r gs_D P n with
          | none => none
          | some l => some (l.map fun q => if q.1 then (.inl (some (.inl (.inl 0))), gy_put h a (.inl (13, gy_put fs 2 (.inl (.inl 1)))), q.2) else (.inl (some (.inl n)), gy_put (gy_put h t (.inl (1000, []))) a (.inl (13, gy_put (gy_put fs 2 (.inl (.inl 0))) 1 (.inl n))), q.2), 0, 0)) else none
      | _, _, _ => none
    | _ => none
  | _ => none
noncomputable def gt_E (d j : Nat) (as : List (gx_V gs_I gs_J)) (h : gx_H gs_I gs_J) (P : gs_P) : gx_A gs_I gs_J gs_P := if j = 2 then gt_Ec d 2 7 as h P else if j = 14 then gt_Ec d 14 15 as h P else if j = 25 then gt_e25 as h P else if j = 26 then gt_e26 d as h P else none
def gt_chk (r : gx_A gs_I gs_J gs_P) : Bool := match r with
  | some (rs, c, s) => rs.all (fun r => match r.1 with
    | .inl (some (.inl (.inl x))) => decide (x = 1)
    | _ => false) && decide (c ≤ 60002) && decide (s ≤ 8922232)
  | none => false
noncomputable def gt_runP (L : Nat) (P : gs_P) : gx_A gs_I gs_J gs_P := gy_run gt_G gs_D gt_mo gt_E 100000 12 gt_m0 0 [(0, .inr (.inr (some 0)))] [] (gt_h0 L) P
def gt_op (k : Int) : gs_P := [(.op (.op (.var 3) (.var 0)) (.var 37), k, k)]
end
section
def gt_Tb : List Cond := lw_tbl.filter goodWord
noncomputable def gt_wd (q : Nat × Nat) : Option Cond := match gy_get gt_ch q.1 with
  | some l => gy_get l q.2
  | none => none
theorem gt_ch_in : ∀ l ∈ gt_ch, ∀ w ∈ l, w ∈ lw_tbl := by
  intro l hl w hw
  simp only [gt_ch, List.mem_cons, List.not_mem_nil, or_false] at hl
  simp only [lw_tbl, tables_1, List.mem_append]
  rcases hl with rfl | rfl | rfl | rfl | rfl | rfl | rfl | rfl | rfl | rfl | rfl | rfl | rfl
  · exact Or.inl hw
  · exact Or.inr (Or.inl hw)
  · exact Or.inr (Or.inr (Or.inl hw))
  · exact Or.inr (Or.inr (Or.inr (Or.inl hw)))
  · exact Or.inr (Or.inr (Or.inr (Or.inr (Or.inl hw))))
  · exact Or.inr (Or.inr (Or.inr (Or.inr (Or.inr (Or.inl hw)))))
  · exact Or.inr (Or.inr (Or.inr (Or.inr (Or.inr (Or.inr (Or.inl hw))))))
  · exact Or.inr (Or.inr (Or.inr (Or.inr (Or.inr (Or.inr (Or.inr (Or.inl hw)))))))
  · exact Or.inr (Or.inr (Or.inr (Or.inr (Or.inr (Or.inr (Or.inr (Or.inr (Or.inl hw))))))))
  · exact Or.inr (Or.inr (Or.inr (Or.inr (Or.inr (Or.inr (Or.inr (Or.inr (Or.inr (Or.inl hw)))))))))
  · exact Or.inr (Or.inr (Or.inr (Or.inr (Or.inr (Or.inr (Or.inr (Or.inr (Or.inr (Or.inr (Or.inl hw))))))))))
  · exact Or.inr (Or.inr (Or.inr (Or.inr (Or.inr (Or.inr (Or.inr (Or.inr (Or.inr (Or.inr (Or.inr (Or.inl hw)))))))))))
  · exact Or.inr (Or.inr (Or.inr (Or.inr (Or.inr (Or.inr (Or.inr (Or.inr (Or.inr (Or.inr (Or.inr (Or.inr (hw))))))))))))
theorem gt_in {q : Nat × Nat} {w : Cond} (h : gt_wd q = some w) (hg : goodWord w = true) : w ∈ gt_Tb := by
  unfold gt_wd at h
  split at h
  · rename_i l hl
    rw [gy_get_eq] at h hl
    exact List.mem_filter.mpr ⟨gt_ch_in l (List.mem_of_getElem? hl) w (List.mem_of_getElem? h), hg⟩
  · cases h
theorem gt_lu_in {A : Type} {T : List (List (List (Nat × A)))} {ow idx : Nat} {v : A} (h : gt_lu T ow idx = some v) : ∃ l b, T[ow]? = some l ∧ b ∈ l ∧ (idx, v) ∈ b := by
  unfold gt_lu at h
  split at h
  · rename_i l hl
    split at h
    · rename_i b hb
      rw [gy_get_eq] at hl hb
      rw [gy_fnd_eq] at h
      obtain ⟨e, he, rfl⟩ := Option.map_eq_some_iff.mp h
      have h1 := List.find?_some he
      have h2 := List.mem_of_find?_eq_some he
      simp only [beq_iff_eq] at h1
      refine ⟨l, b, hl, List.mem_of_getElem? hb, ?_⟩
      rw [← h1]
      exact h2
    · cases h
  · cases h
def gt_all {A : Type} (f : Nat → Nat → A → Bool) : Nat → List (List (List (Nat × A))) → Bool
  | _, [] => true
  | n, l :: T => l.all (fun b => b.all (fun e => f n e.1 e.2)) && gt_all f (n + 1) T
theorem gt_all_ok {A : Type} {f : Nat → Nat → A → Bool} : ∀ {T : List (List (List (Nat × A)))} {n k : Nat} {l : List (List (Nat × A))} {b : List (Nat × A)} {e : Nat × A}, gt_all f n T = true → T[k]? = some l → b ∈ l → e ∈ b → f (n + k) e.1 e.2 = true
  | [], _, _, _, _, _, _, hk, _, _ => by cases hk
  | l0 :: T, n, 0, l, b, e, h, hk, hb, he => by
    simp only [gt_all, Bool.and_eq_true] at h
    cases hk
    exact List.all_eq_true.mp (List.all_eq_true.mp h.1 b hb) e he
  | l0 :: T, n, k + 1, l, b, e, h, hk, hb, he => by
    simp only [gt_all, Bool.and_eq_true] at h
    rw [List.getElem?_cons_succ] at hk
    have := gt_all_ok h.2 hk hb he
    rw [show n + (k + 1) = n + 1 + k by omega]
    exact this
theorem gt_ck {A : Type} {f : Nat → Nat → A → Bool} {T : List (List (List (Nat × A)))} {ow idx : Nat} {v : A} (h : gt_all f 0 T = true) (hl : gt_lu T ow idx = some v) : f ow idx v = true := by
  obtain ⟨l, b, h1, h2, h3⟩ := gt_lu_in hl
  have := gt_all_ok h h1 h2 h3
  rw [Nat.zero_add] at this
  exact this
noncomputable def gt_is (q : Nat × Nat) (w : Cond) : Bool := decide (gt_wd q = some w) && goodWord w
theorem gt_is_in {q : Nat × Nat} {w : Cond} (h : gt_is q w = true) : w ∈ gt_Tb := by
  simp only [gt_is, Bool.and_eq_true, decide_eq_true_eq] at h
  exact gt_in h.1 h.2
noncomputable def gt_cf (ow idx : Nat) (v : Nat × Nat × Nat × Nat) : Bool := match gy_get gt_cl ow, gy_get gt_cl v.1 with
  | some ro, some r => decide (v.2.1 < r.2.2) && (gt_is v.2.2 (Cond.fieldLink ro.1 idx r.1 (r.2.1 v.2.1).2.1 (r.2.1 v.2.1).2.2.1) && (decide ((r.2.1 v.2.1).1 = r.1) && decide (0 < v.1)))
  | _, _ => false
theorem gt_cf_all : gt_all gt_cf 0 gt_fl = true := by decide +kernel
theorem gt_gF : gx_gF gt_G gt_cl gt_Tb := by
  intro ow idx ci k h
  have h' : (gt_lu gt_fl ow idx).map (fun e => (e.1, e.2.1)) = some (ci, k) := h
  obtain ⟨v, hv, he⟩ := Option.map_eq_some_iff.mp h'
  cases he
  have hc := gt_ck gt_cf_all hv
  unfold gt_cf at hc
  split at hc
  · rename_i ro r h1 h2
    rw [gy_get_eq] at h1 h2
    simp only [Bool.and_eq_true, decide_eq_true_eq] at hc
    exact ⟨ro, r, h1, h2, hc.1, gt_is_in hc.2.1, hc.2.2.1, hc.2.2.2⟩
  · cases hc
noncomputable def gt_cc (ow idx : Nat) (v : Nat × Nat × Nat) : Bool := match gy_get gt_cl ow, gy_get gt_cl v.1 with
  | some ro, some r => gt_is v.2 (Cond.classLink ro.1 idx r.1)
  | _, _ => false
theorem gt_cc_all : gt_all gt_cc 0 gt_cs = true := by decide +kernel
theorem gt_gC : gx_gC gt_G gt_cl gt_Tb := by
  intro ow idx ci h
  have h' : (gt_lu gt_cs ow idx).map (fun e => e.1) = some ci := h
  obtain ⟨v, hv, he⟩ := Option.map_eq_some_iff.mp h'
  cases he
  have hc := gt_ck gt_cc_all hv
  unfold gt_cc at hc
  split at hc
  · rename_i ro r h1 h2
    rw [gy_get_eq] at h1 h2
    exact ⟨ro, r, h1, h2, gt_is_in hc⟩
  · cases hc
noncomputable def gt_ws : List (Nat × Nat) → List Cond → Bool
  | [], [] => true
  | q :: t, w :: r => gt_is q w && gt_ws t r
  | _, _ => false
theorem gt_ws_ok : ∀ {qs : List (Nat × Nat)} {ws : List Cond}, gt_ws qs ws = true → ∀ w ∈ ws, w ∈ gt_Tb
  | [], [], _, w, hw => by cases hw
  | q :: t, w0 :: r, h, w, hw => by
    simp only [gt_ws, Bool.and_eq_true] at h
    rcases List.mem_cons.mp hw with rfl | hw
    · exact gt_is_in h.1
    · exact gt_ws_ok h.2 w hw
  | [], _ :: _, h, _, _ => by simp [gt_ws] at h
  | _ :: _, [], h, _, _ => by simp [gt_ws] at h
def gt_tt (tg : Nat) (o : Option FieldType) : Bool := match o with
  | some .int => decide (tg = 0)
  | some .boolean => decide (tg = 1)
  | some .long => decide (tg = 2)
  | some (.object _) => decide (tg = 3)
  | some (.array _) => decide (tg = 3)
  | _ => false
theorem gt_tt_ok {tg : Nat} {o : Option FieldType} (h : gt_tt tg o = true) : ∃ ty, o = some ty ∧ gx_tt tg ty := by
  unfold gt_tt at h
  split at h <;> first | cases h; done | (simp only [decide_eq_true_eq] at h; subst h)
  · exact ⟨_, rfl, Or.inl ⟨rfl, rfl⟩⟩
  · exact ⟨_, rfl, Or.inr (Or.inl ⟨rfl, rfl⟩)⟩
  · exact ⟨_, rfl, Or.inr (Or.inr (Or.inl ⟨rfl, rfl⟩))⟩
  · exact ⟨_, rfl, Or.inr (Or.inr (Or.inr ⟨rfl, Or.inl ⟨_, rfl⟩⟩))⟩
  · exact ⟨_, rfl, Or.inr (Or.inr (Or.inr ⟨rfl, Or.inr ⟨_, rfl⟩⟩))⟩
def gt_ty (r : vw_C) : Nat → List (Nat × Bool) → Bool
  | _, [] => true
  | k, q :: t => decide ((r.2.1 k).2.2.2 = q.2) && (decide ((r.2.1 k).1 = r.1) && (gt_tt q.1 (parseFieldDescriptor (r.2.1 k).2.2.1) && gt_ty r (k + 1) t))
theorem gt_ty_ok {r : vw_C} : ∀ {tys : List (Nat × Bool)} {n k tg : Nat} {fin : Bool}, gt_ty r n tys = true → tys[k]? = some (tg, fin) → (r.2.1 (n + k)).2.2.2 = fin ∧ (r.2.1 (n + k)).1 = r.1 ∧ ∃ ty, parseFieldDescriptor (r.2.1 (n + k)).2.2.1 = some ty ∧ gx_tt tg ty
  | [], _, _, _, _, _, hk => by cases hk
  | q :: t, n, 0, tg, fin, h, hk => by
    simp only [gt_ty, Bool.and_eq_true, decide_eq_true_eq] at h
    cases hk
    exact ⟨h.1, h.2.1, gt_tt_ok h.2.2.1⟩
  | q :: t, n, k + 1, tg, fin, h, hk => by
    simp only [gt_ty, Bool.and_eq_true] at h
    rw [List.getElem?_cons_succ] at hk
    have := gt_ty_ok h.2.2.2 hk
    rw [show n + (k + 1) = n + 1 + k by omega]
    exact this
def gt_nd : List String → Bool
  | [] => true
  | x :: r => r.all (fun y => decide (x ≠ y)) && gt_nd r
theorem gt_nd_ok : ∀ {l : List String} {a b : Nat} {x y : String}, gt_nd l = true → l[a]? = some x → l[b]? = some y → a < b → x ≠ y
  | [], _, _, _, _, _, ha, _, _ => by cases ha
  | z :: r, 0, 0, _, _, _, _, _, h => by omega
  | z :: r, 0, b + 1, x, y, h, ha, hb, _ => by
    simp only [gt_nd, Bool.and_eq_true] at h
    cases ha
    rw [List.getElem?_cons_succ] at hb
    exact of_decide_eq_true (List.all_eq_true.mp h.1 y (List.mem_of_getElem? hb))
  | z :: r, a + 1, 0, _, _, _, _, _, h => by omega
  | z :: r, a + 1, b + 1, x, y, h, ha, hb, hlt => by
    simp only [gt_nd, Bool.and_eq_true] at h
    rw [List.getElem?_cons_succ] at ha hb
    exact gt_nd_ok h.2 ha hb (by omega)
noncomputable def gt_ckl (n : Nat) (q : Option (List (Nat × Bool) × Nat)) : Bool := match q with
  | none => true
  | some (tys, m) => match gy_get gt_cl n, gy_get gt_klp n with
    | some r, some pl => gt_is pl.1 (Cond.instantiable r.1 m) && (gt_is pl.2.1 (Cond.initialized r.1) && (gt_ws pl.2.2 (u_ws r.1 r.2.1 r.2.2) && (decide (r.2.2 = tys.length) && (gt_ty r 0 tys && (gt_nd ((List.range r.2.2).map fun k => (r.2.1 k).2.1) && (decide (0 < n) && (decide (tys.length = m) || decide (m = 6))))))))
    | _, _ => false
noncomputable def gt_kall : Nat → List (Option (List (Nat × Bool) × Nat)) → Bool
  | _, [] => true
  | n, q :: t => gt_ckl n q && gt_kall (n + 1) t
theorem gt_kall_ok : ∀ {t : List (Option (List (Nat × Bool) × Nat))} {n k : Nat} {q : Option (List (Nat × Bool) × Nat)}, gt_kall n t = true → t[k]? = some q → gt_ckl (n + k) q = true
  | [], _, _, _, _, hk => by cases hk
  | q0 :: t, n, 0, q, h, hk => by
    simp only [gt_kall, Bool.and_eq_true] at h
    cases hk
    exact h.1
  | q0 :: t, n, k + 1, q, h, hk => by
    simp only [gt_kall, Bool.and_eq_true] at h
    rw [List.getElem?_cons_succ] at hk
    rw [show n + (k + 1) = n + 1 + k by omega]
    exact gt_kall_ok h.2 hk
theorem gt_kall_all : gt_kall 0 gt_kl = true := by decide +kernel
theorem gt_kl_ck {ci n : Nat} {tys : List (Nat × Bool)} (h : gx_kl gt_G ci = some (tys, n)) : gt_ckl ci (some (tys, n)) = true := by
  have h' : (gy_get gt_kl ci).join = some (tys, n) := h
  rw [gy_get_eq] at h'
  have h1 := gt_kall_ok gt_kall_all (Option.join_eq_some_iff.mp h')
  rw [Nat.zero_add] at h1
  exact h1
theorem gt_gK : gx_gK gt_G gt_cl gt_Tb := by
  intro ci tys n h
  have h1 := gt_kl_ck h
  unfold gt_ckl at h1
  split at h1
  · rename_i hq
    cases hq
  · rename_i tys' m' hq
    cases hq
    split at h1
    · rename_i r pl hr hpl
      rw [gy_get_eq] at hr hpl
      simp only [Bool.and_eq_true, decide_eq_true_eq] at h1
      obtain ⟨g1, g2, g3, g4, g5, g6, g7, -⟩ := h1
      refine ⟨r, hr, gt_is_in g1, gt_is_in g2, gt_ws_ok g3, g4, fun k tg fin hk => ?_, fun a ha b hb hne => ?_, g7⟩
      · have := gt_ty_ok g5 hk
        rw [Nat.zero_add] at this
        exact this
      · have e1 : ∀ z, z < r.2.2 → ((List.range r.2.2).map fun k => (r.2.1 k).2.1)[z]? = some (r.2.1 z).2.1 := fun z hz => by simp [hz]
        rcases Nat.lt_or_gt_of_ne hne with hlt | hlt
        · exact gt_nd_ok g6 (e1 a ha) (e1 b hb) hlt
        · exact (gt_nd_ok g6 (e1 b hb) (e1 a ha) hlt).symm
    · cases h1
theorem gt_N6 : ∀ ci tys n, gx_kl gt_G ci = some (tys, n) → tys.length = n ∨ n = 6 := by
  intro ci tys n h
  have h1 := gt_kl_ck h
  unfold gt_ckl at h1
  split at h1
  · rename_i hq
    cases hq
  · rename_i tys' m' hq
    cases hq
    split at h1
    · simp only [Bool.and_eq_true, Bool.or_eq_true, decide_eq_true_eq] at h1
      exact h1.2.2.2.2.2.2.2
    · cases h1
theorem gt_Tb_ok : ∀ w ∈ gt_Tb, goodWord w = true := fun w hw => (List.mem_filter.mp hw).2
end
section
theorem gt_c1 : gt_wd (1, 41) = some (Cond.code (gx_y gt_m1) (gx_cc gt_m1) (gx_ml gt_m1) (gx_rt gt_m1)) := rfl
theorem gt_c2 : gt_wd (1, 51) = some (Cond.code (gx_y gt_m2) (gx_cc gt_m2) (gx_ml gt_m2) (gx_rt gt_m2)) := rfl
theorem gt_c3 : gt_wd (1, 57) = some (Cond.code (gx_y gt_m3) (gx_cc gt_m3) (gx_ml gt_m3) (gx_rt gt_m3)) := rfl
theorem gt_c4 : gt_wd (1, 126) = some (Cond.code (gx_y gt_m4) (gx_cc gt_m4) (gx_ml gt_m4) (gx_rt gt_m4)) := rfl
theorem gt_c5 : gt_wd (1, 134) = some (Cond.code (gx_y gt_m5) (gx_cc gt_m5) (gx_ml gt_m5) (gx_rt gt_m5)) := rfl
theorem gt_c6 : gt_wd (1, 194) = some (Cond.code (gx_y gt_m6) (gx_cc gt_m6) (gx_ml gt_m6) (gx_rt gt_m6)) := rfl
theorem gt_c7 : gt_wd (1, 220) = some (Cond.code (gx_y gt_m7) (gx_cc gt_m7) (gx_ml gt_m7) (gx_rt gt_m7)) := rfl
theorem gt_c8 : gt_wd (2, 5) = some (Cond.code (gx_y gt_m8) (gx_cc gt_m8) (gx_ml gt_m8) (gx_rt gt_m8)) := rfl
theorem gt_c9 : gt_wd (2, 27) = some (Cond.code (gx_y gt_m9) (gx_cc gt_m9) (gx_ml gt_m9) (gx_rt gt_m9)) := rfl
theorem gt_c10 : gt_wd (2, 61) = some (Cond.code (gx_y gt_m10) (gx_cc gt_m10) (gx_ml gt_m10) (gx_rt gt_m10)) := rfl
theorem gt_c11 : gt_wd (2, 123) = some (Cond.code (gx_y gt_m11) (gx_cc gt_m11) (gx_ml gt_m11) (gx_rt gt_m11)) := rfl
theorem gt_c12 : gt_wd (2, 130) = some (Cond.code (gx_y gt_m12) (gx_cc gt_m12) (gx_ml gt_m12) (gx_rt gt_m12)) := rfl
theorem gt_c13 : gt_wd (7, 217) = some (Cond.code (gx_y gt_m13) (gx_cc gt_m13) (gx_ml gt_m13) (gx_rt gt_m13)) := rfl
theorem gt_c14 : gt_wd (7, 225) = some (Cond.code (gx_y gt_m14) (gx_cc gt_m14) (gx_ml gt_m14) (gx_rt gt_m14)) := rfl
theorem gt_c15 : gt_wd (7, 231) = some (Cond.code (gx_y gt_m15) (gx_cc gt_m15) (gx_ml gt_m15) (gx_rt gt_m15)) := rfl
theorem gt_c16 : gt_wd (8, 50) = some (Cond.code (gx_y gt_m16) (gx_cc gt_m16) (gx_ml gt_m16) (gx_rt gt_m16)) := rfl
theorem gt_c17 : gt_wd (9, 74) = some (Cond.code (gx_y gt_m17) (gx_cc gt_m17) (gx_ml gt_m17) (gx_rt gt_m17)) := rfl
theorem gt_c18 : gt_wd (3, 66) = some (Cond.codeWith (gx_y gt_m18) (gx_cc gt_m18) (gx_ml gt_m18) (gx_rt gt_m18) (gx_hs gt_m18)) := rfl
theorem gt_c19 : gt_wd (3, 71) = some (Cond.code (gx_y gt_m19) (gx_cc gt_m19) (gx_ml gt_m19) (gx_rt gt_m19)) := rfl
theorem gt_c20 : gt_wd (3, 145) = some (Cond.code (gx_y gt_m20) (gx_cc gt_m20) (gx_ml gt_m20) (gx_rt gt_m20)) := rfl
theorem gt_c21 : gt_wd (9, 113) = some (Cond.code (gx_y gt_m21) (gx_cc gt_m21) (gx_ml gt_m21) (gx_rt gt_m21)) := rfl
theorem gt_c22 : gt_wd (9, 118) = some (Cond.code (gx_y gt_m22) (gx_cc gt_m22) (gx_ml gt_m22) (gx_rt gt_m22)) := rfl
theorem gt_c23 : gt_wd (9, 109) = some (Cond.code (gx_y gt_m23) (gx_cc gt_m23) (gx_ml gt_m23) (gx_rt gt_m23)) := rfl
theorem gt_c24 : gt_wd (3, 148) = some (Cond.codeWith (gx_y gt_m24) (gx_cc gt_m24) (gx_ml gt_m24) (gx_rt gt_m24) (gx_hs gt_m24)) := rfl
theorem gt_c25 : gt_wd (3, 153) = some (Cond.code (gx_y gt_m25) (gx_cc gt_m25) (gx_ml gt_m25) (gx_rt gt_m25)) := rfl
theorem gt_c26 : gt_wd (9, 122) = some (Cond.code (gx_y gt_m26) (gx_cc gt_m26) (gx_ml gt_m26) (gx_rt gt_m26)) := rfl
theorem gt_c27 : gt_wd (3, 172) = some (Cond.codeWith (gx_y gt_m27) (gx_cc gt_m27) (gx_ml gt_m27) (gx_rt gt_m27) (gx_hs gt_m27)) := rfl
theorem gt_c28 : gt_wd (3, 177) = some (Cond.code (gx_y gt_m28) (gx_cc gt_m28) (gx_ml gt_m28) (gx_rt gt_m28)) := rfl
theorem gt_c29 : gt_wd (9, 126) = some (Cond.code (gx_y gt_m29) (gx_cc gt_m29) (gx_ml gt_m29) (gx_rt gt_m29)) := rfl
theorem gt_c30 : gt_wd (3, 199) = some (Cond.codeWith (gx_y gt_m30) (gx_cc gt_m30) (gx_ml gt_m30) (gx_rt gt_m30) (gx_hs gt_m30)) := rfl
theorem gt_c31 : gt_wd (3, 204) = some (Cond.code (gx_y gt_m31) (gx_cc gt_m31) (gx_ml gt_m31) (gx_rt gt_m31)) := rfl
theorem gt_c32 : gt_wd (3, 208) = some (Cond.code (gx_y gt_m32) (gx_cc gt_m32) (gx_ml gt_m32) (gx_rt gt_m32)) := rfl
theorem gt_c33 : gt_wd (9, 130) = some (Cond.code (gx_y gt_m33) (gx_cc gt_m33) (gx_ml gt_m33) (gx_rt gt_m33)) := rfl
theorem gt_c34 : gt_wd (9, 134) = some (Cond.code (gx_y gt_m34) (gx_cc gt_m34) (gx_ml gt_m34) (gx_rt gt_m34)) := rfl
theorem gt_c35 : gt_wd (3, 213) = some (Cond.code (gx_y gt_m35) (gx_cc gt_m35) (gx_ml gt_m35) (gx_rt gt_m35)) := rfl
theorem gt_c36 : gt_wd (9, 138) = some (Cond.code (gx_y gt_m36) (gx_cc gt_m36) (gx_ml gt_m36) (gx_rt gt_m36)) := rfl
theorem gt_c37 : gt_wd (3, 58) = some (Cond.code (gx_y gt_m37) (gx_cc gt_m37) (gx_ml gt_m37) (gx_rt gt_m37)) := rfl
theorem gt_c38 : gt_wd (9, 185) = some (Cond.code (gx_y gt_m38) (gx_cc gt_m38) (gx_ml gt_m38) (gx_rt gt_m38)) := rfl
theorem gt_c39 : gt_wd (4, 86) = some (Cond.codeWith (gx_y gt_m39) (gx_cc gt_m39) (gx_ml gt_m39) (gx_rt gt_m39) (gx_hs gt_m39)) := rfl
theorem gt_c40 : gt_wd (4, 90) = some (Cond.code (gx_y gt_m40) (gx_cc gt_m40) (gx_ml gt_m40) (gx_rt gt_m40)) := rfl
theorem gt_c41 : gt_wd (9, 189) = some (Cond.code (gx_y gt_m41) (gx_cc gt_m41) (gx_ml gt_m41) (gx_rt gt_m41)) := rfl
theorem gt_c42 : gt_wd (4, 94) = some (Cond.codeWith (gx_y gt_m42) (gx_cc gt_m42) (gx_ml gt_m42) (gx_rt gt_m42) (gx_hs gt_m42)) := rfl
theorem gt_c43 : gt_wd (4, 98) = some (Cond.code (gx_y gt_m43) (gx_cc gt_m43) (gx_ml gt_m43) (gx_rt gt_m43)) := rfl
theorem gt_c44 : gt_wd (9, 193) = some (Cond.code (gx_y gt_m44) (gx_cc gt_m44) (gx_ml gt_m44) (gx_rt gt_m44)) := rfl
theorem gt_c45 : gt_wd (4, 102) = some (Cond.code (gx_y gt_m45) (gx_cc gt_m45) (gx_ml gt_m45) (gx_rt gt_m45)) := rfl
theorem gt_c46 : gt_wd (4, 106) = some (Cond.code (gx_y gt_m46) (gx_cc gt_m46) (gx_ml gt_m46) (gx_rt gt_m46)) := rfl
theorem gt_c47 : gt_wd (4, 110) = some (Cond.code (gx_y gt_m47) (gx_cc gt_m47) (gx_ml gt_m47) (gx_rt gt_m47)) := rfl
theorem gt_c48 : gt_wd (9, 197) = some (Cond.code (gx_y gt_m48) (gx_cc gt_m48) (gx_ml gt_m48) (gx_rt gt_m48)) := rfl
theorem gt_c49 : gt_wd (9, 201) = some (Cond.code (gx_y gt_m49) (gx_cc gt_m49) (gx_ml gt_m49) (gx_rt gt_m49)) := rfl
theorem gt_c50 : gt_wd (4, 113) = some (Cond.codeWith (gx_y gt_m50) (gx_cc gt_m50) (gx_ml gt_m50) (gx_rt gt_m50) (gx_hs gt_m50)) := rfl
theorem gt_c51 : gt_wd (4, 117) = some (Cond.code (gx_y gt_m51) (gx_cc gt_m51) (gx_ml gt_m51) (gx_rt gt_m51)) := rfl
theorem gt_c52 : gt_wd (9, 209) = some (Cond.code (gx_y gt_m52) (gx_cc gt_m52) (gx_ml gt_m52) (gx_rt gt_m52)) := rfl
theorem gt_c53 : gt_wd (4, 123) = some (Cond.code (gx_y gt_m53) (gx_cc gt_m53) (gx_ml gt_m53) (gx_rt gt_m53)) := rfl
theorem gt_c54 : gt_wd (7, 61) = some (Cond.codeWith (gx_y gt_m54) (gx_cc gt_m54) (gx_ml gt_m54) (gx_rt gt_m54) (gx_hs gt_m54)) := rfl
theorem gt_c55 : gt_wd (7, 65) = some (Cond.code (gx_y gt_m55) (gx_cc gt_m55) (gx_ml gt_m55) (gx_rt gt_m55)) := rfl
theorem gt_c56 : gt_wd (12, 126) = some (Cond.code (gx_y gt_m56) (gx_cc gt_m56) (gx_ml gt_m56) (gx_rt gt_m56)) := rfl
theorem gt_c57 : gt_wd (7, 70) = some (Cond.codeWith (gx_y gt_m57) (gx_cc gt_m57) (gx_ml gt_m57) (gx_rt gt_m57) (gx_hs gt_m57)) := rfl
theorem gt_c58 : gt_wd (7, 74) = some (Cond.code (gx_y gt_m58) (gx_cc gt_m58) (gx_ml gt_m58) (gx_rt gt_m58)) := rfl
theorem gt_c59 : gt_wd (12, 132) = some (Cond.code (gx_y gt_m59) (gx_cc gt_m59) (gx_ml gt_m59) (gx_rt gt_m59)) := rfl
theorem gt_c60 : gt_wd (7, 94) = some (Cond.codeWith (gx_y gt_m60) (gx_cc gt_m60) (gx_ml gt_m60) (gx_rt gt_m60) (gx_hs gt_m60)) := rfl
theorem gt_c61 : gt_wd (7, 98) = some (Cond.code (gx_y gt_m61) (gx_cc gt_m61) (gx_ml gt_m61) (gx_rt gt_m61)) := rfl
theorem gt_c62 : gt_wd (12, 141) = some (Cond.code (gx_y gt_m62) (gx_cc gt_m62) (gx_ml gt_m62) (gx_rt gt_m62)) := rfl
theorem gt_c63 : gt_wd (7, 101) = some (Cond.codeWith (gx_y gt_m63) (gx_cc gt_m63) (gx_ml gt_m63) (gx_rt gt_m63) (gx_hs gt_m63)) := rfl
theorem gt_c64 : gt_wd (7, 106) = some (Cond.code (gx_y gt_m64) (gx_cc gt_m64) (gx_ml gt_m64) (gx_rt gt_m64)) := rfl
theorem gt_c65 : gt_wd (12, 145) = some (Cond.code (gx_y gt_m65) (gx_cc gt_m65) (gx_ml gt_m65) (gx_rt gt_m65)) := rfl
theorem gt_c66 : gt_wd (7, 125) = some (Cond.codeWith (gx_y gt_m66) (gx_cc gt_m66) (gx_ml gt_m66) (gx_rt gt_m66) (gx_hs gt_m66)) := rfl
theorem gt_c67 : gt_wd (7, 129) = some (Cond.code (gx_y gt_m67) (gx_cc gt_m67) (gx_ml gt_m67) (gx_rt gt_m67)) := rfl
theorem gt_c68 : gt_wd (12, 149) = some (Cond.code (gx_y gt_m68) (gx_cc gt_m68) (gx_ml gt_m68) (gx_rt gt_m68)) := rfl
theorem gt_c69 : gt_wd (7, 136) = some (Cond.codeWith (gx_y gt_m69) (gx_cc gt_m69) (gx_ml gt_m69) (gx_rt gt_m69) (gx_hs gt_m69)) := rfl
theorem gt_c70 : gt_wd (7, 140) = some (Cond.code (gx_y gt_m70) (gx_cc gt_m70) (gx_ml gt_m70) (gx_rt gt_m70)) := rfl
theorem gt_c71 : gt_wd (12, 153) = some (Cond.code (gx_y gt_m71) (gx_cc gt_m71) (gx_ml gt_m71) (gx_rt gt_m71)) := rfl
theorem gt_c72 : gt_wd (7, 144) = some (Cond.codeWith (gx_y gt_m72) (gx_cc gt_m72) (gx_ml gt_m72) (gx_rt gt_m72) (gx_hs gt_m72)) := rfl
theorem gt_c73 : gt_wd (7, 148) = some (Cond.code (gx_y gt_m73) (gx_cc gt_m73) (gx_ml gt_m73) (gx_rt gt_m73)) := rfl
theorem gt_c74 : gt_wd (7, 152) = some (Cond.code (gx_y gt_m74) (gx_cc gt_m74) (gx_ml gt_m74) (gx_rt gt_m74)) := rfl
theorem gt_c75 : gt_wd (12, 161) = some (Cond.code (gx_y gt_m75) (gx_cc gt_m75) (gx_ml gt_m75) (gx_rt gt_m75)) := rfl
theorem gt_c76 : gt_wd (7, 157) = some (Cond.code (gx_y gt_m76) (gx_cc gt_m76) (gx_ml gt_m76) (gx_rt gt_m76)) := rfl
theorem gt_c77 : gt_wd (7, 161) = some (Cond.code (gx_y gt_m77) (gx_cc gt_m77) (gx_ml gt_m77) (gx_rt gt_m77)) := rfl
theorem gt_c78 : gt_wd (7, 166) = some (Cond.code (gx_y gt_m78) (gx_cc gt_m78) (gx_ml gt_m78) (gx_rt gt_m78)) := rfl
theorem gt_c79 : gt_wd (7, 171) = some (Cond.code (gx_y gt_m79) (gx_cc gt_m79) (gx_ml gt_m79) (gx_rt gt_m79)) := rfl
theorem gt_c80 : gt_wd (7, 175) = some (Cond.code (gx_y gt_m80) (gx_cc gt_m80) (gx_ml gt_m80) (gx_rt gt_m80)) := rfl
theorem gt_c81 : gt_wd (7, 179) = some (Cond.code (gx_y gt_m81) (gx_cc gt_m81) (gx_ml gt_m81) (gx_rt gt_m81)) := rfl
theorem gt_c82 : gt_wd (7, 183) = some (Cond.code (gx_y gt_m82) (gx_cc gt_m82) (gx_ml gt_m82) (gx_rt gt_m82)) := rfl
theorem gt_c83 : gt_wd (7, 187) = some (Cond.code (gx_y gt_m83) (gx_cc gt_m83) (gx_ml gt_m83) (gx_rt gt_m83)) := rfl
theorem gt_c84 : gt_wd (7, 192) = some (Cond.code (gx_y gt_m84) (gx_cc gt_m84) (gx_ml gt_m84) (gx_rt gt_m84)) := rfl
theorem gt_c85 : gt_wd (7, 197) = some (Cond.code (gx_y gt_m85) (gx_cc gt_m85) (gx_ml gt_m85) (gx_rt gt_m85)) := rfl
theorem gt_c86 : gt_wd (7, 201) = some (Cond.code (gx_y gt_m86) (gx_cc gt_m86) (gx_ml gt_m86) (gx_rt gt_m86)) := rfl
theorem gt_c87 : gt_wd (12, 165) = some (Cond.code (gx_y gt_m87) (gx_cc gt_m87) (gx_ml gt_m87) (gx_rt gt_m87)) := rfl
theorem gt_c88 : gt_wd (12, 169) = some (Cond.code (gx_y gt_m88) (gx_cc gt_m88) (gx_ml gt_m88) (gx_rt gt_m88)) := rfl
theorem gt_c89 : gt_wd (12, 173) = some (Cond.code (gx_y gt_m89) (gx_cc gt_m89) (gx_ml gt_m89) (gx_rt gt_m89)) := rfl
theorem gt_c90 : gt_wd (12, 178) = some (Cond.code (gx_y gt_m90) (gx_cc gt_m90) (gx_ml gt_m90) (gx_rt gt_m90)) := rfl
theorem gt_c91 : gt_wd (7, 207) = some (Cond.codeWith (gx_y gt_m91) (gx_cc gt_m91) (gx_ml gt_m91) (gx_rt gt_m91) (gx_hs gt_m91)) := rfl
theorem gt_c92 : gt_wd (7, 211) = some (Cond.code (gx_y gt_m92) (gx_cc gt_m92) (gx_ml gt_m92) (gx_rt gt_m92)) := rfl
theorem gt_c93 : gt_wd (12, 182) = some (Cond.code (gx_y gt_m93) (gx_cc gt_m93) (gx_ml gt_m93) (gx_rt gt_m93)) := rfl
theorem gt_c94 : gt_wd (3, 62) = some (Cond.code (gx_y gt_m94) (gx_cc gt_m94) (gx_ml gt_m94) (gx_rt gt_m94)) := rfl
theorem gt_c95 : gt_wd (12, 186) = some (Cond.code (gx_y gt_m95) (gx_cc gt_m95) (gx_ml gt_m95) (gx_rt gt_m95)) := rfl
def gt_cw (M : gx_M) : Prop := (gx_hs M = [] ∧ Cond.code (gx_y M) (gx_cc M) (gx_ml M) (gx_rt M) ∈ gt_Tb) ∨ Cond.codeWith (gx_y M) (gx_cc M) (gx_ml M) (gx_rt M) (gx_hs M) ∈ gt_Tb
theorem gt_cws : ∀ j M, j ≠ 0 → gt_mm[j]? = some M → gt_cw M := by
  intro j M h0 h
  have hlt : j < 96 := (List.getElem?_eq_some_iff.mp h).1
  match j, hlt with
  | 0, _ => exact absurd rfl h0
  | 1, _ => cases h; exact Or.inl ⟨rfl, gt_in gt_c1 rfl⟩
  | 2, _ => cases h; exact Or.inl ⟨rfl, gt_in gt_c2 rfl⟩
  | 3, _ => cases h; exact Or.inl ⟨rfl, gt_in gt_c3 rfl⟩
  | 4, _ => cases h; exact Or.inl ⟨rfl, gt_in gt_c4 rfl⟩
  | 5, _ => cases h; exact Or.inl ⟨rfl, gt_in gt_c5 rfl⟩
  | 6, _ => cases h; exact Or.inl ⟨rfl, gt_in gt_c6 rfl⟩
  | 7, _ => cases h; exact Or.inl ⟨rfl, gt_in gt_c7 rfl⟩
  | 8, _ => cases h; exact Or.inl ⟨rfl, gt_in gt_c8 rfl⟩
  | 9, _ => cases h; exact Or.inl ⟨rfl, gt_in gt_c9 rfl⟩
  | 10, _ => cases h; exact Or.inl ⟨rfl, gt_in gt_c10 rfl⟩
  | 11, _ => cases h; exact Or.inl ⟨rfl, gt_in gt_c11 rfl⟩
  | 12, _ => cases h; exact Or.inl ⟨rfl, gt_in gt_c12 rfl⟩
  | 13, _ => cases h; exact Or.inl ⟨rfl, gt_in gt_c13 rfl⟩
  | 14, _ => cases h; exact Or.inl ⟨rfl, gt_in gt_c14 rfl⟩
  | 15, _ => cases h; exact Or.inl ⟨rfl, gt_in gt_c15 rfl⟩
  | 16, _ => cases h; exact Or.inl ⟨rfl, gt_in gt_c16 rfl⟩
  | 17, _ => cases h; exact Or.inl ⟨rfl, gt_in gt_c17 rfl⟩
  | 18, _ => cases h; exact Or.inr (gt_in gt_c18 rfl)
  | 19, _ => cases h; exact Or.inl ⟨rfl, gt_in gt_c19 rfl⟩
  | 20, _ => cases h; exact Or.inl ⟨rfl, gt_in gt_c20 rfl⟩
  | 21, _ => cases h; exact Or.inl ⟨rfl, gt_in gt_c21 rfl⟩
  | 22, _ => cases h; exact Or.inl ⟨rfl, gt_in gt_c22 rfl⟩
  | 23, _ => cases h; exact Or.inl ⟨rfl, gt_in gt_c23 rfl⟩
  | 24, _ => cases h; exact Or.inr (gt_in gt_c24 rfl)
  | 25, _ => cases h; exact Or.inl ⟨rfl, gt_in gt_c25 rfl⟩
  | 26, _ => cases h; exact Or.inl ⟨rfl, gt_in gt_c26 rfl⟩
  | 27, _ => cases h; exact Or.inr (gt_in gt_c27 rfl)
  | 28, _ => cases h; exact Or.inl ⟨rfl, gt_in gt_c28 rfl⟩
  | 29, _ => cases h; exact Or.inl ⟨rfl, gt_in gt_c29 rfl⟩
  | 30, _ => cases h; exact Or.inr (gt_in gt_c30 rfl)
  | 31, _ => cases h; exact Or.inl ⟨rfl, gt_in gt_c31 rfl⟩
  | 32, _ => cases h; exact Or.inl ⟨rfl, gt_in gt_c32 rfl⟩
  | 33, _ => cases h; exact Or.inl ⟨rfl, gt_in gt_c33 rfl⟩
  | 34, _ => cases h; exact Or.inl ⟨rfl, gt_in gt_c34 rfl⟩
  | 35, _ => cases h; exact Or.inl ⟨rfl, gt_in gt_c35 rfl⟩
  | 36, _ => cases h; exact Or.inl ⟨rfl, gt_in gt_c36 rfl⟩
  | 37, _ => cases h; exact Or.inl ⟨rfl, gt_in gt_c37 rfl⟩
  | 38, _ => cases h; exact Or.inl ⟨rfl, gt_in gt_c38 rfl⟩
  | 39, _ => cases h; exact Or.inr (gt_in gt_c39 rfl)
  | 40, _ => cases h; exact Or.inl ⟨rfl, gt_in gt_c40 rfl⟩
  | 41, _ => cases h; exact Or.inl ⟨rfl, gt_in gt_c41 rfl⟩
  | 42, _ => cases h; exact Or.inr (gt_in gt_c42 rfl)
  | 43, _ => cases h; exact Or.inl ⟨rfl, gt_in gt_c43 rfl⟩
  | 44, _ => cases h; exact Or.inl ⟨rfl, gt_in gt_c44 rfl⟩
  | 45, _ => cases h; exact Or.inl ⟨rfl, gt_in gt_c45 rfl⟩
  | 46, _ => cases h; exact Or.inl ⟨rfl, gt_in gt_c46 rfl⟩
  | 47, _ => cases h; exact Or.inl ⟨rfl, gt_in gt_c47 rfl⟩
  | 48, _ => cases h; exact Or.inl ⟨rfl, gt_in gt_c48 rfl⟩
  | 49, _ => cases h; exact Or.inl ⟨rfl, gt_in gt_c49 rfl⟩
  | 50, _ => cases h; exact Or.inr (gt_in gt_c50 rfl)
  | 51, _ => cases h; exact Or.inl ⟨rfl, gt_in gt_c51 rfl⟩
  | 52, _ => cases h; exact Or.inl ⟨rfl, gt_in gt_c52 rfl⟩
  | 53, _ => cases h; exact Or.inl ⟨rfl, gt_in gt_c53 rfl⟩
  | 54, _ => cases h; exact Or.inr (gt_in gt_c54 rfl)
  | 55, _ => cases h; exact Or.inl ⟨rfl, gt_in gt_c55 rfl⟩
  | 56, _ => cases h; exact Or.inl ⟨rfl, gt_in gt_c56 rfl⟩
  | 57, _ => cases h; exact Or.inr (gt_in gt_c57 rfl)
  | 58, _ => cases h; exact Or.inl ⟨rfl, gt_in gt_c58 rfl⟩
  | 59, _ => cases h; exact Or.inl ⟨rfl, gt_in gt_c59 rfl⟩
  | 60, _ => cases h; exact Or.inr (gt_in gt_c60 rfl)
  | 61, _ => cases h; exact Or.inl ⟨rfl, gt_in gt_c61 rfl⟩
  | 62, _ => cases h; exact Or.inl ⟨rfl, gt_in gt_c62 rfl⟩
  | 63, _ => cases h; exact Or.inr (gt_in gt_c63 rfl)
  | 64, _ => cases h; exact Or.inl ⟨rfl, gt_in gt_c64 rfl⟩
  | 65, _ => cases h; exact Or.inl ⟨rfl, gt_in gt_c65 rfl⟩
  | 66, _ => cases h; exact Or.inr (gt_in gt_c66 rfl)
  | 67, _ => cases h; exact Or.inl ⟨rfl, gt_in gt_c67 rfl⟩
  | 68, _ => cases h; exact Or.inl ⟨rfl, gt_in gt_c68 rfl⟩
  | 69, _ => cases h; exact Or.inr (gt_in gt_c69 rfl)
  | 70, _ => cases h; exact Or.inl ⟨rfl, gt_in gt_c70 rfl⟩
  | 71, _ => cases h; exact Or.inl ⟨rfl, gt_in gt_c71 rfl⟩
  | 72, _ => cases h; exact Or.inr (gt_in gt_c72 rfl)
  | 73, _ => cases h; exact Or.inl ⟨rfl, gt_in gt_c73 rfl⟩
  | 74, _ => cases h; exact Or.inl ⟨rfl, gt_in gt_c74 rfl⟩
  | 75, _ => cases h; exact Or.inl ⟨rfl, gt_in gt_c75 rfl⟩
  | 76, _ => cases h; exact Or.inl ⟨rfl, gt_in gt_c76 rfl⟩
  | 77, _ => cases h; exact Or.inl ⟨rfl, gt_in gt_c77 rfl⟩
  | 78, _ => cases h; exact Or.inl ⟨rfl, gt_in gt_c78 rfl⟩
  | 79, _ => cases h; exact Or.inl ⟨rfl, gt_in gt_c79 rfl⟩
  | 80, _ => cases h; exact Or.inl ⟨rfl, gt_in gt_c80 rfl⟩
  | 81, _ => cases h; exact Or.inl ⟨rfl, gt_in gt_c81 rfl⟩
  | 82, _ => cases h; exact Or.inl ⟨rfl, gt_in gt_c82 rfl⟩
  | 83, _ => cases h; exact Or.inl ⟨rfl, gt_in gt_c83 rfl⟩
  | 84, _ => cases h; exact Or.inl ⟨rfl, gt_in gt_c84 rfl⟩
  | 85, _ => cases h; exact Or.inl ⟨rfl, gt_in gt_c85 rfl⟩
  | 86, _ => cases h; exact Or.inl ⟨rfl, gt_in gt_c86 rfl⟩
  | 87, _ => cases h; exact Or.inl ⟨rfl, gt_in gt_c87 rfl⟩
  | 88, _ => cases h; exact Or.inl ⟨rfl, gt_in gt_c88 rfl⟩
  | 89, _ => cases h; exact Or.inl ⟨rfl, gt_in gt_c89 rfl⟩
  | 90, _ => cases h; exact Or.inl ⟨rfl, gt_in gt_c90 rfl⟩
  | 91, _ => cases h; exact Or.inr (gt_in gt_c91 rfl)
  | 92, _ => cases h; exact Or.inl ⟨rfl, gt_in gt_c92 rfl⟩
  | 93, _ => cases h; exact Or.inl ⟨rfl, gt_in gt_c93 rfl⟩
  | 94, _ => cases h; exact Or.inl ⟨rfl, gt_in gt_c94 rfl⟩
  | 95, _ => cases h; exact Or.inl ⟨rfl, gt_in gt_c95 rfl⟩
  | n + 96, hl => omega
theorem gt_cws2 : ∀ j M, j ≠ 0 → gt_mm[j]? = some M → gx_hs M = [] → Cond.code (gx_y M) (gx_cc M) (gx_ml M) (gx_rt M) ∈ gt_Tb := by
  intro j M h0 h hh
  have hlt : j < 96 := (List.getElem?_eq_some_iff.mp h).1
  match j, hlt with
  | 0, _ => exact absurd rfl h0
  | 1, _ => cases h; exact gt_in gt_c1 rfl
  | 2, _ => cases h; exact gt_in gt_c2 rfl
  | 3, _ => cases h; exact gt_in gt_c3 rfl
  | 4, _ => cases h; exact gt_in gt_c4 rfl
  | 5, _ => cases h; exact gt_in gt_c5 rfl
  | 6, _ => cases h; exact gt_in gt_c6 rfl
  | 7, _ => cases h; exact gt_in gt_c7 rfl
  | 8, _ => cases h; exact gt_in gt_c8 rfl
  | 9, _ => cases h; exact gt_in gt_c9 rfl
  | 10, _ => cases h; exact gt_in gt_c10 rfl
  | 11, _ => cases h; exact gt_in gt_c11 rfl
  | 12, _ => cases h; exact gt_in gt_c12 rfl
  | 13, _ => cases h; exact gt_in gt_c13 rfl
  | 14, _ => cases h; exact gt_in gt_c14 rfl
  | 15, _ => cases h; exact gt_in gt_c15 rfl
  | 16, _ => cases h; exact gt_in gt_c16 rfl
  | 17, _ => cases h; exact gt_in gt_c17 rfl
  | 18, _ => cases h; cases hh
  | 19, _ => cases h; exact gt_in gt_c19 rfl
  | 20, _ => cases h; exact gt_in gt_c20 rfl
  | 21, _ => cases h; exact gt_in gt_c21 rfl
  | 22, _ => cases h; exact gt_in gt_c22 rfl
  | 23, _ => cases h; exact gt_in gt_c23 rfl
  | 24, _ => cases h; cases hh
  | 25, _ => cases h; exact gt_in gt_c25 rfl
  | 26, _ => cases h; exact gt_in gt_c26 rfl
  | 27, _ => cases h; cases hh
  | 28, _ => cases h; exact gt_in gt_c28 rfl
  | 29, _ => cases h; exact gt_in gt_c29 rfl
  | 30, _ => cases h; cases hh
  | 31, _ => cases h; exact gt_in gt_c31 rfl
  | 32, _ => cases h; exact gt_in gt_c32 rfl
  | 33, _ => cases h; exact gt_in gt_c33 rfl
  | 34, _ => cases h; exact gt_in gt_c34 rfl
  | 35, _ => cases h; exact gt_in gt_c35 rfl
  | 36, _ => cases h; exact gt_in gt_c36 rfl
  | 37, _ => cases h; exact gt_in gt_c37 rfl
  | 38, _ => cases h; exact gt_in gt_c38 rfl
  | 39, _ => cases h; cases hh
  | 40, _ => cases h; exact gt_in gt_c40 rfl
  | 41, _ => cases h; exact gt_in gt_c41 rfl
  | 42, _ => cases h; cases hh
  | 43, _ => cases h; exact gt_in gt_c43 rfl
  | 44, _ => cases h; exact gt_in gt_c44 rfl
  | 45, _ => cases h; exact gt_in gt_c45 rfl
  | 46, _ => cases h; exact gt_in gt_c46 rfl
  | 47, _ => cases h; exact gt_in gt_c47 rfl
  | 48, _ => cases h; exact gt_in gt_c48 rfl
  | 49, _ => cases h; exact gt_in gt_c49 rfl
  | 50, _ => cases h; cases hh
  | 51, _ => cases h; exact gt_in gt_c51 rfl
  | 52, _ => cases h; exact gt_in gt_c52 rfl
  | 53, _ => cases h; exact gt_in gt_c53 rfl
  | 54, _ => cases h; cases hh
  | 55, _ => cases h; exact gt_in gt_c55 rfl
  | 56, _ => cases h; exact gt_in gt_c56 rfl
  | 57, _ => cases h; cases hh
  | 58, _ => cases h; exact gt_in gt_c58 rfl
  | 59, _ => cases h; exact gt_in gt_c59 rfl
  | 60, _ => cases h; cases hh
  | 61, _ => cases h; exact gt_in gt_c61 rfl
  | 62, _ => cases h; exact gt_in gt_c62 rfl
  | 63, _ => cases h; cases hh
  | 64, _ => cases h; exact gt_in gt_c64 rfl
  | 65, _ => cases h; exact gt_in gt_c65 rfl
  | 66, _ => cases h; cases hh
  | 67, _ => cases h; exact gt_in gt_c67 rfl
  | 68, _ => cases h; exact gt_in gt_c68 rfl
  | 69, _ => cases h; cases hh
  | 70, _ => cases h; exact gt_in gt_c70 rfl
  | 71, _ => cases h; exact gt_in gt_c71 rfl
  | 72, _ => cases h; cases hh
  | 73, _ => cases h; exact gt_in gt_c73 rfl
  | 74, _ => cases h; exact gt_in gt_c74 rfl
  | 75, _ => cases h; exact gt_in gt_c75 rfl
  | 76, _ => cases h; exact gt_in gt_c76 rfl
  | 77, _ => cases h; exact gt_in gt_c77 rfl
  | 78, _ => cases h; exact gt_in gt_c78 rfl
  | 79, _ => cases h; exact gt_in gt_c79 rfl
  | 80, _ => cases h; exact gt_in gt_c80 rfl
  | 81, _ => cases h; exact gt_in gt_c81 rfl
  | 82, _ => cases h; exact gt_in gt_c82 rfl
  | 83, _ => cases h; exact gt_in gt_c83 rfl
  | 84, _ => cases h; exact gt_in gt_c84 rfl
  | 85, _ => cases h; exact gt_in gt_c85 rfl
  | 86, _ => cases h; exact gt_in gt_c86 rfl
  | 87, _ => cases h; exact gt_in gt_c87 rfl
  | 88, _ => cases h; exact gt_in gt_c88 rfl
  | 89, _ => cases h; exact gt_in gt_c89 rfl
  | 90, _ => cases h; exact gt_in gt_c90 rfl
  | 91, _ => cases h; cases hh
  | 92, _ => cases h; exact gt_in gt_c92 rfl
  | 93, _ => cases h; exact gt_in gt_c93 rfl
  | 94, _ => cases h; exact gt_in gt_c94 rfl
  | 95, _ => cases h; exact gt_in gt_c95 rfl
  | n + 96, hl => omega
end
section
noncomputable def gt_q3 (ow idx : Nat) (v : Nat × Nat × Nat × Nat) : Bool := if v.1 = 3 then match gy_get gt_cl ow with
    | some ro => gt_is v.2.2 (Cond.methodLink ro.1 idx Lib.objectInit)
    | none => false
  else true
theorem gt_q3_all : gt_all gt_q3 0 gt_mt = true := by decide +kernel
noncomputable def gt_q4 (ow idx : Nat) (v : Nat × Nat × Nat × Nat) : Bool := if v.1 = 4 then match gy_get gt_cl ow with
    | some ro => gt_is v.2.2 (Cond.methodLink ro.1 idx arraycopyName)
    | none => false
  else true
theorem gt_q4_all : gt_all gt_q4 0 gt_mt = true := by decide +kernel
noncomputable def gt_q9 (ow idx : Nat) (v : Nat × Nat × Nat × Nat) : Bool := if v.1 = 9 then match gy_get gt_cl ow with
    | some ro => (match gy_get gt_cl v.2.1 with | some r => gt_is v.2.2 (Cond.classLink ro.1 idx r.1) && decide (0 < v.2.1) | none => false)
    | none => false
  else true
theorem gt_q9_all : gt_all gt_q9 0 gt_mt = true := by decide +kernel
noncomputable def gt_q10 (ow idx : Nat) (v : Nat × Nat × Nat × Nat) : Bool := if v.1 = 10 then match gy_get gt_cl ow with
    | some ro => gt_is v.2.2 (Cond.classLink ro.1 idx "[B")
    | none => false
  else true
theorem gt_q10_all : gt_all gt_q10 0 gt_mt = true := by decide +kernel
noncomputable def gt_q0 (ow idx : Nat) (v : Nat × Nat × Nat × Nat) : Bool := if v.1 = 0 then match gy_get gt_cl ow with
    | some ro => (match gy_get gt_mm v.2.1, gy_get gt_mp v.2.1 with | some M, some pl => decide (v.2.1 ≠ 0) && (gt_is v.2.2 (Cond.methodLink ro.1 idx (gx_y M)) && (gt_is pl.2.2.1 (Cond.static (gx_y M)) && decide ((parseMethodDescriptor (gx_y M).desc).map (fun d => d.parameters.length) = some (gx_na M)))) | _, _ => false)
    | none => false
  else true
theorem gt_q0_all : gt_all gt_q0 0 gt_mt = true := by decide +kernel
noncomputable def gt_q1 (ow idx : Nat) (v : Nat × Nat × Nat × Nat) : Bool := if v.1 = 1 then match gy_get gt_cl ow with
    | some ro => (match gy_get gt_mm v.2.1, gy_get gt_mp v.2.1 with | some M, some pl => decide (v.2.1 ≠ 0) && (gt_is v.2.2 (Cond.methodLink ro.1 idx (gx_y M)) && (gt_is pl.2.2.2.1 (Cond.instanceMethod (gx_y M)) && (gt_is pl.2.2.2.2.1 (Cond.selects (gx_y M).cls (gx_y M) (gx_y M)) && (decide (gx_na M = gx_na M - 1 + 1) && decide ((parseMethodDescriptor (gx_y M).desc).map (fun d => d.parameters.length) = some (gx_na M - 1)))))) | _, _ => false)
    | none => false
  else true
theorem gt_q1_all : gt_all gt_q1 0 gt_mt = true := by decide +kernel
noncomputable def gt_q2 (ow idx : Nat) (v : Nat × Nat × Nat × Nat) : Bool := if v.1 = 2 then match gy_get gt_cl ow with
    | some ro => (match gy_get gt_mm v.2.1, gy_get gt_mp v.2.1 with | some M, some pl => decide (v.2.1 ≠ 0) && (gt_is v.2.2 (Cond.methodLink ro.1 idx (gx_y M)) && (gt_is pl.2.2.2.1 (Cond.instanceMethod (gx_y M)) && (decide (gx_rt M = none) && (decide (gx_hs M = []) && (decide ((gx_y M).name = "<init>") && (decide (gx_na M = gx_na M - 1 + 1) && decide ((parseMethodDescriptor (gx_y M).desc).map (fun d => d.parameters.length) = some (gx_na M - 1)))))))) | _, _ => false)
    | none => false
  else true
theorem gt_q2_all : gt_all gt_q2 0 gt_mt = true := by decide +kernel
noncomputable def gt_q7 (ow idx : Nat) (v : Nat × Nat × Nat × Nat) : Bool := if v.1 = 7 then match gy_get gt_cl ow with
    | some ro => (match gy_get gt_mm v.2.1, gy_get gt_mp v.2.1 with | some M, some pl => decide (v.2.1 ≠ 0) && (gt_is pl.2.2.2.1 (Cond.instanceMethod (gx_y M)) && (decide (gx_rt M = none) && (decide (gx_hs M = []) && (decide ((gx_y M).name = "<init>") && (decide (gx_na M = gx_na M - 1 + 1) && decide ((parseMethodDescriptor (gx_y M).desc).map (fun d => d.parameters.length) = some (gx_na M - 1))))))) | _, _ => false)
    | none => false
  else true
theorem gt_q7_all : gt_all gt_q7 0 gt_mt = true := by decide +kernel
theorem gt_mtk {ow idx k j : Nat} (h : gx_mt gt_G ow idx = some (k, j)) : ∃ q, gt_lu gt_mt ow idx = some (k, j, q) := by
  have h' : (gt_lu gt_mt ow idx).map (fun e => (e.1, e.2.1)) = some (k, j) := h
  obtain ⟨v, hv, he⟩ := Option.map_eq_some_iff.mp h'
  cases he
  exact ⟨v.2.2, hv⟩
theorem gt_mmk {j : Nat} {M : gx_M} (h0 : j ≠ 0) (h : gt_mm[j]? = some M) : gx_mm gt_G j = some M := by
  show (if j = 0 then none else gy_get gt_mm j) = some M
  rw [if_neg h0, gy_get_eq]
  exact h
noncomputable def gt_qk (ow idx : Nat) (v : (Int32 ⊕ (Int64 ⊕ Nat)) × Nat × Nat) : Bool := match gy_get gt_cl ow with
  | some ro => (match v.1 with
    | .inl x => gt_is v.2 (Cond.constant ro.1 idx x)
    | .inr (.inl x) => gt_is v.2 (Cond.constantLong ro.1 idx x)
    | .inr (.inr _) => true)
  | none => false
theorem gt_qk_all : gt_all gt_qk 0 gt_ks = true := by decide +kernel
theorem gt_gM : gx_gM gt_G gt_cl gt_Tb := by
  refine ⟨?_, ?_, ?_, ?_, ?_, ?_, ?_⟩
  · intro ow idx j h
    obtain ⟨q, hq⟩ := gt_mtk h
    have hc := gt_ck gt_q3_all hq
    unfold gt_q3 at hc
    rw [if_pos rfl] at hc
    split at hc
    · rename_i ro h1
      rw [gy_get_eq] at h1
      exact ⟨ro, h1, gt_is_in hc, gt_in (q := (1, 43)) rfl rfl, gt_in (q := (1, 44)) rfl rfl⟩
    · cases hc
  · intro ow idx j h
    obtain ⟨q, hq⟩ := gt_mtk h
    have hc := gt_ck gt_q4_all hq
    unfold gt_q4 at hc
    rw [if_pos rfl] at hc
    split at hc
    · rename_i ro h1
      rw [gy_get_eq] at h1
      exact ⟨ro, h1, gt_is_in hc, gt_in (q := (7, 45)) rfl rfl, gt_in (q := (7, 44)) rfl rfl, gt_in (q := (1, 25)) rfl rfl⟩
    · cases hc
  · intro ow idx ci h
    obtain ⟨q, hq⟩ := gt_mtk h
    have hc := gt_ck gt_q9_all hq
    unfold gt_q9 at hc
    rw [if_pos rfl] at hc
    split at hc
    · rename_i ro h1
      rw [gy_get_eq] at h1
      split at hc
      · rename_i r h2
        rw [gy_get_eq] at h2
        simp only [Bool.and_eq_true, decide_eq_true_eq] at hc
        exact ⟨ro, r, h1, h2, gt_is_in hc.1, hc.2⟩
      · cases hc
    · cases hc
  · intro ow idx ci h
    obtain ⟨q, hq⟩ := gt_mtk h
    have hc := gt_ck gt_q10_all hq
    unfold gt_q10 at hc
    rw [if_pos rfl] at hc
    split at hc
    · rename_i ro h1
      rw [gy_get_eq] at h1
      exact ⟨ro, h1, gt_is_in hc⟩
    · cases hc
  · intro ow idx x h
    have h' : (gt_lu gt_ks ow idx).map (fun e => e.1) = some (.inl x) := h
    obtain ⟨v, hv, he⟩ := Option.map_eq_some_iff.mp h'
    have hc := gt_ck gt_qk_all hv
    unfold gt_qk at hc
    split at hc
    · rename_i ro h1
      rw [gy_get_eq] at h1
      rw [he] at hc
      exact ⟨ro, h1, gt_is_in hc⟩
    · cases hc
  · intro ow idx x h
    have h' : (gt_lu gt_ks ow idx).map (fun e => e.1) = some (.inr (.inl x)) := h
    obtain ⟨v, hv, he⟩ := Option.map_eq_some_iff.mp h'
    have hc := gt_ck gt_qk_all hv
    unfold gt_qk at hc
    split at hc
    · rename_i ro h1
      rw [gy_get_eq] at h1
      rw [he] at hc
      exact ⟨ro, h1, gt_is_in hc⟩
    · cases hc
  · intro t tg h
    cases t <;> simp only [gx_tyo] at h <;> first | (cases h; done) | skip
    · exact gt_in (q := (3, 53)) rfl rfl
    · exact gt_in (q := (1, 121)) rfl rfl
    · exact gt_in (q := (1, 120)) rfl rfl
    · exact gt_in (q := (3, 54)) rfl rfl
theorem gt_gd : gx_gd gt_G gt_cl gt_Tb := by
  refine ⟨gt_gF, gt_gK, gt_gC, gt_gM, fun ci r h0 hr => ?_⟩
  have hlt : ci < gt_cl.length := (List.getElem?_eq_some_iff.mp hr).1
  have key : ∀ k, k < gt_cl.length → 0 < k → ((gy_get gt_kl k).join).isSome = true := by decide +kernel
  exact Option.isSome_iff_exists.mp (key ci hlt h0)
theorem gt_gL : gx_gL gt_G gt_cl gt_Tb := by
  refine ⟨?_, ?_, ?_, ?_⟩
  · intro ow idx j h
    obtain ⟨q, hq⟩ := gt_mtk h
    have hc := gt_ck gt_q0_all hq
    unfold gt_q0 at hc
    rw [if_pos rfl] at hc
    split at hc
    · rename_i ro h1
      rw [gy_get_eq] at h1
      split at hc
      · rename_i M pl h2 h3
        rw [gy_get_eq] at h2
        simp only [Bool.and_eq_true, decide_eq_true_eq] at hc
        exact ⟨ro, M, h1, gt_mmk hc.1 h2, gt_is_in hc.2.1, gt_is_in hc.2.2.1, hc.2.2.2⟩
      · cases hc
    · cases hc
  · intro ow idx j h
    obtain ⟨q, hq⟩ := gt_mtk h
    have hc := gt_ck gt_q1_all hq
    unfold gt_q1 at hc
    rw [if_pos rfl] at hc
    split at hc
    · rename_i ro h1
      rw [gy_get_eq] at h1
      split at hc
      · rename_i M pl h2 h3
        rw [gy_get_eq] at h2
        simp only [Bool.and_eq_true, decide_eq_true_eq] at hc
        exact ⟨ro, M, gx_na M - 1, h1, gt_mmk hc.1 h2, gt_is_in hc.2.1, gt_is_in hc.2.2.1, gt_is_in hc.2.2.2.1, hc.2.2.2.2.1, hc.2.2.2.2.2⟩
      · cases hc
    · cases hc
  · intro ow idx j h
    obtain ⟨q, hq⟩ := gt_mtk h
    have hc := gt_ck gt_q2_all hq
    unfold gt_q2 at hc
    rw [if_pos rfl] at hc
    split at hc
    · rename_i ro h1
      rw [gy_get_eq] at h1
      split at hc
      · rename_i M pl h2 h3
        rw [gy_get_eq] at h2
        simp only [Bool.and_eq_true, decide_eq_true_eq] at hc
        obtain ⟨c0, c1, c2, c3, c4, c5, c6, c7⟩ := hc
        have hw := gt_cws2 _ M c0 h2 c4
        rw [c3] at hw
        exact ⟨ro, M, gx_na M - 1, h1, gt_mmk c0 h2, gt_is_in c1, gt_is_in c2, hw, c5, c6, c7⟩
      · cases hc
    · cases hc
  · intro ow idx j h
    obtain ⟨q, hq⟩ := gt_mtk h
    have hc := gt_ck gt_q7_all hq
    unfold gt_q7 at hc
    rw [if_pos rfl] at hc
    split at hc
    · rename_i ro h1
      split at hc
      · rename_i M pl h2 h3
        rw [gy_get_eq] at h2
        simp only [Bool.and_eq_true, decide_eq_true_eq] at hc
        obtain ⟨c0, c2, c3, c4, c5, c6, c7⟩ := hc
        have hw := gt_cws2 _ M c0 h2 c4
        rw [c3] at hw
        exact ⟨M, gx_na M - 1, gt_mmk c0 h2, gt_is_in c2, hw, c5, c6, c7⟩
      · cases hc
    · cases hc
end
section
def gt_dec (cc : ByteArray) : List (Nat × Instr) → List Nat → Bool
  | [], _ => true
  | q :: t, n :: r => decide (decode cc q.1 = .ok (q.2, n)) && ((decide (gx_len q.2 = 0) || decide (n = gx_len q.2)) && gt_dec cc t r)
  | _ :: _, [] => false
theorem gt_dec_ok {cc : ByteArray} : ∀ {l : List (Nat × Instr)} {ns : List Nat} {pc : Nat} {i : Instr}, gt_dec cc l ns = true → (pc, i) ∈ l → ∃ len, decode cc pc = .ok (i, len) ∧ (gx_len i = 0 ∨ len = gx_len i)
  | [], _, _, _, _, h => by cases h
  | q :: t, n :: r, pc, i, h, hm => by
    simp only [gt_dec, Bool.and_eq_true, Bool.or_eq_true, decide_eq_true_eq] at h
    rcases List.mem_cons.mp hm with rfl | hm
    · exact ⟨n, h.1, h.2.1⟩
    · exact gt_dec_ok h.2.2 hm
  | _ :: _, [], _, _, h, _ => by simp [gt_dec] at h
theorem gt_at_in {M : gx_M} {pc : Nat} {i : Instr} (h : gx_at M pc = some i) : ∃ c ∈ gx_is M, (pc, i) ∈ c.flatten := by
  unfold gx_at at h
  split at h
  · rename_i a ha
    split at h
    · rename_i b hb
      obtain ⟨e, he, rfl⟩ := Option.map_eq_some_iff.mp h
      have h1 := List.find?_some he
      have h2 := List.mem_of_find?_eq_some he
      simp only [beq_iff_eq] at h1
      rw [← h1]
      exact ⟨a, List.mem_of_getElem? ha, List.mem_flatten.mpr ⟨b, List.mem_of_getElem? hb, h2⟩⟩
    · cases h
  · cases h

def gt_dm (M : gx_M) : Prop := ∀ c ∈ gx_is M, ∃ ns, gt_dec (gx_cc M) c.flatten ns = true
theorem gt_d0_0 : gt_dec (gx_cc gt_m0) gt_i0_0.flatten [3, 1, 3, 1, 3, 1, 3, 1, 1, 2, 1, 1, 2, 2, 1, 1, 2, 1, 3, 1, 2, 1, 2, 1, 84] = true := by decide +kernel
theorem gt_d0_1 : gt_dec (gx_cc gt_m0) gt_i0_1.flatten [1, 1, 2] = true := by decide +kernel
theorem gt_d0_2 : gt_dec (gx_cc gt_m0) gt_i0_2.flatten [1, 1, 1, 1, 2, 1, 1, 1, 1, 2, 1, 1, 1, 1, 2, 1, 1, 1, 1, 2, 1, 1, 1, 1, 3, 2, 1, 1, 2, 1, 1, 1, 1, 2, 1, 1, 1, 1, 2, 1, 1, 1, 1, 2, 1, 1, 1, 1, 2, 1, 1, 1] = true := by decide +kernel
theorem gt_d0_3 : gt_dec (gx_cc gt_m0) gt_i0_3.flatten [3, 2, 1, 3, 2, 3, 1, 1, 2, 3, 1, 1, 1, 2, 1, 1, 3, 1, 1, 3, 1, 1, 2, 1, 1, 1, 1, 3, 2, 1, 1, 2, 1, 1, 1, 3, 2, 1, 3] = true := by decide +kernel
theorem gt_d0_4 : gt_dec (gx_cc gt_m0) gt_i0_4.flatten [2, 3, 1, 1, 2, 3, 1, 1, 1, 2, 1, 1, 3, 1, 1, 3, 1, 1, 2, 1, 1, 1, 1, 2, 1, 1, 1, 1, 2, 1, 1, 1, 3, 1, 3, 1, 3, 2, 1, 1, 2] = true := by decide +kernel
theorem gt_d0_5 : gt_dec (gx_cc gt_m0) gt_i0_5.flatten [1, 1, 1, 1, 2, 1, 1, 1, 1, 2, 1, 1, 1, 3, 1, 3, 1, 3, 1, 3, 2, 3, 1, 1, 3, 1, 1, 2, 1, 1, 1, 1, 3, 2, 1, 1, 2, 1, 1, 1, 3, 2] = true := by decide +kernel
theorem gt_d0_6 : gt_dec (gx_cc gt_m0) gt_i0_6.flatten [1, 3, 2, 3, 1, 1, 2, 3, 1, 1, 1, 2, 1, 1, 3, 1, 1, 3, 1, 3, 1, 3, 3, 1, 1, 1, 1, 2, 1, 1, 1, 1, 3, 2, 1, 1, 2, 1, 1] = true := by decide +kernel
theorem gt_d0_7 : gt_dec (gx_cc gt_m0) gt_i0_7.flatten [1, 3, 2, 1, 3, 2, 3, 1, 1, 2, 3, 1, 1, 1, 2, 1, 3, 1, 1, 3, 1, 1, 2, 1, 1, 1, 1, 2, 1, 1, 1, 3, 2, 1, 1, 2, 1, 1, 1, 1, 2] = true := by decide +kernel
theorem gt_d0_8 : gt_dec (gx_cc gt_m0) gt_i0_8.flatten [1, 1, 1, 3, 1, 3, 2, 3, 1, 1, 3, 1, 1, 2, 1, 1, 1, 1, 3, 2, 1, 1, 2, 1, 1, 1, 3, 2, 1, 3, 2, 3, 1, 1, 2, 3, 1, 1, 1] = true := by decide +kernel
theorem gt_d0_9 : gt_dec (gx_cc gt_m0) gt_i0_9.flatten [2, 1, 1, 3, 1, 1, 3, 1, 1, 2, 1, 1, 1, 1, 2, 1, 1, 1, 1, 3, 2, 1, 1, 2, 1, 1, 1, 1, 2, 1, 1, 1, 3, 2, 1, 3, 2, 3, 1, 1, 2, 3] = true := by decide +kernel
theorem gt_d0_10 : gt_dec (gx_cc gt_m0) gt_i0_10.flatten [1, 1, 1, 2, 1, 1, 3, 1, 1, 3, 1, 1, 2, 1, 1, 1, 1, 2, 1, 1, 1, 1, 3, 2, 1, 1, 2, 1, 1, 1, 1, 2, 1, 1, 1, 3, 2, 1, 3, 2, 3, 1, 1] = true := by decide +kernel
theorem gt_d0_11 : gt_dec (gx_cc gt_m0) gt_i0_11.flatten [2, 3, 1, 1, 1, 2, 1, 1, 3, 1, 1, 3, 1, 1, 2, 1, 1, 1, 1, 3, 2, 1, 1, 2, 1, 1, 1, 3, 2, 1, 3, 2, 3, 1, 1, 2, 3, 1, 1, 1] = true := by decide +kernel
theorem gt_d0_12 : gt_dec (gx_cc gt_m0) gt_i0_12.flatten [2, 1, 3, 1, 1, 3, 1, 1, 2, 1, 1, 1, 1, 2, 1, 1, 1, 1, 2, 1, 1, 1, 1, 3, 2, 1, 1, 2, 1, 1, 1, 1, 2, 1, 1, 1, 1, 2, 1, 1, 1, 3, 2, 1, 3] = true := by decide +kernel
theorem gt_d0_13 : gt_dec (gx_cc gt_m0) gt_i0_13.flatten [2, 3, 1, 1, 2, 3, 1, 1, 1, 2, 1, 1, 3, 1, 1, 3, 1, 1, 2, 1, 1, 1, 1, 3, 2, 1, 1, 2, 1, 1, 1, 3, 2, 1, 3, 2, 3, 1, 1, 2] = true := by decide +kernel
theorem gt_d0_14 : gt_dec (gx_cc gt_m0) gt_i0_14.flatten [3, 1, 1, 1, 2, 1, 1, 3, 1, 1, 3, 1, 1, 2, 1, 1, 1, 1, 2, 1, 1, 1, 1, 3, 2, 1, 1, 2, 1, 1, 1, 1, 2, 1, 1, 1, 3, 2, 1, 3, 2, 3] = true := by decide +kernel
theorem gt_d0_15 : gt_dec (gx_cc gt_m0) gt_i0_15.flatten [1, 1, 2, 3, 1, 1, 1, 2, 1, 1, 3, 1, 1, 3, 1, 1, 2, 1, 1, 1, 3, 2, 1, 1, 2, 1, 1, 1, 3, 1, 3, 2, 3, 1, 1, 3, 1, 1, 2, 1] = true := by decide +kernel
theorem gt_d0_16 : gt_dec (gx_cc gt_m0) gt_i0_16.flatten [1, 1, 3, 2, 1, 1, 2, 1, 1, 1, 3, 1, 3, 2, 3, 1, 1, 3, 1, 1, 2, 1, 1, 1, 3, 1, 1, 2, 1, 1, 1, 3, 3, 1, 1, 3, 3, 1, 1] = true := by decide +kernel
theorem gt_d0 : gt_dm gt_m0 := by
  show ∀ c ∈ [gt_i0_0, gt_i0_1, gt_i0_2, gt_i0_3, gt_i0_4, gt_i0_5, gt_i0_6, gt_i0_7, gt_i0_8, gt_i0_9, gt_i0_10, gt_i0_11, gt_i0_12, gt_i0_13, gt_i0_14, gt_i0_15, gt_i0_16], ∃ ns, gt_dec (gx_cc gt_m0) c.flatten ns = true
  exact List.forall_mem_cons.mpr ⟨⟨_, gt_d0_0⟩, List.forall_mem_cons.mpr ⟨⟨_, gt_d0_1⟩, List.forall_mem_cons.mpr ⟨⟨_, gt_d0_2⟩, List.forall_mem_cons.mpr ⟨⟨_, gt_d0_3⟩, List.forall_mem_cons.mpr ⟨⟨_, gt_d0_4⟩, List.forall_mem_cons.mpr ⟨⟨_, gt_d0_5⟩, List.forall_mem_cons.mpr ⟨⟨_, gt_d0_6⟩, List.forall_mem_cons.mpr ⟨⟨_, gt_d0_7⟩, List.forall_mem_cons.mpr ⟨⟨_, gt_d0_8⟩, List.forall_mem_cons.mpr ⟨⟨_, gt_d0_9⟩, List.forall_mem_cons.mpr ⟨⟨_, gt_d0_10⟩, List.forall_mem_cons.mpr ⟨⟨_, gt_d0_11⟩, List.forall_mem_cons.mpr ⟨⟨_, gt_d0_12⟩, List.forall_mem_cons.mpr ⟨⟨_, gt_d0_13⟩, List.forall_mem_cons.mpr ⟨⟨_, gt_d0_14⟩, List.forall_mem_cons.mpr ⟨⟨_, gt_d0_15⟩, List.forall_mem_cons.mpr ⟨⟨_, gt_d0_16⟩, fun _ h => absurd h List.not_mem_nil⟩⟩⟩⟩⟩⟩⟩⟩⟩⟩⟩⟩⟩⟩⟩⟩⟩
theorem gt_d1_0 : gt_dec (gx_cc gt_m1) gt_i1_0.flatten [1, 3, 1, 2, 2, 3, 1, 1, 3, 3, 1, 3, 1, 3, 1, 3, 1, 1, 3, 1, 3, 1, 3, 1, 1, 3, 1, 1, 1, 3, 1, 1, 3, 1, 3] = true := by decide +kernel
theorem gt_d1_1 : gt_dec (gx_cc gt_m1) gt_i1_1.flatten [1, 1, 1, 3, 1, 1, 3, 1, 1, 3, 3, 1, 1, 1, 1, 3, 1, 3, 1, 3, 1, 3, 1, 3, 3, 1, 1, 2, 3, 1, 1, 2, 3, 1, 1, 3] = true := by decide +kernel
theorem gt_d1_2 : gt_dec (gx_cc gt_m1) gt_i1_2.flatten [1] = true := by decide +kernel
theorem gt_d1 : gt_dm gt_m1 := by
  show ∀ c ∈ [gt_i1_0, gt_i1_1, gt_i1_2], ∃ ns, gt_dec (gx_cc gt_m1) c.flatten ns = true
  exact List.forall_mem_cons.mpr ⟨⟨_, gt_d1_0⟩, List.forall_mem_cons.mpr ⟨⟨_, gt_d1_1⟩, List.forall_mem_cons.mpr ⟨⟨_, gt_d1_2⟩, fun _ h => absurd h List.not_mem_nil⟩⟩⟩
theorem gt_d2_0 : gt_dec (gx_cc gt_m2) gt_i2_0.flatten [1, 3, 1, 3, 1, 3, 3, 1, 3, 1, 3, 3, 1, 3, 1, 3, 3, 1, 3, 1, 3, 3, 1, 3, 1, 3, 3, 1, 3, 1] = true := by decide +kernel
theorem gt_d2_1 : gt_dec (gx_cc gt_m2) gt_i2_1.flatten [3, 3, 1, 3, 1, 3, 3, 1, 3, 1, 3, 3, 1, 2, 2, 3, 1, 3, 2, 3, 1] = true := by decide +kernel
theorem gt_d2 : gt_dm gt_m2 := by
  show ∀ c ∈ [gt_i2_0, gt_i2_1], ∃ ns, gt_dec (gx_cc gt_m2) c.flatten ns = true
  exact List.forall_mem_cons.mpr ⟨⟨_, gt_d2_0⟩, List.forall_mem_cons.mpr ⟨⟨_, gt_d2_1⟩, fun _ h => absurd h List.not_mem_nil⟩⟩
theorem gt_d3_0 : gt_dec (gx_cc gt_m3) gt_i3_0.flatten [1, 3, 1, 2, 2, 3, 1, 2, 3, 1] = true := by decide +kernel
theorem gt_d3 : gt_dm gt_m3 := by
  show ∀ c ∈ [gt_i3_0], ∃ ns, gt_dec (gx_cc gt_m3) c.flatten ns = true
  exact List.forall_mem_cons.mpr ⟨⟨_, gt_d3_0⟩, fun _ h => absurd h List.not_mem_nil⟩
theorem gt_d4_0 : gt_dec (gx_cc gt_m4) gt_i4_0.flatten [1, 3, 1, 2, 2, 3, 1, 2, 2, 3, 1, 3, 1, 3, 3, 1] = true := by decide +kernel
theorem gt_d4 : gt_dm gt_m4 := by
  show ∀ c ∈ [gt_i4_0], ∃ ns, gt_dec (gx_cc gt_m4) c.flatten ns = true
  exact List.forall_mem_cons.mpr ⟨⟨_, gt_d4_0⟩, fun _ h => absurd h List.not_mem_nil⟩
theorem gt_d5_0 : gt_dec (gx_cc gt_m5) gt_i5_0.flatten [1, 3, 1, 1, 2, 3, 1, 1, 2, 3, 1] = true := by decide +kernel
theorem gt_d5 : gt_dm gt_m5 := by
  show ∀ c ∈ [gt_i5_0], ∃ ns, gt_dec (gx_cc gt_m5) c.flatten ns = true
  exact List.forall_mem_cons.mpr ⟨⟨_, gt_d5_0⟩, fun _ h => absurd h List.not_mem_nil⟩
theorem gt_d6_0 : gt_dec (gx_cc gt_m6) gt_i6_0.flatten [1, 3, 1] = true := by decide +kernel
theorem gt_d6 : gt_dm gt_m6 := by
  show ∀ c ∈ [gt_i6_0], ∃ ns, gt_dec (gx_cc gt_m6) c.flatten ns = true
  exact List.forall_mem_cons.mpr ⟨⟨_, gt_d6_0⟩, fun _ h => absurd h List.not_mem_nil⟩
theorem gt_d7_0 : gt_dec (gx_cc gt_m7) gt_i7_0.flatten [1, 3, 1] = true := by decide +kernel
theorem gt_d7 : gt_dm gt_m7 := by
  show ∀ c ∈ [gt_i7_0], ∃ ns, gt_dec (gx_cc gt_m7) c.flatten ns = true
  exact List.forall_mem_cons.mpr ⟨⟨_, gt_d7_0⟩, fun _ h => absurd h List.not_mem_nil⟩
theorem gt_d8_0 : gt_dec (gx_cc gt_m8) gt_i8_0.flatten [1, 3, 1] = true := by decide +kernel
theorem gt_d8 : gt_dm gt_m8 := by
  show ∀ c ∈ [gt_i8_0], ∃ ns, gt_dec (gx_cc gt_m8) c.flatten ns = true
  exact List.forall_mem_cons.mpr ⟨⟨_, gt_d8_0⟩, fun _ h => absurd h List.not_mem_nil⟩
theorem gt_d9_0 : gt_dec (gx_cc gt_m9) gt_i9_0.flatten [1, 3, 1, 1, 2, 3, 1] = true := by decide +kernel
theorem gt_d9 : gt_dm gt_m9 := by
  show ∀ c ∈ [gt_i9_0], ∃ ns, gt_dec (gx_cc gt_m9) c.flatten ns = true
  exact List.forall_mem_cons.mpr ⟨⟨_, gt_d9_0⟩, fun _ h => absurd h List.not_mem_nil⟩
theorem gt_d10_0 : gt_dec (gx_cc gt_m10) gt_i10_0.flatten [1, 3, 1, 3, 2, 3, 1, 3, 2, 3, 1, 3, 2, 3, 1, 3, 2, 3, 1, 1, 2, 3, 1, 2, 2, 3, 1, 2, 2, 3, 1] = true := by decide +kernel
theorem gt_d10 : gt_dm gt_m10 := by
  show ∀ c ∈ [gt_i10_0], ∃ ns, gt_dec (gx_cc gt_m10) c.flatten ns = true
  exact List.forall_mem_cons.mpr ⟨⟨_, gt_d10_0⟩, fun _ h => absurd h List.not_mem_nil⟩
theorem gt_d11_0 : gt_dec (gx_cc gt_m11) gt_i11_0.flatten [1, 3, 1, 1, 3, 3, 1, 2, 2, 3, 1, 1, 1, 1, 3, 1, 3, 1, 3, 1, 1, 3, 1, 3, 3, 1] = true := by decide +kernel
theorem gt_d11 : gt_dm gt_m11 := by
  show ∀ c ∈ [gt_i11_0], ∃ ns, gt_dec (gx_cc gt_m11) c.flatten ns = true
  exact List.forall_mem_cons.mpr ⟨⟨_, gt_d11_0⟩, fun _ h => absurd h List.not_mem_nil⟩
theorem gt_d12_0 : gt_dec (gx_cc gt_m12) gt_i12_0.flatten [1, 3, 1, 1, 2, 3, 1, 1, 3, 1] = true := by decide +kernel
theorem gt_d12 : gt_dm gt_m12 := by
  show ∀ c ∈ [gt_i12_0], ∃ ns, gt_dec (gx_cc gt_m12) c.flatten ns = true
  exact List.forall_mem_cons.mpr ⟨⟨_, gt_d12_0⟩, fun _ h => absurd h List.not_mem_nil⟩
theorem gt_d13_0 : gt_dec (gx_cc gt_m13) gt_i13_0.flatten [1, 3, 1, 2, 2, 3, 1, 1, 3, 1, 1, 3, 1, 1, 3, 1, 1, 3, 1, 1, 3, 1, 1, 3, 1, 3, 1, 1, 1, 3, 1, 3, 1, 3, 1, 1, 3] = true := by decide +kernel
theorem gt_d13_1 : gt_dec (gx_cc gt_m13) gt_i13_1.flatten [1, 1, 3, 1, 3, 1, 1, 1, 3, 1, 3, 1, 1, 1, 3, 1, 3, 1, 1, 1, 3, 1, 3, 1, 3, 1, 1, 2, 3, 1, 1, 2, 3, 1, 1, 3, 1] = true := by decide +kernel
theorem gt_d13_2 : gt_dec (gx_cc gt_m13) gt_i13_2.flatten [3, 1, 1, 1, 3, 1, 1, 3, 1, 3, 1, 1, 1, 3, 1, 1, 3, 1] = true := by decide +kernel
theorem gt_d13 : gt_dm gt_m13 := by
  show ∀ c ∈ [gt_i13_0, gt_i13_1, gt_i13_2], ∃ ns, gt_dec (gx_cc gt_m13) c.flatten ns = true
  exact List.forall_mem_cons.mpr ⟨⟨_, gt_d13_0⟩, List.forall_mem_cons.mpr ⟨⟨_, gt_d13_1⟩, List.forall_mem_cons.mpr ⟨⟨_, gt_d13_2⟩, fun _ h => absurd h List.not_mem_nil⟩⟩⟩
theorem gt_d14_0 : gt_dec (gx_cc gt_m14) gt_i14_0.flatten [1, 3, 1, 3, 1, 3, 3, 1, 3, 1, 3, 3, 1, 1, 3, 1, 1, 3, 1, 1, 3, 1, 1, 3, 1, 3, 2, 3, 1, 2, 2, 3, 1] = true := by decide +kernel
theorem gt_d14_1 : gt_dec (gx_cc gt_m14) gt_i14_1.flatten [3, 2, 3, 1, 2, 2, 3, 1, 3, 2, 3, 1, 1, 3, 1, 1, 3, 1, 1, 3, 1, 1, 3, 1, 1, 3, 1, 1, 3, 1, 1, 3, 1, 1, 3] = true := by decide +kernel
theorem gt_d14_2 : gt_dec (gx_cc gt_m14) gt_i14_2.flatten [1, 1, 3, 1, 1, 3, 1, 1, 3, 1, 1, 3, 1, 2, 3, 1, 1, 3, 1, 1, 3, 1, 1, 3, 1, 1, 3, 1, 1, 3, 1, 1, 3, 1, 1, 3, 1, 1] = true := by decide +kernel
theorem gt_d14_3 : gt_dec (gx_cc gt_m14) gt_i14_3.flatten [3, 1, 1, 2, 3, 1, 1, 3, 1, 1, 3, 1, 3, 3, 1, 1, 3, 1, 1, 3, 1, 1, 3, 1, 1, 3, 1, 1, 3, 1, 1, 3, 1, 1, 3, 1, 1] = true := by decide +kernel
theorem gt_d14_4 : gt_dec (gx_cc gt_m14) gt_i14_4.flatten [3, 1, 1, 3, 1, 1, 3, 1, 1, 3, 1, 1, 3, 1, 1, 3, 1, 1, 3, 1, 1, 3, 1, 1, 3, 1, 1, 3, 1, 1, 3, 1, 1, 3, 1, 2, 2, 3] = true := by decide +kernel
theorem gt_d14_5 : gt_dec (gx_cc gt_m14) gt_i14_5.flatten [1, 1, 3, 1, 1, 2, 3, 1, 1, 3, 1, 1, 2, 2, 1, 1, 1, 2, 2, 1, 3, 1, 2, 2, 3, 1, 1, 3, 1, 1, 3, 1, 1, 3, 1, 1, 3] = true := by decide +kernel
theorem gt_d14_6 : gt_dec (gx_cc gt_m14) gt_i14_6.flatten [1, 1, 3, 1, 1, 3, 1, 1, 3, 1, 1, 3, 1] = true := by decide +kernel
theorem gt_d14 : gt_dm gt_m14 := by
  show ∀ c ∈ [gt_i14_0, gt_i14_1, gt_i14_2, gt_i14_3, gt_i14_4, gt_i14_5, gt_i14_6], ∃ ns, gt_dec (gx_cc gt_m14) c.flatten ns = true
  exact List.forall_mem_cons.mpr ⟨⟨_, gt_d14_0⟩, List.forall_mem_cons.mpr ⟨⟨_, gt_d14_1⟩, List.forall_mem_cons.mpr ⟨⟨_, gt_d14_2⟩, List.forall_mem_cons.mpr ⟨⟨_, gt_d14_3⟩, List.forall_mem_cons.mpr ⟨⟨_, gt_d14_4⟩, List.forall_mem_cons.mpr ⟨⟨_, gt_d14_5⟩, List.forall_mem_cons.mpr ⟨⟨_, gt_d14_6⟩, fun _ h => absurd h List.not_mem_nil⟩⟩⟩⟩⟩⟩⟩
theorem gt_d15_0 : gt_dec (gx_cc gt_m15) gt_i15_0.flatten [1, 3, 1, 2, 2, 3, 1, 2, 2, 3, 1, 1, 3, 1, 1, 3, 1, 1, 3, 1, 1, 3, 1, 1, 3, 1, 1, 3, 1, 1, 3, 1, 1, 3, 1, 1, 3] = true := by decide +kernel
theorem gt_d15_1 : gt_dec (gx_cc gt_m15) gt_i15_1.flatten [1, 1, 3, 1, 1, 3, 1, 1, 2, 3, 1, 1, 2, 3, 1] = true := by decide +kernel
theorem gt_d15 : gt_dm gt_m15 := by
  show ∀ c ∈ [gt_i15_0, gt_i15_1], ∃ ns, gt_dec (gx_cc gt_m15) c.flatten ns = true
  exact List.forall_mem_cons.mpr ⟨⟨_, gt_d15_0⟩, List.forall_mem_cons.mpr ⟨⟨_, gt_d15_1⟩, fun _ h => absurd h List.not_mem_nil⟩⟩
theorem gt_d16_0 : gt_dec (gx_cc gt_m16) gt_i16_0.flatten [1, 3, 1, 2, 2, 3, 1, 1, 3, 1, 1, 2, 3, 1, 1, 2, 3, 1, 1, 2, 3, 1, 1, 2, 3, 1, 1, 2, 3, 1, 1, 2, 3, 1, 1, 3] = true := by decide +kernel
theorem gt_d16_1 : gt_dec (gx_cc gt_m16) gt_i16_1.flatten [1, 1, 3, 1, 1, 3, 1, 1, 3, 1, 1, 3, 1, 1, 3, 1, 1, 3, 1] = true := by decide +kernel
theorem gt_d16 : gt_dm gt_m16 := by
  show ∀ c ∈ [gt_i16_0, gt_i16_1], ∃ ns, gt_dec (gx_cc gt_m16) c.flatten ns = true
  exact List.forall_mem_cons.mpr ⟨⟨_, gt_d16_0⟩, List.forall_mem_cons.mpr ⟨⟨_, gt_d16_1⟩, fun _ h => absurd h List.not_mem_nil⟩⟩
theorem gt_d17_0 : gt_dec (gx_cc gt_m17) gt_i17_0.flatten [1, 1, 3, 1] = true := by decide +kernel
theorem gt_d17 : gt_dm gt_m17 := by
  show ∀ c ∈ [gt_i17_0], ∃ ns, gt_dec (gx_cc gt_m17) c.flatten ns = true
  exact List.forall_mem_cons.mpr ⟨⟨_, gt_d17_0⟩, fun _ h => absurd h List.not_mem_nil⟩
theorem gt_d18_0 : gt_dec (gx_cc gt_m18) gt_i18_0.flatten [2, 1, 1, 1, 1, 1, 2, 2, 3, 1, 1, 3, 2, 1, 1, 1, 1] = true := by decide +kernel
theorem gt_d18 : gt_dm gt_m18 := by
  show ∀ c ∈ [gt_i18_0], ∃ ns, gt_dec (gx_cc gt_m18) c.flatten ns = true
  exact List.forall_mem_cons.mpr ⟨⟨_, gt_d18_0⟩, fun _ h => absurd h List.not_mem_nil⟩
theorem gt_d19_0 : gt_dec (gx_cc gt_m19) gt_i19_0.flatten [1, 3, 2, 1, 2, 3, 3, 1, 2, 3, 1, 1, 1, 3, 1, 1, 3, 1, 1, 3, 1, 2, 3, 1, 2, 3, 1, 3, 1] = true := by decide +kernel
theorem gt_d19 : gt_dm gt_m19 := by
  show ∀ c ∈ [gt_i19_0], ∃ ns, gt_dec (gx_cc gt_m19) c.flatten ns = true
  exact List.forall_mem_cons.mpr ⟨⟨_, gt_d19_0⟩, fun _ h => absurd h List.not_mem_nil⟩
theorem gt_d20_0 : gt_dec (gx_cc gt_m20) gt_i20_0.flatten [2, 1, 1, 3, 1, 3, 1, 3, 1, 1, 1, 3, 1, 1, 1, 1, 3, 1, 1, 3, 3, 3, 1] = true := by decide +kernel
theorem gt_d20 : gt_dm gt_m20 := by
  show ∀ c ∈ [gt_i20_0], ∃ ns, gt_dec (gx_cc gt_m20) c.flatten ns = true
  exact List.forall_mem_cons.mpr ⟨⟨_, gt_d20_0⟩, fun _ h => absurd h List.not_mem_nil⟩
theorem gt_d21_0 : gt_dec (gx_cc gt_m21) gt_i21_0.flatten [1, 1, 3, 1, 1, 1, 3, 2, 3, 1, 3, 1, 3, 3, 1, 1, 1, 2, 1, 1, 1, 1, 1, 1, 1, 1, 1, 1, 1, 1, 1, 1, 2, 1, 1, 1, 2, 1, 2, 1, 2, 2, 2, 3] = true := by decide +kernel
theorem gt_d21_1 : gt_dec (gx_cc gt_m21) gt_i21_1.flatten [1, 3, 1, 1, 3, 1, 1, 1, 3, 2, 2, 1, 1, 1, 2, 2, 2, 1, 1, 1, 1, 1, 1, 1, 3, 3, 1, 3, 1] = true := by decide +kernel
theorem gt_d21 : gt_dm gt_m21 := by
  show ∀ c ∈ [gt_i21_0, gt_i21_1], ∃ ns, gt_dec (gx_cc gt_m21) c.flatten ns = true
  exact List.forall_mem_cons.mpr ⟨⟨_, gt_d21_0⟩, List.forall_mem_cons.mpr ⟨⟨_, gt_d21_1⟩, fun _ h => absurd h List.not_mem_nil⟩⟩
theorem gt_d22_0 : gt_dec (gx_cc gt_m22) gt_i22_0.flatten [1, 3, 1, 1, 3, 1, 1] = true := by decide +kernel
theorem gt_d22 : gt_dm gt_m22 := by
  show ∀ c ∈ [gt_i22_0], ∃ ns, gt_dec (gx_cc gt_m22) c.flatten ns = true
  exact List.forall_mem_cons.mpr ⟨⟨_, gt_d22_0⟩, fun _ h => absurd h List.not_mem_nil⟩
theorem gt_d23_0 : gt_dec (gx_cc gt_m23) gt_i23_0.flatten [1, 3, 1] = true := by decide +kernel
theorem gt_d23 : gt_dm gt_m23 := by
  show ∀ c ∈ [gt_i23_0], ∃ ns, gt_dec (gx_cc gt_m23) c.flatten ns = true
  exact List.forall_mem_cons.mpr ⟨⟨_, gt_d23_0⟩, fun _ h => absurd h List.not_mem_nil⟩
theorem gt_d24_0 : gt_dec (gx_cc gt_m24) gt_i24_0.flatten [1, 1, 1, 1, 3, 1, 1, 3, 1, 1, 1, 1, 1] = true := by decide +kernel
theorem gt_d24 : gt_dm gt_m24 := by
  show ∀ c ∈ [gt_i24_0], ∃ ns, gt_dec (gx_cc gt_m24) c.flatten ns = true
  exact List.forall_mem_cons.mpr ⟨⟨_, gt_d24_0⟩, fun _ h => absurd h List.not_mem_nil⟩
theorem gt_d25_0 : gt_dec (gx_cc gt_m25) gt_i25_0.flatten [1, 3, 1, 2, 3, 3, 1, 2, 3, 1, 1, 3, 1, 1, 1, 3, 1, 3, 1, 1, 1, 3, 3, 1, 1, 3, 1, 1] = true := by decide +kernel
theorem gt_d25 : gt_dm gt_m25 := by
  show ∀ c ∈ [gt_i25_0], ∃ ns, gt_dec (gx_cc gt_m25) c.flatten ns = true
  exact List.forall_mem_cons.mpr ⟨⟨_, gt_d25_0⟩, fun _ h => absurd h List.not_mem_nil⟩
theorem gt_d26_0 : gt_dec (gx_cc gt_m26) gt_i26_0.flatten [1, 1, 3, 1, 1, 1, 3, 1, 2, 3, 1, 3, 1, 3, 3, 1, 1, 1, 3, 1, 3, 1, 3, 1, 1, 3, 1, 1, 1, 3, 1, 1, 3, 1, 1, 3, 1] = true := by decide +kernel
theorem gt_d26_1 : gt_dec (gx_cc gt_m26) gt_i26_1.flatten [1] = true := by decide +kernel
theorem gt_d26 : gt_dm gt_m26 := by
  show ∀ c ∈ [gt_i26_0, gt_i26_1], ∃ ns, gt_dec (gx_cc gt_m26) c.flatten ns = true
  exact List.forall_mem_cons.mpr ⟨⟨_, gt_d26_0⟩, List.forall_mem_cons.mpr ⟨⟨_, gt_d26_1⟩, fun _ h => absurd h List.not_mem_nil⟩⟩
theorem gt_d27_0 : gt_dec (gx_cc gt_m27) gt_i27_0.flatten [1, 1, 1, 1, 3, 3, 2, 1, 1, 1, 1] = true := by decide +kernel
theorem gt_d27 : gt_dm gt_m27 := by
  show ∀ c ∈ [gt_i27_0], ∃ ns, gt_dec (gx_cc gt_m27) c.flatten ns = true
  exact List.forall_mem_cons.mpr ⟨⟨_, gt_d27_0⟩, fun _ h => absurd h List.not_mem_nil⟩
theorem gt_d28_0 : gt_dec (gx_cc gt_m28) gt_i28_0.flatten [1, 3, 1, 1, 3, 3, 3, 1, 2, 3, 1, 1, 3, 1, 1, 3, 1, 1, 1, 3, 1, 3, 3, 3, 1, 3, 3, 1, 3, 3, 1, 1] = true := by decide +kernel
theorem gt_d28 : gt_dm gt_m28 := by
  show ∀ c ∈ [gt_i28_0], ∃ ns, gt_dec (gx_cc gt_m28) c.flatten ns = true
  exact List.forall_mem_cons.mpr ⟨⟨_, gt_d28_0⟩, fun _ h => absurd h List.not_mem_nil⟩
theorem gt_d29_0 : gt_dec (gx_cc gt_m29) gt_i29_0.flatten [1, 1, 3, 1, 1, 1, 3, 1, 1, 3, 3, 1, 3, 1, 3, 3, 1, 1, 3, 1, 1, 1, 1, 1, 3, 1, 3, 3, 3, 1, 1, 2, 3, 2, 2] = true := by decide +kernel
theorem gt_d29_1 : gt_dec (gx_cc gt_m29) gt_i29_1.flatten [3, 3, 2, 1, 3, 2, 1, 1, 1, 1, 2, 3, 3, 1, 3, 3, 2, 1, 1, 1] = true := by decide +kernel
theorem gt_d29 : gt_dm gt_m29 := by
  show ∀ c ∈ [gt_i29_0, gt_i29_1], ∃ ns, gt_dec (gx_cc gt_m29) c.flatten ns = true
  exact List.forall_mem_cons.mpr ⟨⟨_, gt_d29_0⟩, List.forall_mem_cons.mpr ⟨⟨_, gt_d29_1⟩, fun _ h => absurd h List.not_mem_nil⟩⟩
theorem gt_d30_0 : gt_dec (gx_cc gt_m30) gt_i30_0.flatten [1, 1, 1, 1, 3, 1, 1, 3, 1, 1, 1, 1, 1, 1, 1, 1] = true := by decide +kernel
theorem gt_d30 : gt_dm gt_m30 := by
  show ∀ c ∈ [gt_i30_0], ∃ ns, gt_dec (gx_cc gt_m30) c.flatten ns = true
  exact List.forall_mem_cons.mpr ⟨⟨_, gt_d30_0⟩, fun _ h => absurd h List.not_mem_nil⟩
theorem gt_d31_0 : gt_dec (gx_cc gt_m31) gt_i31_0.flatten [1, 3, 1, 1, 1, 3, 1, 1, 3, 1, 1, 1, 3, 2, 2, 3, 1, 2, 3, 1, 1, 3, 3, 1, 2, 3, 1, 1, 3, 1, 3, 1, 3, 1, 1, 3] = true := by decide +kernel
theorem gt_d31_1 : gt_dec (gx_cc gt_m31) gt_i31_1.flatten [3, 1, 3, 3, 1] = true := by decide +kernel
theorem gt_d31 : gt_dm gt_m31 := by
  show ∀ c ∈ [gt_i31_0, gt_i31_1], ∃ ns, gt_dec (gx_cc gt_m31) c.flatten ns = true
  exact List.forall_mem_cons.mpr ⟨⟨_, gt_d31_0⟩, List.forall_mem_cons.mpr ⟨⟨_, gt_d31_1⟩, fun _ h => absurd h List.not_mem_nil⟩⟩
theorem gt_d32_0 : gt_dec (gx_cc gt_m32) gt_i32_0.flatten [1, 3, 1, 1, 3, 3, 1, 2, 3, 1, 1, 3, 1, 1, 1] = true := by decide +kernel
theorem gt_d32 : gt_dm gt_m32 := by
  show ∀ c ∈ [gt_i32_0], ∃ ns, gt_dec (gx_cc gt_m32) c.flatten ns = true
  exact List.forall_mem_cons.mpr ⟨⟨_, gt_d32_0⟩, fun _ h => absurd h List.not_mem_nil⟩
theorem gt_d33_0 : gt_dec (gx_cc gt_m33) gt_i33_0.flatten [1, 3, 1, 1, 1, 3, 1, 1, 3, 3, 1, 1, 1, 3, 1, 1, 3, 1, 3, 1, 3, 1, 1, 3, 1, 1, 3, 1, 3, 1, 1, 1, 3, 1, 1, 3, 1, 1] = true := by decide +kernel
theorem gt_d33_1 : gt_dec (gx_cc gt_m33) gt_i33_1.flatten [1, 3, 1, 1, 3, 1, 3, 1, 3, 1, 3, 1, 1, 1, 3, 3, 1, 3, 1, 1, 3, 3, 1] = true := by decide +kernel
theorem gt_d33 : gt_dm gt_m33 := by
  show ∀ c ∈ [gt_i33_0, gt_i33_1], ∃ ns, gt_dec (gx_cc gt_m33) c.flatten ns = true
  exact List.forall_mem_cons.mpr ⟨⟨_, gt_d33_0⟩, List.forall_mem_cons.mpr ⟨⟨_, gt_d33_1⟩, fun _ h => absurd h List.not_mem_nil⟩⟩
theorem gt_d34_0 : gt_dec (gx_cc gt_m34) gt_i34_0.flatten [1, 1, 3, 1, 1, 1, 3, 1, 1, 3, 1, 3, 1, 3, 1] = true := by decide +kernel
theorem gt_d34 : gt_dm gt_m34 := by
  show ∀ c ∈ [gt_i34_0], ∃ ns, gt_dec (gx_cc gt_m34) c.flatten ns = true
  exact List.forall_mem_cons.mpr ⟨⟨_, gt_d34_0⟩, fun _ h => absurd h List.not_mem_nil⟩
theorem gt_d35_0 : gt_dec (gx_cc gt_m35) gt_i35_0.flatten [1, 3, 3, 1, 2, 3, 1, 1, 1, 3, 3, 1, 1, 3, 3, 3, 1, 1, 1, 3, 3, 1, 3, 1, 3, 1, 1, 1, 3, 3, 1, 3, 3] = true := by decide +kernel
theorem gt_d35_1 : gt_dec (gx_cc gt_m35) gt_i35_1.flatten [1, 1, 1, 1] = true := by decide +kernel
theorem gt_d35 : gt_dm gt_m35 := by
  show ∀ c ∈ [gt_i35_0, gt_i35_1], ∃ ns, gt_dec (gx_cc gt_m35) c.flatten ns = true
  exact List.forall_mem_cons.mpr ⟨⟨_, gt_d35_0⟩, List.forall_mem_cons.mpr ⟨⟨_, gt_d35_1⟩, fun _ h => absurd h List.not_mem_nil⟩⟩
theorem gt_d36_0 : gt_dec (gx_cc gt_m36) gt_i36_0.flatten [1, 3, 3, 1, 2, 3, 1, 1, 1, 1, 3, 2, 2, 3, 3, 1, 1, 2, 1, 1, 1, 1, 3, 1, 1, 3, 3, 1, 1, 3, 1, 3, 1, 3, 1, 1] = true := by decide +kernel
theorem gt_d36_1 : gt_dec (gx_cc gt_m36) gt_i36_1.flatten [1, 3, 1, 3, 1, 2, 2, 3, 3, 1, 1, 1, 3, 1, 2, 2, 3, 2, 1, 3, 2, 1, 3, 1, 3, 1, 1] = true := by decide +kernel
theorem gt_d36 : gt_dm gt_m36 := by
  show ∀ c ∈ [gt_i36_0, gt_i36_1], ∃ ns, gt_dec (gx_cc gt_m36) c.flatten ns = true
  exact List.forall_mem_cons.mpr ⟨⟨_, gt_d36_0⟩, List.forall_mem_cons.mpr ⟨⟨_, gt_d36_1⟩, fun _ h => absurd h List.not_mem_nil⟩⟩
theorem gt_d37_0 : gt_dec (gx_cc gt_m37) gt_i37_0.flatten [1, 3, 1] = true := by decide +kernel
theorem gt_d37 : gt_dm gt_m37 := by
  show ∀ c ∈ [gt_i37_0], ∃ ns, gt_dec (gx_cc gt_m37) c.flatten ns = true
  exact List.forall_mem_cons.mpr ⟨⟨_, gt_d37_0⟩, fun _ h => absurd h List.not_mem_nil⟩
theorem gt_d38_0 : gt_dec (gx_cc gt_m38) gt_i38_0.flatten [1, 1, 3, 1, 3, 1] = true := by decide +kernel
theorem gt_d38 : gt_dm gt_m38 := by
  show ∀ c ∈ [gt_i38_0], ∃ ns, gt_dec (gx_cc gt_m38) c.flatten ns = true
  exact List.forall_mem_cons.mpr ⟨⟨_, gt_d38_0⟩, fun _ h => absurd h List.not_mem_nil⟩
theorem gt_d39_0 : gt_dec (gx_cc gt_m39) gt_i39_0.flatten [1, 1, 1, 1, 3, 1, 3, 1, 1, 1, 1, 1, 1, 1, 1] = true := by decide +kernel
theorem gt_d39 : gt_dm gt_m39 := by
  show ∀ c ∈ [gt_i39_0], ∃ ns, gt_dec (gx_cc gt_m39) c.flatten ns = true
  exact List.forall_mem_cons.mpr ⟨⟨_, gt_d39_0⟩, fun _ h => absurd h List.not_mem_nil⟩
theorem gt_d40_0 : gt_dec (gx_cc gt_m40) gt_i40_0.flatten [1, 1, 3, 1, 1, 3, 3, 3, 1, 2, 3, 1, 1, 1, 3, 3, 1, 3, 1] = true := by decide +kernel
theorem gt_d40 : gt_dm gt_m40 := by
  show ∀ c ∈ [gt_i40_0], ∃ ns, gt_dec (gx_cc gt_m40) c.flatten ns = true
  exact List.forall_mem_cons.mpr ⟨⟨_, gt_d40_0⟩, fun _ h => absurd h List.not_mem_nil⟩
theorem gt_d41_0 : gt_dec (gx_cc gt_m41) gt_i41_0.flatten [1, 1, 3, 3, 1, 1, 1, 3, 1, 1, 3, 3, 1, 3, 1, 3, 3, 1, 1, 1, 3, 1, 1, 1, 3, 3, 1, 3, 1, 1, 3, 1] = true := by decide +kernel
theorem gt_d41 : gt_dm gt_m41 := by
  show ∀ c ∈ [gt_i41_0], ∃ ns, gt_dec (gx_cc gt_m41) c.flatten ns = true
  exact List.forall_mem_cons.mpr ⟨⟨_, gt_d41_0⟩, fun _ h => absurd h List.not_mem_nil⟩
theorem gt_d42_0 : gt_dec (gx_cc gt_m42) gt_i42_0.flatten [1, 1, 1, 3, 3, 1, 1, 1, 1, 1] = true := by decide +kernel
theorem gt_d42 : gt_dm gt_m42 := by
  show ∀ c ∈ [gt_i42_0], ∃ ns, gt_dec (gx_cc gt_m42) c.flatten ns = true
  exact List.forall_mem_cons.mpr ⟨⟨_, gt_d42_0⟩, fun _ h => absurd h List.not_mem_nil⟩
theorem gt_d43_0 : gt_dec (gx_cc gt_m43) gt_i43_0.flatten [1, 1, 3, 1, 3, 1, 3, 1] = true := by decide +kernel
theorem gt_d43 : gt_dm gt_m43 := by
  show ∀ c ∈ [gt_i43_0], ∃ ns, gt_dec (gx_cc gt_m43) c.flatten ns = true
  exact List.forall_mem_cons.mpr ⟨⟨_, gt_d43_0⟩, fun _ h => absurd h List.not_mem_nil⟩
theorem gt_d44_0 : gt_dec (gx_cc gt_m44) gt_i44_0.flatten [1, 1, 3, 3, 1, 1, 3, 1, 1, 1, 3, 1] = true := by decide +kernel
theorem gt_d44 : gt_dm gt_m44 := by
  show ∀ c ∈ [gt_i44_0], ∃ ns, gt_dec (gx_cc gt_m44) c.flatten ns = true
  exact List.forall_mem_cons.mpr ⟨⟨_, gt_d44_0⟩, fun _ h => absurd h List.not_mem_nil⟩
theorem gt_d45_0 : gt_dec (gx_cc gt_m45) gt_i45_0.flatten [1, 3, 1, 1, 1, 3, 1, 1, 3, 1] = true := by decide +kernel
theorem gt_d45 : gt_dm gt_m45 := by
  show ∀ c ∈ [gt_i45_0], ∃ ns, gt_dec (gx_cc gt_m45) c.flatten ns = true
  exact List.forall_mem_cons.mpr ⟨⟨_, gt_d45_0⟩, fun _ h => absurd h List.not_mem_nil⟩
theorem gt_d46_0 : gt_dec (gx_cc gt_m46) gt_i46_0.flatten [1, 1, 1, 3, 2, 1, 3, 1, 1, 3, 2, 1, 1, 1, 1, 3, 2, 1, 3, 1, 1, 3, 1, 1, 1, 1, 2, 1, 1, 1, 1, 1] = true := by decide +kernel
theorem gt_d46 : gt_dm gt_m46 := by
  show ∀ c ∈ [gt_i46_0], ∃ ns, gt_dec (gx_cc gt_m46) c.flatten ns = true
  exact List.forall_mem_cons.mpr ⟨⟨_, gt_d46_0⟩, fun _ h => absurd h List.not_mem_nil⟩
theorem gt_d47_0 : gt_dec (gx_cc gt_m47) gt_i47_0.flatten [1, 3, 3, 1, 1, 3, 1, 1, 1, 3, 1, 3, 1, 3, 2, 1, 3, 1] = true := by decide +kernel
theorem gt_d47 : gt_dm gt_m47 := by
  show ∀ c ∈ [gt_i47_0], ∃ ns, gt_dec (gx_cc gt_m47) c.flatten ns = true
  exact List.forall_mem_cons.mpr ⟨⟨_, gt_d47_0⟩, fun _ h => absurd h List.not_mem_nil⟩
theorem gt_d48_0 : gt_dec (gx_cc gt_m48) gt_i48_0.flatten [1, 3, 1, 1, 1, 3, 1, 3, 1, 3, 3, 1, 1, 3, 1, 1, 1, 3, 1, 1, 3, 1] = true := by decide +kernel
theorem gt_d48 : gt_dm gt_m48 := by
  show ∀ c ∈ [gt_i48_0], ∃ ns, gt_dec (gx_cc gt_m48) c.flatten ns = true
  exact List.forall_mem_cons.mpr ⟨⟨_, gt_d48_0⟩, fun _ h => absurd h List.not_mem_nil⟩
theorem gt_d49_0 : gt_dec (gx_cc gt_m49) gt_i49_0.flatten [2, 1, 1, 3, 2, 1, 3, 1, 1, 3, 1, 1, 1, 1, 1, 3, 2, 1, 3, 1, 1, 3, 1, 1, 1, 1, 1, 1, 1, 2, 1, 1] = true := by decide +kernel
theorem gt_d49 : gt_dm gt_m49 := by
  show ∀ c ∈ [gt_i49_0], ∃ ns, gt_dec (gx_cc gt_m49) c.flatten ns = true
  exact List.forall_mem_cons.mpr ⟨⟨_, gt_d49_0⟩, fun _ h => absurd h List.not_mem_nil⟩
theorem gt_d50_0 : gt_dec (gx_cc gt_m50) gt_i50_0.flatten [1, 1, 1, 1, 3, 1, 1, 3, 1, 1, 1, 1, 1] = true := by decide +kernel
theorem gt_d50 : gt_dm gt_m50 := by
  show ∀ c ∈ [gt_i50_0], ∃ ns, gt_dec (gx_cc gt_m50) c.flatten ns = true
  exact List.forall_mem_cons.mpr ⟨⟨_, gt_d50_0⟩, fun _ h => absurd h List.not_mem_nil⟩
theorem gt_d51_0 : gt_dec (gx_cc gt_m51) gt_i51_0.flatten [1, 1, 3, 1, 2, 3, 3, 1, 2, 3, 1, 1, 1, 3, 1, 1, 1, 3, 1, 1, 1, 3, 1, 1, 3, 1, 2, 3, 1, 3, 3, 1, 3, 1, 3] = true := by decide +kernel
theorem gt_d51_1 : gt_dec (gx_cc gt_m51) gt_i51_1.flatten [1, 1, 3, 1, 1, 2, 1, 3, 1, 1] = true := by decide +kernel
theorem gt_d51 : gt_dm gt_m51 := by
  show ∀ c ∈ [gt_i51_0, gt_i51_1], ∃ ns, gt_dec (gx_cc gt_m51) c.flatten ns = true
  exact List.forall_mem_cons.mpr ⟨⟨_, gt_d51_0⟩, List.forall_mem_cons.mpr ⟨⟨_, gt_d51_1⟩, fun _ h => absurd h List.not_mem_nil⟩⟩
theorem gt_d52_0 : gt_dec (gx_cc gt_m52) gt_i52_0.flatten [1, 1, 3, 1, 1, 1, 1, 3, 1, 2, 3, 1, 3, 1, 3, 3, 1, 1, 1, 1, 3, 1, 1, 1, 3, 1, 1, 1, 1, 1, 2, 2, 1, 3, 1, 3, 2, 1, 3] = true := by decide +kernel
theorem gt_d52_1 : gt_dec (gx_cc gt_m52) gt_i52_1.flatten [3, 1, 3, 2, 1, 3, 1, 3, 1, 3, 1, 3, 1, 3, 2, 1, 3, 1, 3, 1, 3, 1, 3, 2, 1, 1, 3, 3, 1, 3, 3] = true := by decide +kernel
theorem gt_d52_2 : gt_dec (gx_cc gt_m52) gt_i52_2.flatten [1, 3, 3, 3, 1, 1, 3, 1, 1, 3, 1, 1] = true := by decide +kernel
theorem gt_d52 : gt_dm gt_m52 := by
  show ∀ c ∈ [gt_i52_0, gt_i52_1, gt_i52_2], ∃ ns, gt_dec (gx_cc gt_m52) c.flatten ns = true
  exact List.forall_mem_cons.mpr ⟨⟨_, gt_d52_0⟩, List.forall_mem_cons.mpr ⟨⟨_, gt_d52_1⟩, List.forall_mem_cons.mpr ⟨⟨_, gt_d52_2⟩, fun _ h => absurd h List.not_mem_nil⟩⟩⟩
theorem gt_d53_0 : gt_dec (gx_cc gt_m53) gt_i53_0.flatten [1, 3, 1, 1, 1, 1, 3, 1, 1, 1, 1, 3, 3, 1, 3, 1, 3, 1, 3, 1, 3, 1, 1, 1, 3, 3, 1, 3, 1, 3, 1, 3, 1, 3, 1, 2] = true := by decide +kernel
theorem gt_d53_1 : gt_dec (gx_cc gt_m53) gt_i53_1.flatten [1, 3, 2, 3, 1, 3, 1, 3, 1, 3, 1, 3, 1, 1, 1, 3, 1, 1, 2, 3, 1, 3, 1, 1] = true := by decide +kernel
theorem gt_d53 : gt_dm gt_m53 := by
  show ∀ c ∈ [gt_i53_0, gt_i53_1], ∃ ns, gt_dec (gx_cc gt_m53) c.flatten ns = true
  exact List.forall_mem_cons.mpr ⟨⟨_, gt_d53_0⟩, List.forall_mem_cons.mpr ⟨⟨_, gt_d53_1⟩, fun _ h => absurd h List.not_mem_nil⟩⟩
theorem gt_d54_0 : gt_dec (gx_cc gt_m54) gt_i54_0.flatten [1, 1, 1, 1, 1, 3, 1, 1, 3, 2, 1, 1, 1, 1] = true := by decide +kernel
theorem gt_d54 : gt_dm gt_m54 := by
  show ∀ c ∈ [gt_i54_0], ∃ ns, gt_dec (gx_cc gt_m54) c.flatten ns = true
  exact List.forall_mem_cons.mpr ⟨⟨_, gt_d54_0⟩, fun _ h => absurd h List.not_mem_nil⟩
theorem gt_d55_0 : gt_dec (gx_cc gt_m55) gt_i55_0.flatten [1, 1, 3, 1, 1, 3, 3, 1, 1, 2, 1, 3, 3, 1, 1] = true := by decide +kernel
theorem gt_d55 : gt_dm gt_m55 := by
  show ∀ c ∈ [gt_i55_0], ∃ ns, gt_dec (gx_cc gt_m55) c.flatten ns = true
  exact List.forall_mem_cons.mpr ⟨⟨_, gt_d55_0⟩, fun _ h => absurd h List.not_mem_nil⟩
theorem gt_d56_0 : gt_dec (gx_cc gt_m56) gt_i56_0.flatten [1, 1, 3, 3, 1, 3, 1, 1, 3, 3, 1, 3, 1, 3, 1, 1, 1, 2, 1, 3, 1] = true := by decide +kernel
theorem gt_d56 : gt_dm gt_m56 := by
  show ∀ c ∈ [gt_i56_0], ∃ ns, gt_dec (gx_cc gt_m56) c.flatten ns = true
  exact List.forall_mem_cons.mpr ⟨⟨_, gt_d56_0⟩, fun _ h => absurd h List.not_mem_nil⟩
theorem gt_d57_0 : gt_dec (gx_cc gt_m57) gt_i57_0.flatten [1, 1, 1, 1, 1, 3, 1, 1, 3, 2, 1, 1, 2, 1, 1, 1, 1] = true := by decide +kernel
theorem gt_d57 : gt_dm gt_m57 := by
  show ∀ c ∈ [gt_i57_0], ∃ ns, gt_dec (gx_cc gt_m57) c.flatten ns = true
  exact List.forall_mem_cons.mpr ⟨⟨_, gt_d57_0⟩, fun _ h => absurd h List.not_mem_nil⟩
theorem gt_d58_0 : gt_dec (gx_cc gt_m58) gt_i58_0.flatten [1, 1, 3, 1, 1, 3, 1, 2, 3, 3, 1, 2, 3, 1, 1, 3, 3, 1, 1, 3, 3, 1, 1] = true := by decide +kernel
theorem gt_d58 : gt_dm gt_m58 := by
  show ∀ c ∈ [gt_i58_0], ∃ ns, gt_dec (gx_cc gt_m58) c.flatten ns = true
  exact List.forall_mem_cons.mpr ⟨⟨_, gt_d58_0⟩, fun _ h => absurd h List.not_mem_nil⟩
theorem gt_d59_0 : gt_dec (gx_cc gt_m59) gt_i59_0.flatten [1, 1, 3, 3, 1, 1, 1, 3, 1, 2, 3, 1, 3, 1, 3, 3, 1, 1, 1, 3, 1, 1, 3, 3, 1, 3, 1, 1, 1, 3, 3, 1, 1] = true := by decide +kernel
theorem gt_d59 : gt_dm gt_m59 := by
  show ∀ c ∈ [gt_i59_0], ∃ ns, gt_dec (gx_cc gt_m59) c.flatten ns = true
  exact List.forall_mem_cons.mpr ⟨⟨_, gt_d59_0⟩, fun _ h => absurd h List.not_mem_nil⟩
theorem gt_d60_0 : gt_dec (gx_cc gt_m60) gt_i60_0.flatten [1, 1, 1, 1, 3, 1, 3, 1, 1, 1, 1, 1] = true := by decide +kernel
theorem gt_d60 : gt_dm gt_m60 := by
  show ∀ c ∈ [gt_i60_0], ∃ ns, gt_dec (gx_cc gt_m60) c.flatten ns = true
  exact List.forall_mem_cons.mpr ⟨⟨_, gt_d60_0⟩, fun _ h => absurd h List.not_mem_nil⟩
theorem gt_d61_0 : gt_dec (gx_cc gt_m61) gt_i61_0.flatten [1, 1, 3, 3, 1] = true := by decide +kernel
theorem gt_d61 : gt_dm gt_m61 := by
  show ∀ c ∈ [gt_i61_0], ∃ ns, gt_dec (gx_cc gt_m61) c.flatten ns = true
  exact List.forall_mem_cons.mpr ⟨⟨_, gt_d61_0⟩, fun _ h => absurd h List.not_mem_nil⟩
theorem gt_d62_0 : gt_dec (gx_cc gt_m62) gt_i62_0.flatten [1, 1, 3, 3, 1, 3, 1, 3, 1, 1, 3, 1] = true := by decide +kernel
theorem gt_d62 : gt_dm gt_m62 := by
  show ∀ c ∈ [gt_i62_0], ∃ ns, gt_dec (gx_cc gt_m62) c.flatten ns = true
  exact List.forall_mem_cons.mpr ⟨⟨_, gt_d62_0⟩, fun _ h => absurd h List.not_mem_nil⟩
theorem gt_d63_0 : gt_dec (gx_cc gt_m63) gt_i63_0.flatten [2, 1, 1, 1, 1, 1, 3, 1, 1, 3, 2, 1, 1, 2, 1, 1, 1, 1] = true := by decide +kernel
theorem gt_d63 : gt_dm gt_m63 := by
  show ∀ c ∈ [gt_i63_0], ∃ ns, gt_dec (gx_cc gt_m63) c.flatten ns = true
  exact List.forall_mem_cons.mpr ⟨⟨_, gt_d63_0⟩, fun _ h => absurd h List.not_mem_nil⟩
theorem gt_d64_0 : gt_dec (gx_cc gt_m64) gt_i64_0.flatten [1, 1, 3, 2, 1, 3, 1, 3, 3, 1, 3, 1, 3, 3, 3, 1, 2, 3, 1, 2, 3, 3, 2, 3, 3, 1, 3, 1, 1, 1, 1, 3] = true := by decide +kernel
theorem gt_d64_1 : gt_dec (gx_cc gt_m64) gt_i64_1.flatten [1, 1] = true := by decide +kernel
theorem gt_d64 : gt_dm gt_m64 := by
  show ∀ c ∈ [gt_i64_0, gt_i64_1], ∃ ns, gt_dec (gx_cc gt_m64) c.flatten ns = true
  exact List.forall_mem_cons.mpr ⟨⟨_, gt_d64_0⟩, List.forall_mem_cons.mpr ⟨⟨_, gt_d64_1⟩, fun _ h => absurd h List.not_mem_nil⟩⟩
theorem gt_d65_0 : gt_dec (gx_cc gt_m65) gt_i65_0.flatten [1, 1, 3, 3, 1, 1, 1, 3, 1, 3, 3, 1, 3, 1, 3, 3, 1, 3, 1, 3, 3, 1, 1, 1, 3, 1, 1, 3, 3, 1, 3, 1, 1, 3] = true := by decide +kernel
theorem gt_d65_1 : gt_dec (gx_cc gt_m65) gt_i65_1.flatten [3, 1, 1, 1, 1, 1, 3, 1, 1] = true := by decide +kernel
theorem gt_d65 : gt_dm gt_m65 := by
  show ∀ c ∈ [gt_i65_0, gt_i65_1], ∃ ns, gt_dec (gx_cc gt_m65) c.flatten ns = true
  exact List.forall_mem_cons.mpr ⟨⟨_, gt_d65_0⟩, List.forall_mem_cons.mpr ⟨⟨_, gt_d65_1⟩, fun _ h => absurd h List.not_mem_nil⟩⟩
theorem gt_d66_0 : gt_dec (gx_cc gt_m66) gt_i66_0.flatten [1, 1, 1, 1, 3, 1, 1, 3, 1, 1, 1, 1, 1] = true := by decide +kernel
theorem gt_d66 : gt_dm gt_m66 := by
  show ∀ c ∈ [gt_i66_0], ∃ ns, gt_dec (gx_cc gt_m66) c.flatten ns = true
  exact List.forall_mem_cons.mpr ⟨⟨_, gt_d66_0⟩, fun _ h => absurd h List.not_mem_nil⟩
theorem gt_d67_0 : gt_dec (gx_cc gt_m67) gt_i67_0.flatten [1, 1, 3, 1, 1, 3, 3, 1, 3, 3, 3, 1, 1] = true := by decide +kernel
theorem gt_d67 : gt_dm gt_m67 := by
  show ∀ c ∈ [gt_i67_0], ∃ ns, gt_dec (gx_cc gt_m67) c.flatten ns = true
  exact List.forall_mem_cons.mpr ⟨⟨_, gt_d67_0⟩, fun _ h => absurd h List.not_mem_nil⟩
theorem gt_d68_0 : gt_dec (gx_cc gt_m68) gt_i68_0.flatten [1, 1, 3, 3, 1, 3, 1, 1, 3, 3, 1, 1, 1, 1, 1, 1, 1, 3, 3, 1, 2, 1, 1, 3, 1, 1, 3, 1, 1, 1, 1, 3, 3, 1, 1] = true := by decide +kernel
theorem gt_d68 : gt_dm gt_m68 := by
  show ∀ c ∈ [gt_i68_0], ∃ ns, gt_dec (gx_cc gt_m68) c.flatten ns = true
  exact List.forall_mem_cons.mpr ⟨⟨_, gt_d68_0⟩, fun _ h => absurd h List.not_mem_nil⟩
theorem gt_d69_0 : gt_dec (gx_cc gt_m69) gt_i69_0.flatten [1, 1, 1, 1, 1, 3, 1, 1, 3, 2, 1, 1, 2, 1, 1, 1, 1] = true := by decide +kernel
theorem gt_d69 : gt_dm gt_m69 := by
  show ∀ c ∈ [gt_i69_0], ∃ ns, gt_dec (gx_cc gt_m69) c.flatten ns = true
  exact List.forall_mem_cons.mpr ⟨⟨_, gt_d69_0⟩, fun _ h => absurd h List.not_mem_nil⟩
theorem gt_d70_0 : gt_dec (gx_cc gt_m70) gt_i70_0.flatten [1, 1, 3, 1, 1, 3, 3, 1, 3, 1, 1, 3, 3, 3, 3, 1, 2, 3, 1, 1, 3, 3, 1, 1, 1] = true := by decide +kernel
theorem gt_d70 : gt_dm gt_m70 := by
  show ∀ c ∈ [gt_i70_0], ∃ ns, gt_dec (gx_cc gt_m70) c.flatten ns = true
  exact List.forall_mem_cons.mpr ⟨⟨_, gt_d70_0⟩, fun _ h => absurd h List.not_mem_nil⟩
theorem gt_d71_0 : gt_dec (gx_cc gt_m71) gt_i71_0.flatten [1, 1, 3, 3, 1, 1, 1, 1, 1, 3, 1, 1, 3, 3, 1, 3, 1, 1, 3, 1, 1, 3, 3, 3, 1, 3, 1, 3, 3, 1, 1, 1, 3, 1, 1, 3] = true := by decide +kernel
theorem gt_d71_1 : gt_dec (gx_cc gt_m71) gt_i71_1.flatten [3, 1, 1, 3, 1, 1] = true := by decide +kernel
theorem gt_d71 : gt_dm gt_m71 := by
  show ∀ c ∈ [gt_i71_0, gt_i71_1], ∃ ns, gt_dec (gx_cc gt_m71) c.flatten ns = true
  exact List.forall_mem_cons.mpr ⟨⟨_, gt_d71_0⟩, List.forall_mem_cons.mpr ⟨⟨_, gt_d71_1⟩, fun _ h => absurd h List.not_mem_nil⟩⟩
theorem gt_d72_0 : gt_dec (gx_cc gt_m72) gt_i72_0.flatten [1, 1, 3, 3, 1, 1, 1, 1, 1] = true := by decide +kernel
theorem gt_d72 : gt_dm gt_m72 := by
  show ∀ c ∈ [gt_i72_0], ∃ ns, gt_dec (gx_cc gt_m72) c.flatten ns = true
  exact List.forall_mem_cons.mpr ⟨⟨_, gt_d72_0⟩, fun _ h => absurd h List.not_mem_nil⟩
theorem gt_d73_0 : gt_dec (gx_cc gt_m73) gt_i73_0.flatten [1, 1, 3, 1, 1, 1, 1, 3, 1, 3, 1, 1, 1, 1, 1, 1, 1, 3, 1, 1, 3, 3, 3, 1, 3, 1, 1, 3, 1, 1, 3, 1, 1, 1, 1] = true := by decide +kernel
theorem gt_d73 : gt_dm gt_m73 := by
  show ∀ c ∈ [gt_i73_0], ∃ ns, gt_dec (gx_cc gt_m73) c.flatten ns = true
  exact List.forall_mem_cons.mpr ⟨⟨_, gt_d73_0⟩, fun _ h => absurd h List.not_mem_nil⟩
theorem gt_d74_0 : gt_dec (gx_cc gt_m74) gt_i74_0.flatten [1, 3, 1, 1, 3, 3, 1, 2, 3, 1, 1] = true := by decide +kernel
theorem gt_d74 : gt_dm gt_m74 := by
  show ∀ c ∈ [gt_i74_0], ∃ ns, gt_dec (gx_cc gt_m74) c.flatten ns = true
  exact List.forall_mem_cons.mpr ⟨⟨_, gt_d74_0⟩, fun _ h => absurd h List.not_mem_nil⟩
theorem gt_d75_0 : gt_dec (gx_cc gt_m75) gt_i75_0.flatten [1, 1, 3, 1, 1, 1, 3, 1, 1, 3, 1, 3, 1, 3, 3, 1, 1, 1, 1, 1, 3, 1, 3, 1, 1, 1, 1, 1, 1, 1, 3, 1, 1, 3, 3, 3, 1, 3] = true := by decide +kernel
theorem gt_d75_1 : gt_dec (gx_cc gt_m75) gt_i75_1.flatten [1, 1, 3, 1, 1, 3, 1, 1, 1, 1] = true := by decide +kernel
theorem gt_d75 : gt_dm gt_m75 := by
  show ∀ c ∈ [gt_i75_0, gt_i75_1], ∃ ns, gt_dec (gx_cc gt_m75) c.flatten ns = true
  exact List.forall_mem_cons.mpr ⟨⟨_, gt_d75_0⟩, List.forall_mem_cons.mpr ⟨⟨_, gt_d75_1⟩, fun _ h => absurd h List.not_mem_nil⟩⟩
theorem gt_d76_0 : gt_dec (gx_cc gt_m76) gt_i76_0.flatten [1, 3, 1, 3, 3, 1, 3, 1, 3, 3, 1, 3, 1, 3, 3, 1, 3, 1, 3, 3, 1, 3, 1, 3, 3, 1, 3, 1, 3, 3] = true := by decide +kernel
theorem gt_d76_1 : gt_dec (gx_cc gt_m76) gt_i76_1.flatten [1, 3, 1, 3, 3, 1, 3, 1, 3, 3, 1, 3, 1, 1, 3, 1, 1, 3, 1, 3, 1, 3, 1, 1, 3, 1, 1, 3, 1, 3, 1, 1, 3] = true := by decide +kernel
theorem gt_d76_2 : gt_dec (gx_cc gt_m76) gt_i76_2.flatten [3, 1, 1, 3, 3, 1, 1, 3, 3, 1, 1, 3, 3, 1, 1, 3, 3, 1, 1, 3, 3, 1, 1, 3, 3, 1, 1, 3, 3, 1] = true := by decide +kernel
theorem gt_d76 : gt_dm gt_m76 := by
  show ∀ c ∈ [gt_i76_0, gt_i76_1, gt_i76_2], ∃ ns, gt_dec (gx_cc gt_m76) c.flatten ns = true
  exact List.forall_mem_cons.mpr ⟨⟨_, gt_d76_0⟩, List.forall_mem_cons.mpr ⟨⟨_, gt_d76_1⟩, List.forall_mem_cons.mpr ⟨⟨_, gt_d76_2⟩, fun _ h => absurd h List.not_mem_nil⟩⟩⟩
theorem gt_d77_0 : gt_dec (gx_cc gt_m77) gt_i77_0.flatten [1, 3, 1, 1, 3, 1, 1, 3, 1, 3, 1, 1, 3, 3, 1, 1, 3, 3, 1, 1, 3, 3, 1, 1, 3, 3, 1, 1, 3, 3, 1, 1, 3, 3] = true := by decide +kernel
theorem gt_d77_1 : gt_dec (gx_cc gt_m77) gt_i77_1.flatten [1, 1, 3, 3, 1, 1, 3, 3, 1] = true := by decide +kernel
theorem gt_d77 : gt_dm gt_m77 := by
  show ∀ c ∈ [gt_i77_0, gt_i77_1], ∃ ns, gt_dec (gx_cc gt_m77) c.flatten ns = true
  exact List.forall_mem_cons.mpr ⟨⟨_, gt_d77_0⟩, List.forall_mem_cons.mpr ⟨⟨_, gt_d77_1⟩, fun _ h => absurd h List.not_mem_nil⟩⟩
theorem gt_d78_0 : gt_dec (gx_cc gt_m78) gt_i78_0.flatten [1, 3, 1, 1, 3, 1, 1, 3, 1, 3, 1, 3, 1, 1, 3, 1, 1, 3, 1, 3, 1, 3, 1, 3, 3, 1, 1, 3, 3, 1, 1, 3, 3, 1] = true := by decide +kernel
theorem gt_d78_1 : gt_dec (gx_cc gt_m78) gt_i78_1.flatten [1, 3, 3, 1, 1, 3, 3, 1, 1, 3, 3, 1, 1, 3, 3, 1, 1, 3, 3, 1, 1, 3, 3, 1, 1, 3, 3, 1] = true := by decide +kernel
theorem gt_d78 : gt_dm gt_m78 := by
  show ∀ c ∈ [gt_i78_0, gt_i78_1], ∃ ns, gt_dec (gx_cc gt_m78) c.flatten ns = true
  exact List.forall_mem_cons.mpr ⟨⟨_, gt_d78_0⟩, List.forall_mem_cons.mpr ⟨⟨_, gt_d78_1⟩, fun _ h => absurd h List.not_mem_nil⟩⟩
theorem gt_d79_0 : gt_dec (gx_cc gt_m79) gt_i79_0.flatten [1, 3, 1, 1, 3, 1, 1, 3, 1, 3, 1, 3, 1, 1, 3, 1, 1, 3, 1, 3, 1, 1, 3, 3, 1] = true := by decide +kernel
theorem gt_d79 : gt_dm gt_m79 := by
  show ∀ c ∈ [gt_i79_0], ∃ ns, gt_dec (gx_cc gt_m79) c.flatten ns = true
  exact List.forall_mem_cons.mpr ⟨⟨_, gt_d79_0⟩, fun _ h => absurd h List.not_mem_nil⟩
theorem gt_d80_0 : gt_dec (gx_cc gt_m80) gt_i80_0.flatten [1, 1, 3, 3, 1, 1, 3, 3, 1, 1, 3, 3, 1, 1, 3, 3, 1, 1, 3, 3, 1] = true := by decide +kernel
theorem gt_d80 : gt_dm gt_m80 := by
  show ∀ c ∈ [gt_i80_0], ∃ ns, gt_dec (gx_cc gt_m80) c.flatten ns = true
  exact List.forall_mem_cons.mpr ⟨⟨_, gt_d80_0⟩, fun _ h => absurd h List.not_mem_nil⟩
theorem gt_d81_0 : gt_dec (gx_cc gt_m81) gt_i81_0.flatten [1, 1, 3, 3, 1, 1, 3, 3, 1, 1, 3, 3, 1, 1, 3, 3, 1, 1, 3, 3, 1] = true := by decide +kernel
theorem gt_d81 : gt_dm gt_m81 := by
  show ∀ c ∈ [gt_i81_0], ∃ ns, gt_dec (gx_cc gt_m81) c.flatten ns = true
  exact List.forall_mem_cons.mpr ⟨⟨_, gt_d81_0⟩, fun _ h => absurd h List.not_mem_nil⟩
theorem gt_d82_0 : gt_dec (gx_cc gt_m82) gt_i82_0.flatten [1, 1, 3, 3, 1, 1, 3, 3, 1, 1, 3, 3, 1, 1, 3, 3, 1] = true := by decide +kernel
theorem gt_d82 : gt_dm gt_m82 := by
  show ∀ c ∈ [gt_i82_0], ∃ ns, gt_dec (gx_cc gt_m82) c.flatten ns = true
  exact List.forall_mem_cons.mpr ⟨⟨_, gt_d82_0⟩, fun _ h => absurd h List.not_mem_nil⟩
theorem gt_d83_0 : gt_dec (gx_cc gt_m83) gt_i83_0.flatten [1, 3, 1, 1, 3, 1, 1, 3, 1, 3, 1, 1, 3, 3, 1, 1, 3, 3, 1, 1, 3, 3, 1, 1, 3, 3, 1, 1, 3, 3, 1, 1, 3, 3] = true := by decide +kernel
theorem gt_d83_1 : gt_dec (gx_cc gt_m83) gt_i83_1.flatten [1] = true := by decide +kernel
theorem gt_d83 : gt_dm gt_m83 := by
  show ∀ c ∈ [gt_i83_0, gt_i83_1], ∃ ns, gt_dec (gx_cc gt_m83) c.flatten ns = true
  exact List.forall_mem_cons.mpr ⟨⟨_, gt_d83_0⟩, List.forall_mem_cons.mpr ⟨⟨_, gt_d83_1⟩, fun _ h => absurd h List.not_mem_nil⟩⟩
theorem gt_d84_0 : gt_dec (gx_cc gt_m84) gt_i84_0.flatten [1, 3, 1, 1, 3, 1, 1, 3, 1, 3, 1, 3, 1, 1, 3, 1, 1, 3, 1, 3, 1, 3, 1, 1, 3, 1, 1, 3, 1, 3, 1, 3, 1, 1, 3, 1] = true := by decide +kernel
theorem gt_d84_1 : gt_dec (gx_cc gt_m84) gt_i84_1.flatten [1, 3, 1, 3, 1, 3, 1, 1, 3, 1, 1, 3, 1, 3, 1, 3, 1, 1, 3, 1, 1, 3, 1, 3, 1, 3, 1, 1, 3, 1, 1, 3, 1, 3, 1, 1] = true := by decide +kernel
theorem gt_d84_2 : gt_dec (gx_cc gt_m84) gt_i84_2.flatten [3, 3, 1, 1, 3, 3, 1, 1, 3, 3, 1, 1, 3, 3, 1, 1, 3, 3, 1, 1, 3, 3, 1, 1, 3, 3, 1, 1, 3, 3, 1, 1] = true := by decide +kernel
theorem gt_d84_3 : gt_dec (gx_cc gt_m84) gt_i84_3.flatten [3, 3, 1] = true := by decide +kernel
theorem gt_d84 : gt_dm gt_m84 := by
  show ∀ c ∈ [gt_i84_0, gt_i84_1, gt_i84_2, gt_i84_3], ∃ ns, gt_dec (gx_cc gt_m84) c.flatten ns = true
  exact List.forall_mem_cons.mpr ⟨⟨_, gt_d84_0⟩, List.forall_mem_cons.mpr ⟨⟨_, gt_d84_1⟩, List.forall_mem_cons.mpr ⟨⟨_, gt_d84_2⟩, List.forall_mem_cons.mpr ⟨⟨_, gt_d84_3⟩, fun _ h => absurd h List.not_mem_nil⟩⟩⟩⟩
theorem gt_d85_0 : gt_dec (gx_cc gt_m85) gt_i85_0.flatten [1, 1, 1, 1, 3, 1, 3, 1, 1, 1, 3, 1, 1, 3, 3, 3, 1, 3, 1, 1, 3, 1, 1, 3, 1, 3, 1, 1, 3, 3, 1, 1, 3, 3, 1, 1] = true := by decide +kernel
theorem gt_d85_1 : gt_dec (gx_cc gt_m85) gt_i85_1.flatten [3, 3, 1, 1, 3, 3, 1, 1, 3, 3, 1, 1, 3, 3, 1, 1, 3, 3, 1] = true := by decide +kernel
theorem gt_d85 : gt_dm gt_m85 := by
  show ∀ c ∈ [gt_i85_0, gt_i85_1], ∃ ns, gt_dec (gx_cc gt_m85) c.flatten ns = true
  exact List.forall_mem_cons.mpr ⟨⟨_, gt_d85_0⟩, List.forall_mem_cons.mpr ⟨⟨_, gt_d85_1⟩, fun _ h => absurd h List.not_mem_nil⟩⟩
theorem gt_d86_0 : gt_dec (gx_cc gt_m86) gt_i86_0.flatten [1, 3, 1, 1, 3, 1, 1, 3, 1, 3, 1, 1, 3, 3, 1, 1, 3, 3, 1, 1, 3, 3, 1, 1, 3, 3, 1, 1, 3, 3, 1, 1, 3, 3] = true := by decide +kernel
theorem gt_d86_1 : gt_dec (gx_cc gt_m86) gt_i86_1.flatten [1, 1, 3, 3, 1, 1, 3, 3, 1, 1, 3, 3, 1, 1, 3, 3, 1] = true := by decide +kernel
theorem gt_d86 : gt_dm gt_m86 := by
  show ∀ c ∈ [gt_i86_0, gt_i86_1], ∃ ns, gt_dec (gx_cc gt_m86) c.flatten ns = true
  exact List.forall_mem_cons.mpr ⟨⟨_, gt_d86_0⟩, List.forall_mem_cons.mpr ⟨⟨_, gt_d86_1⟩, fun _ h => absurd h List.not_mem_nil⟩⟩
theorem gt_d87_0 : gt_dec (gx_cc gt_m87) gt_i87_0.flatten [1, 3, 1, 3, 3, 1, 3, 1, 3, 3, 1, 1, 3, 3, 1, 1, 3, 3, 1, 1, 3, 3, 1, 3, 1, 1, 3, 1, 3, 3, 1, 3] = true := by decide +kernel
theorem gt_d87_1 : gt_dec (gx_cc gt_m87) gt_i87_1.flatten [1, 1, 3, 1, 2, 3, 1, 3, 1, 1, 3, 1, 3, 3, 1, 3, 1, 1, 3, 1, 2, 3, 1, 3, 1, 1, 3, 1, 3, 3, 1, 1, 3] = true := by decide +kernel
theorem gt_d87_2 : gt_dec (gx_cc gt_m87) gt_i87_2.flatten [3, 1, 1, 3, 3, 1, 1, 3, 3, 1, 1, 3, 3, 1, 1, 3, 3, 1, 1, 3, 3, 1, 1, 3, 3, 1, 1, 3, 3, 1, 1, 3] = true := by decide +kernel
theorem gt_d87_3 : gt_dec (gx_cc gt_m87) gt_i87_3.flatten [3, 1, 1, 3, 3, 1, 1, 3, 3, 1, 1, 3, 3, 1, 1, 3, 3, 1, 1, 3, 3, 1, 1, 3, 3, 1, 1, 3, 3, 1, 1, 3] = true := by decide +kernel
theorem gt_d87_4 : gt_dec (gx_cc gt_m87) gt_i87_4.flatten [3, 1, 1, 3, 3, 1, 1, 3, 3, 1, 1, 3, 3, 1, 1, 3, 3, 1, 3, 1, 1, 3, 1, 1, 3, 1, 1, 3, 3, 1, 1, 3, 3] = true := by decide +kernel
theorem gt_d87_5 : gt_dec (gx_cc gt_m87) gt_i87_5.flatten [1, 1, 3, 3, 1, 1, 3, 3, 1, 1, 3, 3, 1, 1, 3, 1, 3, 1, 1, 3, 1, 2, 3, 1, 1, 3, 3, 1, 1, 3, 3, 1, 1] = true := by decide +kernel
theorem gt_d87_6 : gt_dec (gx_cc gt_m87) gt_i87_6.flatten [3, 3, 1, 1, 3, 3, 1, 1, 3, 3, 1, 1, 3, 3, 1, 1, 3, 3, 1] = true := by decide +kernel
theorem gt_d87 : gt_dm gt_m87 := by
  show ∀ c ∈ [gt_i87_0, gt_i87_1, gt_i87_2, gt_i87_3, gt_i87_4, gt_i87_5, gt_i87_6], ∃ ns, gt_dec (gx_cc gt_m87) c.flatten ns = true
  exact List.forall_mem_cons.mpr ⟨⟨_, gt_d87_0⟩, List.forall_mem_cons.mpr ⟨⟨_, gt_d87_1⟩, List.forall_mem_cons.mpr ⟨⟨_, gt_d87_2⟩, List.forall_mem_cons.mpr ⟨⟨_, gt_d87_3⟩, List.forall_mem_cons.mpr ⟨⟨_, gt_d87_4⟩, List.forall_mem_cons.mpr ⟨⟨_, gt_d87_5⟩, List.forall_mem_cons.mpr ⟨⟨_, gt_d87_6⟩, fun _ h => absurd h List.not_mem_nil⟩⟩⟩⟩⟩⟩⟩
theorem gt_d88_0 : gt_dec (gx_cc gt_m88) gt_i88_0.flatten [1, 1, 3, 3, 1, 3, 1, 1, 3, 1, 2, 3, 1, 3, 1, 1, 3, 1, 2, 3, 1, 1, 3, 3, 1, 1, 3, 3, 1, 1, 3, 3, 1, 1] = true := by decide +kernel
theorem gt_d88_1 : gt_dec (gx_cc gt_m88) gt_i88_1.flatten [3, 3, 1, 1, 3, 3, 1, 1, 3, 3, 1, 1, 3, 3, 1, 1, 3, 3, 1, 1, 3, 3, 1, 1, 3, 3, 1, 3, 1, 1, 3, 1] = true := by decide +kernel
theorem gt_d88_2 : gt_dec (gx_cc gt_m88) gt_i88_2.flatten [1, 3, 1, 3, 1, 1, 3, 1, 1, 3, 1] = true := by decide +kernel
theorem gt_d88 : gt_dm gt_m88 := by
  show ∀ c ∈ [gt_i88_0, gt_i88_1, gt_i88_2], ∃ ns, gt_dec (gx_cc gt_m88) c.flatten ns = true
  exact List.forall_mem_cons.mpr ⟨⟨_, gt_d88_0⟩, List.forall_mem_cons.mpr ⟨⟨_, gt_d88_1⟩, List.forall_mem_cons.mpr ⟨⟨_, gt_d88_2⟩, fun _ h => absurd h List.not_mem_nil⟩⟩⟩
theorem gt_d89_0 : gt_dec (gx_cc gt_m89) gt_i89_0.flatten [1, 3, 1, 1, 3, 1, 2, 3, 1, 3, 1, 1, 3, 1, 1, 3, 1, 3, 1, 1, 3, 1, 1, 3, 1, 3, 1, 1, 3, 1, 1, 3, 1, 3, 1, 1, 3] = true := by decide +kernel
theorem gt_d89_1 : gt_dec (gx_cc gt_m89) gt_i89_1.flatten [1, 1, 3, 1, 3, 1, 1, 3, 1, 1, 3, 1, 3, 1, 1, 3, 1, 1, 3, 1, 1, 3, 3, 1, 1, 3, 3, 1, 1, 3, 3, 1, 1, 3] = true := by decide +kernel
theorem gt_d89_2 : gt_dec (gx_cc gt_m89) gt_i89_2.flatten [3, 1, 1, 3, 3, 1, 1, 3, 3, 1, 1, 3, 3, 1, 1, 3, 3, 1] = true := by decide +kernel
theorem gt_d89 : gt_dm gt_m89 := by
  show ∀ c ∈ [gt_i89_0, gt_i89_1, gt_i89_2], ∃ ns, gt_dec (gx_cc gt_m89) c.flatten ns = true
  exact List.forall_mem_cons.mpr ⟨⟨_, gt_d89_0⟩, List.forall_mem_cons.mpr ⟨⟨_, gt_d89_1⟩, List.forall_mem_cons.mpr ⟨⟨_, gt_d89_2⟩, fun _ h => absurd h List.not_mem_nil⟩⟩⟩
theorem gt_d90_0 : gt_dec (gx_cc gt_m90) gt_i90_0.flatten [1, 1, 3, 3, 1, 1, 3, 3, 1, 1, 3, 3, 1, 1, 3, 3, 1, 1, 3, 3, 1, 1, 3, 3, 1, 1, 3, 3, 1, 1, 3, 3] = true := by decide +kernel
theorem gt_d90_1 : gt_dec (gx_cc gt_m90) gt_i90_1.flatten [1, 1, 3, 3, 1, 1, 3, 3, 1, 1, 3, 3, 1, 1, 3, 3, 1, 1, 3, 3, 1, 1, 3, 3, 1, 1, 3, 3, 1, 1, 3, 3] = true := by decide +kernel
theorem gt_d90_2 : gt_dec (gx_cc gt_m90) gt_i90_2.flatten [1, 1, 3, 3, 1, 1, 3, 3, 1, 3, 1, 1, 3, 1, 2, 3, 1, 1, 1, 1, 3, 1, 3, 1, 1, 3, 1, 1, 1, 1, 3, 1, 1, 1, 1, 3, 1, 1, 1] = true := by decide +kernel
theorem gt_d90_3 : gt_dec (gx_cc gt_m90) gt_i90_3.flatten [2, 3, 3, 3, 1] = true := by decide +kernel
theorem gt_d90 : gt_dm gt_m90 := by
  show ∀ c ∈ [gt_i90_0, gt_i90_1, gt_i90_2, gt_i90_3], ∃ ns, gt_dec (gx_cc gt_m90) c.flatten ns = true
  exact List.forall_mem_cons.mpr ⟨⟨_, gt_d90_0⟩, List.forall_mem_cons.mpr ⟨⟨_, gt_d90_1⟩, List.forall_mem_cons.mpr ⟨⟨_, gt_d90_2⟩, List.forall_mem_cons.mpr ⟨⟨_, gt_d90_3⟩, fun _ h => absurd h List.not_mem_nil⟩⟩⟩⟩
theorem gt_d91_0 : gt_dec (gx_cc gt_m91) gt_i91_0.flatten [1, 1, 3, 3, 1, 1, 1, 1, 1, 1, 1, 1] = true := by decide +kernel
theorem gt_d91 : gt_dm gt_m91 := by
  show ∀ c ∈ [gt_i91_0], ∃ ns, gt_dec (gx_cc gt_m91) c.flatten ns = true
  exact List.forall_mem_cons.mpr ⟨⟨_, gt_d91_0⟩, fun _ h => absurd h List.not_mem_nil⟩
theorem gt_d92_0 : gt_dec (gx_cc gt_m92) gt_i92_0.flatten [1, 1, 3, 1, 3, 1, 1, 3, 3, 1, 2, 3, 1, 1, 1, 1, 1, 3, 1, 3, 1, 1, 1, 3, 1, 1, 1, 1, 1, 1, 3, 3, 3, 1, 1, 3, 1, 1, 3] = true := by decide +kernel
theorem gt_d92_1 : gt_dec (gx_cc gt_m92) gt_i92_1.flatten [1] = true := by decide +kernel
theorem gt_d92 : gt_dm gt_m92 := by
  show ∀ c ∈ [gt_i92_0, gt_i92_1], ∃ ns, gt_dec (gx_cc gt_m92) c.flatten ns = true
  exact List.forall_mem_cons.mpr ⟨⟨_, gt_d92_0⟩, List.forall_mem_cons.mpr ⟨⟨_, gt_d92_1⟩, fun _ h => absurd h List.not_mem_nil⟩⟩
theorem gt_d93_0 : gt_dec (gx_cc gt_m93) gt_i93_0.flatten [1, 1, 3, 1, 1, 1, 3, 1, 1, 3, 1, 3, 1, 3, 3, 1, 1, 1, 3, 1, 1, 3, 1, 3, 1, 3, 3, 1, 1, 1, 1, 1, 3, 1, 3, 1, 1, 1] = true := by decide +kernel
theorem gt_d93_1 : gt_dec (gx_cc gt_m93) gt_i93_1.flatten [3, 1, 1, 1, 1, 1, 1, 3, 3, 3, 1, 1, 3, 1, 1, 3, 1] = true := by decide +kernel
theorem gt_d93 : gt_dm gt_m93 := by
  show ∀ c ∈ [gt_i93_0, gt_i93_1], ∃ ns, gt_dec (gx_cc gt_m93) c.flatten ns = true
  exact List.forall_mem_cons.mpr ⟨⟨_, gt_d93_0⟩, List.forall_mem_cons.mpr ⟨⟨_, gt_d93_1⟩, fun _ h => absurd h List.not_mem_nil⟩⟩
theorem gt_d94_0 : gt_dec (gx_cc gt_m94) gt_i94_0.flatten [1, 27, 1, 3, 1, 1, 3, 3, 1, 1, 1, 1, 3, 1, 1, 1] = true := by decide +kernel
theorem gt_d94 : gt_dm gt_m94 := by
  show ∀ c ∈ [gt_i94_0], ∃ ns, gt_dec (gx_cc gt_m94) c.flatten ns = true
  exact List.forall_mem_cons.mpr ⟨⟨_, gt_d94_0⟩, fun _ h => absurd h List.not_mem_nil⟩
theorem gt_d95_0 : gt_dec (gx_cc gt_m95) gt_i95_0.flatten [1, 1, 3, 1, 3, 1, 3, 3, 1, 1, 3, 1, 3, 3, 1, 1, 3, 1, 1, 3, 1, 3, 2, 1, 3, 1, 1] = true := by decide +kernel
theorem gt_d95 : gt_dm gt_m95 := by
  show ∀ c ∈ [gt_i95_0], ∃ ns, gt_dec (gx_cc gt_m95) c.flatten ns = true
  exact List.forall_mem_cons.mpr ⟨⟨_, gt_d95_0⟩, fun _ h => absurd h List.not_mem_nil⟩
theorem gt_ds : ∀ (j : Nat) (M : gx_M), gt_mm[j]? = some M → gt_dm M := by
  intro j M h
  have hlt : j < 96 := (List.getElem?_eq_some_iff.mp h).1
  match j, hlt with
  | 0, _ => cases h; exact gt_d0
  | 1, _ => cases h; exact gt_d1
  | 2, _ => cases h; exact gt_d2
  | 3, _ => cases h; exact gt_d3
  | 4, _ => cases h; exact gt_d4
  | 5, _ => cases h; exact gt_d5
  | 6, _ => cases h; exact gt_d6
  | 7, _ => cases h; exact gt_d7
  | 8, _ => cases h; exact gt_d8
  | 9, _ => cases h; exact gt_d9
  | 10, _ => cases h; exact gt_d10
  | 11, _ => cases h; exact gt_d11
  | 12, _ => cases h; exact gt_d12
  | 13, _ => cases h; exact gt_d13
  | 14, _ => cases h; exact gt_d14
  | 15, _ => cases h; exact gt_d15
  | 16, _ => cases h; exact gt_d16
  | 17, _ => cases h; exact gt_d17
  | 18, _ => cases h; exact gt_d18
  | 19, _ => cases h; exact gt_d19
  | 20, _ => cases h; exact gt_d20
  | 21, _ => cases h; exact gt_d21
  | 22, _ => cases h; exact gt_d22
  | 23, _ => cases h; exact gt_d23
  | 24, _ => cases h; exact gt_d24
  | 25, _ => cases h; exact gt_d25
  | 26, _ => cases h; exact gt_d26
  | 27, _ => cases h; exact gt_d27
  | 28, _ => cases h; exact gt_d28
  | 29, _ => cases h; exact gt_d29
  | 30, _ => cases h; exact gt_d30
  | 31, _ => cases h; exact gt_d31
  | 32, _ => cases h; exact gt_d32
  | 33, _ => cases h; exact gt_d33
  | 34, _ => cases h; exact gt_d34
  | 35, _ => cases h; exact gt_d35
  | 36, _ => cases h; exact gt_d36
  | 37, _ => cases h; exact gt_d37
  | 38, _ => cases h; exact gt_d38
  | 39, _ => cases h; exact gt_d39
  | 40, _ => cases h; exact gt_d40
  | 41, _ => cases h; exact gt_d41
  | 42, _ => cases h; exact gt_d42
  | 43, _ => cases h; exact gt_d43
  | 44, _ => cases h; exact gt_d44
  | 45, _ => cases h; exact gt_d45
  | 46, _ => cases h; exact gt_d46
  | 47, _ => cases h; exact gt_d47
  | 48, _ => cases h; exact gt_d48
  | 49, _ => cases h; exact gt_d49
  | 50, _ => cases h; exact gt_d50
  | 51, _ => cases h; exact gt_d51
  | 52, _ => cases h; exact gt_d52
  | 53, _ => cases h; exact gt_d53
  | 54, _ => cases h; exact gt_d54
  | 55, _ => cases h; exact gt_d55
  | 56, _ => cases h; exact gt_d56
  | 57, _ => cases h; exact gt_d57
  | 58, _ => cases h; exact gt_d58
  | 59, _ => cases h; exact gt_d59
  | 60, _ => cases h; exact gt_d60
  | 61, _ => cases h; exact gt_d61
  | 62, _ => cases h; exact gt_d62
  | 63, _ => cases h; exact gt_d63
  | 64, _ => cases h; exact gt_d64
  | 65, _ => cases h; exact gt_d65
  | 66, _ => cases h; exact gt_d66
  | 67, _ => cases h; exact gt_d67
  | 68, _ => cases h; exact gt_d68
  | 69, _ => cases h; exact gt_d69
  | 70, _ => cases h; exact gt_d70
  | 71, _ => cases h; exact gt_d71
  | 72, _ => cases h; exact gt_d72
  | 73, _ => cases h; exact gt_d73
  | 74, _ => cases h; exact gt_d74
  | 75, _ => cases h; exact gt_d75
  | 76, _ => cases h; exact gt_d76
  | 77, _ => cases h; exact gt_d77
  | 78, _ => cases h; exact gt_d78
  | 79, _ => cases h; exact gt_d79
  | 80, _ => cases h; exact gt_d80
  | 81, _ => cases h; exact gt_d81
  | 82, _ => cases h; exact gt_d82
  | 83, _ => cases h; exact gt_d83
  | 84, _ => cases h; exact gt_d84
  | 85, _ => cases h; exact gt_d85
  | 86, _ => cases h; exact gt_d86
  | 87, _ => cases h; exact gt_d87
  | 88, _ => cases h; exact gt_d88
  | 89, _ => cases h; exact gt_d89
  | 90, _ => cases h; exact gt_d90
  | 91, _ => cases h; exact gt_d91
  | 92, _ => cases h; exact gt_d92
  | 93, _ => cases h; exact gt_d93
  | 94, _ => cases h; exact gt_d94
  | 95, _ => cases h; exact gt_d95
  | n + 96, hl => omega
end
section
noncomputable def gt_cy (M : gx_M) (pl : (Nat × Nat) × (Nat × Nat) × (Nat × Nat) × (Nat × Nat) × (Nat × Nat) × List Nat) : Bool := match gy_get gt_cl (gx_ow M) with
  | some ro => decide ((gx_y M).cls = ro.1) && (gt_is pl.2.1 (Cond.initialized (gx_y M).cls) && (plainName (gx_y M).cls && (decide ((gx_y M).cls ≠ "java/lang/invoke/MethodHandle") && (decide ((gx_y M).cls ≠ "java/lang/invoke/VarHandle") && ((!(gx_in M) || decide ((gx_y M).name = "<init>")) && decide (gx_ml M ≤ 40))))))
  | none => false
theorem gt_y0 : (match gy_get gt_mp 0 with | some pl => gt_cy gt_m0 pl | none => false) = true := by decide +kernel
theorem gt_y1 : (match gy_get gt_mp 1 with | some pl => gt_cy gt_m1 pl | none => false) = true := by decide +kernel
theorem gt_y2 : (match gy_get gt_mp 2 with | some pl => gt_cy gt_m2 pl | none => false) = true := by decide +kernel
theorem gt_y3 : (match gy_get gt_mp 3 with | some pl => gt_cy gt_m3 pl | none => false) = true := by decide +kernel
theorem gt_y4 : (match gy_get gt_mp 4 with | some pl => gt_cy gt_m4 pl | none => false) = true := by decide +kernel
theorem gt_y5 : (match gy_get gt_mp 5 with | some pl => gt_cy gt_m5 pl | none => false) = true := by decide +kernel
theorem gt_y6 : (match gy_get gt_mp 6 with | some pl => gt_cy gt_m6 pl | none => false) = true := by decide +kernel
theorem gt_y7 : (match gy_get gt_mp 7 with | some pl => gt_cy gt_m7 pl | none => false) = true := by decide +kernel
theorem gt_y8 : (match gy_get gt_mp 8 with | some pl => gt_cy gt_m8 pl | none => false) = true := by decide +kernel
theorem gt_y9 : (match gy_get gt_mp 9 with | some pl => gt_cy gt_m9 pl | none => false) = true := by decide +kernel
theorem gt_y10 : (match gy_get gt_mp 10 with | some pl => gt_cy gt_m10 pl | none => false) = true := by decide +kernel
theorem gt_y11 : (match gy_get gt_mp 11 with | some pl => gt_cy gt_m11 pl | none => false) = true := by decide +kernel
theorem gt_y12 : (match gy_get gt_mp 12 with | some pl => gt_cy gt_m12 pl | none => false) = true := by decide +kernel
theorem gt_y13 : (match gy_get gt_mp 13 with | some pl => gt_cy gt_m13 pl | none => false) = true := by decide +kernel
theorem gt_y14 : (match gy_get gt_mp 14 with | some pl => gt_cy gt_m14 pl | none => false) = true := by decide +kernel
theorem gt_y15 : (match gy_get gt_mp 15 with | some pl => gt_cy gt_m15 pl | none => false) = true := by decide +kernel
theorem gt_y16 : (match gy_get gt_mp 16 with | some pl => gt_cy gt_m16 pl | none => false) = true := by decide +kernel
theorem gt_y17 : (match gy_get gt_mp 17 with | some pl => gt_cy gt_m17 pl | none => false) = true := by decide +kernel
theorem gt_y18 : (match gy_get gt_mp 18 with | some pl => gt_cy gt_m18 pl | none => false) = true := by decide +kernel
theorem gt_y19 : (match gy_get gt_mp 19 with | some pl => gt_cy gt_m19 pl | none => false) = true := by decide +kernel
theorem gt_y20 : (match gy_get gt_mp 20 with | some pl => gt_cy gt_m20 pl | none => false) = true := by decide +kernel
theorem gt_y21 : (match gy_get gt_mp 21 with | some pl => gt_cy gt_m21 pl | none => false) = true := by decide +kernel
theorem gt_y22 : (match gy_get gt_mp 22 with | some pl => gt_cy gt_m22 pl | none => false) = true := by decide +kernel
theorem gt_y23 : (match gy_get gt_mp 23 with | some pl => gt_cy gt_m23 pl | none => false) = true := by decide +kernel
theorem gt_y24 : (match gy_get gt_mp 24 with | some pl => gt_cy gt_m24 pl | none => false) = true := by decide +kernel
theorem gt_y25 : (match gy_get gt_mp 25 with | some pl => gt_cy gt_m25 pl | none => false) = true := by decide +kernel
theorem gt_y26 : (match gy_get gt_mp 26 with | some pl => gt_cy gt_m26 pl | none => false) = true := by decide +kernel
theorem gt_y27 : (match gy_get gt_mp 27 with | some pl => gt_cy gt_m27 pl | none => false) = true := by decide +kernel
theorem gt_y28 : (match gy_get gt_mp 28 with | some pl => gt_cy gt_m28 pl | none => false) = true := by decide +kernel
theorem gt_y29 : (match gy_get gt_mp 29 with | some pl => gt_cy gt_m29 pl | none => false) = true := by decide +kernel
theorem gt_y30 : (match gy_get gt_mp 30 with | some pl => gt_cy gt_m30 pl | none => false) = true := by decide +kernel
theorem gt_y31 : (match gy_get gt_mp 31 with | some pl => gt_cy gt_m31 pl | none => false) = true := by decide +kernel
theorem gt_y32 : (match gy_get gt_mp 32 with | some pl => gt_cy gt_m32 pl | none => false) = true := by decide +kernel
theorem gt_y33 : (match gy_get gt_mp 33 with | some pl => gt_cy gt_m33 pl | none => false) = true := by decide +kernel
theorem gt_y34 : (match gy_get gt_mp 34 with | some pl => gt_cy gt_m34 pl | none => false) = true := by decide +kernel
theorem gt_y35 : (match gy_get gt_mp 35 with | some pl => gt_cy gt_m35 pl | none => false) = true := by decide +kernel
theorem gt_y36 : (match gy_get gt_mp 36 with | some pl => gt_cy gt_m36 pl | none => false) = true := by decide +kernel
theorem gt_y37 : (match gy_get gt_mp 37 with | some pl => gt_cy gt_m37 pl | none => false) = true := by decide +kernel
theorem gt_y38 : (match gy_get gt_mp 38 with | some pl => gt_cy gt_m38 pl | none => false) = true := by decide +kernel
theorem gt_y39 : (match gy_get gt_mp 39 with | some pl => gt_cy gt_m39 pl | none => false) = true := by decide +kernel
theorem gt_y40 : (match gy_get gt_mp 40 with | some pl => gt_cy gt_m40 pl | none => false) = true := by decide +kernel
theorem gt_y41 : (match gy_get gt_mp 41 with | some pl => gt_cy gt_m41 pl | none => false) = true := by decide +kernel
theorem gt_y42 : (match gy_get gt_mp 42 with | some pl => gt_cy gt_m42 pl | none => false) = true := by decide +kernel
theorem gt_y43 : (match gy_get gt_mp 43 with | some pl => gt_cy gt_m43 pl | none => false) = true := by decide +kernel
theorem gt_y44 : (match gy_get gt_mp 44 with | some pl => gt_cy gt_m44 pl | none => false) = true := by decide +kernel
theorem gt_y45 : (match gy_get gt_mp 45 with | some pl => gt_cy gt_m45 pl | none => false) = true := by decide +kernel
theorem gt_y46 : (match gy_get gt_mp 46 with | some pl => gt_cy gt_m46 pl | none => false) = true := by decide +kernel
theorem gt_y47 : (match gy_get gt_mp 47 with | some pl => gt_cy gt_m47 pl | none => false) = true := by decide +kernel
theorem gt_y48 : (match gy_get gt_mp 48 with | some pl => gt_cy gt_m48 pl | none => false) = true := by decide +kernel
theorem gt_y49 : (match gy_get gt_mp 49 with | some pl => gt_cy gt_m49 pl | none => false) = true := by decide +kernel
theorem gt_y50 : (match gy_get gt_mp 50 with | some pl => gt_cy gt_m50 pl | none => false) = true := by decide +kernel
theorem gt_y51 : (match gy_get gt_mp 51 with | some pl => gt_cy gt_m51 pl | none => false) = true := by decide +kernel
theorem gt_y52 : (match gy_get gt_mp 52 with | some pl => gt_cy gt_m52 pl | none => false) = true := by decide +kernel
theorem gt_y53 : (match gy_get gt_mp 53 with | some pl => gt_cy gt_m53 pl | none => false) = true := by decide +kernel
theorem gt_y54 : (match gy_get gt_mp 54 with | some pl => gt_cy gt_m54 pl | none => false) = true := by decide +kernel
theorem gt_y55 : (match gy_get gt_mp 55 with | some pl => gt_cy gt_m55 pl | none => false) = true := by decide +kernel
theorem gt_y56 : (match gy_get gt_mp 56 with | some pl => gt_cy gt_m56 pl | none => false) = true := by decide +kernel
theorem gt_y57 : (match gy_get gt_mp 57 with | some pl => gt_cy gt_m57 pl | none => false) = true := by decide +kernel
theorem gt_y58 : (match gy_get gt_mp 58 with | some pl => gt_cy gt_m58 pl | none => false) = true := by decide +kernel
theorem gt_y59 : (match gy_get gt_mp 59 with | some pl => gt_cy gt_m59 pl | none => false) = true := by decide +kernel
theorem gt_y60 : (match gy_get gt_mp 60 with | some pl => gt_cy gt_m60 pl | none => false) = true := by decide +kernel
theorem gt_y61 : (match gy_get gt_mp 61 with | some pl => gt_cy gt_m61 pl | none => false) = true := by decide +kernel
theorem gt_y62 : (match gy_get gt_mp 62 with | some pl => gt_cy gt_m62 pl | none => false) = true := by decide +kernel
theorem gt_y63 : (match gy_get gt_mp 63 with | some pl => gt_cy gt_m63 pl | none => false) = true := by decide +kernel
theorem gt_y64 : (match gy_get gt_mp 64 with | some pl => gt_cy gt_m64 pl | none => false) = true := by decide +kernel
theorem gt_y65 : (match gy_get gt_mp 65 with | some pl => gt_cy gt_m65 pl | none => false) = true := by decide +kernel
theorem gt_y66 : (match gy_get gt_mp 66 with | some pl => gt_cy gt_m66 pl | none => false) = true := by decide +kernel
theorem gt_y67 : (match gy_get gt_mp 67 with | some pl => gt_cy gt_m67 pl | none => false) = true := by decide +kernel
theorem gt_y68 : (match gy_get gt_mp 68 with | some pl => gt_cy gt_m68 pl | none => false) = true := by decide +kernel
theorem gt_y69 : (match gy_get gt_mp 69 with | some pl => gt_cy gt_m69 pl | none => false) = true := by decide +kernel
theorem gt_y70 : (match gy_get gt_mp 70 with | some pl => gt_cy gt_m70 pl | none => false) = true := by decide +kernel
theorem gt_y71 : (match gy_get gt_mp 71 with | some pl => gt_cy gt_m71 pl | none => false) = true := by decide +kernel
theorem gt_y72 : (match gy_get gt_mp 72 with | some pl => gt_cy gt_m72 pl | none => false) = true := by decide +kernel
theorem gt_y73 : (match gy_get gt_mp 73 with | some pl => gt_cy gt_m73 pl | none => false) = true := by decide +kernel
theorem gt_y74 : (match gy_get gt_mp 74 with | some pl => gt_cy gt_m74 pl | none => false) = true := by decide +kernel
theorem gt_y75 : (match gy_get gt_mp 75 with | some pl => gt_cy gt_m75 pl | none => false) = true := by decide +kernel
theorem gt_y76 : (match gy_get gt_mp 76 with | some pl => gt_cy gt_m76 pl | none => false) = true := by decide +kernel
theorem gt_y77 : (match gy_get gt_mp 77 with | some pl => gt_cy gt_m77 pl | none => false) = true := by decide +kernel
theorem gt_y78 : (match gy_get gt_mp 78 with | some pl => gt_cy gt_m78 pl | none => false) = true := by decide +kernel
theorem gt_y79 : (match gy_get gt_mp 79 with | some pl => gt_cy gt_m79 pl | none => false) = true := by decide +kernel
theorem gt_y80 : (match gy_get gt_mp 80 with | some pl => gt_cy gt_m80 pl | none => false) = true := by decide +kernel
theorem gt_y81 : (match gy_get gt_mp 81 with | some pl => gt_cy gt_m81 pl | none => false) = true := by decide +kernel
theorem gt_y82 : (match gy_get gt_mp 82 with | some pl => gt_cy gt_m82 pl | none => false) = true := by decide +kernel
theorem gt_y83 : (match gy_get gt_mp 83 with | some pl => gt_cy gt_m83 pl | none => false) = true := by decide +kernel
theorem gt_y84 : (match gy_get gt_mp 84 with | some pl => gt_cy gt_m84 pl | none => false) = true := by decide +kernel
theorem gt_y85 : (match gy_get gt_mp 85 with | some pl => gt_cy gt_m85 pl | none => false) = true := by decide +kernel
theorem gt_y86 : (match gy_get gt_mp 86 with | some pl => gt_cy gt_m86 pl | none => false) = true := by decide +kernel
theorem gt_y87 : (match gy_get gt_mp 87 with | some pl => gt_cy gt_m87 pl | none => false) = true := by decide +kernel
theorem gt_y88 : (match gy_get gt_mp 88 with | some pl => gt_cy gt_m88 pl | none => false) = true := by decide +kernel
theorem gt_y89 : (match gy_get gt_mp 89 with | some pl => gt_cy gt_m89 pl | none => false) = true := by decide +kernel
theorem gt_y90 : (match gy_get gt_mp 90 with | some pl => gt_cy gt_m90 pl | none => false) = true := by decide +kernel
theorem gt_y91 : (match gy_get gt_mp 91 with | some pl => gt_cy gt_m91 pl | none => false) = true := by decide +kernel
theorem gt_y92 : (match gy_get gt_mp 92 with | some pl => gt_cy gt_m92 pl | none => false) = true := by decide +kernel
theorem gt_y93 : (match gy_get gt_mp 93 with | some pl => gt_cy gt_m93 pl | none => false) = true := by decide +kernel
theorem gt_y94 : (match gy_get gt_mp 94 with | some pl => gt_cy gt_m94 pl | none => false) = true := by decide +kernel
theorem gt_y95 : (match gy_get gt_mp 95 with | some pl => gt_cy gt_m95 pl | none => false) = true := by decide +kernel
theorem gt_ys : ∀ (j : Nat) (M : gx_M), gt_mm[j]? = some M → (match gy_get gt_mp j with | some pl => gt_cy M pl | none => false) = true := by
  intro j M h
  have hlt : j < 96 := (List.getElem?_eq_some_iff.mp h).1
  match j, hlt with
  | 0, _ => cases h; exact gt_y0
  | 1, _ => cases h; exact gt_y1
  | 2, _ => cases h; exact gt_y2
  | 3, _ => cases h; exact gt_y3
  | 4, _ => cases h; exact gt_y4
  | 5, _ => cases h; exact gt_y5
  | 6, _ => cases h; exact gt_y6
  | 7, _ => cases h; exact gt_y7
  | 8, _ => cases h; exact gt_y8
  | 9, _ => cases h; exact gt_y9
  | 10, _ => cases h; exact gt_y10
  | 11, _ => cases h; exact gt_y11
  | 12, _ => cases h; exact gt_y12
  | 13, _ => cases h; exact gt_y13
  | 14, _ => cases h; exact gt_y14
  | 15, _ => cases h; exact gt_y15
  | 16, _ => cases h; exact gt_y16
  | 17, _ => cases h; exact gt_y17
  | 18, _ => cases h; exact gt_y18
  | 19, _ => cases h; exact gt_y19
  | 20, _ => cases h; exact gt_y20
  | 21, _ => cases h; exact gt_y21
  | 22, _ => cases h; exact gt_y22
  | 23, _ => cases h; exact gt_y23
  | 24, _ => cases h; exact gt_y24
  | 25, _ => cases h; exact gt_y25
  | 26, _ => cases h; exact gt_y26
  | 27, _ => cases h; exact gt_y27
  | 28, _ => cases h; exact gt_y28
  | 29, _ => cases h; exact gt_y29
  | 30, _ => cases h; exact gt_y30
  | 31, _ => cases h; exact gt_y31
  | 32, _ => cases h; exact gt_y32
  | 33, _ => cases h; exact gt_y33
  | 34, _ => cases h; exact gt_y34
  | 35, _ => cases h; exact gt_y35
  | 36, _ => cases h; exact gt_y36
  | 37, _ => cases h; exact gt_y37
  | 38, _ => cases h; exact gt_y38
  | 39, _ => cases h; exact gt_y39
  | 40, _ => cases h; exact gt_y40
  | 41, _ => cases h; exact gt_y41
  | 42, _ => cases h; exact gt_y42
  | 43, _ => cases h; exact gt_y43
  | 44, _ => cases h; exact gt_y44
  | 45, _ => cases h; exact gt_y45
  | 46, _ => cases h; exact gt_y46
  | 47, _ => cases h; exact gt_y47
  | 48, _ => cases h; exact gt_y48
  | 49, _ => cases h; exact gt_y49
  | 50, _ => cases h; exact gt_y50
  | 51, _ => cases h; exact gt_y51
  | 52, _ => cases h; exact gt_y52
  | 53, _ => cases h; exact gt_y53
  | 54, _ => cases h; exact gt_y54
  | 55, _ => cases h; exact gt_y55
  | 56, _ => cases h; exact gt_y56
  | 57, _ => cases h; exact gt_y57
  | 58, _ => cases h; exact gt_y58
  | 59, _ => cases h; exact gt_y59
  | 60, _ => cases h; exact gt_y60
  | 61, _ => cases h; exact gt_y61
  | 62, _ => cases h; exact gt_y62
  | 63, _ => cases h; exact gt_y63
  | 64, _ => cases h; exact gt_y64
  | 65, _ => cases h; exact gt_y65
  | 66, _ => cases h; exact gt_y66
  | 67, _ => cases h; exact gt_y67
  | 68, _ => cases h; exact gt_y68
  | 69, _ => cases h; exact gt_y69
  | 70, _ => cases h; exact gt_y70
  | 71, _ => cases h; exact gt_y71
  | 72, _ => cases h; exact gt_y72
  | 73, _ => cases h; exact gt_y73
  | 74, _ => cases h; exact gt_y74
  | 75, _ => cases h; exact gt_y75
  | 76, _ => cases h; exact gt_y76
  | 77, _ => cases h; exact gt_y77
  | 78, _ => cases h; exact gt_y78
  | 79, _ => cases h; exact gt_y79
  | 80, _ => cases h; exact gt_y80
  | 81, _ => cases h; exact gt_y81
  | 82, _ => cases h; exact gt_y82
  | 83, _ => cases h; exact gt_y83
  | 84, _ => cases h; exact gt_y84
  | 85, _ => cases h; exact gt_y85
  | 86, _ => cases h; exact gt_y86
  | 87, _ => cases h; exact gt_y87
  | 88, _ => cases h; exact gt_y88
  | 89, _ => cases h; exact gt_y89
  | 90, _ => cases h; exact gt_y90
  | 91, _ => cases h; exact gt_y91
  | 92, _ => cases h; exact gt_y92
  | 93, _ => cases h; exact gt_y93
  | 94, _ => cases h; exact gt_y94
  | 95, _ => cases h; exact gt_y95
  | n + 96, hl => omega
theorem gt_yM {j : Nat} {M : gx_M} (h : gt_mm[j]? = some M) : (∃ ro : vw_C, gt_cl[gx_ow M]? = some ro ∧ (gx_y M).cls = ro.1) ∧ Cond.initialized (gx_y M).cls ∈ gt_Tb ∧ plainName (gx_y M).cls = true ∧ ((gx_y M).cls ≠ "java/lang/invoke/MethodHandle" ∧ (gx_y M).cls ≠ "java/lang/invoke/VarHandle") ∧ (gx_in M = true → (gx_y M).name = "<init>") ∧ gx_ml M ≤ 40 ∧
    (∀ pc i, gx_at M pc = some i → ∃ len, decode (gx_cc M) pc = .ok (i, len) ∧ (gx_len i = 0 ∨ len = gx_len i)) := by
  have h1 := gt_ys j M h
  split at h1
  · rename_i pl hpl
    unfold gt_cy at h1
    split at h1
    · rename_i ro hro
      rw [gy_get_eq] at hro
      simp only [Bool.and_eq_true, Bool.or_eq_true, Bool.not_eq_true', decide_eq_true_eq] at h1
      obtain ⟨g1, g2, g3, g4, g5, g6, g7⟩ := h1
      exact ⟨⟨ro, hro, g1⟩, gt_is_in g2, g3, ⟨g4, g5⟩, fun hi => g6.resolve_left (by rw [hi]; decide), g7, fun pc i hi => by
        obtain ⟨c, hc, hm⟩ := gt_at_in hi
        obtain ⟨ns, hns⟩ := gt_ds j M h c hc
        exact gt_dec_ok hns hm⟩
    · cases h1
  · cases h1
theorem gt_gY : gx_gY gt_G gt_cl gt_Tb := by
  intro j M h
  have h' : (if j = 0 then none else gy_get gt_mm j) = some M := h
  by_cases h0 : j = 0
  · rw [if_pos h0] at h'
    cases h'
  · rw [if_neg h0, gy_get_eq] at h'
    obtain ⟨g1, g2, g3, g4, g5, g6, g7⟩ := gt_yM h'
    exact ⟨g1, gt_cws j M h0 h', g2, g3, g4, g5, g6, g7⟩
end
section
def gt_strs : List (String × Nat × String) := [("HandheldPair", 45, "no room on the tape"), ("HandheldPair", 56, "no such length of the tape"), ("HandheldPair", 61, "no such byte of the tape"), ("HandheldPair", 84, "the cartridge is refused"), ("HandheldPair", 112, "there is no cartridge"), ("HandheldPair", 121, "not 1 to 80,000"), ("HandheldPair", 139, "nothing is told of that"), ("HandheldPair", 148, "outside of the screen"), ("HandheldPair", 165, "no such byte of the cartridge"), ("HandheldPair", 177, "nothing was kept there"), ("HandheldPair", 179, "no such state"), ("HandheldPair", 183, "no such console"), ("HandheldPair$Processor", 13, "+")]
def gt_sok (e : String × Nat × String) : Prop := Cond.stringRef e.1 e.2.1 e.2.2 ∈ lw_tbl ∧ Cond.exactly (Term.string e.1 e.2.1) "java/lang/String" ∈ flatC (Cond.and given_1 narrow_1)
theorem gt_inN {q : Nat × Nat} {w : Cond} (h : gt_wd q = some w) : w ∈ lw_tbl := by
  unfold gt_wd at h
  split at h
  · rename_i l hl
    rw [gy_get_eq] at h hl
    exact gt_ch_in l (List.mem_of_getElem? hl) w (List.mem_of_getElem? h)
  · cases h
theorem gt_s0 : gt_sok ("HandheldPair", 45, "no room on the tape") := ⟨gt_inN (q := (3, 116)) rfl, by decide +kernel⟩
theorem gt_s1 : gt_sok ("HandheldPair", 56, "no such length of the tape") := ⟨gt_inN (q := (3, 163)) rfl, by decide +kernel⟩
theorem gt_s2 : gt_sok ("HandheldPair", 61, "no such byte of the tape") := ⟨gt_inN (q := (3, 187)) rfl, by decide +kernel⟩
theorem gt_s3 : gt_sok ("HandheldPair", 84, "the cartridge is refused") := ⟨gt_inN (q := (3, 229)) rfl, by decide +kernel⟩
theorem gt_s4 : gt_sok ("HandheldPair", 112, "there is no cartridge") := ⟨gt_inN (q := (4, 91)) rfl, by decide +kernel⟩
theorem gt_s5 : gt_sok ("HandheldPair", 121, "not 1 to 80,000") := ⟨gt_inN (q := (4, 119)) rfl, by decide +kernel⟩
theorem gt_s6 : gt_sok ("HandheldPair", 139, "nothing is told of that") := ⟨gt_inN (q := (7, 75)) rfl, by decide +kernel⟩
theorem gt_s7 : gt_sok ("HandheldPair", 148, "outside of the screen") := ⟨gt_inN (q := (7, 116)) rfl, by decide +kernel⟩
theorem gt_s8 : gt_sok ("HandheldPair", 165, "no such byte of the cartridge") := ⟨gt_inN (q := (7, 141)) rfl, by decide +kernel⟩
theorem gt_s9 : gt_sok ("HandheldPair", 177, "nothing was kept there") := ⟨gt_inN (q := (7, 212)) rfl, by decide +kernel⟩
theorem gt_s10 : gt_sok ("HandheldPair", 179, "no such state") := ⟨gt_inN (q := (7, 153)) rfl, by decide +kernel⟩
theorem gt_s11 : gt_sok ("HandheldPair", 183, "no such console") := ⟨gt_inN (q := (3, 209)) rfl, by decide +kernel⟩
theorem gt_s12 : gt_sok ("HandheldPair$Processor", 13, "+") := ⟨gt_inN (q := (1, 59)) rfl, by decide +kernel⟩
theorem gt_sall : ∀ e ∈ gt_strs, gt_sok e := by
  show ∀ e ∈ [("HandheldPair", 45, "no room on the tape"), ("HandheldPair", 56, "no such length of the tape"), ("HandheldPair", 61, "no such byte of the tape"), ("HandheldPair", 84, "the cartridge is refused"), ("HandheldPair", 112, "there is no cartridge"), ("HandheldPair", 121, "not 1 to 80,000"), ("HandheldPair", 139, "nothing is told of that"), ("HandheldPair", 148, "outside of the screen"), ("HandheldPair", 165, "no such byte of the cartridge"), ("HandheldPair", 177, "nothing was kept there"), ("HandheldPair", 179, "no such state"), ("HandheldPair", 183, "no such console"), ("HandheldPair$Processor", 13, "+")], gt_sok e
  exact List.forall_mem_cons.mpr ⟨gt_s0, List.forall_mem_cons.mpr ⟨gt_s1, List.forall_mem_cons.mpr ⟨gt_s2, List.forall_mem_cons.mpr ⟨gt_s3, List.forall_mem_cons.mpr ⟨gt_s4, List.forall_mem_cons.mpr ⟨gt_s5, List.forall_mem_cons.mpr ⟨gt_s6, List.forall_mem_cons.mpr ⟨gt_s7, List.forall_mem_cons.mpr ⟨gt_s8, List.forall_mem_cons.mpr ⟨gt_s9, List.forall_mem_cons.mpr ⟨gt_s10, List.forall_mem_cons.mpr ⟨gt_s11, List.forall_mem_cons.mpr ⟨gt_s12, fun _ h => absurd h List.not_mem_nil⟩⟩⟩⟩⟩⟩⟩⟩⟩⟩⟩⟩⟩
noncomputable def gt_qs (ow idx : Nat) (v : (Int32 ⊕ (Int64 ⊕ Nat)) × Nat × Nat) : Bool := match v.1 with
  | .inr (.inr k) => (match gy_get gt_cl ow, gy_get gt_strs (k - 1) with
    | some ro, some e => decide (ro.1 = e.1) && (decide (idx = e.2.1) && (decide (0 < k) && decide (k < gt_mo)))
    | _, _ => false)
  | _ => true
theorem gt_qs_all : gt_all gt_qs 0 gt_ks = true := by decide +kernel
section GTS
variable {s : State} {m : MethodId} {b : Nat}
theorem gt_str_ex (hts : ∀ w ∈ lw_tbl, w.before #[Value.ref b] s = true) (hgv : (Jvm.Cond.and given_1 narrow_1).before #[Value.ref b] s = true) (e : String × Nat × String) (he : e ∈ gt_strs) : ∃ a, a < s.heap.size ∧ vk_R e.1 e.2.1 e.2.2 a s := by
  obtain ⟨h1, h2⟩ := gt_sall e he
  have h3 := flat_of_before _ hgv _ h2
  obtain ⟨a, _, cell, _, g1, -, g2, -⟩ := Cond.exactly_spec h3
  exact ⟨a, (Array.getElem?_eq_some_iff.mp g2).1, vk_R.of (hts _ h1) g1⟩
theorem gt_Ts (hts : ∀ w ∈ lw_tbl, w.before #[Value.ref b] s = true) : ∀ w ∈ gt_Tb, w.before #[Value.ref b] s = true := fun w hw => hts w (List.mem_filter.mp hw).1
theorem gt_Kn_ex (hts : ∀ w ∈ lw_tbl, w.before #[Value.ref b] s = true) (hown : s.vm.findClass "HandheldPairLaw" = some m.cls) : ∃ (dC : Nat → ClassId) (dI : Nat → Nat → Nat), gx_Kn gt_cl dC dI s := by
  have h : ∀ k, ∃ q : ClassId × (Nat → Nat), ∀ r : vw_C, gt_cl[k]? = some r → (0 < k → u_Kn s r.1 r.2.1 r.2.2 q.1 q.2) ∧ s.vm.findClass r.1 = some q.1 := by
    intro k
    cases hr : gt_cl[k]? with
    | none => exact ⟨(0, fun _ => 0), fun r h => by cases h⟩
    | some r =>
      by_cases h0 : 0 < k
      · obtain ⟨q, hq⟩ := gt_gd.2.2.2.2 k r h0 hr
        obtain ⟨r', e1, hi, -, hws, -⟩ := gt_gK k q.1 q.2 hq
        have : r' = r := Option.some.inj (e1.symm.trans hr)
        subst this
        obtain ⟨cC, iS, hK⟩ := u_known (ws := gt_Tb) (args := #[Value.ref b]) (gt_Ts hts) hws (gt_Ts hts _ hi)
        exact ⟨(cC, iS), fun r h => by cases h; exact ⟨fun _ => hK, hK.2.1⟩⟩
      · have hk : k = 0 := by omega
        subst hk
        cases hr
        exact ⟨(m.cls, fun _ => 0), fun r h => by cases h; exact ⟨fun h => absurd h h0, hown⟩⟩
  exact ⟨fun k => (Classical.choose (h k)).1, fun k => (Classical.choose (h k)).2, fun k r hr => Classical.choose_spec (h k) r hr⟩
theorem gt_od_ex (hts : ∀ w ∈ lw_tbl, w.before #[Value.ref b] s = true) (hgv : (Jvm.Cond.and given_1 narrow_1).before #[Value.ref b] s = true) (hb : b < s.heap.size) : ∃ od : Nat → Nat, od 0 = b ∧ (∀ j, j < gt_mo → od j < s.heap.size) ∧ gx_St gt_G gt_cl od gt_mo s := by
  have h : ∀ k, ∃ a, a < s.heap.size ∧ (0 < k → ∀ e, gt_strs[k - 1]? = some e → vk_R e.1 e.2.1 e.2.2 a s) := by
    intro k
    cases hr : gt_strs[k - 1]? with
    | none => exact ⟨b, hb, fun _ e h => by cases h⟩
    | some e =>
      obtain ⟨a, h1, h2⟩ := gt_str_ex hts hgv e (List.mem_of_getElem? hr)
      exact ⟨a, h1, fun _ e' h => by cases h; exact h2⟩
  refine ⟨fun k => if k = 0 then b else Classical.choose (h k), rfl, fun j _ => ?_, fun ow idx k hk => ?_⟩
  · dsimp only
    split
    · exact hb
    · exact (Classical.choose_spec (h j)).1
  · have h' : (gt_lu gt_ks ow idx).map (fun e => e.1) = some (.inr (.inr k)) := hk
    obtain ⟨v, hv, he⟩ := Option.map_eq_some_iff.mp h'
    have hc := gt_ck gt_qs_all hv
    unfold gt_qs at hc
    rw [he] at hc
    dsimp only at hc
    split at hc
    · rename_i ro e h1 h2
      rw [gy_get_eq] at h1 h2
      simp only [Bool.and_eq_true, decide_eq_true_eq] at hc
      obtain ⟨c1, c2, c3, c4⟩ := hc
      refine ⟨ro, e.2.2, h1, ?_, c4⟩
      have := (Classical.choose_spec (h k)).2 c3 e h2
      dsimp only
      rw [if_neg (by omega), c1, c2]
      exact this
    · cases hc
end GTS
def gt_aop : List (Nat × Nat × Nat) := [(7, 1, 47), (6, 2, 126), (15, 7, 221)]
def gt_hosts : List String := ["HandheldPairLaw", "HandheldPair", "HandheldPair", "HandheldPair", "HandheldPair", "HandheldPair", "HandheldPair", "HandheldPair", "HandheldPair", "HandheldPair", "HandheldPair", "HandheldPair", "HandheldPair", "HandheldPairModel", "HandheldPairModel", "HandheldPairModel", "HandheldPairModel", "java/lang/IllegalStateException", "java/lang/IllegalArgumentException", "java/util/NoSuchElementException", "java/lang/UnsupportedOperationException", "java/lang/IndexOutOfBoundsException"]
noncomputable def gt_qa (ow idx : Nat) (v : Nat × Nat × Nat × Nat) : Bool := if v.1 = 9 then (match gy_get gt_cl v.2.1, gy_fnd (fun e => e.1 == v.2.1) gt_aop with
    | some r, some e => decide (gt_wd e.2 = some (Cond.arrayOver (.object r.1)))
    | _, _ => false) else true
theorem gt_qa_all : gt_all gt_qa 0 gt_mt = true := by decide +kernel
noncomputable def gt_qn (ow idx : Nat) (v : Nat × Nat × Nat × Nat) : Bool := if v.1 = 7 then (match gy_get gt_cl ow, gy_get gt_mm v.2.1, gy_get gt_hosts ow with
    | some ro, some M, some host => decide (v.2.1 ≠ 0) && decide (gt_wd v.2.2 = some (Cond.methodLinkNest ro.1 idx (gx_y M) host))
    | _, _, _ => false) else true
theorem gt_qn_all : gt_all gt_qn 0 gt_mt = true := by decide +kernel
theorem gt_AO {s : State} {b : Nat} (hts : ∀ w ∈ lw_tbl, w.before #[Value.ref b] s = true) : gx_AO gt_G gt_cl s ∧ gx_AB gt_G s := by
  refine ⟨fun ow idx ci h => ?_, fun ow idx ci h => over_moved (Vm.Alike.refl _) (hts _ (gt_inN (q := (8, 101)) rfl))⟩
  obtain ⟨q, hq⟩ := gt_mtk h
  have hc := gt_ck gt_qa_all hq
  unfold gt_qa at hc
  rw [if_pos rfl] at hc
  split at hc
  · rename_i r e h1 h2
    rw [gy_get_eq] at h1
    exact ⟨r, h1, va_AO.of (hts _ (gt_inN (of_decide_eq_true hc)))⟩
  · cases hc
theorem gt_Ns {s : State} {b : Nat} (hts : ∀ w ∈ lw_tbl, w.before #[Value.ref b] s = true) : gx_Ns gt_G gt_cl s := by
  intro ow idx j h
  obtain ⟨q, hq⟩ := gt_mtk h
  have hc := gt_ck gt_qn_all hq
  unfold gt_qn at hc
  rw [if_pos rfl] at hc
  split at hc
  · rename_i ro M host h1 h2 h3
    rw [gy_get_eq] at h1 h2
    simp only [Bool.and_eq_true, decide_eq_true_eq] at hc
    exact ⟨ro, M, host, h1, gt_mmk hc.1 h2, va_Nw.of rfl (hts _ (gt_inN hc.2))⟩
  · cases hc
def gt_sbok (e : Nat × Nat × Bool) : Prop := ∃ r1 r2 : vw_C, gt_cl[e.1]? = some r1 ∧ gt_cl[e.2.1]? = some r2 ∧ ((e.2.2 = true ∧ Cond.castable r1.1 r2.1 ∈ lw_tbl) ∨ (e.2.2 = false ∧ Cond.not (Cond.castable r1.1 r2.1) ∈ flatC (Cond.and given_1 narrow_1)))
theorem gt_b0 : gt_sbok (17, 17, true) := ⟨_, _, rfl, rfl, Or.inl ⟨rfl, gt_inN (q := (3, 74)) rfl⟩⟩
theorem gt_b1 : gt_sbok (17, 18, false) := ⟨_, _, rfl, rfl, Or.inr ⟨rfl, by decide +kernel⟩⟩
theorem gt_b2 : gt_sbok (17, 19, false) := ⟨_, _, rfl, rfl, Or.inr ⟨rfl, by decide +kernel⟩⟩
theorem gt_b3 : gt_sbok (17, 20, false) := ⟨_, _, rfl, rfl, Or.inr ⟨rfl, by decide +kernel⟩⟩
theorem gt_b4 : gt_sbok (17, 21, false) := ⟨_, _, rfl, rfl, Or.inr ⟨rfl, by decide +kernel⟩⟩
theorem gt_b5 : gt_sbok (18, 17, false) := ⟨_, _, rfl, rfl, Or.inr ⟨rfl, by decide +kernel⟩⟩
theorem gt_b6 : gt_sbok (18, 18, true) := ⟨_, _, rfl, rfl, Or.inl ⟨rfl, gt_inN (q := (3, 156)) rfl⟩⟩
theorem gt_b7 : gt_sbok (18, 19, false) := ⟨_, _, rfl, rfl, Or.inr ⟨rfl, by decide +kernel⟩⟩
theorem gt_b8 : gt_sbok (18, 20, false) := ⟨_, _, rfl, rfl, Or.inr ⟨rfl, by decide +kernel⟩⟩
theorem gt_b9 : gt_sbok (18, 21, false) := ⟨_, _, rfl, rfl, Or.inr ⟨rfl, by decide +kernel⟩⟩
theorem gt_b10 : gt_sbok (19, 17, false) := ⟨_, _, rfl, rfl, Or.inr ⟨rfl, by decide +kernel⟩⟩
theorem gt_b11 : gt_sbok (19, 18, false) := ⟨_, _, rfl, rfl, Or.inr ⟨rfl, by decide +kernel⟩⟩
theorem gt_b12 : gt_sbok (19, 19, true) := ⟨_, _, rfl, rfl, Or.inl ⟨rfl, gt_inN (q := (3, 180)) rfl⟩⟩
theorem gt_b13 : gt_sbok (19, 20, false) := ⟨_, _, rfl, rfl, Or.inr ⟨rfl, by decide +kernel⟩⟩
theorem gt_b14 : gt_sbok (19, 21, false) := ⟨_, _, rfl, rfl, Or.inr ⟨rfl, by decide +kernel⟩⟩
theorem gt_b15 : gt_sbok (20, 17, false) := ⟨_, _, rfl, rfl, Or.inr ⟨rfl, by decide +kernel⟩⟩
theorem gt_b16 : gt_sbok (20, 18, false) := ⟨_, _, rfl, rfl, Or.inr ⟨rfl, by decide +kernel⟩⟩
theorem gt_b17 : gt_sbok (20, 19, false) := ⟨_, _, rfl, rfl, Or.inr ⟨rfl, by decide +kernel⟩⟩
theorem gt_b18 : gt_sbok (20, 20, true) := ⟨_, _, rfl, rfl, Or.inl ⟨rfl, gt_inN (q := (3, 222)) rfl⟩⟩
theorem gt_b19 : gt_sbok (20, 21, false) := ⟨_, _, rfl, rfl, Or.inr ⟨rfl, by decide +kernel⟩⟩
theorem gt_b20 : gt_sbok (21, 17, false) := ⟨_, _, rfl, rfl, Or.inr ⟨rfl, by decide +kernel⟩⟩
theorem gt_b21 : gt_sbok (21, 18, false) := ⟨_, _, rfl, rfl, Or.inr ⟨rfl, by decide +kernel⟩⟩
theorem gt_b22 : gt_sbok (21, 19, false) := ⟨_, _, rfl, rfl, Or.inr ⟨rfl, by decide +kernel⟩⟩
theorem gt_b23 : gt_sbok (21, 20, false) := ⟨_, _, rfl, rfl, Or.inr ⟨rfl, by decide +kernel⟩⟩
theorem gt_b24 : gt_sbok (21, 21, true) := ⟨_, _, rfl, rfl, Or.inl ⟨rfl, gt_inN (q := (7, 109)) rfl⟩⟩
theorem gt_sball : ∀ e ∈ gt_sb, gt_sbok e := by
  show ∀ e ∈ [((17, 17, true) : Nat × Nat × Bool), ((17, 18, false) : Nat × Nat × Bool), ((17, 19, false) : Nat × Nat × Bool), ((17, 20, false) : Nat × Nat × Bool), ((17, 21, false) : Nat × Nat × Bool), ((18, 17, false) : Nat × Nat × Bool), ((18, 18, true) : Nat × Nat × Bool), ((18, 19, false) : Nat × Nat × Bool), ((18, 20, false) : Nat × Nat × Bool), ((18, 21, false) : Nat × Nat × Bool), ((19, 17, false) : Nat × Nat × Bool), ((19, 18, false) : Nat × Nat × Bool), ((19, 19, true) : Nat × Nat × Bool), ((19, 20, false) : Nat × Nat × Bool), ((19, 21, false) : Nat × Nat × Bool), ((20, 17, false) : Nat × Nat × Bool), ((20, 18, false) : Nat × Nat × Bool), ((20, 19, false) : Nat × Nat × Bool), ((20, 20, true) : Nat × Nat × Bool), ((20, 21, false) : Nat × Nat × Bool), ((21, 17, false) : Nat × Nat × Bool), ((21, 18, false) : Nat × Nat × Bool), ((21, 19, false) : Nat × Nat × Bool), ((21, 20, false) : Nat × Nat × Bool), ((21, 21, true) : Nat × Nat × Bool)], gt_sbok e
  exact List.forall_mem_cons.mpr ⟨gt_b0, List.forall_mem_cons.mpr ⟨gt_b1, List.forall_mem_cons.mpr ⟨gt_b2, List.forall_mem_cons.mpr ⟨gt_b3, List.forall_mem_cons.mpr ⟨gt_b4, List.forall_mem_cons.mpr ⟨gt_b5, List.forall_mem_cons.mpr ⟨gt_b6, List.forall_mem_cons.mpr ⟨gt_b7, List.forall_mem_cons.mpr ⟨gt_b8, List.forall_mem_cons.mpr ⟨gt_b9, List.forall_mem_cons.mpr ⟨gt_b10, List.forall_mem_cons.mpr ⟨gt_b11, List.forall_mem_cons.mpr ⟨gt_b12, List.forall_mem_cons.mpr ⟨gt_b13, List.forall_mem_cons.mpr ⟨gt_b14, List.forall_mem_cons.mpr ⟨gt_b15, List.forall_mem_cons.mpr ⟨gt_b16, List.forall_mem_cons.mpr ⟨gt_b17, List.forall_mem_cons.mpr ⟨gt_b18, List.forall_mem_cons.mpr ⟨gt_b19, List.forall_mem_cons.mpr ⟨gt_b20, List.forall_mem_cons.mpr ⟨gt_b21, List.forall_mem_cons.mpr ⟨gt_b22, List.forall_mem_cons.mpr ⟨gt_b23, List.forall_mem_cons.mpr ⟨gt_b24, fun _ h => absurd h List.not_mem_nil⟩⟩⟩⟩⟩⟩⟩⟩⟩⟩⟩⟩⟩⟩⟩⟩⟩⟩⟩⟩⟩⟩⟩⟩⟩
theorem gt_Sb {s : State} {b : Nat} (hts : ∀ w ∈ lw_tbl, w.before #[Value.ref b] s = true) (hgv : (Jvm.Cond.and given_1 narrow_1).before #[Value.ref b] s = true) : gx_Sb gt_G gt_cl s := by
  intro ce ci bb h
  have h' : (gt_sb.find? (fun q => q.1 == ce && q.2.1 == ci)).map (·.2.2) = some bb := h
  obtain ⟨e, he, rfl⟩ := Option.map_eq_some_iff.mp h'
  have h1 := List.find?_some he
  simp only [Bool.and_eq_true, beq_iff_eq] at h1
  obtain ⟨r1, r2, g1, g2, g3⟩ := gt_sball e (List.mem_of_find?_eq_some he)
  rw [h1.1] at g1
  rw [h1.2] at g2
  rcases g3 with ⟨g3, g4⟩ | ⟨g3, g4⟩
  · obtain ⟨c1, c2, k1, k2, k3⟩ := Cond.castable_spec (hts _ g4)
    exact ⟨r1, r2, c1, c2, g1, g2, k1, k2, by rw [g3]; exact k3⟩
  · obtain ⟨c1, c2, k1, k2, k3⟩ := va_Nc.of (flat_of_before _ hgv _ g4)
    exact ⟨r1, r2, c1, c2, g1, g2, k1, k2, by rw [g3]; exact k3⟩
end
section
def gt_xp : List (Nat × Nat) := [(1, 17), (1, 18), (1, 19), (1, 20), (1, 21), (1, 22), (1, 23), (1, 35), (1, 42), (1, 43), (1, 44), (1, 52), (1, 58), (1, 119), (1, 127), (1, 135), (1, 146), (1, 189), (1, 195), (1, 215), (1, 221), (2, 0), (2, 6), (2, 22), (2, 28), (2, 56), (2, 62), (2, 118), (2, 124), (2, 131), (2, 171), (2, 200), (3, 24), (3, 52), (3, 67), (3, 72), (3, 73), (3, 74), (3, 75), (3, 76), (3, 77), (3, 78), (3, 79), (3, 80), (3, 81), (3, 82), (3, 83), (3, 84), (3, 85), (3, 86), (3, 87), (3, 88), (3, 89), (3, 90), (3, 91), (3, 92), (3, 93), (3, 94), (3, 95), (3, 96), (3, 97), (3, 98), (3, 99), (3, 100), (3, 101), (3, 102), (3, 103), (3, 104), (3, 105), (3, 106), (3, 107), (3, 108), (3, 109), (3, 110), (3, 111), (3, 112), (3, 113), (3, 114), (3, 115), (3, 117), (3, 118), (3, 119), (3, 120), (3, 121), (3, 122), (3, 123), (3, 124), (3, 125), (3, 126), (3, 127), (3, 128), (3, 129), (3, 130), (3, 131), (3, 132), (3, 133), (3, 134), (3, 135), (3, 136), (3, 137), (3, 138), (3, 139), (3, 140), (3, 141), (3, 149), (3, 154), (3, 155), (3, 156), (3, 157), (3, 158), (3, 159), (3, 160), (3, 161), (3, 162), (3, 164), (3, 165), (3, 166), (3, 167), (3, 168), (3, 169), (3, 173), (3, 178), (3, 179), (3, 180), (3, 181), (3, 182), (3, 183), (3, 184), (3, 185), (3, 186), (3, 188), (3, 189), (3, 190), (3, 191), (3, 192), (3, 193), (3, 200), (3, 220), (3, 221), (3, 222), (3, 223), (3, 224), (3, 225), (3, 226), (3, 227), (3, 228), (3, 230), (3, 231), (3, 232), (3, 233), (3, 234), (3, 235), (7, 102), (7, 107), (7, 108), (7, 109), (7, 110), (7, 111), (7, 112), (7, 113), (7, 114), (7, 115), (7, 117), (7, 118), (7, 119), (7, 120), (7, 121), (7, 122), (7, 218), (7, 226), (7, 232), (8, 45), (8, 51), (8, 98), (9, 70), (9, 105), (10, 205), (10, 214), (11, 29), (11, 30), (11, 31), (11, 32), (11, 131), (11, 156), (11, 177), (11, 189), (11, 190), (11, 191), (11, 192), (11, 193), (11, 194), (11, 195), (11, 196), (12, 189), (12, 198)]
noncomputable def gt_xw : List Cond := gt_xp.filterMap gt_wd ++ [Cond.isRef (Term.static "java/lang/Throwable" "UNASSIGNED_STACK" "[Ljava/lang/StackTraceElement;"), Cond.isRef (Term.static "java/lang/Throwable" "SUPPRESSED_SENTINEL" "Ljava/util/List;")]
theorem gt_xr : Cond.isRef (Term.static "java/lang/Throwable" "UNASSIGNED_STACK" "[Ljava/lang/StackTraceElement;") ∈ flatC (Cond.and given_1 narrow_1) ∧ Cond.isRef (Term.static "java/lang/Throwable" "SUPPRESSED_SENTINEL" "Ljava/util/List;") ∈ flatC (Cond.and given_1 narrow_1) := ⟨by decide +kernel, by decide +kernel⟩
theorem gt_xw_ok {s : State} {b : Nat} (hts : ∀ w ∈ lw_tbl, w.before #[Value.ref b] s = true) (hgv : (Jvm.Cond.and given_1 narrow_1).before #[Value.ref b] s = true) : ∀ w ∈ gt_xw, w.before #[Value.ref b] s = true := by
  intro w hw
  rcases List.mem_append.mp hw with hw | hw
  · obtain ⟨q, -, hq⟩ := List.mem_filterMap.mp hw
    exact hts w (gt_inN hq)
  · rcases List.mem_cons.mp hw with rfl | hw
    · exact flat_of_before _ hgv _ gt_xr.1
    · rcases List.mem_cons.mp hw with rfl | hw
      · exact flat_of_before _ hgv _ gt_xr.2
      · cases hw
theorem gt_x1_47 : gx_pass 7 prog_23_method_2_code ∧ ∀ a ∈ gx_oa "HandheldPair" "java/lang/IllegalStateException" 47 7 prog_23_method_2_code, a ∈ gt_xw := by
  have h : ((gx_oa "HandheldPair" "java/lang/IllegalStateException" 47 7 prog_23_method_2_code).all fun a => decide (a ∈ gt_xw)) = true := by decide +kernel
  exact ⟨⟨by decide +kernel, by decide +kernel, by decide +kernel, by decide +kernel⟩, fun a ha => of_decide_eq_true (List.all_eq_true.mp h a ha)⟩
theorem gt_x1_58 : gx_pass 7 prog_22_method_2_code ∧ ∀ a ∈ gx_oa "HandheldPair" "java/lang/IllegalArgumentException" 58 7 prog_22_method_2_code, a ∈ gt_xw := by
  have h : ((gx_oa "HandheldPair" "java/lang/IllegalArgumentException" 58 7 prog_22_method_2_code).all fun a => decide (a ∈ gt_xw)) = true := by decide +kernel
  exact ⟨⟨by decide +kernel, by decide +kernel, by decide +kernel, by decide +kernel⟩, fun a ha => of_decide_eq_true (List.all_eq_true.mp h a ha)⟩
theorem gt_x1_63 : gx_pass 13 prog_36_method_4_code ∧ ∀ a ∈ gx_oa "HandheldPair" "java/util/NoSuchElementException" 63 13 prog_36_method_4_code, a ∈ gt_xw := by
  have h : ((gx_oa "HandheldPair" "java/util/NoSuchElementException" 63 13 prog_36_method_4_code).all fun a => decide (a ∈ gt_xw)) = true := by decide +kernel
  exact ⟨⟨by decide +kernel, by decide +kernel, by decide +kernel, by decide +kernel⟩, fun a ha => of_decide_eq_true (List.all_eq_true.mp h a ha)⟩
theorem gt_x1_86 : gx_pass 7 prog_34_method_2_code ∧ ∀ a ∈ gx_oa "HandheldPair" "java/lang/UnsupportedOperationException" 86 7 prog_34_method_2_code, a ∈ gt_xw := by
  have h : ((gx_oa "HandheldPair" "java/lang/UnsupportedOperationException" 86 7 prog_34_method_2_code).all fun a => decide (a ∈ gt_xw)) = true := by decide +kernel
  exact ⟨⟨by decide +kernel, by decide +kernel, by decide +kernel, by decide +kernel⟩, fun a ha => of_decide_eq_true (List.all_eq_true.mp h a ha)⟩
theorem gt_x1_150 : gx_pass 7 prog_24_method_2_code ∧ ∀ a ∈ gx_oa "HandheldPair" "java/lang/IndexOutOfBoundsException" 150 7 prog_24_method_2_code, a ∈ gt_xw := by
  have h : ((gx_oa "HandheldPair" "java/lang/IndexOutOfBoundsException" 150 7 prog_24_method_2_code).all fun a => decide (a ∈ gt_xw)) = true := by decide +kernel
  exact ⟨⟨by decide +kernel, by decide +kernel, by decide +kernel, by decide +kernel⟩, fun a ha => of_decide_eq_true (List.all_eq_true.mp h a ha)⟩
def gt_xk : List (Nat × Nat × Nat) := [(1, 47, 17), (1, 58, 18), (1, 63, 19), (1, 86, 20), (1, 150, 21)]
def gt_xok (e : Nat × Nat × Nat) : Prop := ∃ (ro r : vw_C) (ix : Nat) (rx : ByteArray), gt_cl[e.1]? = some ro ∧ gt_cl[e.2.2]? = some r ∧ Bundle.fit r.1 = true ∧ gx_pass ix rx ∧ ∀ a ∈ gx_oa ro.1 r.1 e.2.1 ix rx, a ∈ gt_xw
theorem gt_xall : ∀ e ∈ gt_xk, gt_xok e := by
  show ∀ e ∈ [((1, 47, 17) : Nat × Nat × Nat), ((1, 58, 18) : Nat × Nat × Nat), ((1, 63, 19) : Nat × Nat × Nat), ((1, 86, 20) : Nat × Nat × Nat), ((1, 150, 21) : Nat × Nat × Nat)], gt_xok e
  exact List.forall_mem_cons.mpr ⟨⟨_, _, _, _, rfl, rfl, by decide +kernel, gt_x1_47.1, gt_x1_47.2⟩, List.forall_mem_cons.mpr ⟨⟨_, _, _, _, rfl, rfl, by decide +kernel, gt_x1_58.1, gt_x1_58.2⟩, List.forall_mem_cons.mpr ⟨⟨_, _, _, _, rfl, rfl, by decide +kernel, gt_x1_63.1, gt_x1_63.2⟩, List.forall_mem_cons.mpr ⟨⟨_, _, _, _, rfl, rfl, by decide +kernel, gt_x1_86.1, gt_x1_86.2⟩, List.forall_mem_cons.mpr ⟨⟨_, _, _, _, rfl, rfl, by decide +kernel, gt_x1_150.1, gt_x1_150.2⟩, fun _ h => absurd h List.not_mem_nil⟩⟩⟩⟩⟩
noncomputable def gt_qx (ow idx : Nat) (v : Nat × Nat × Nat × Nat) : Bool := if v.1 = 8 then decide ((ow, idx, v.2.1) ∈ gt_xk) else true
theorem gt_qx_all : gt_all gt_qx 0 gt_mt = true := by decide +kernel
theorem gt_Xs {s : State} {b : Nat} (hts : ∀ w ∈ lw_tbl, w.before #[Value.ref b] s = true) (hgv : (Jvm.Cond.and given_1 narrow_1).before #[Value.ref b] s = true) : gx_Xs gt_G gt_cl s := by
  intro ow idx ci h
  obtain ⟨q, hq⟩ := gt_mtk h
  have hc := gt_ck gt_qx_all hq
  unfold gt_qx at hc
  rw [if_pos rfl] at hc
  obtain ⟨ro, r, ix, rx, h1, h2, h3, h0, h4⟩ := gt_xall _ (of_decide_eq_true hc)
  refine ⟨ro, r, ix, rx, h1, h2, h3, h0, fun a ha => ?_⟩
  have h5 := gt_xw_ok hts hgv a (h4 a ha)
  exact gx_mv (gx_own_ok _ _ _ _ _ a ha) ⟨State.WarmedH.refl s, fun _ _ => rfl⟩ h5
theorem gt_F {s : State} {m : MethodId} {b : Nat} (hts : ∀ w ∈ lw_tbl, w.before #[Value.ref b] s = true) (hgv : (Jvm.Cond.and given_1 narrow_1).before #[Value.ref b] s = true) (hown : s.vm.findClass "HandheldPairLaw" = some m.cls) (hb : b < s.heap.size) :
    ∃ (dC : Nat → ClassId) (dI : Nat → Nat → Nat) (od : Nat → Nat), od 0 = b ∧ (∀ j, j < gt_mo → od j < s.heap.size) ∧ gx_F gt_G gt_cl gt_Tb dC dI od gt_mo s := by
  obtain ⟨dC, dI, hK⟩ := gt_Kn_ex hts hown
  obtain ⟨od, o1, o2, o3⟩ := gt_od_ex hts hgv hb
  exact ⟨dC, dI, od, o1, o2, hK, o3, gt_AO hts, gt_Ns hts, gt_Sb hts hgv, gt_Xs hts hgv, fun w hw a => word_at (State.WarmedH.refl s) (good_of_word (gt_Tb_ok w hw)) (gt_Ts hts w hw)⟩
end
section
section GE
variable {mo d : Nat} {E : Nat → Nat → List (gx_V Int32 Int64) → gx_H Int32 Int64 → Unit → gx_A Int32 Int64 Unit} {h : gx_H Int32 Int64} {a t : Nat} {fs : List (gx_V Int32 Int64)}
theorem ge_r1 {n : Int32} {i : Nat} (hh : h[a]? = some (.inl (1, fs))) (ht : fs[0]? = some (.inr (.inr (some t)))) (hm : mo ≤ t) {f : Nat → gx_V Int32 Int64} (hz : h[t]? = some (.inr (0, 65536, f))) (hi : i < 65536) (hin : (nI i) < n) (N : Nat) :
    gx_run gt_G ga_D mo E (N + 10) d gt_m25 25 [(2, .inl (nI i)), (0, .inr (.inr (some a))), (1, .inl n)] [] h () = gx_run gt_G ga_D mo E N d gt_m25 25 [(2, .inl (nI (i + 1))), (0, .inr (.inr (some a))), (1, .inl n)] [] (h.set t (.inr (0, 65536, gx_up f i (.inl (gx_nw ga_D 0 0))))) () := by
  have hlt : gx_scm 3 (nI i) n = false := by
    simp only [gx_scm, decide_eq_false_iff_not]
    intro hle
    have h1 := Int32.le_iff_toInt_le.mp hle
    have h2 := Int32.lt_iff_toInt_lt.mp hin
    omega
  have hix : gx_ix ga_D () (nI i) 65536 = some [(i, ())] := by
    have e1 : (nI i).toInt = i := Int32.toInt_ofNat_of_lt (by omega)
    show (if 0 ≤ (nI i).toInt ∧ (nI i).toInt < 65536 then some [((nI i).toInt.toNat, ())] else none) = _
    rw [e1, if_pos (by omega), Int.toNat_natCast]
  rw [gq_1 (pc' := 26) (lv' := [(2, .inl (nI i)), (0, .inr (.inr (some a))), (1, .inl n)]) (st' := [.inl (nI i)]) (h' := h) (P' := ()) rfl]
  rw [gq_1 (pc' := 27) (lv' := [(2, .inl (nI i)), (0, .inr (.inr (some a))), (1, .inl n)]) (st' := [.inl n, .inl (nI i)]) (h' := h) (P' := ()) rfl]
  rw [gq_1 (pc' := 30) (lv' := [(2, .inl (nI i)), (0, .inr (.inr (some a))), (1, .inl n)]) (st' := []) (h' := h) (P' := ()) (by
    show some (Sum.inl [(if gx_scm 3 (nI i) n then 43 else 30, _, _, _, _)], 0, 0) = _
    rw [hlt]
    rfl)]
  rw [gq_1 (pc' := 31) (lv' := [(2, .inl (nI i)), (0, .inr (.inr (some a))), (1, .inl n)]) (st' := [.inr (.inr (some a))]) (h' := h) (P' := ()) rfl]
  rw [gq_1 (pc' := 34) (lv' := [(2, .inl (nI i)), (0, .inr (.inr (some a))), (1, .inl n)]) (st' := [.inr (.inr (some t))]) (h' := h) (P' := ()) (by
    have h1 := gq_gf (G := gt_G) (ow := 1) (idx := 10) (ci := 1) (k := 0) (lv := [(2, .inl (nI i)), (0, .inr (.inr (some a))), (1, .inl n)]) (pc := 31) (P := ()) (r := []) rfl hh ht
    exact h1)]
  rw [gq_1 (pc' := 35) (lv' := [(2, .inl (nI i)), (0, .inr (.inr (some a))), (1, .inl n)]) (st' := [.inl (nI i), .inr (.inr (some t))]) (h' := h) (P' := ()) rfl]
  rw [gq_1 (pc' := 36) (lv' := [(2, .inl (nI i)), (0, .inr (.inr (some a))), (1, .inl n)]) (st' := [.inl 0, .inl (nI i), .inr (.inr (some t))]) (h' := h) (P' := ()) rfl]
  rw [gq_1 (pc' := 37) (lv' := [(2, .inl (nI i)), (0, .inr (.inr (some a))), (1, .inl n)]) (st' := []) (h' := (h.set t (.inr (0, 65536, gx_up f i (.inl (gx_nw ga_D 0 0)))))) (P' := ()) (by
    have h1 := gq_as (D := ga_D) (lv := [(2, .inl (nI i)), (0, .inr (.inr (some a))), (1, .inl n)]) (pc := 36) (P := ()) (P' := ()) (okt := fun t => t == 0) (x := 0) (i := nI i) (r := []) hz rfl hm hix
    exact h1)]
  rw [gq_1 (pc' := 40) (lv' := [(2, .inl (nI i + 1)), (0, .inr (.inr (some a))), (1, .inl n)]) (st' := []) (h' := (h.set t (.inr (0, 65536, gx_up f i (.inl (gx_nw ga_D 0 0)))))) (P' := ()) rfl]
  rw [gq_1 (pc' := 25) (lv' := [(2, .inl (nI i + 1)), (0, .inr (.inr (some a))), (1, .inl n)]) (st' := []) (h' := (h.set t (.inr (0, 65536, gx_up f i (.inl (gx_nw ga_D 0 0)))))) (P' := ()) rfl]
  have e2 : nI i + 1 = nI (i + 1) := by
    apply Int32.toBitVec_inj.mp
    simp [nI]
  rw [e2]
/-- the loop of the class's end, from any place on -/
theorem ge_l1 {n : Int32} {k : Nat} (hm : mo ≤ t) (ht : fs[0]? = some (.inr (.inr (some t)))) (hk : n = nI k) (hk2 : k ≤ 65536) (N : Nat) : ∀ (j i : Nat) (h : gx_H Int32 Int64) (f : Nat → gx_V Int32 Int64), i + j = k → h[a]? = some (.inl (1, fs)) → h[t]? = some (.inr (0, 65536, f)) →
    ∃ f', gx_run gt_G ga_D mo E (N + 10 * j) d gt_m25 25 [(2, .inl (nI i)), (0, .inr (.inr (some a))), (1, .inl n)] [] h () = gx_run gt_G ga_D mo E N d gt_m25 25 [(2, .inl (nI k)), (0, .inr (.inr (some a))), (1, .inl n)] [] (h.set t (.inr (0, 65536, f'))) ()
  | 0, i, h, f, hi, hh, hz => by
    have : i = k := by omega
    subst this
    exact ⟨f, by rw [gq_set hz]; rfl⟩
  | j + 1, i, h, f, hi, hh, hz => by
    have hlt : nI i < n := by
      rw [hk]
      apply Int32.lt_iff_toInt_lt.mpr
      have e1 : (nI i).toInt = i := Int32.toInt_ofNat_of_lt (by omega)
      have e2 : (nI k).toInt = k := Int32.toInt_ofNat_of_lt (by omega)
      omega
    have hat : t ≠ a := by
      intro e
      rw [e, hh] at hz
      cases hz
    rw [show N + 10 * (j + 1) = (N + 10 * j) + 10 by omega, ge_r1 hh ht hm hz (by omega) hlt]
    obtain ⟨f', hf'⟩ := ge_l1 hm ht hk hk2 N j (i + 1) (h.set t (.inr (0, 65536, gx_up f i (.inl (gx_nw ga_D 0 0))))) _ (by omega) (by rw [List.getElem?_set_ne hat]; exact hh) (List.getElem?_set_self (List.getElem?_eq_some_iff.mp hz).1)
    exact ⟨f', by rw [hf', List.set_set]⟩
theorem ge_c1 {n : Int32} (hh : h[a]? = some (.inl (1, fs))) (ht : fs[0]? = some (.inr (.inr (some t)))) (hl0 : fs[1]? = some (.inl 0)) (hma : mo ≤ a) (hm : mo ≤ t) {f : Nat → gx_V Int32 Int64} (hz : h[t]? = some (.inr (0, 65536, f))) {k : Nat} (hk : n = nI k) (hk2 : k ≤ 65536) (N : Nat) :
    ∃ f', gx_run gt_G ga_D mo E (N + 8 + 10 * k + 8) d gt_m25 0 [(0, .inr (.inr (some a))), (1, .inl n)] [] h () = some ([(.inl (some (.inl n)), (h.set t (.inr (0, 65536, f'))).set a (.inl (1, fs.set 1 (.inl n))), ())], 0, 0) := by
  have e2 : (nI k).toInt = k := Int32.toInt_ofNat_of_lt (by omega)
  have c1 : gx_scm 2 n 0 = false := by
    simp only [gx_scm, decide_eq_false_iff_not]
    intro hh
    have h1 := Int32.lt_iff_toInt_lt.mp hh
    rw [hk, e2] at h1
    have : (0 : Int32).toInt = 0 := by decide
    omega
  have c2 : gx_scm 5 n 65536 = true := by
    simp only [gx_scm, decide_eq_true_eq]
    apply Int32.le_iff_toInt_le.mpr
    rw [hk, e2]
    have : (65536 : Int32).toInt = 65536 := by decide
    omega
  have c3 : gx_scm 3 (nI k) n = true := by
    simp only [gx_scm, decide_eq_true_eq]
    rw [hk]
    exact Int32.le_iff_toInt_le.mpr (Int.le_refl _)
  rw [gq_1 (pc' := 1) (lv' := [(0, .inr (.inr (some a))), (1, .inl n)]) (st' := [.inl n]) (h' := h) (P' := ()) rfl]
  rw [gq_1 (pc' := 4) (lv' := [(0, .inr (.inr (some a))), (1, .inl n)]) (st' := []) (h' := h) (P' := ()) (by
    show some (Sum.inl [(if gx_scm 2 n 0 then 10 else 4, _, _, _, _)], 0, 0) = _
    rw [c1]
    rfl)]
  rw [gq_1 (pc' := 5) (lv' := [(0, .inr (.inr (some a))), (1, .inl n)]) (st' := [.inl n]) (h' := h) (P' := ()) rfl]
  rw [gq_1 (pc' := 7) (lv' := [(0, .inr (.inr (some a))), (1, .inl n)]) (st' := [.inl 65536, .inl n]) (h' := h) (P' := ()) rfl]
  rw [gq_1 (pc' := 20) (lv' := [(0, .inr (.inr (some a))), (1, .inl n)]) (st' := []) (h' := h) (P' := ()) (by
    show some (Sum.inl [(if gx_scm 5 n 65536 then 20 else 10, _, _, _, _)], 0, 0) = _
    rw [c2]
    rfl)]
  rw [gq_1 (pc' := 21) (lv' := [(0, .inr (.inr (some a))), (1, .inl n)]) (st' := [.inr (.inr (some a))]) (h' := h) (P' := ()) rfl]
  rw [gq_1 (pc' := 24) (lv' := [(0, .inr (.inr (some a))), (1, .inl n)]) (st' := [.inl 0]) (h' := h) (P' := ()) (by
    have h1 := gq_gf (G := gt_G) (ow := 1) (idx := 40) (ci := 1) (k := 1) (lv := [(0, .inr (.inr (some a))), (1, .inl n)]) (pc := 21) (P := ()) (r := []) rfl hh hl0
    exact h1)]
  rw [gq_1 (pc' := 25) (lv' := [(2, .inl (nI 0)), (0, .inr (.inr (some a))), (1, .inl n)]) (st' := []) (h' := h) (P' := ()) rfl]
  obtain ⟨f', hf'⟩ := ge_l1 (E := E) (d := d) hm ht hk hk2 (N + 8) k 0 h f (by omega) hh hz
  have hat : t ≠ a := by
    intro e
    rw [e, hh] at hz
    cases hz
  have hh2 : (h.set t (.inr (0, 65536, f')))[a]? = some (.inl (1, fs)) := by rw [List.getElem?_set_ne hat]; exact hh
  refine ⟨f', ?_⟩
  rw [hf']
  rw [gq_1 (pc' := 26) (lv' := [(2, .inl (nI k)), (0, .inr (.inr (some a))), (1, .inl n)]) (st' := [.inl (nI k)]) (h' := h.set t (.inr (0, 65536, f'))) (P' := ()) rfl]
  rw [gq_1 (pc' := 27) (lv' := [(2, .inl (nI k)), (0, .inr (.inr (some a))), (1, .inl n)]) (st' := [.inl n, .inl (nI k)]) (h' := h.set t (.inr (0, 65536, f'))) (P' := ()) rfl]
  rw [gq_1 (pc' := 43) (lv' := [(2, .inl (nI k)), (0, .inr (.inr (some a))), (1, .inl n)]) (st' := []) (h' := h.set t (.inr (0, 65536, f'))) (P' := ()) (by
    show some (Sum.inl [(if gx_scm 3 (nI k) n then 43 else 30, _, _, _, _)], 0, 0) = _
    rw [c3]
    rfl)]
  rw [gq_1 (pc' := 44) (lv' := [(2, .inl (nI k)), (0, .inr (.inr (some a))), (1, .inl n)]) (st' := [.inr (.inr (some a))]) (h' := h.set t (.inr (0, 65536, f'))) (P' := ()) rfl]
  rw [gq_1 (pc' := 45) (lv' := [(2, .inl (nI k)), (0, .inr (.inr (some a))), (1, .inl n)]) (st' := [.inl n, .inr (.inr (some a))]) (h' := h.set t (.inr (0, 65536, f'))) (P' := ()) rfl]
  rw [gq_1 (pc' := 48) (lv' := [(2, .inl (nI k)), (0, .inr (.inr (some a))), (1, .inl n)]) (st' := []) (h' := (h.set t (.inr (0, 65536, f'))).set a (.inl (1, fs.set 1 (.inl n)))) (P' := ()) (by
    have h1 := gq_pf (G := gt_G) (D := ga_D) (mo := mo) (ow := 1) (idx := 40) (ci := 1) (k := 1) (isI := false) (lv := [(2, .inl (nI k)), (0, .inr (.inr (some a))), (1, .inl n)]) (pc := 45) (P := ()) (r := []) (v := .inl n) rfl hh2 (hkl := rfl) (htg := rfl) (by rw [hl0]; rfl) hma rfl (Or.inl rfl)
    exact h1)]
  rw [gq_1 (pc' := 49) (lv' := [(2, .inl (nI k)), (0, .inr (.inr (some a))), (1, .inl n)]) (st' := [.inl n]) (h' := (h.set t (.inr (0, 65536, f'))).set a (.inl (1, fs.set 1 (.inl n)))) (P' := ()) rfl]
  exact gq_e rfl
end GE
end
section
section GE2
variable {mo d : Nat} {E : Nat → Nat → List (gx_V Int32 Int64) → gx_H Int32 Int64 → Unit → gx_A Int32 Int64 Unit} {a t : Nat}
theorem ge_r2 {h : gx_H Int32 Int64} {fs : List (gx_V Int32 Int64)} {n : Int32} {i : Nat} (hh : h[a]? = some (.inl (13, fs))) (ht : fs[0]? = some (.inr (.inr (some t)))) (hs : fs[1]? = some (.inl (nI i))) (hma : mo ≤ a) (hm : mo ≤ t) {f : Nat → gx_V Int32 Int64} (hz : h[t]? = some (.inr (3, 65536, f))) (hi : i < 65536) (hin : (nI i) < n) (N : Nat) :
    gx_run gt_G ga_D mo E (N + 16) d gt_m26 30 [(0, .inr (.inr (some a))), (1, .inl n)] [] h () = gx_run gt_G ga_D mo E N d gt_m26 30 [(0, .inr (.inr (some a))), (1, .inl n)] [] ((h.set a (.inl (13, fs.set 1 (.inl (nI (i + 1)))))).set t (.inr (3, 65536, gx_up f i (.inl (gx_nw ga_D 3 0))))) () := by
  have hlt : gx_scm 3 (nI i) n = false := by
    simp only [gx_scm, decide_eq_false_iff_not]
    intro hle
    have h1 := Int32.le_iff_toInt_le.mp hle
    have h2 := Int32.lt_iff_toInt_lt.mp hin
    omega
  have hix : gx_ix ga_D () (nI i) 65536 = some [(i, ())] := by
    have e1 : (nI i).toInt = i := Int32.toInt_ofNat_of_lt (by omega)
    show (if 0 ≤ (nI i).toInt ∧ (nI i).toInt < 65536 then some [((nI i).toInt.toNat, ())] else none) = _
    rw [e1, if_pos (by omega), Int.toNat_natCast]
  have e2 : nI i + 1 = nI (i + 1) := by
    apply Int32.toBitVec_inj.mp
    simp [nI]
  have hat : t ≠ a := by
    intro e
    rw [e, hh] at hz
    cases hz
  have hz2 : (h.set a (.inl (13, fs.set 1 (.inl (nI i + 1)))))[t]? = some (.inr (3, 65536, f)) := by
    rw [List.getElem?_set_ne (Ne.symm hat)]
    exact hz
  rw [gq_1 (pc' := 31) (lv' := [(0, .inr (.inr (some a))), (1, .inl n)]) (st' := [.inr (.inr (some a))]) (h' := h) (P' := ()) rfl]
  rw [gq_1 (pc' := 34) (lv' := [(0, .inr (.inr (some a))), (1, .inl n)]) (st' := [.inl (nI i)]) (h' := h) (P' := ()) (by
    have h1 := gq_gf (G := gt_G) (ow := 13) (idx := 14) (ci := 13) (k := 1) (lv := [(0, .inr (.inr (some a))), (1, .inl n)]) (pc := 31) (P := ()) (r := []) rfl hh hs
    exact h1)]
  rw [gq_1 (pc' := 35) (lv' := [(0, .inr (.inr (some a))), (1, .inl n)]) (st' := [.inl n, .inl (nI i)]) (h' := h) (P' := ()) rfl]
  rw [gq_1 (pc' := 38) (lv' := [(0, .inr (.inr (some a))), (1, .inl n)]) (st' := []) (h' := h) (P' := ()) (by
    show some (Sum.inl [(if gx_scm 3 (nI i) n then 58 else 38, _, _, _, _)], 0, 0) = _
    rw [hlt]
    rfl)]
  rw [gq_1 (pc' := 39) (lv' := [(0, .inr (.inr (some a))), (1, .inl n)]) (st' := [.inr (.inr (some a))]) (h' := h) (P' := ()) rfl]
  rw [gq_1 (pc' := 42) (lv' := [(0, .inr (.inr (some a))), (1, .inl n)]) (st' := [.inr (.inr (some t))]) (h' := h) (P' := ()) (by
    have h1 := gq_gf (G := gt_G) (ow := 13) (idx := 8) (ci := 13) (k := 0) (lv := [(0, .inr (.inr (some a))), (1, .inl n)]) (pc := 39) (P := ()) (r := []) rfl hh ht
    exact h1)]
  rw [gq_1 (pc' := 43) (lv' := [(0, .inr (.inr (some a))), (1, .inl n)]) (st' := [.inr (.inr (some a)), .inr (.inr (some t))]) (h' := h) (P' := ()) rfl]
  rw [gq_1 (pc' := 44) (lv' := [(0, .inr (.inr (some a))), (1, .inl n)]) (st' := [.inr (.inr (some a)), .inr (.inr (some a)), .inr (.inr (some t))]) (h' := h) (P' := ()) rfl]
  rw [gq_1 (pc' := 47) (lv' := [(0, .inr (.inr (some a))), (1, .inl n)]) (st' := [.inl (nI i), .inr (.inr (some a)), .inr (.inr (some t))]) (h' := h) (P' := ()) (by
    have h1 := gq_gf (G := gt_G) (ow := 13) (idx := 14) (ci := 13) (k := 1) (lv := [(0, .inr (.inr (some a))), (1, .inl n)]) (pc := 44) (P := ()) (r := [.inr (.inr (some a)), .inr (.inr (some t))]) rfl hh hs
    exact h1)]
  rw [gq_1 (pc' := 48) (lv' := [(0, .inr (.inr (some a))), (1, .inl n)]) (st' := [.inl (nI i), .inr (.inr (some a)), .inl (nI i), .inr (.inr (some t))]) (h' := h) (P' := ()) rfl]
  rw [gq_1 (pc' := 49) (lv' := [(0, .inr (.inr (some a))), (1, .inl n)]) (st' := [.inl 1, .inl (nI i), .inr (.inr (some a)), .inl (nI i), .inr (.inr (some t))]) (h' := h) (P' := ()) rfl]
  rw [gq_1 (pc' := 50) (lv' := [(0, .inr (.inr (some a))), (1, .inl n)]) (st' := [.inl (nI i + 1), .inr (.inr (some a)), .inl (nI i), .inr (.inr (some t))]) (h' := h) (P' := ()) rfl]
  rw [gq_1 (pc' := 53) (lv' := [(0, .inr (.inr (some a))), (1, .inl n)]) (st' := [.inl (nI i), .inr (.inr (some t))]) (h' := (h.set a (.inl (13, fs.set 1 (.inl (nI i + 1)))))) (P' := ()) (by
    have h1 := gq_pf (G := gt_G) (D := ga_D) (mo := mo) (ow := 13) (idx := 14) (ci := 13) (k := 1) (isI := false) (lv := [(0, .inr (.inr (some a))), (1, .inl n)]) (pc := 50) (P := ()) (r := [.inl (nI i), .inr (.inr (some t))]) (v := .inl (nI i + 1)) rfl hh (hkl := rfl) (htg := rfl) (by rw [hs]; rfl) hma rfl (Or.inl rfl)
    exact h1)]
  rw [gq_1 (pc' := 54) (lv' := [(0, .inr (.inr (some a))), (1, .inl n)]) (st' := [.inl 0, .inl (nI i), .inr (.inr (some t))]) (h' := (h.set a (.inl (13, fs.set 1 (.inl (nI i + 1)))))) (P' := ()) rfl]
  rw [gq_1 (pc' := 55) (lv' := [(0, .inr (.inr (some a))), (1, .inl n)]) (st' := []) (h' := (h.set a (.inl (13, fs.set 1 (.inl (nI i + 1))))).set t (.inr (3, 65536, gx_up f i (.inl (gx_nw ga_D 3 0))))) (P' := ()) (by
    have h1 := gq_as (D := ga_D) (lv := [(0, .inr (.inr (some a))), (1, .inl n)]) (pc := 54) (P := ()) (P' := ()) (okt := fun t => t == 1 || t == 3) (x := 0) (i := nI i) (r := []) hz2 rfl hm hix
    exact h1)]
  rw [gq_1 (pc' := 30) (lv' := [(0, .inr (.inr (some a))), (1, .inl n)]) (st' := []) (h' := (h.set a (.inl (13, fs.set 1 (.inl (nI i + 1))))).set t (.inr (3, 65536, gx_up f i (.inl (gx_nw ga_D 3 0))))) (P' := ()) rfl]
  rw [e2]
theorem ge_l2 {n : Int32} {k : Nat} (hma : mo ≤ a) (hm : mo ≤ t) (hk : n = nI k) (hk2 : k ≤ 65536) (N : Nat) : ∀ (j i : Nat) (h : gx_H Int32 Int64) (fs : List (gx_V Int32 Int64)) (f : Nat → gx_V Int32 Int64), i + j = k → h[a]? = some (.inl (13, fs)) → fs[0]? = some (.inr (.inr (some t))) → fs[1]? = some (.inl (nI i)) → h[t]? = some (.inr (3, 65536, f)) →
    ∃ f', gx_run gt_G ga_D mo E (N + 16 * j) d gt_m26 30 [(0, .inr (.inr (some a))), (1, .inl n)] [] h () = gx_run gt_G ga_D mo E N d gt_m26 30 [(0, .inr (.inr (some a))), (1, .inl n)] [] ((h.set a (.inl (13, fs.set 1 (.inl (nI k))))).set t (.inr (3, 65536, f'))) ()
  | 0, i, h, fs, f, hi, hh, ht, hs, hz => by
    have : i = k := by omega
    subst this
    have e1 : fs.set 1 (.inl (nI i)) = fs := by
      apply List.ext_getElem?
      intro j
      by_cases hj : j = 1
      · subst hj
        rw [List.getElem?_set_self (List.getElem?_eq_some_iff.mp hs).1, hs]
      · rw [List.getElem?_set_ne (Ne.symm hj)]
    exact ⟨f, by rw [e1, gq_set hh, gq_set hz]; rfl⟩
  | j + 1, i, h, fs, f, hi, hh, ht, hs, hz => by
    have hlt : nI i < n := by
      rw [hk]
      apply Int32.lt_iff_toInt_lt.mpr
      have e1 : (nI i).toInt = i := Int32.toInt_ofNat_of_lt (by omega)
      have e2 : (nI k).toInt = k := Int32.toInt_ofNat_of_lt (by omega)
      omega
    have hat : t ≠ a := by
      intro e
      rw [e, hh] at hz
      cases hz
    have hl1 := (List.getElem?_eq_some_iff.mp hh).1
    have hl2 := (List.getElem?_eq_some_iff.mp hz).1
    rw [show N + 16 * (j + 1) = (N + 16 * j) + 16 by omega, ge_r2 hh ht hs hma hm hz (by omega) hlt]
    obtain ⟨f', hf'⟩ := ge_l2 hma hm hk hk2 N j (i + 1) ((h.set a (.inl (13, fs.set 1 (.inl (nI (i + 1)))))).set t (.inr (3, 65536, gx_up f i (.inl (gx_nw ga_D 3 0))))) (fs.set 1 (.inl (nI (i + 1)))) _ (by omega) (by rw [List.getElem?_set_ne hat]; exact List.getElem?_set_self hl1) (by rw [List.getElem?_set_ne (by decide)]; exact ht) (List.getElem?_set_self (List.getElem?_eq_some_iff.mp hs).1) (List.getElem?_set_self (by rw [List.length_set]; exact hl2))
    refine ⟨f', ?_⟩
    rw [hf', List.set_comm _ _ hat, List.set_set, List.set_set, List.set_set]
end GE2
end
section
section GE3
variable {mo d : Nat} {h : gx_H Int32 Int64} {a t : Nat} {fs : List (gx_V Int32 Int64)}
abbrev ge_E : Nat → Nat → List (gx_V Int32 Int64) → gx_H Int32 Int64 → Unit → gx_A Int32 Int64 Unit := fun _ _ _ _ _ => none
theorem ge_f0 (N : Nat) : gx_run gt_G ga_D mo ge_E (N + 4) d gt_m22 0 [(0, .inr (.inr (some a))), (1, .inl 1), (2, .inl 0)] [] h () = some ([(.inl (some (.inl 0)), h, ())], 0, 0) := by
  rw [gq_1 (pc' := 1) (lv' := [(0, .inr (.inr (some a))), (1, .inl 1), (2, .inl 0)]) (st' := [.inl 0]) (h' := h) (P' := ()) rfl]
  rw [gq_1 (pc' := 9) (lv' := [(0, .inr (.inr (some a))), (1, .inl 1), (2, .inl 0)]) (st' := []) (h' := h) (P' := ()) rfl]
  rw [gq_1 (pc' := 10) (lv' := [(0, .inr (.inr (some a))), (1, .inl 1), (2, .inl 0)]) (st' := [.inl 0]) (h' := h) (P' := ()) rfl]
  exact gq_e rfl
theorem ge_c2 {n : Int32} (hh : h[a]? = some (.inl (13, fs))) (ht : fs[0]? = some (.inr (.inr (some t)))) (hl0 : fs[1]? = some (.inl 0)) (h2 : (fs[2]?).isSome = true) (hma : mo ≤ a) (hm : mo ≤ t) {f : Nat → gx_V Int32 Int64} (hz : h[t]? = some (.inr (3, 65536, f))) {k : Nat} (hk : n = nI k) (hk2 : k ≤ 65536) (N : Nat) :
    ∃ f', gx_run gt_G ga_D mo ge_E (N + 9 + 16 * k + 13) (d + 1) gt_m26 0 [(0, .inr (.inr (some a))), (1, .inl n)] [] h () = some ([(.inl (some (.inl n)), (h.set t (.inr (3, 65536, f'))).set a (.inl (13, (fs.set 2 (.inl 0)).set 1 (.inl n))), ())], 0, 0) := by
  have e2 : (nI k).toInt = k := Int32.toInt_ofNat_of_lt (by omega)
  have c1 : gx_scm 2 n 0 = false := by
    simp only [gx_scm, decide_eq_false_iff_not]
    intro hh
    have h1 := Int32.lt_iff_toInt_lt.mp hh
    rw [hk, e2] at h1
    have : (0 : Int32).toInt = 0 := by decide
    omega
  have c2 : gx_scm 5 n 65536 = true := by
    simp only [gx_scm, decide_eq_true_eq]
    apply Int32.le_iff_toInt_le.mpr
    rw [hk, e2]
    have : (65536 : Int32).toInt = 65536 := by decide
    omega
  have c3 : gx_scm 3 (nI k) n = true := by
    simp only [gx_scm, decide_eq_true_eq]
    rw [hk]
    exact Int32.le_iff_toInt_le.mpr (Int.le_refl _)
  have hlt := (List.getElem?_eq_some_iff.mp hh).1
  have hat : t ≠ a := by
    intro e
    rw [e, hh] at hz
    cases hz
  rw [gq_1 (pc' := 1) (lv' := [(0, .inr (.inr (some a))), (1, .inl n)]) (st' := [.inr (.inr (some a))]) (h' := h) (P' := ()) rfl]
  rw [gq_1 (pc' := 2) (lv' := [(0, .inr (.inr (some a))), (1, .inl n)]) (st' := [.inl 0, .inr (.inr (some a))]) (h' := h) (P' := ()) rfl]
  rw [gq_1 (pc' := 5) (lv' := [(0, .inr (.inr (some a))), (1, .inl n)]) (st' := []) (h' := (h.set a (.inl (13, fs.set 2 (.inl 0))))) (P' := ()) (by
    have h1 := gq_pf (G := gt_G) (D := ga_D) (mo := mo) (ow := 13) (idx := 18) (ci := 13) (k := 2) (isI := false) (lv := [(0, .inr (.inr (some a))), (1, .inl n)]) (pc := 2) (P := ()) (r := []) (v := .inl 0) rfl hh (hkl := rfl) (htg := rfl) h2 hma rfl (Or.inl rfl)
    exact h1)]
  rw [gq_1 (pc' := 6) (lv' := [(0, .inr (.inr (some a))), (1, .inl n)]) (st' := [.inr (.inr (some a))]) (h' := (h.set a (.inl (13, fs.set 2 (.inl 0))))) (P' := ()) rfl]
  rw [gq_1 (pc' := 7) (lv' := [(0, .inr (.inr (some a))), (1, .inl n)]) (st' := [.inl 1, .inr (.inr (some a))]) (h' := (h.set a (.inl (13, fs.set 2 (.inl 0))))) (P' := ()) rfl]
  rw [gq_1 (pc' := 8) (lv' := [(0, .inr (.inr (some a))), (1, .inl n)]) (st' := [.inl n, .inl 1, .inr (.inr (some a))]) (h' := (h.set a (.inl (13, fs.set 2 (.inl 0))))) (P' := ()) rfl]
  rw [gq_1 (pc' := 11) (lv' := [(0, .inr (.inr (some a))), (1, .inl n)]) (st' := [.inl 1, .inr (.inr (some a))]) (h' := (h.set a (.inl (13, fs.set 2 (.inl 0))))) (P' := ()) (by
    show some (Sum.inl [(if gx_scm 2 n 0 then 17 else 11, _, _, _, _)], 0, 0) = _
    rw [c1]
    rfl)]
  rw [gq_1 (pc' := 12) (lv' := [(0, .inr (.inr (some a))), (1, .inl n)]) (st' := [.inl n, .inl 1, .inr (.inr (some a))]) (h' := (h.set a (.inl (13, fs.set 2 (.inl 0))))) (P' := ()) rfl]
  rw [gq_1 (pc' := 14) (lv' := [(0, .inr (.inr (some a))), (1, .inl n)]) (st' := [.inl 65536, .inl n, .inl 1, .inr (.inr (some a))]) (h' := (h.set a (.inl (13, fs.set 2 (.inl 0))))) (P' := ()) rfl]
  rw [gq_1 (pc' := 21) (lv' := [(0, .inr (.inr (some a))), (1, .inl n)]) (st' := [.inl 1, .inr (.inr (some a))]) (h' := (h.set a (.inl (13, fs.set 2 (.inl 0))))) (P' := ()) (by
    show some (Sum.inl [(if gx_scm 5 n 65536 then 21 else 17, _, _, _, _)], 0, 0) = _
    rw [c2]
    rfl)]
  rw [gq_1 (pc' := 22) (lv' := [(0, .inr (.inr (some a))), (1, .inl n)]) (st' := [.inl 0, .inl 1, .inr (.inr (some a))]) (h' := (h.set a (.inl (13, fs.set 2 (.inl 0))))) (P' := ()) rfl]
  have ha1 : (h.set a (.inl (13, fs.set 2 (.inl 0))))[a]? = some (.inl (13, fs.set 2 (.inl 0))) := List.getElem?_set_self hlt
  have hst : gx_st gt_G ga_D mo gt_m26 22 [(0, .inr (.inr (some a))), (1, .inl n)] [.inl 0, .inl 1, .inr (.inr (some a))] (h.set a (.inl (13, fs.set 2 (.inl 0)))) () = some (.inr (.inr (1, 22, [.inr (.inr (some a)), .inl 1, .inl 0], [])), 0, 0) := by
    show gx_ca gt_G [1] 13 53 [.inl 0, .inl 1, .inr (.inr (some a))] (h.set a (.inl (13, fs.set 2 (.inl 0)))) = _
    have e5 : gx_rc (h.set a (.inl (13, fs.set 2 (.inl 0)))) 1 13 [.inr (.inr (some a)), .inl 1, .inl 0] = true := by
      simp only [gx_rc, gx_cls, ha1]
      decide
    have e6 : gx_mt gt_G 13 53 = some (1, 22) := rfl
    have e7 : gx_mm gt_G 22 = some gt_m22 := rfl
    simp only [gx_ca, e6, e7]
    rw [if_pos (by decide), if_pos ⟨(by show 3 ≤ 3; omega), (by show 0 ≤ 8; omega), (by show 3 ≤ 3; omega), e5⟩]
    rfl
  rw [gq_c (v := some (.inl 0)) (h' := (h.set a (.inl (13, fs.set 2 (.inl 0))))) (P' := ()) hst rfl (M' := gt_m22) rfl (by
    rw [show N + 9 + 16 * k + 1 = (N + 6 + 16 * k) + 4 by omega]
    exact ge_f0 _)]
  rw [gq_1 (pc' := 30) (lv' := [(0, .inr (.inr (some a))), (1, .inl n)]) (st' := []) (h' := (h.set a (.inl (13, fs.set 2 (.inl 0))))) (P' := ()) rfl]
  obtain ⟨f', hf'⟩ := ge_l2 (E := ge_E) (d := d + 1) (n := n) (k := k) hma hm hk hk2 (N + 9) k 0 (h.set a (.inl (13, fs.set 2 (.inl 0)))) (fs.set 2 (.inl 0)) f (by omega) ha1 (by rw [List.getElem?_set_ne (by decide)]; exact ht) (by rw [List.getElem?_set_ne (by decide)]; exact hl0) (by rw [List.getElem?_set_ne (Ne.symm hat)]; exact hz)
  refine ⟨f', ?_⟩
  rw [hf']
  rw [List.set_set, List.set_comm _ _ (Ne.symm hat)]
  have hl1 : 1 < (fs.set 2 (.inl 0)).length := by rw [List.length_set]; exact (List.getElem?_eq_some_iff.mp hl0).1
  have ha2 : ((h.set t (.inr (3, 65536, f'))).set a (.inl (13, (fs.set 2 (.inl 0)).set 1 (.inl (nI k)))))[a]? = some (.inl (13, (fs.set 2 (.inl 0)).set 1 (.inl (nI k)))) := List.getElem?_set_self (by rw [List.length_set]; exact hlt)
  have hs2 : ((fs.set 2 (.inl 0)).set 1 (.inl (nI k)))[1]? = some (.inl (nI k)) := List.getElem?_set_self hl1
  rw [gq_1 (pc' := 31) (lv' := [(0, .inr (.inr (some a))), (1, .inl n)]) (st' := [.inr (.inr (some a))]) (h' := ((h.set t (.inr (3, 65536, f'))).set a (.inl (13, (fs.set 2 (.inl 0)).set 1 (.inl (nI k)))))) (P' := ()) rfl]
  rw [gq_1 (pc' := 34) (lv' := [(0, .inr (.inr (some a))), (1, .inl n)]) (st' := [.inl (nI k)]) (h' := ((h.set t (.inr (3, 65536, f'))).set a (.inl (13, (fs.set 2 (.inl 0)).set 1 (.inl (nI k)))))) (P' := ()) (by
    have h1 := gq_gf (G := gt_G) (ow := 13) (idx := 14) (ci := 13) (k := 1) (lv := [(0, .inr (.inr (some a))), (1, .inl n)]) (pc := 31) (P := ()) (r := []) rfl ha2 hs2
    exact h1)]
  rw [gq_1 (pc' := 35) (lv' := [(0, .inr (.inr (some a))), (1, .inl n)]) (st' := [.inl n, .inl (nI k)]) (h' := ((h.set t (.inr (3, 65536, f'))).set a (.inl (13, (fs.set 2 (.inl 0)).set 1 (.inl (nI k)))))) (P' := ()) rfl]
  rw [gq_1 (pc' := 58) (lv' := [(0, .inr (.inr (some a))), (1, .inl n)]) (st' := []) (h' := ((h.set t (.inr (3, 65536, f'))).set a (.inl (13, (fs.set 2 (.inl 0)).set 1 (.inl (nI k)))))) (P' := ()) (by
    show some (Sum.inl [(if gx_scm 3 (nI k) n then 58 else 38, _, _, _, _)], 0, 0) = _
    rw [c3]
    rfl)]
  rw [gq_1 (pc' := 59) (lv' := [(0, .inr (.inr (some a))), (1, .inl n)]) (st' := [.inr (.inr (some a))]) (h' := ((h.set t (.inr (3, 65536, f'))).set a (.inl (13, (fs.set 2 (.inl 0)).set 1 (.inl (nI k)))))) (P' := ()) rfl]
  rw [gq_1 (pc' := 60) (lv' := [(0, .inr (.inr (some a))), (1, .inl n)]) (st' := [.inl n, .inr (.inr (some a))]) (h' := ((h.set t (.inr (3, 65536, f'))).set a (.inl (13, (fs.set 2 (.inl 0)).set 1 (.inl (nI k)))))) (P' := ()) rfl]
  rw [gq_1 (pc' := 63) (lv' := [(0, .inr (.inr (some a))), (1, .inl n)]) (st' := []) (h' := ((h.set t (.inr (3, 65536, f'))).set a (.inl (13, (fs.set 2 (.inl 0)).set 1 (.inl n))))) (P' := ()) (by
    have h1 := gq_pf (G := gt_G) (D := ga_D) (mo := mo) (ow := 13) (idx := 14) (ci := 13) (k := 1) (isI := false) (lv := [(0, .inr (.inr (some a))), (1, .inl n)]) (pc := 60) (P := ()) (r := []) (v := .inl n) rfl ha2 (hkl := rfl) (htg := rfl) (by rw [hs2]; rfl) hma rfl (Or.inl rfl)
    rw [List.set_set, List.set_set] at h1
    exact h1)]
  rw [gq_1 (pc' := 64) (lv' := [(0, .inr (.inr (some a))), (1, .inl n)]) (st' := [.inl n]) (h' := ((h.set t (.inr (3, 65536, f'))).set a (.inl (13, (fs.set 2 (.inl 0)).set 1 (.inl n))))) (P' := ()) rfl]
  exact gq_e rfl
end GE3
end
section
section GE4
variable {mo d : Nat} {E : Nat → Nat → List (gx_V Int32 Int64) → gx_H Int32 Int64 → Unit → gx_A Int32 Int64 Unit} {h : gx_H Int32 Int64} {a : Nat} {fs : List (gx_V Int32 Int64)}
theorem ge_t1a {n : Int32} (hn : n < 0) (N : Nat) : gx_run gt_G ga_D mo E (N + 3) d gt_m25 0 [(0, .inr (.inr (some a))), (1, .inl n)] [] h () = some ([(.inr h.length, h ++ [.inl (18, [])], ())], 1, 6) := by
  have c1 : gx_scm 2 n 0 = true := by simp only [gx_scm, decide_eq_true_eq]; exact hn
  rw [gq_1 (pc' := 1) (lv' := [(0, .inr (.inr (some a))), (1, .inl n)]) (st' := [.inl n]) (h' := h) (P' := ()) rfl]
  rw [gq_1 (pc' := 10) (lv' := [(0, .inr (.inr (some a))), (1, .inl n)]) (st' := []) (h' := h) (P' := ()) (by
    show some (Sum.inl [(if gx_scm 2 n 0 then 10 else 4, _, _, _, _)], 0, 0) = _
    rw [c1]
    rfl)]
  exact gq_e rfl
theorem ge_t1b {n : Int32} (hn : 65536 < n) (N : Nat) : gx_run gt_G ga_D mo E (N + 6) d gt_m25 0 [(0, .inr (.inr (some a))), (1, .inl n)] [] h () = some ([(.inr h.length, h ++ [.inl (18, [])], ())], 1, 6) := by
  have c1 : gx_scm 2 n 0 = false := by
    simp only [gx_scm, decide_eq_false_iff_not]
    intro hh
    have h1 := Int32.lt_iff_toInt_lt.mp hh
    have h2 := Int32.lt_iff_toInt_lt.mp hn
    have e0 : (0 : Int32).toInt = 0 := by decide
    have e1 : (65536 : Int32).toInt = 65536 := by decide
    omega
  have c2 : gx_scm 5 n 65536 = false := by
    simp only [gx_scm, decide_eq_false_iff_not]
    intro hh
    have h1 := Int32.le_iff_toInt_le.mp hh
    have h2 := Int32.lt_iff_toInt_lt.mp hn
    omega
  rw [gq_1 (pc' := 1) (lv' := [(0, .inr (.inr (some a))), (1, .inl n)]) (st' := [.inl n]) (h' := h) (P' := ()) rfl]
  rw [gq_1 (pc' := 4) (lv' := [(0, .inr (.inr (some a))), (1, .inl n)]) (st' := []) (h' := h) (P' := ()) (by
    show some (Sum.inl [(if gx_scm 2 n 0 then 10 else 4, _, _, _, _)], 0, 0) = _
    rw [c1]
    rfl)]
  rw [gq_1 (pc' := 5) (lv' := [(0, .inr (.inr (some a))), (1, .inl n)]) (st' := [.inl n]) (h' := h) (P' := ()) rfl]
  rw [gq_1 (pc' := 7) (lv' := [(0, .inr (.inr (some a))), (1, .inl n)]) (st' := [.inl 65536, .inl n]) (h' := h) (P' := ()) rfl]
  rw [gq_1 (pc' := 10) (lv' := [(0, .inr (.inr (some a))), (1, .inl n)]) (st' := []) (h' := h) (P' := ()) (by
    show some (Sum.inl [(if gx_scm 5 n 65536 then 20 else 10, _, _, _, _)], 0, 0) = _
    rw [c2]
    rfl)]
  exact gq_e rfl
theorem ge_f1 (hh : h[a]? = some (.inl (13, fs))) (h2 : (fs[2]?).isSome = true) (hma : mo ≤ a) (N : Nat) : gx_run gt_G ga_D mo ge_E (N + 7) d gt_m22 0 [(0, .inr (.inr (some a))), (1, .inl 1), (2, .inl 1)] [] h () = some ([(.inl (some (.inl 1)), (h.set a (.inl (13, fs.set 2 (.inl 1)))), ())], 0, 0) := by
  rw [gq_1 (pc' := 1) (lv' := [(0, .inr (.inr (some a))), (1, .inl 1), (2, .inl 1)]) (st' := [.inl 1]) (h' := h) (P' := ()) rfl]
  rw [gq_1 (pc' := 4) (lv' := [(0, .inr (.inr (some a))), (1, .inl 1), (2, .inl 1)]) (st' := []) (h' := h) (P' := ()) rfl]
  rw [gq_1 (pc' := 5) (lv' := [(0, .inr (.inr (some a))), (1, .inl 1), (2, .inl 1)]) (st' := [.inr (.inr (some a))]) (h' := h) (P' := ()) rfl]
  rw [gq_1 (pc' := 6) (lv' := [(0, .inr (.inr (some a))), (1, .inl 1), (2, .inl 1)]) (st' := [.inl 1, .inr (.inr (some a))]) (h' := h) (P' := ()) rfl]
  rw [gq_1 (pc' := 9) (lv' := [(0, .inr (.inr (some a))), (1, .inl 1), (2, .inl 1)]) (st' := []) (h' := (h.set a (.inl (13, fs.set 2 (.inl 1))))) (P' := ()) (by
    have h1 := gq_pf (G := gt_G) (D := ga_D) (mo := mo) (ow := 13) (idx := 18) (ci := 13) (k := 2) (isI := false) (lv := [(0, .inr (.inr (some a))), (1, .inl 1), (2, .inl 1)]) (pc := 6) (P := ()) (r := []) (v := .inl 1) rfl hh (hkl := rfl) (htg := rfl) h2 hma rfl (Or.inl rfl)
    exact h1)]
  rw [gq_1 (pc' := 10) (lv' := [(0, .inr (.inr (some a))), (1, .inl 1), (2, .inl 1)]) (st' := [.inl 1]) (h' := (h.set a (.inl (13, fs.set 2 (.inl 1))))) (P' := ()) rfl]
  exact gq_e rfl
theorem ge_t2a {n : Int32} (hn : n < 0) (hh : h[a]? = some (.inl (13, fs))) (h2 : (fs[2]?).isSome = true) (hma : mo ≤ a) (N : Nat) : gx_run gt_G ga_D mo ge_E (N + 8 + 13) (d + 1) gt_m26 0 [(0, .inr (.inr (some a))), (1, .inl n)] [] h () = some ([(.inl (some (.inl 0)), (h.set a (.inl (13, fs.set 2 (.inl 1)))), ())], 0, 0) := by
  have c1 : gx_scm 2 n 0 = true := by simp only [gx_scm, decide_eq_true_eq]; exact hn
  have hlt := (List.getElem?_eq_some_iff.mp hh).1
  rw [gq_1 (pc' := 1) (lv' := [(0, .inr (.inr (some a))), (1, .inl n)]) (st' := [.inr (.inr (some a))]) (h' := h) (P' := ()) rfl]
  rw [gq_1 (pc' := 2) (lv' := [(0, .inr (.inr (some a))), (1, .inl n)]) (st' := [.inl 0, .inr (.inr (some a))]) (h' := h) (P' := ()) rfl]
  rw [gq_1 (pc' := 5) (lv' := [(0, .inr (.inr (some a))), (1, .inl n)]) (st' := []) (h' := (h.set a (.inl (13, fs.set 2 (.inl 0))))) (P' := ()) (by
    have h1 := gq_pf (G := gt_G) (D := ga_D) (mo := mo) (ow := 13) (idx := 18) (ci := 13) (k := 2) (isI := false) (lv := [(0, .inr (.inr (some a))), (1, .inl n)]) (pc := 2) (P := ()) (r := []) (v := .inl 0) rfl hh (hkl := rfl) (htg := rfl) h2 hma rfl (Or.inl rfl)
    exact h1)]
  rw [gq_1 (pc' := 6) (lv' := [(0, .inr (.inr (some a))), (1, .inl n)]) (st' := [.inr (.inr (some a))]) (h' := (h.set a (.inl (13, fs.set 2 (.inl 0))))) (P' := ()) rfl]
  rw [gq_1 (pc' := 7) (lv' := [(0, .inr (.inr (some a))), (1, .inl n)]) (st' := [.inl 1, .inr (.inr (some a))]) (h' := (h.set a (.inl (13, fs.set 2 (.inl 0))))) (P' := ()) rfl]
  rw [gq_1 (pc' := 8) (lv' := [(0, .inr (.inr (some a))), (1, .inl n)]) (st' := [.inl n, .inl 1, .inr (.inr (some a))]) (h' := (h.set a (.inl (13, fs.set 2 (.inl 0))))) (P' := ()) rfl]
  rw [gq_1 (pc' := 17) (lv' := [(0, .inr (.inr (some a))), (1, .inl n)]) (st' := [.inl 1, .inr (.inr (some a))]) (h' := (h.set a (.inl (13, fs.set 2 (.inl 0))))) (P' := ()) (by
    show some (Sum.inl [(if gx_scm 2 n 0 then 17 else 11, _, _, _, _)], 0, 0) = _
    rw [c1]
    rfl)]
  rw [gq_1 (pc' := 18) (lv' := [(0, .inr (.inr (some a))), (1, .inl n)]) (st' := [.inl 1, .inl 1, .inr (.inr (some a))]) (h' := (h.set a (.inl (13, fs.set 2 (.inl 0))))) (P' := ()) rfl]
  rw [gq_1 (pc' := 22) (lv' := [(0, .inr (.inr (some a))), (1, .inl n)]) (st' := [.inl 1, .inl 1, .inr (.inr (some a))]) (h' := (h.set a (.inl (13, fs.set 2 (.inl 0))))) (P' := ()) rfl]
  have ha1 : (h.set a (.inl (13, fs.set 2 (.inl 0))))[a]? = some (.inl (13, fs.set 2 (.inl 0))) := List.getElem?_set_self hlt
  have hst : gx_st gt_G ga_D mo gt_m26 22 [(0, .inr (.inr (some a))), (1, .inl n)] [.inl 1, .inl 1, .inr (.inr (some a))] (h.set a (.inl (13, fs.set 2 (.inl 0)))) () = some (.inr (.inr (1, 22, [.inr (.inr (some a)), .inl 1, .inl 1], [])), 0, 0) := by
    show gx_ca gt_G [1] 13 53 [.inl 1, .inl 1, .inr (.inr (some a))] (h.set a (.inl (13, fs.set 2 (.inl 0)))) = _
    have e5 : gx_rc (h.set a (.inl (13, fs.set 2 (.inl 0)))) 1 13 [.inr (.inr (some a)), .inl 1, .inl 1] = true := by
      simp only [gx_rc, gx_cls, ha1]
      decide
    have e6 : gx_mt gt_G 13 53 = some (1, 22) := rfl
    have e7 : gx_mm gt_G 22 = some gt_m22 := rfl
    simp only [gx_ca, e6, e7]
    rw [if_pos (by decide), if_pos ⟨(by show 3 ≤ 3; omega), (by show 0 ≤ 8; omega), (by show 3 ≤ 3; omega), e5⟩]
    rfl
  have hf := ge_f1 (mo := mo) (d := d) (h := (h.set a (.inl (13, fs.set 2 (.inl 0))))) (a := a) (fs := fs.set 2 (.inl 0)) ha1 (by
    obtain ⟨v, hv⟩ := Option.isSome_iff_exists.mp h2
    rw [List.getElem?_set_self (List.getElem?_eq_some_iff.mp hv).1]
    rfl) hma (N + 4)
  rw [List.set_set, List.set_set] at hf
  rw [gq_c (v := some (.inl 1)) (h' := (h.set a (.inl (13, fs.set 2 (.inl 1))))) (P' := ()) hst rfl (M' := gt_m22) rfl hf]
  rw [gq_1 (pc' := 28) (lv' := [(0, .inr (.inr (some a))), (1, .inl n)]) (st' := []) (h' := (h.set a (.inl (13, fs.set 2 (.inl 1))))) (P' := ()) rfl]
  rw [gq_1 (pc' := 29) (lv' := [(0, .inr (.inr (some a))), (1, .inl n)]) (st' := [.inl 0]) (h' := (h.set a (.inl (13, fs.set 2 (.inl 1))))) (P' := ()) rfl]
  exact gq_e rfl
theorem ge_t2b {n : Int32} (hn : 65536 < n) (hh : h[a]? = some (.inl (13, fs))) (h2 : (fs[2]?).isSome = true) (hma : mo ≤ a) (N : Nat) : gx_run gt_G ga_D mo ge_E (N + 8 + 16) (d + 1) gt_m26 0 [(0, .inr (.inr (some a))), (1, .inl n)] [] h () = some ([(.inl (some (.inl 0)), (h.set a (.inl (13, fs.set 2 (.inl 1)))), ())], 0, 0) := by
  have c1 : gx_scm 2 n 0 = false := by
    simp only [gx_scm, decide_eq_false_iff_not]
    intro hh
    have h1 := Int32.lt_iff_toInt_lt.mp hh
    have h2 := Int32.lt_iff_toInt_lt.mp hn
    have e0 : (0 : Int32).toInt = 0 := by decide
    have e1 : (65536 : Int32).toInt = 65536 := by decide
    omega
  have c2 : gx_scm 5 n 65536 = false := by
    simp only [gx_scm, decide_eq_false_iff_not]
    intro hh
    have h1 := Int32.le_iff_toInt_le.mp hh
    have h2 := Int32.lt_iff_toInt_lt.mp hn
    omega
  have hlt := (List.getElem?_eq_some_iff.mp hh).1
  rw [gq_1 (pc' := 1) (lv' := [(0, .inr (.inr (some a))), (1, .inl n)]) (st' := [.inr (.inr (some a))]) (h' := h) (P' := ()) rfl]
  rw [gq_1 (pc' := 2) (lv' := [(0, .inr (.inr (some a))), (1, .inl n)]) (st' := [.inl 0, .inr (.inr (some a))]) (h' := h) (P' := ()) rfl]
  rw [gq_1 (pc' := 5) (lv' := [(0, .inr (.inr (some a))), (1, .inl n)]) (st' := []) (h' := (h.set a (.inl (13, fs.set 2 (.inl 0))))) (P' := ()) (by
    have h1 := gq_pf (G := gt_G) (D := ga_D) (mo := mo) (ow := 13) (idx := 18) (ci := 13) (k := 2) (isI := false) (lv := [(0, .inr (.inr (some a))), (1, .inl n)]) (pc := 2) (P := ()) (r := []) (v := .inl 0) rfl hh (hkl := rfl) (htg := rfl) h2 hma rfl (Or.inl rfl)
    exact h1)]
  rw [gq_1 (pc' := 6) (lv' := [(0, .inr (.inr (some a))), (1, .inl n)]) (st' := [.inr (.inr (some a))]) (h' := (h.set a (.inl (13, fs.set 2 (.inl 0))))) (P' := ()) rfl]
  rw [gq_1 (pc' := 7) (lv' := [(0, .inr (.inr (some a))), (1, .inl n)]) (st' := [.inl 1, .inr (.inr (some a))]) (h' := (h.set a (.inl (13, fs.set 2 (.inl 0))))) (P' := ()) rfl]
  rw [gq_1 (pc' := 8) (lv' := [(0, .inr (.inr (some a))), (1, .inl n)]) (st' := [.inl n, .inl 1, .inr (.inr (some a))]) (h' := (h.set a (.inl (13, fs.set 2 (.inl 0))))) (P' := ()) rfl]
  rw [gq_1 (pc' := 11) (lv' := [(0, .inr (.inr (some a))), (1, .inl n)]) (st' := [.inl 1, .inr (.inr (some a))]) (h' := (h.set a (.inl (13, fs.set 2 (.inl 0))))) (P' := ()) (by
    show some (Sum.inl [(if gx_scm 2 n 0 then 17 else 11, _, _, _, _)], 0, 0) = _
    rw [c1]
    rfl)]
  rw [gq_1 (pc' := 12) (lv' := [(0, .inr (.inr (some a))), (1, .inl n)]) (st' := [.inl n, .inl 1, .inr (.inr (some a))]) (h' := (h.set a (.inl (13, fs.set 2 (.inl 0))))) (P' := ()) rfl]
  rw [gq_1 (pc' := 14) (lv' := [(0, .inr (.inr (some a))), (1, .inl n)]) (st' := [.inl 65536, .inl n, .inl 1, .inr (.inr (some a))]) (h' := (h.set a (.inl (13, fs.set 2 (.inl 0))))) (P' := ()) rfl]
  rw [gq_1 (pc' := 17) (lv' := [(0, .inr (.inr (some a))), (1, .inl n)]) (st' := [.inl 1, .inr (.inr (some a))]) (h' := (h.set a (.inl (13, fs.set 2 (.inl 0))))) (P' := ()) (by
    show some (Sum.inl [(if gx_scm 5 n 65536 then 21 else 17, _, _, _, _)], 0, 0) = _
    rw [c2]
    rfl)]
  rw [gq_1 (pc' := 18) (lv' := [(0, .inr (.inr (some a))), (1, .inl n)]) (st' := [.inl 1, .inl 1, .inr (.inr (some a))]) (h' := (h.set a (.inl (13, fs.set 2 (.inl 0))))) (P' := ()) rfl]
  rw [gq_1 (pc' := 22) (lv' := [(0, .inr (.inr (some a))), (1, .inl n)]) (st' := [.inl 1, .inl 1, .inr (.inr (some a))]) (h' := (h.set a (.inl (13, fs.set 2 (.inl 0))))) (P' := ()) rfl]
  have ha1 : (h.set a (.inl (13, fs.set 2 (.inl 0))))[a]? = some (.inl (13, fs.set 2 (.inl 0))) := List.getElem?_set_self hlt
  have hst : gx_st gt_G ga_D mo gt_m26 22 [(0, .inr (.inr (some a))), (1, .inl n)] [.inl 1, .inl 1, .inr (.inr (some a))] (h.set a (.inl (13, fs.set 2 (.inl 0)))) () = some (.inr (.inr (1, 22, [.inr (.inr (some a)), .inl 1, .inl 1], [])), 0, 0) := by
    show gx_ca gt_G [1] 13 53 [.inl 1, .inl 1, .inr (.inr (some a))] (h.set a (.inl (13, fs.set 2 (.inl 0)))) = _
    have e5 : gx_rc (h.set a (.inl (13, fs.set 2 (.inl 0)))) 1 13 [.inr (.inr (some a)), .inl 1, .inl 1] = true := by
      simp only [gx_rc, gx_cls, ha1]
      decide
    have e6 : gx_mt gt_G 13 53 = some (1, 22) := rfl
    have e7 : gx_mm gt_G 22 = some gt_m22 := rfl
    simp only [gx_ca, e6, e7]
    rw [if_pos (by decide), if_pos ⟨(by show 3 ≤ 3; omega), (by show 0 ≤ 8; omega), (by show 3 ≤ 3; omega), e5⟩]
    rfl
  have hf := ge_f1 (mo := mo) (d := d) (h := (h.set a (.inl (13, fs.set 2 (.inl 0))))) (a := a) (fs := fs.set 2 (.inl 0)) ha1 (by
    obtain ⟨v, hv⟩ := Option.isSome_iff_exists.mp h2
    rw [List.getElem?_set_self (List.getElem?_eq_some_iff.mp hv).1]
    rfl) hma (N + 4)
  rw [List.set_set, List.set_set] at hf
  rw [gq_c (v := some (.inl 1)) (h' := (h.set a (.inl (13, fs.set 2 (.inl 1))))) (P' := ()) hst rfl (M' := gt_m22) rfl hf]
  rw [gq_1 (pc' := 28) (lv' := [(0, .inr (.inr (some a))), (1, .inl n)]) (st' := []) (h' := (h.set a (.inl (13, fs.set 2 (.inl 1))))) (P' := ()) rfl]
  rw [gq_1 (pc' := 29) (lv' := [(0, .inr (.inr (some a))), (1, .inl n)]) (st' := [.inl 0]) (h' := (h.set a (.inl (13, fs.set 2 (.inl 1))))) (P' := ()) rfl]
  exact gq_e rfl
end GE4
end
section
section GTE
variable {dC : Nat → ClassId} {dI : Nat → Nat → Nat} {od : Nat → Nat} {base : Nat} {s0 : State} {l : Launch} {xs : Nat → Int32}
def gt_Hy (dC : Nat → ClassId) (dI : Nat → Nat → Nat) (od : Nat → Nat) (base : Nat) (s0 : State) (l : Launch) : Prop := (∀ j, j < gt_mo → od j < base) ∧ s0.heap.size = base ∧ gx_F gt_G gt_cl gt_Tb dC dI od gt_mo s0 ∧ l.flags = pinnedFlags ++ [noTraceFlag]
theorem gt_cl_len : gt_cl.length ≤ 1000 := by decide
theorem gt_con_a (Y : gt_Hy dC dI od base s0 l) {n d j c0 k0 c1 s1 : Nat} {as : List (gx_V Int32 Int64)} {h : gx_H Int32 Int64} {rs : List (gx_R Int32 Int64 Unit)} {M : gx_M} (hM : gx_mm gt_G j = some M) (hwd : gx_wd as ≤ gx_ml M) (hrun : gx_run gt_G ga_D gt_mo ge_E n d M 0 (gx_args 0 as) [] h () = some (rs, c0, k0)) (hc : c0 ≤ c1) (hk : k0 ≤ s1) :
    gx_con gt_cl dC dI od gt_mo base (fun x => x) (fun x => x) (fun _ => True) gt_Tb s0 l d M as h rs c1 s1 :=
  gx_con_run ga_law Y.1 Y.2.1 gt_gd gt_gY gt_gL gt_N6 gt_Tb_ok Y.2.2.1 Y.2.2.2 (fun d j as h P rs c1 s1 M hE => by cases hE) hM hwd hrun hc hk trivial
theorem gt_tp_ok {h : gx_H gs_I gs_J} {t tg : Nat} (hh : gt_tp h t tg = true) : ∃ f, h[t]? = some (.inr (tg, 65536, f)) := by
  unfold gt_tp at hh
  split at hh
  · rename_i tg1 n f hf
    simp only [Bool.and_eq_true, decide_eq_true_eq] at hh
    obtain ⟨rfl, rfl⟩ := hh
    rw [gy_get_eq] at hf
    exact ⟨f, hf⟩
  · cases hh
theorem gt_mid {n : Int32} (h : (gx_scm 2 n 0 || gx_scm 4 n 65536) = false) : n = nI n.toInt.toNat ∧ n.toInt.toNat ≤ 65536 := by
  simp only [Bool.or_eq_false_iff, gx_scm, decide_eq_false_iff_not, Int32.lt_iff_toInt_lt] at h
  have e0 : (0 : Int32).toInt = 0 := by decide
  have e1 : (65536 : Int32).toInt = 65536 := by decide
  rw [e0, e1] at h
  exact ⟨gs_nI n (by omega), by omega⟩
theorem gt_out {n : Int32} (h : (gx_scm 2 n 0 || gx_scm 4 n 65536) = true) : n < 0 ∨ 65536 < n := by
  simpa only [Bool.or_eq_true, gx_scm, decide_eq_true_eq] using h
theorem gt_back {α : Type} (h : List α) {t a : Nat} (X F Z : α) (hta : t ≠ a) : ((h.set t X).set a Z).set t F = (h.set t F).set a Z := by
  rw [List.set_comm X Z hta, List.set_set, ← List.set_comm F Z hta]
theorem gt_h25 (Y : gt_Hy dC dI od base s0 l) {d : Nat} {as : List (gx_V gs_I gs_J)} {h : gx_H gs_I gs_J} {P : gs_P} {rs : List (gx_R gs_I gs_J gs_P)} {c1 s1 : Nat} (hE : gt_e25 as h P = some (rs, c1, s1)) (hok : gs_ok xs P) :
    gx_con gt_cl dC dI od gt_mo base (gs_vI xs) (gs_vL xs) (gs_ok xs) gt_Tb s0 l d gt_m25 as h rs c1 s1 := by
  unfold gt_e25 at hE
  split at hE
  · rename_i a n
    split at hE
    · rename_i ci fs hha
      split at hE
      · rename_i t c h0 h1
        split at hE
        · rename_i hc
          obtain ⟨rfl, rfl, hma, hmt, htp⟩ := hc
          split at hE
          · cases hE
          · rename_i lr hlr
            cases hE
            rw [gy_get_eq] at hha h0 h1
            obtain ⟨f, hf⟩ := gt_tp_ok htp
            obtain ⟨z, hz, hz1, hz2⟩ := gw_r_ok (gs_law xs) hlr hok
            have hha' : (h.map (gm_C (gs_vI xs) (gs_vL xs)))[a]? = some (.inl (1, fs.map (gm_V (gs_vI xs) (gs_vL xs)))) := by rw [List.getElem?_map, hha]; rfl
            have h0' : (fs.map (gm_V (gs_vI xs) (gs_vL xs)))[0]? = some (.inr (.inr (some t))) := by rw [List.getElem?_map, h0]; rfl
            have h1' : (fs.map (gm_V (gs_vI xs) (gs_vL xs)))[1]? = some (.inl 0) := by rw [List.getElem?_map, h1]; rfl
            have hf' : (h.map (gm_C (gs_vI xs) (gs_vL xs)))[t]? = some (.inr (0, 65536, fun j => gm_V (gs_vI xs) (gs_vL xs) (f j))) := by rw [List.getElem?_map, hf]; rfl
            have hwd : gx_wd (([.inr (.inr (some a)), .inl n] : List (gx_V gs_I gs_J)).map (gm_V (gs_vI xs) (gs_vL xs))) ≤ gx_ml gt_m25 := by show 2 ≤ 3; omega
            cases hb : z.1 with
            | true =>
              rw [hb] at hz2
              have hrun : ∃ N, gx_run gt_G ga_D gt_mo ge_E N d gt_m25 0 (gx_args 0 (([.inr (.inr (some a)), .inl n] : List (gx_V gs_I gs_J)).map (gm_V (gs_vI xs) (gs_vL xs)))) [] (h.map (gm_C (gs_vI xs) (gs_vL xs))) () = some ([(.inr (h.map (gm_C (gs_vI xs) (gs_vL xs))).length, h.map (gm_C (gs_vI xs) (gs_vL xs)) ++ [.inl (18, [])], ())], 1, 6) := by
                rcases gt_out hz2.symm with hn | hn
                · exact ⟨_, ge_t1a hn 0⟩
                · exact ⟨_, ge_t1b hn 0⟩
              obtain ⟨N, hrun⟩ := hrun
              refine gw_con (gt_con_a Y (j := 25) rfl hwd hrun (Nat.le_refl _) (Nat.le_refl _)) (fun rA hrA => ?_)
              rw [List.mem_singleton] at hrA
              subst hrA
              refine ⟨(.inr (gy_len h), gy_app h [.inl (18, [])], z.2), List.mem_map.mpr ⟨z, hz, if_pos hb⟩, hz1, ?_, fun U H hr => ?_⟩
              · show (Sum.inr _ : gx_O Int32 Int64) = Sum.inr (gy_len h)
                rw [gy_len_eq, List.length_map]
              · show gx_rep _ _ _ _ _ _ _ U H ((gy_app h [.inl (18, [])]).map (gm_C (gs_vI xs) (gs_vL xs)))
                rw [gy_app_eq, List.map_append]
                exact hr
            | false =>
              rw [hb] at hz2
              obtain ⟨g1, g2⟩ := gt_mid hz2.symm
              obtain ⟨f', hrun⟩ := ge_c1 (mo := gt_mo) (E := ge_E) (d := d) hha' h0' h1' hma hmt hf' g1 g2 0
              have hta : t ≠ a := by
                intro e
                rw [e, hha] at hf
                cases hf
              refine gw_con (gt_con_a Y (j := 25) rfl hwd hrun (Nat.zero_le _) (Nat.zero_le _)) (fun rA hrA => ?_)
              rw [List.mem_singleton] at hrA
              subst hrA
              refine ⟨(.inl (some (.inl n)), gy_put (gy_put h t (.inl (1000, []))) a (.inl (1, gy_put fs 1 (.inl n))), z.2), List.mem_map.mpr ⟨z, hz, if_neg (by rw [hb]; decide)⟩, hz1, rfl, fun U H hr => ?_⟩
              have h5 := gw_forget (t := t) gt_cl_len hr
              rw [gt_back _ _ _ _ hta] at h5
              show gx_rep _ _ _ _ _ _ _ U H ((gy_put (gy_put h t (.inl (1000, []))) a (.inl (1, gy_put fs 1 (.inl n)))).map (gm_C (gs_vI xs) (gs_vL xs)))
              rw [gy_put_eq, gy_put_eq, gy_put_eq, List.map_set, List.map_set]
              show gx_rep _ _ _ _ _ _ _ U H (((h.map (gm_C (gs_vI xs) (gs_vL xs))).set t (.inl (1000, []))).set a (.inl (1, (fs.set 1 (.inl n)).map (gm_V (gs_vI xs) (gs_vL xs)))))
              rw [List.map_set]
              exact h5
        · cases hE
      · cases hE
    · cases hE
  · cases hE
theorem gt_h26 (Y : gt_Hy dC dI od base s0 l) {d : Nat} {as : List (gx_V gs_I gs_J)} {h : gx_H gs_I gs_J} {P : gs_P} {rs : List (gx_R gs_I gs_J gs_P)} {c1 s1 : Nat} (hE : gt_e26 d as h P = some (rs, c1, s1)) (hok : gs_ok xs P) :
    gx_con gt_cl dC dI od gt_mo base (gs_vI xs) (gs_vL xs) (gs_ok xs) gt_Tb s0 l d gt_m26 as h rs c1 s1 := by
  unfold gt_e26 at hE
  split at hE
  · rename_i a n
    split at hE
    · rename_i ci fs hha
      split at hE
      · rename_i t c v2 h0 h1 h2
        split at hE
        · rename_i hc
          obtain ⟨rfl, rfl, hd, hma, hmt, htp⟩ := hc
          obtain ⟨d, rfl⟩ : ∃ d', d = d' + 1 := ⟨d - 1, by omega⟩
          split at hE
          · cases hE
          · rename_i lr hlr
            cases hE
            rw [gy_get_eq] at hha h0 h1 h2
            obtain ⟨f, hf⟩ := gt_tp_ok htp
            obtain ⟨z, hz, hz1, hz2⟩ := gw_r_ok (gs_law xs) hlr hok
            have hha' : (h.map (gm_C (gs_vI xs) (gs_vL xs)))[a]? = some (.inl (13, fs.map (gm_V (gs_vI xs) (gs_vL xs)))) := by rw [List.getElem?_map, hha]; rfl
            have h0' : (fs.map (gm_V (gs_vI xs) (gs_vL xs)))[0]? = some (.inr (.inr (some t))) := by rw [List.getElem?_map, h0]; rfl
            have h1' : (fs.map (gm_V (gs_vI xs) (gs_vL xs)))[1]? = some (.inl 0) := by rw [List.getElem?_map, h1]; rfl
            have h2' : ((fs.map (gm_V (gs_vI xs) (gs_vL xs)))[2]?).isSome = true := by rw [List.getElem?_map, h2]; rfl
            have hf' : (h.map (gm_C (gs_vI xs) (gs_vL xs)))[t]? = some (.inr (3, 65536, fun j => gm_V (gs_vI xs) (gs_vL xs) (f j))) := by rw [List.getElem?_map, hf]; rfl
            have hwd : gx_wd (([.inr (.inr (some a)), .inl n] : List (gx_V gs_I gs_J)).map (gm_V (gs_vI xs) (gs_vL xs))) ≤ gx_ml gt_m26 := by show 2 ≤ gx_ml gt_m26; decide
            cases hb : z.1 with
            | true =>
              rw [hb] at hz2
              have hrun : ∃ N, gx_run gt_G ga_D gt_mo ge_E N (d + 1) gt_m26 0 (gx_args 0 (([.inr (.inr (some a)), .inl n] : List (gx_V gs_I gs_J)).map (gm_V (gs_vI xs) (gs_vL xs)))) [] (h.map (gm_C (gs_vI xs) (gs_vL xs))) () = some ([(.inl (some (.inl 0)), (h.map (gm_C (gs_vI xs) (gs_vL xs))).set a (.inl (13, (fs.map (gm_V (gs_vI xs) (gs_vL xs))).set 2 (.inl 1))), ())], 0, 0) := by
                rcases gt_out hz2.symm with hn | hn
                · exact ⟨_, ge_t2a hn hha' h2' hma 0⟩
                · exact ⟨_, ge_t2b hn hha' h2' hma 0⟩
              obtain ⟨N, hrun⟩ := hrun
              refine gw_con (gt_con_a Y (j := 26) rfl hwd hrun (Nat.le_refl _) (Nat.le_refl _)) (fun rA hrA => ?_)
              rw [List.mem_singleton] at hrA
              subst hrA
              refine ⟨(.inl (some (.inl (.inl 0))), gy_put h a (.inl (13, gy_put fs 2 (.inl (.inl 1)))), z.2), List.mem_map.mpr ⟨z, hz, if_pos hb⟩, hz1, rfl, fun U H hr => ?_⟩
              show gx_rep _ _ _ _ _ _ _ U H ((gy_put h a (.inl (13, gy_put fs 2 (.inl (.inl 1))))).map (gm_C (gs_vI xs) (gs_vL xs)))
              rw [gy_put_eq, gy_put_eq, List.map_set]
              show gx_rep _ _ _ _ _ _ _ U H ((h.map (gm_C (gs_vI xs) (gs_vL xs))).set a (.inl (13, (fs.set 2 (.inl (.inl 1))).map (gm_V (gs_vI xs) (gs_vL xs)))))
              rw [List.map_set]
              exact hr
            | false =>
              rw [hb] at hz2
              obtain ⟨g1, g2⟩ := gt_mid hz2.symm
              obtain ⟨f', hrun⟩ := ge_c2 (mo := gt_mo) (d := d) hha' h0' h1' h2' hma hmt hf' g1 g2 0
              have hta : t ≠ a := by
                intro e
                rw [e, hha] at hf
                cases hf
              refine gw_con (gt_con_a Y (j := 26) rfl hwd hrun (Nat.zero_le _) (Nat.zero_le _)) (fun rA hrA => ?_)
              rw [List.mem_singleton] at hrA
              subst hrA
              refine ⟨(.inl (some (.inl n)), gy_put (gy_put h t (.inl (1000, []))) a (.inl (13, gy_put (gy_put fs 2 (.inl (.inl 0))) 1 (.inl n))), z.2), List.mem_map.mpr ⟨z, hz, if_neg (by rw [hb]; decide)⟩, hz1, rfl, fun U H hr => ?_⟩
              have h5 := gw_forget (t := t) gt_cl_len hr
              rw [gt_back _ _ _ _ hta] at h5
              show gx_rep _ _ _ _ _ _ _ U H ((gy_put (gy_put h t (.inl (1000, []))) a (.inl (13, gy_put (gy_put fs 2 (.inl (.inl 0))) 1 (.inl n)))).map (gm_C (gs_vI xs) (gs_vL xs)))
              rw [gy_put_eq, gy_put_eq, gy_put_eq, gy_put_eq, List.map_set, List.map_set]
              show gx_rep _ _ _ _ _ _ _ U H (((h.map (gm_C (gs_vI xs) (gs_vL xs))).set t (.inl (1000, []))).set a (.inl (13, ((fs.set 2 (.inl (.inl 0))).set 1 (.inl n)).map (gm_V (gs_vI xs) (gs_vL xs)))))
              rw [List.map_set, List.map_set]
              exact h5
        · cases hE
      · cases hE
    · cases hE
  · cases hE
theorem gt_fdz (s : Nat) (tg : Nat) : gz_V gt_mo s (gx_fd gs_D tg) = gx_fd gs_D tg := by
  unfold gx_fd
  split
  · rfl
  · split <;> rfl
theorem gt_hcon (Y : gt_Hy dC dI od base s0 l) {d j ci : Nat} {as : List (gx_V gs_I gs_J)} {h : gx_H gs_I gs_J} {P : gs_P} {rs : List (gx_R gs_I gs_J gs_P)} {c1 s1 : Nat} {M : gx_M} (hM : gx_mm gt_G j = some M) (hj : gt_mm[j]? = some M) (hml : 1 ≤ gx_ml M) (hE : gt_Ec d j ci as h P = some (rs, c1, s1)) (hok : gs_ok xs P) :
    gx_con gt_cl dC dI od gt_mo base (gs_vI xs) (gs_vL xs) (gs_ok xs) gt_Tb s0 l d M as h rs c1 s1 := by
  unfold gt_Ec at hE
  split at hE
  · rename_i a
    split at hE
    · rename_i hc
      obtain ⟨hma, hla⟩ := hc
      rw [gy_len_eq] at hla
      split at hE
      · rename_i ci' fs tys w hha hkl
        rw [gy_get_eq] at hha
        split at hE
        · rename_i hc2
          obtain ⟨rfl, hbz⟩ := hc2
          split at hE
          · rename_i hr P0 c1' s1' hs
            cases hE
            obtain ⟨o1, o2, o3, o4⟩ := Y
            have hfs := gt_bzs_ok hbz
            have hsm : ∀ (base' : Nat) (s0' : State), s0'.heap.size = base' → gx_F gt_G gt_cl gt_Tb dC dI od gt_mo s0' → (∀ j, j < gt_mo → od j < base') → gx_con gt_cl dC dI od gt_mo base' (gs_vI xs) (gs_vL xs) (gs_ok xs) gt_Tb s0' l d M [.inr (.inr (some gt_mo))] (List.replicate gt_mo (.inl (1000, [])) ++ [.inl (ci', tys.map fun q => gx_fd gs_D q.1)]) [(.inl none, hr, P0)] c1 s1 := by
              intro base' s0' hb' hF' hod'
              unfold gt_small at hs
              rw [gy_get_eq, hj, hkl] at hs
              dsimp only at hs
              rw [gy_run_eq] at hs
              exact gx_con_run (gs_law xs) hod' hb' gt_gd gt_gY gt_gL gt_N6 gt_Tb_ok hF' o4 (fun d j as h P rs c1 s1 M hE => by cases hE) hM hml hs (Nat.le_refl _) (Nat.le_refl _) (fun q hq => by cases hq)
            have hpl : (h.take a).length = gt_mo + (a - gt_mo) := by rw [List.length_take]; omega
            have K := gz_con (s := a - gt_mo) (pre := h.take a) (P := P) gt_Tb_ok o3 o2 o1 gt_cl_len hok hpl hsm
            have e1 : gt_mo + (a - gt_mo) = a := by omega
            have e2 : h.take a ++ [gz_C gt_mo (a - gt_mo) (.inl (ci', tys.map fun q => gx_fd gs_D q.1))] = h := by
              have e3 : (gz_C gt_mo (a - gt_mo) (.inl (ci', tys.map fun q => gx_fd gs_D q.1)) : gx_C gs_I gs_J) = .inl (ci', fs) := by
                rw [hfs]
                simp only [gz_C, List.map_map]
                congr 2
                apply List.map_congr_left
                intro q _
                exact gt_fdz _ _
              rw [e3]
              obtain ⟨hlt, hget⟩ := List.getElem?_eq_some_iff.mp hha
              rw [← hget, List.take_append_getElem, List.take_of_length_le (by omega)]
            rw [e1, e2] at K
            exact K
          · cases hE
        · cases hE
      · cases hE
    · cases hE
  · cases hE
theorem gt_hE (Y : gt_Hy dC dI od base s0 l) : ∀ d j as h P rs c1 s1 M, gt_E d j as h P = some (rs, c1, s1) → gs_ok xs P → gx_mm gt_G j = some M → gx_wd as ≤ gx_ml M → gx_con gt_cl dC dI od gt_mo base (gs_vI xs) (gs_vL xs) (gs_ok xs) gt_Tb s0 l d M as h rs c1 s1 := by
  intro d j as h P rs c1 s1 M hE hok hM _
  unfold gt_E at hE
  split at hE
  · rename_i hj
    subst hj
    have : M = gt_m2 := Option.some.inj (hM.symm.trans (rfl : gx_mm gt_G 2 = some gt_m2))
    subst this
    exact gt_hcon Y hM rfl (by decide) hE hok
  · split at hE
    · rename_i hj
      subst hj
      have : M = gt_m14 := Option.some.inj (hM.symm.trans (rfl : gx_mm gt_G 14 = some gt_m14))
      subst this
      exact gt_hcon Y hM rfl (by decide) hE hok
    · split at hE
      · rename_i hj
        subst hj
        have : M = gt_m25 := Option.some.inj (hM.symm.trans (rfl : gx_mm gt_G 25 = some gt_m25))
        subst this
        exact gt_h25 Y hE hok
      · split at hE
        · rename_i hj
          subst hj
          have : M = gt_m26 := Option.some.inj (hM.symm.trans (rfl : gx_mm gt_G 26 = some gt_m26))
          subst this
          exact gt_h26 Y hE hok
        · cases hE
end GTE
end
section
theorem gt_l0 : gt_chk (gt_runP 0 []) = true := by decide +kernel
theorem gt_l1 : gt_chk (gt_runP 1 []) = true := by decide +kernel
theorem gt_l2 : gt_chk (gt_runP 2 []) = true := by decide +kernel
theorem gt_l3 : gt_chk (gt_runP 3 []) = true := by decide +kernel
theorem gt_l4 : gt_chk (gt_runP 4 []) = true := by decide +kernel
theorem gt_l5 : gt_chk (gt_runP 5 []) = true := by decide +kernel
theorem gt_o0 : gt_chk (gt_runP 6 (gt_op 0)) = true := by decide +kernel
end
section
theorem gt_o1 : gt_chk (gt_runP 6 (gt_op 1)) = true := by decide +kernel
theorem gt_o2 : gt_chk (gt_runP 6 (gt_op 2)) = true := by decide +kernel
theorem gt_o3 : gt_chk (gt_runP 6 (gt_op 3)) = true := by decide +kernel
theorem gt_o4 : gt_chk (gt_runP 6 (gt_op 4)) = true := by decide +kernel
theorem gt_o5 : gt_chk (gt_runP 6 (gt_op 5)) = true := by decide +kernel
theorem gt_o6 : gt_chk (gt_runP 6 (gt_op 6)) = true := by decide +kernel
theorem gt_o7 : gt_chk (gt_runP 6 (gt_op 7)) = true := by decide +kernel
end
section
theorem gt_o8 : gt_chk (gt_runP 6 (gt_op 8)) = true := by decide +kernel
theorem gt_o9 : gt_chk (gt_runP 6 (gt_op 9)) = true := by decide +kernel
theorem gt_o10 : gt_chk (gt_runP 6 (gt_op 10)) = true := by decide +kernel
theorem gt_o11 : gt_chk (gt_runP 6 (gt_op 11)) = true := by decide +kernel
theorem gt_o12 : gt_chk (gt_runP 6 (gt_op 12)) = true := by decide +kernel
theorem gt_o13 : gt_chk (gt_runP 6 (gt_op 13)) = true := by decide +kernel
theorem gt_o15 : gt_chk (gt_runP 6 (gt_op 15)) = true := by decide +kernel
end
section
theorem gt_o16 : gt_chk (gt_runP 6 (gt_op 16)) = true := by decide +kernel
theorem gt_o17 : gt_chk (gt_runP 6 (gt_op 17)) = true := by decide +kernel
theorem gt_od : gt_chk (gt_runP 6 [(.op (.op (.var 3) (.var 0)) (.var 37), 18, 31)]) = true := by decide +kernel
theorem gt_o14_0 : gt_chk (gt_runP 6 ((.var 1, -2147483648, -1) :: gt_op 14)) = true := by decide +kernel
theorem gt_o14_1 : gt_chk (gt_runP 6 ((.var 1, 0, 0) :: gt_op 14)) = true := by decide +kernel
theorem gt_o14_2 : gt_chk (gt_runP 6 ((.var 1, 1, 1) :: gt_op 14)) = true := by decide +kernel
theorem gt_o14_3 : gt_chk (gt_runP 6 ((.var 1, 2, 2147483647) :: gt_op 14)) = true := by decide +kernel
end
section
section GTW
variable {p : Program} {e : Env} {s : State} {m : MethodId} {below : List Frame} {meth : Method} {c : Code} {l : Launch} {b L : Nat} {xs : Nat → Int32} {Q : State → Prop}
theorem gt_rep0 {dC : Nat → ClassId} {dI : Nat → Nat → Nat} {od : Nat → Nat} (o1 : od 0 = b) (hL : L ≤ 6) (hX : va_X b L xs s s.heap) : gx_rep gt_cl dC dI (gx_cv (gs_vI xs) (gs_vL xs) (gx_ad od gt_mo s.heap.size)) od gt_mo s.heap.size s s.heap (gt_h0 L) := by
  obtain ⟨scr, h1, h2, h3, h4, h5⟩ := hX
  refine ⟨by show 14 ≤ _; simp [gt_h0], by simp [gt_h0, gt_mo], fun k x hx => ?_⟩
  cases k with
  | zero =>
    cases hx
    have hv : ∀ j, j < L → gx_cv (gs_vI xs) (gs_vL xs) (gx_ad od gt_mo s.heap.size) (.inl (.inr (.var j)) : gx_V gs_I gs_J) = .int (xs j) := by
      intro j hj
      show Value.int (if j < 6 then xs j else _) = _
      rw [if_pos (by omega)]
    refine ⟨by omega, fun j hj => by rw [hv j hj]; rfl, scr, ?_, h2, h3, h4, fun j hj => by rw [hv j hj]; exact h5 j hj, fun hq => absurd hq (by decide)⟩
    show s.heap[od 0]? = _
    rw [o1]
    exact h1
  | succ k =>
    have hx' : (List.replicate 13 (.inl (1000, [])) : gx_H gs_I gs_J)[k]? = some x := hx
    rw [List.getElem?_replicate] at hx'
    split at hx'
    · cases hx'
      exact Or.inl gt_cl_len
    · cases hx'
theorem gt_go {P : gs_P} (hfl : l.flags = pinnedFlags ++ [noTraceFlag]) (hx : p.tables.exec = Jvm.exec) (hb : c.code = code) (hr : meth.sig.returnType = ret) (hml : c.maxLocals = 8) (hown : s.vm.findClass "HandheldPairLaw" = some m.cls) (hts : ∀ w ∈ lw_tbl, w.before #[Value.ref b] s = true) (hX : va_X b L xs s s.heap) (hbl : b < s.heap.size) (hlk : meth.locks = false) (hgv : (Jvm.Cond.and given_1 narrow_1).before #[Value.ref b] s = true)
    (hxt : c.exceptionTable.toList.map (fun h => (h.startPc, h.endPc, h.handlerPc, h.catchType)) = []) (hL : L ≤ 6) (hP : gs_ok xs P) (hchk : gt_chk (gt_runP L P) = true)
    (hQ : ∀ t : State, t.status = .running → Ended t below (.returned (some (.int 1))) → s.WarmedH t.vm → s.sameButNew ({ t with vm := s.vm } : State) [] 60002 8922232 → Q t) :
    W p l e room_1 s m #[Value.ref b] below meth c s.heap [] 0 0 Q (entryFrame m ([Value.ref b] : List Value).toArray 8) := by
  obtain ⟨dC, dI, od, o1, o2, hF⟩ := gt_F (m := m) hts hgv hown hbl
  unfold gt_chk at hchk
  split at hchk
  · rename_i rs c1 s1 hrun
    simp only [Bool.and_eq_true, decide_eq_true_eq] at hchk
    obtain ⟨⟨h1, h2⟩, h3⟩ := hchk
    unfold gt_runP at hrun
    rw [gy_run_eq] at hrun
    have hcx : gx_cx gt_cl gt_Tb gt_m0 p s m #[Value.ref b] meth c := ⟨hx, hb, hml, ⟨_, rfl, hown⟩, gt_Ts hts, (fun h => by cases h), hr, hlk, (gt_yM (j := 0) (M := gt_m0) rfl).2.2.2.2.2.2, hxt⟩
    have hlv := lv_entry ([Value.ref b] : List Value) (n := 8) (by show 1 ≤ 8; omega)
    have e1 : gx_lvv (gs_vI xs) (gs_vL xs) (gx_ad od gt_mo s.heap.size) [(0, .inr (.inr (some 0)))] = lv_args 0 [Value.ref b] := by
      show [(0, Value.ref (od 0))] = _
      rw [o1]
      rfl
    have K := gx_walk (gs_law xs) o2 rfl gt_gd gt_gY gt_gL gt_N6 gt_Tb_ok hF hfl (gt_hE ⟨o2, rfl, hF, hfl⟩) 100000 12 gt_m0 0 _ [] _ P rs c1 s1 hrun p e room_1 s m #[Value.ref b] below meth c Q 60002 8922232 0 0 s.heap [] _ hcx ⟨State.WarmedH.refl s, fun _ _ => rfl⟩ ⟨by decide, by decide⟩ (by omega) (by omega) (Nat.le_refl _) (Nat.le_refl _) hP ⟨gt_rep0 o1 hL hX, va_S.rf, by rw [e1]; exact hlv⟩ (fun r hr hok t Ls k n q1 q2 q3 q4 q5 q6 q7 q8 => ?_)
    · rw [List.map_nil, ← lg_entry_eq] at K
      exact K
    · have h4 := List.all_eq_true.mp h1 r hr
      split at h4
      · rename_i x hx1
        have hx2 : x = 1 := of_decide_eq_true h4
        subst hx2
        rw [hx1] at q2
        exact hQ t q1 q2 q3 (q4.weaken (fun y hy hlt => absurd (q8.2.2 y hy) (Nat.not_le.mpr hlt)) q5 q6)
      · cases h4
  · cases hchk
theorem gt_xt {y : MethodName} {cc : ByteArray} {ml : Nat} {rt : Option FieldType} {args : Array Value} (h : (Cond.code y cc ml rt).before args s = true) (hn : s.methodNamed? y = some m) (hm : s.vm.method? m = some meth) (hc : meth.code = some c) : c.exceptionTable.toList.map (fun h => (h.startPc, h.endPc, h.handlerPc, h.catchType)) = [] := by
  have h1 : (Cond.codeWith y cc ml rt []).before args s = true := by
    simp only [Cond.before, Cond.holds] at h ⊢
    rw [← Cond.code_iff_codeWith_nil]
    exact h
  obtain ⟨m', meth', c', g1, g2, g3, -, -, g6, -⟩ := Cond.codeWith_spec h1
  have e0 : m' = m := Option.some.inj (g1.symm.trans hn)
  subst e0
  have e1 : meth' = meth := Option.some.inj (g2.symm.trans hm)
  subst e1
  have e2 : c' = c := Option.some.inj (g3.symm.trans hc)
  subst e2
  exact g6
end GTW
end
section
section GTC
variable {xs : Nat → Int32}
theorem gt_opv (lo hi : Int) (h1 : lo ≤ (xs 0 &&& 31).toInt) (h2 : (xs 0 &&& 31).toInt ≤ hi) : gs_ok xs [(.op (.op (.var 3) (.var 0)) (.var 37), lo, hi)] := by
  intro q hq
  rw [List.mem_singleton] at hq
  subst hq
  exact ⟨fun _ => ⟨h1, h2⟩, fun h => absurd (Int.le_trans h1 h2) (Int.not_le.mpr h)⟩
theorem gt_opw (lo hi k : Int) (h1 : (xs 0 &&& 31).toInt = k) (h3 : lo ≤ (xs 1).toInt) (h4 : (xs 1).toInt ≤ hi) : gs_ok xs ((.var 1, lo, hi) :: gt_op k) := by
  intro q hq
  rcases List.mem_cons.mp hq with rfl | hq
  · exact ⟨fun _ => ⟨h3, h4⟩, fun h => absurd (Int.le_trans h3 h4) (Int.not_le.mpr h)⟩
  · exact gt_opv k k (by rw [h1]; exact Int.le_refl _) (by rw [h1]; exact Int.le_refl _) q hq
theorem gt_31 (x : Int32) : 0 ≤ (x &&& 31).toInt ∧ (x &&& 31).toInt ≤ 31 := by
  have h : (x &&& 31).toBitVec.toNat ≤ 31 := by
    rw [Int32.toBitVec_and, BitVec.toNat_and]
    exact Nat.and_le_right
  have h2 : (x &&& 31).toInt = (x &&& 31).toBitVec.toNat := by
    show (x &&& 31).toBitVec.toInt = _
    rw [BitVec.toInt_eq_toNat_of_lt (by omega)]
  omega
/-- every script of at most six ints has a road that was run -/
theorem gt_roads (xs : Nat → Int32) {L : Nat} (hL : L ≤ 6) : ∃ P : gs_P, gs_ok xs P ∧ gt_chk (gt_runP L P) = true := by
  by_cases h6 : L = 6
  · subst h6
    obtain ⟨h1, h2⟩ := gt_31 (xs 0)
    by_cases hd : 18 ≤ (xs 0 &&& 31).toInt
    · exact ⟨_, gt_opv 18 31 hd h2, gt_od⟩
    by_cases h0' : (xs 0 &&& 31).toInt = 0
    · exact ⟨_, gt_opv 0 0 (by omega) (by omega), gt_o0⟩
    by_cases h1' : (xs 0 &&& 31).toInt = 1
    · exact ⟨_, gt_opv 1 1 (by omega) (by omega), gt_o1⟩
    by_cases h2' : (xs 0 &&& 31).toInt = 2
    · exact ⟨_, gt_opv 2 2 (by omega) (by omega), gt_o2⟩
    by_cases h3' : (xs 0 &&& 31).toInt = 3
    · exact ⟨_, gt_opv 3 3 (by omega) (by omega), gt_o3⟩
    by_cases h4' : (xs 0 &&& 31).toInt = 4
    · exact ⟨_, gt_opv 4 4 (by omega) (by omega), gt_o4⟩
    by_cases h5' : (xs 0 &&& 31).toInt = 5
    · exact ⟨_, gt_opv 5 5 (by omega) (by omega), gt_o5⟩
    by_cases h6' : (xs 0 &&& 31).toInt = 6
    · exact ⟨_, gt_opv 6 6 (by omega) (by omega), gt_o6⟩
    by_cases h7' : (xs 0 &&& 31).toInt = 7
    · exact ⟨_, gt_opv 7 7 (by omega) (by omega), gt_o7⟩
    by_cases h8' : (xs 0 &&& 31).toInt = 8
    · exact ⟨_, gt_opv 8 8 (by omega) (by omega), gt_o8⟩
    by_cases h9' : (xs 0 &&& 31).toInt = 9
    · exact ⟨_, gt_opv 9 9 (by omega) (by omega), gt_o9⟩
    by_cases h10' : (xs 0 &&& 31).toInt = 10
    · exact ⟨_, gt_opv 10 10 (by omega) (by omega), gt_o10⟩
    by_cases h11' : (xs 0 &&& 31).toInt = 11
    · exact ⟨_, gt_opv 11 11 (by omega) (by omega), gt_o11⟩
    by_cases h12' : (xs 0 &&& 31).toInt = 12
    · exact ⟨_, gt_opv 12 12 (by omega) (by omega), gt_o12⟩
    by_cases h13' : (xs 0 &&& 31).toInt = 13
    · exact ⟨_, gt_opv 13 13 (by omega) (by omega), gt_o13⟩
    by_cases h15' : (xs 0 &&& 31).toInt = 15
    · exact ⟨_, gt_opv 15 15 (by omega) (by omega), gt_o15⟩
    by_cases h16' : (xs 0 &&& 31).toInt = 16
    · exact ⟨_, gt_opv 16 16 (by omega) (by omega), gt_o16⟩
    by_cases h17' : (xs 0 &&& 31).toInt = 17
    · exact ⟨_, gt_opv 17 17 (by omega) (by omega), gt_o17⟩
    have h14 : (xs 0 &&& 31).toInt = 14 := by omega
    have g := gs_full_ok (xs 1)
    simp only [gs_full] at g
    by_cases ha : (xs 1).toInt < 0
    · exact ⟨_, gt_opw (-2147483648) (-1) 14 h14 (by omega) (by omega), gt_o14_0⟩
    · by_cases hb : (xs 1).toInt = 0
      · exact ⟨_, gt_opw 0 0 14 h14 (by omega) (by omega), gt_o14_1⟩
      · by_cases hc : (xs 1).toInt = 1
        · exact ⟨_, gt_opw 1 1 14 h14 (by omega) (by omega), gt_o14_2⟩
        · exact ⟨_, gt_opw 2 2147483647 14 h14 (by omega) (by omega), gt_o14_3⟩
  · have h0 : gs_ok xs [] := fun q hq => absurd hq List.not_mem_nil
    match L, hL, h6 with
    | 0, _, _ => exact ⟨_, h0, gt_l0⟩
    | 1, _, _ => exact ⟨_, h0, gt_l1⟩
    | 2, _, _ => exact ⟨_, h0, gt_l2⟩
    | 3, _, _ => exact ⟨_, h0, gt_l3⟩
    | 4, _, _ => exact ⟨_, h0, gt_l4⟩
    | 5, _, _ => exact ⟨_, h0, gt_l5⟩
    | n + 6, hL, h6 => omega
end GTC
end
section
/-! THE CLAIM OUT OF ONE WALK OF THE LAW'S BODY. Your part is whole_start (and what it stands on); all else here is the same for every law, but numbers. -/
def R_law : String := "HandheldPairLaw"
def lw_P (b : Addr) (xs : List Int32) (args : Array Value) (s : State) : Prop := args = #[.ref b] ∧ s.IntsAt b xs ∧ xs.length ≤ 6 ∧ (Jvm.Cond.and given_1 narrow_1).before args s = true
def lw_Q (_ : Array Value) (s : State) (o : Outcome) (t : State) : Prop := o = .returned (some (.int 1)) ∧ Framed s o t [] 60002 8922232
def lw_Z (below : List Frame) (a : Array Value) (s : State) : State → Prop := fun t => ∃ o, t.status = .running ∧ Ended t below o ∧ lw_Q a s o t
/-- the law's own end, with 1 on the stack, nothing written that was there before, its room as the claim has it -/
theorem lw_ret {p : Program} {l : Launch} {e : Env} {s : State} {m : MethodId} {below : List Frame} {meth : Method} {c : Code} {b : Nat} (hx : p.tables.exec = Jvm.exec) (hb : c.code = code) (hr : meth.sig.returnType = ret) (hlocks : meth.locks = false) {pc : Nat} {H : Heap} {ls : Array Slot} (hdg : decode code pc = .ok (.ireturn, 1)) : W p l e room_1 s m #[Value.ref b] below meth c H [] 60002 8922232 (lw_Z below #[Value.ref b] s) (F0 m pc ls [.int 1]) := by
  intro T hT X
  obtain ⟨fs, hret, hrun, hended, hW, hframe⟩ := X.leave (v := some (.int 1)) (hlocks := hlocks) (fun h => by rw [hr] at h; cases h)
  have hmeth' : T.vm.method? m = some meth := X.method'
  refine ⟨T.setFrames fs, ?_, .returned (some (.int 1)), hrun, hended, rfl, ⟨_, rfl⟩, hW, hframe⟩
  jvm_step X.here [X.here.top, hx, hb, hdg, hmeth', hr, ret, narrow_b1]
  (try refine ⟨rfl, ?_⟩); (try refine ⟨rfl, ?_⟩)
  first | (intro acts; rw [hret _ acts rfl rfl rfl]) | rw [hret _ _ rfl rfl rfl]
  exact Steps.refl _
/-- what holds at the law's entry: the machine, the code, the tables' words (any of lw_tbl by 'hts w (by decide +kernel)'), the script of L ints xs at the cell b, what the Statement gives of the start (any of its parts by flat_of_before) -/
def lw_At (p : Program) (s : State) (m : MethodId) (meth : Method) (c : Code) (b L : Nat) (xs : Nat → Int32) : Prop :=
  p.tables.exec = Jvm.exec ∧ c.code = code ∧ meth.sig.returnType = ret ∧ c.maxLocals = 8 ∧ s.vm.findClass R_law = some m.cls ∧ (∀ w ∈ lw_tbl, w.before #[Value.ref b] s = true) ∧ va_X b L xs s s.heap ∧ b < s.heap.size ∧ meth.locks = false ∧ (Jvm.Cond.and given_1 narrow_1).before #[Value.ref b] s = true
set_option maxHeartbeats 4000000 in
theorem lw_walk (l : Launch) (hfl : l.flags = flags0) (b : Addr) (xs : List Int32) : MetFree l x (headSpec (Jvm.Cond.code x code maxLocals ret :: tables_1) room_1) (lw_P b xs) (fun _ _ _ _ _ => True) lw_Q := by
  refine MetFree.of_bodyS (code := code) (maxLocals := maxLocals) (ret := ret) (by decide) ?_ ?_
  · intro args s m h hn
    obtain ⟨meth, c, h1, h2, h3, h4, h5, h6, -, -⟩ := Cond.code_spec hn (atoms_spec (ws := Jvm.Cond.code x code maxLocals ret :: tables_1) h _ List.mem_cons_self)
    exact ⟨meth, c, h1, h2, h3, h4, h5, h6⟩
  · intro p e s m args below meth c s₁ B hml0 hP _
    obtain ⟨rfl, hx, hbd, hgv⟩ := hP
    obtain ⟨scr, harrAt, hlist, hof, hsmall⟩ := hx
    obtain ⟨hcb, hkn, -, -⟩ := State.arrayAt?_spec harrAt
    have hown : s.vm.findClass R_law = some m.cls := findClass_of_methodNamed B.named
    have hts0 : ∀ c ∈ (Jvm.Cond.code x code maxLocals ret :: tables_1), c.before #[Value.ref b] s = true := atoms_spec (ws := Jvm.Cond.code x code maxLocals ret :: tables_1) B.pre
    have hts : ∀ w ∈ lw_tbl, w.before #[Value.ref b] s = true := k2_hts_sels lw_privs (fun w hw => hts0 w (List.mem_cons_of_mem _ hw)) lw_privs_ok
    have hml : c.maxLocals = 8 := B.maxLocals_eq (hts0 _ List.mem_cons_self)
    have X₀ : Stand p l e room_1 s m #[Value.ref b] below meth c s₁ [] 0 0 := Stand.of_body B
    have hh0 : s₁.heap = s.heap := by rw [B.state]; rfl
    have hsz : scr.slots.size = xs.length := by rw [← Array.length_toList, hlist, List.length_map]
    have hval : ∀ j : Nat, j < xs.length → scr.slots[j]? = some (.int (xs.getD j 0)) := fun j hj => by
      rw [← Array.getElem?_toList, hlist]
      simp [hj]
    have hbl : b < s.heap.size := (Array.getElem?_eq_some_iff.mp hcb).1
    have hX : va_X b xs.length (fun j => xs.getD j 0) s s.heap := ⟨scr, hcb, hof, hkn, hsz, hval⟩
    have K : W p l e room_1 s m #[Value.ref b] below meth c s₁.heap [] 0 0 (lw_Z below #[Value.ref b] s) (entryFrame m ([Value.ref b] : List Value).toArray 8) := by
      rw [hh0]
      obtain ⟨P, hP, hchk⟩ := gt_roads (fun j => xs.getD j 0) hbd
      exact gt_go hfl B.exec B.bytes B.returns hml hown hts hX hbl B.notSynchronized hgv (gt_xt (hts0 _ List.mem_cons_self) B.named B.method X₀.code) hbd hP hchk (fun t q1 q2 q3 q4 => ⟨_, q1, q2, rfl, ⟨_, rfl⟩, q3, q4⟩)
    obtain ⟨t, a1, o, b1, b2, b3⟩ := K s₁ rfl X₀
    exact ⟨t, o, a1, b1, b2, b3⟩
theorem lw_pre_spec {args : Array Value} {s : State} (h : (Jvm.Cond.and given_1 narrow_1).before args s = true) (hr : rest_1_c.before args s = true) : ∃ (b : Addr) (xs : List Int32), lw_P b xs args s := by
  have hs := flat_of_before _ h
  have hq := flat_of_before _ hr
  have hc : (Cond.count 1).before args s = true := hs _ (by decide +kernel)
  have harr : (Cond.arrayOf (.arg 0) .int).before args s = true := hs _ (by decide +kernel)
  have hle : (Cond.le (.length (.arg 0)) (.int 6)).before args s = true := hs _ (by decide +kernel)
  have hlen : (Cond.isInt (.length (.arg 0))).before args s = true := hq _ (by decide +kernel)
  have hall : (Cond.all (.arg 0) (.isInt (.elem (.arg 0) (.index 0)))).before args s = true := hq _ (by decide +kernel)
  obtain ⟨b, xs, hb, hx⟩ := State.ints_of_pre rfl harr hlen hall
  have hsm : xs.length < 2 ^ 31 := hx.choose_spec.2.2.2
  have hev : (Term.length (.arg 0)).eval args s none [] s = some (.int xs.length.toInt32) := hx.length_eval hb
  have hv := Cond.le_ints hev (show (Term.int 6).eval args s none [] s = some (.int 6) from rfl)
  have hd : xs.length.toInt32 ≤ 6 := by
    simpa [Cond.before, Cond.holds, hv] using hle
  have hN : xs.length ≤ 6 := (Int32.ofNat_le_ofNat hsm (by decide)).mp (show Int32.ofNat xs.length ≤ Int32.ofNat 6 from hd)
  exact ⟨b, xs, Cond.one_arg hc (show args[0]? = some (.ref b) from hb), hx, hN, h⟩
theorem lw_comes (l : Launch) (hfl : l.flags = flags0) : Comes l x (Jvm.Cond.code x code maxLocals ret :: tables_1) room_1 (fun tb e args s => Calls_1 tb e args s ∧ rest_1 tb e args s ∧ Pre_1 tb e args s)
    (fun _ _ args s o t => lw_Q args s o t) := by
  intro p e ha hc hk s m args below hf hfit hheap happ hpre
  obtain ⟨b, xs, hP⟩ := lw_pre_spec hpre.2.2 hpre.2.1
  obtain ⟨k, o, h1, h2, h3, hQ⟩ := lw_walk l hfl b xs p e ha hc hk s m args below hf ((Spec.applies_iff_loose hf).mp happ).1 hP trivial
  exact ⟨k, o, h1, h2, h3, hQ⟩
theorem lw_frame {s t : State} {o : Outcome} {args : Array Value} (h : Framed s o t [] 60002 8922232) :
    Framed s o t (fieldLocs frame_1_writes args s ++ arrayLocs frame_1_arrays args s ++ staticLocs frame_1_statics s) 60002 8922232 := h
theorem lw_limb (L : Cond) (hL : ∀ (args : Array Value) (s t : State), L.after args s (.returned (some (.int 1))) t = true) :
    ArmFor flags0 classFile x code maxLocals ret World_1 tables_1 room_1 Calls_1 rest_1 Pre_1
      (fun tb e a s o t => postC L tb e a s o t ∧ Framed s o t (fieldLocs frame_1_writes a s ++ arrayLocs frame_1_arrays a s ++ staticLocs frame_1_statics s) 60002 8922232) := by
  intro l hfl _ _ p e ha hc hk s m args below hf hfit hheap happ hpre
  obtain ⟨k, o, h1, h2, h3, rfl, hF⟩ := lw_comes l hfl p e ha hc hk s m args below hf hfit hheap happ hpre
  exact ⟨k, _, h1, h2, h3, hL args s _, lw_frame hF⟩
theorem i_vc : Claimed_1_1 ∧ Claimed_1_2 := ⟨lw_limb limb_1_1 (fun args s t => by simp [limb_1_1, Cond.after, Cond.holds, Cond.value]), lw_limb limb_1_2 (fun args s t => Cond.after_iff.mpr (by
  first | (rw [show limb_1_2 = Cond.eq .result (.int 1) from rfl, Cond.eq_ints (x := 1) (y := 1) rfl rfl]; simp; done) | (simp [limb_1_2, Cond.value, Term.eval]; done)))⟩
end
