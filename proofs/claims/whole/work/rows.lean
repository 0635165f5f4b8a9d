section
-- ===== PART A: goes FIRST, ahead of the names: the tables' words, and 'selects' of the private methods out of them =====
/-- a private method of a class that the tables say can be made, by its rows of tables_1 -/
def lw_okq (q : MethodName × Nat) : Prop := (q.1.cls ≠ "java/lang/invoke/MethodHandle" ∧ q.1.cls ≠ "java/lang/invoke/VarHandle") ∧ Cond.instantiable q.1.cls q.2 ∈ tables_1 ∧ Cond.privateMethod q.1 ∈ tables_1 ∧ Cond.instanceMethod q.1 ∈ tables_1
theorem lw_p0 : lw_okq (⟨"TideTable", "sumOfDifferences", "()J"⟩, 5) := ⟨⟨by decide +kernel, by decide +kernel⟩, List.mem_of_getElem? (i := 26) (by decide +kernel), List.mem_of_getElem? (i := 127) (by decide +kernel), List.mem_of_getElem? (i := 128) (by decide +kernel)⟩
theorem lw_p1 : lw_okq (⟨"TideTable", "differenceOf", "(I)J"⟩, 5) := ⟨⟨by decide +kernel, by decide +kernel⟩, List.mem_of_getElem? (i := 26) (by decide +kernel), List.mem_of_getElem? (i := 131) (by decide +kernel), List.mem_of_getElem? (i := 132) (by decide +kernel)⟩
theorem lw_p2 : lw_okq (⟨"TideTable", "currentTable", "()LTideTable$Table;"⟩, 5) := ⟨⟨by decide +kernel, by decide +kernel⟩, List.mem_of_getElem? (i := 26) (by decide +kernel), List.mem_of_getElem? (i := 174) (by decide +kernel), List.mem_of_getElem? (i := 175) (by decide +kernel)⟩
theorem lw_p3 : lw_okq (⟨"TideTable$Table", "findWaters", "()V"⟩, 5) := ⟨⟨by decide +kernel, by decide +kernel⟩, List.mem_of_getElem? (i := 75) (by decide +kernel), List.mem_of_getElem? (i := 183) (by decide +kernel), List.mem_of_getElem? (i := 184) (by decide +kernel)⟩
theorem lw_p4 : lw_okq (⟨"TideTable$Table", "noteWater", "(IIZ)V"⟩, 5) := ⟨⟨by decide +kernel, by decide +kernel⟩, List.mem_of_getElem? (i := 75) (by decide +kernel), List.mem_of_getElem? (i := 187) (by decide +kernel), List.mem_of_getElem? (i := 188) (by decide +kernel)⟩
theorem lw_p5 : lw_okq (⟨"TideTable", "numberOf", "(I)I"⟩, 5) := ⟨⟨by decide +kernel, by decide +kernel⟩, List.mem_of_getElem? (i := 26) (by decide +kernel), List.mem_of_getElem? (i := 192) (by decide +kernel), List.mem_of_getElem? (i := 193) (by decide +kernel)⟩
theorem lw_p6 : lw_okq (⟨"TideTable$Table", "greatestHeight", "()I"⟩, 5) := ⟨⟨by decide +kernel, by decide +kernel⟩, List.mem_of_getElem? (i := 75) (by decide +kernel), List.mem_of_getElem? (i := 247) (by decide +kernel), List.mem_of_getElem? (i := 248) (by decide +kernel)⟩
theorem lw_p7 : lw_okq (⟨"TideTable$Table", "leastHeight", "()I"⟩, 5) := ⟨⟨by decide +kernel, by decide +kernel⟩, List.mem_of_getElem? (i := 75) (by decide +kernel), List.mem_of_getElem? (i := 254) (by decide +kernel), List.mem_of_getElem? (i := 255) (by decide +kernel)⟩
theorem lw_p8 : lw_okq (⟨"TideTable$Table", "meanOfWaters", "(Z)I"⟩, 5) := ⟨⟨by decide +kernel, by decide +kernel⟩, List.mem_of_getElem? (i := 75) (by decide +kernel), List.mem_of_getElem? (i := 261) (by decide +kernel), List.mem_of_getElem? (i := 262) (by decide +kernel)⟩
theorem lw_p9 : lw_okq (⟨"TideTable$Table", "greatestDifference", "()I"⟩, 5) := ⟨⟨by decide +kernel, by decide +kernel⟩, List.mem_of_getElem? (i := 75) (by decide +kernel), List.mem_of_getElem? (i := 270) (by decide +kernel), List.mem_of_getElem? (i := 271) (by decide +kernel)⟩
theorem lw_p10 : lw_okq (⟨"java/lang/Throwable", "fillInStackTrace", "(I)Ljava/lang/Throwable;"⟩, 6) := ⟨⟨by decide +kernel, by decide +kernel⟩, List.mem_of_getElem? (i := 327) (by decide +kernel), List.mem_of_getElem? (i := 325) (by decide +kernel), List.mem_of_getElem? (i := 326) (by decide +kernel)⟩
theorem lw_p11 : lw_okq (⟨"java/util/ArrayList", "add", "(Ljava/lang/Object;[Ljava/lang/Object;I)V"⟩, 3) := ⟨⟨by decide +kernel, by decide +kernel⟩, List.mem_of_getElem? (i := 40) (by decide +kernel), List.mem_of_getElem? (i := 396) (by decide +kernel), List.mem_of_getElem? (i := 397) (by decide +kernel)⟩
theorem lw_p12 : lw_okq (⟨"java/util/ArrayList", "grow", "()[Ljava/lang/Object;"⟩, 3) := ⟨⟨by decide +kernel, by decide +kernel⟩, List.mem_of_getElem? (i := 40) (by decide +kernel), List.mem_of_getElem? (i := 400) (by decide +kernel), List.mem_of_getElem? (i := 401) (by decide +kernel)⟩
theorem lw_p13 : lw_okq (⟨"java/util/ArrayList", "grow", "(I)[Ljava/lang/Object;"⟩, 3) := ⟨⟨by decide +kernel, by decide +kernel⟩, List.mem_of_getElem? (i := 40) (by decide +kernel), List.mem_of_getElem? (i := 404) (by decide +kernel), List.mem_of_getElem? (i := 405) (by decide +kernel)⟩
theorem lw_p14 : lw_okq (⟨"TideTable", "hasWave", "(I)Z"⟩, 5) := ⟨⟨by decide +kernel, by decide +kernel⟩, List.mem_of_getElem? (i := 26) (by decide +kernel), List.mem_of_getElem? (i := 456) (by decide +kernel), List.mem_of_getElem? (i := 457) (by decide +kernel)⟩
theorem lw_p15 : lw_okq (⟨"TideTable", "hasPort", "(I)Z"⟩, 5) := ⟨⟨by decide +kernel, by decide +kernel⟩, List.mem_of_getElem? (i := 26) (by decide +kernel), List.mem_of_getElem? (i := 583) (by decide +kernel), List.mem_of_getElem? (i := 584) (by decide +kernel)⟩
def lw_privs_1 : List (MethodName × Nat) := [(⟨"TideTable", "sumOfDifferences", "()J"⟩, 5), (⟨"TideTable", "differenceOf", "(I)J"⟩, 5), (⟨"TideTable", "currentTable", "()LTideTable$Table;"⟩, 5), (⟨"TideTable$Table", "findWaters", "()V"⟩, 5), (⟨"TideTable$Table", "noteWater", "(IIZ)V"⟩, 5), (⟨"TideTable", "numberOf", "(I)I"⟩, 5), (⟨"TideTable$Table", "greatestHeight", "()I"⟩, 5), (⟨"TideTable$Table", "leastHeight", "()I"⟩, 5), (⟨"TideTable$Table", "meanOfWaters", "(Z)I"⟩, 5), (⟨"TideTable$Table", "greatestDifference", "()I"⟩, 5), (⟨"java/lang/Throwable", "fillInStackTrace", "(I)Ljava/lang/Throwable;"⟩, 6), (⟨"java/util/ArrayList", "add", "(Ljava/lang/Object;[Ljava/lang/Object;I)V"⟩, 3), (⟨"java/util/ArrayList", "grow", "()[Ljava/lang/Object;"⟩, 3), (⟨"java/util/ArrayList", "grow", "(I)[Ljava/lang/Object;"⟩, 3), (⟨"TideTable", "hasWave", "(I)Z"⟩, 5), (⟨"TideTable", "hasPort", "(I)Z"⟩, 5)]
theorem lw_r1 : ∀ q ∈ lw_privs_1, lw_okq q := List.forall_mem_cons.mpr ⟨lw_p0, List.forall_mem_cons.mpr ⟨lw_p1, List.forall_mem_cons.mpr ⟨lw_p2, List.forall_mem_cons.mpr ⟨lw_p3, List.forall_mem_cons.mpr ⟨lw_p4, List.forall_mem_cons.mpr ⟨lw_p5, List.forall_mem_cons.mpr ⟨lw_p6, List.forall_mem_cons.mpr ⟨lw_p7, List.forall_mem_cons.mpr ⟨lw_p8, List.forall_mem_cons.mpr ⟨lw_p9, List.forall_mem_cons.mpr ⟨lw_p10, List.forall_mem_cons.mpr ⟨lw_p11, List.forall_mem_cons.mpr ⟨lw_p12, List.forall_mem_cons.mpr ⟨lw_p13, List.forall_mem_cons.mpr ⟨lw_p14, List.forall_mem_cons.mpr ⟨lw_p15, fun _ h => absurd h List.not_mem_nil⟩⟩⟩⟩⟩⟩⟩⟩⟩⟩⟩⟩⟩⟩⟩⟩
theorem lw_p16 : lw_okq (⟨"TideTable", "tallyChiefPort", "(LTideTable$Tally;III)V"⟩, 5) := ⟨⟨by decide +kernel, by decide +kernel⟩, List.mem_of_getElem? (i := 26) (by decide +kernel), List.mem_of_getElem? (i := 675) (by decide +kernel), List.mem_of_getElem? (i := 676) (by decide +kernel)⟩
theorem lw_p17 : lw_okq (⟨"TideTable", "tallyPort", "(LTideTable$Tally;LTideTable$Port;III)V"⟩, 5) := ⟨⟨by decide +kernel, by decide +kernel⟩, List.mem_of_getElem? (i := 26) (by decide +kernel), List.mem_of_getElem? (i := 689) (by decide +kernel), List.mem_of_getElem? (i := 690) (by decide +kernel)⟩
theorem lw_p18 : lw_okq (⟨"TideTableModel", "fail", "(I)I"⟩, 15) := ⟨⟨by decide +kernel, by decide +kernel⟩, List.mem_of_getElem? (i := 740) (by decide +kernel), List.mem_of_getElem? (i := 807) (by decide +kernel), List.mem_of_getElem? (i := 808) (by decide +kernel)⟩
theorem lw_p19 : lw_okq (⟨"TideTableModel", "isWave", "(I)Z"⟩, 15) := ⟨⟨by decide +kernel, by decide +kernel⟩, List.mem_of_getElem? (i := 740) (by decide +kernel), List.mem_of_getElem? (i := 815) (by decide +kernel), List.mem_of_getElem? (i := 816) (by decide +kernel)⟩
theorem lw_p20 : lw_okq (⟨"TideTableModel", "find", "()V"⟩, 15) := ⟨⟨by decide +kernel, by decide +kernel⟩, List.mem_of_getElem? (i := 740) (by decide +kernel), List.mem_of_getElem? (i := 833) (by decide +kernel), List.mem_of_getElem? (i := 834) (by decide +kernel)⟩
theorem lw_p21 : lw_okq (⟨"TideTableModel", "waveAt", "(II)J"⟩, 15) := ⟨⟨by decide +kernel, by decide +kernel⟩, List.mem_of_getElem? (i := 740) (by decide +kernel), List.mem_of_getElem? (i := 837) (by decide +kernel), List.mem_of_getElem? (i := 838) (by decide +kernel)⟩
theorem lw_p22 : lw_okq (⟨"TideTableModel", "counted", "(I)I"⟩, 15) := ⟨⟨by decide +kernel, by decide +kernel⟩, List.mem_of_getElem? (i := 740) (by decide +kernel), List.mem_of_getElem? (i := 852) (by decide +kernel), List.mem_of_getElem? (i := 853) (by decide +kernel)⟩
theorem lw_p23 : lw_okq (⟨"TideTableModel", "waterTold", "(II)I"⟩, 15) := ⟨⟨by decide +kernel, by decide +kernel⟩, List.mem_of_getElem? (i := 740) (by decide +kernel), List.mem_of_getElem? (i := 860) (by decide +kernel), List.mem_of_getElem? (i := 861) (by decide +kernel)⟩
theorem lw_p24 : lw_okq (⟨"TideTableModel", "isHigh", "(I)Z"⟩, 15) := ⟨⟨by decide +kernel, by decide +kernel⟩, List.mem_of_getElem? (i := 740) (by decide +kernel), List.mem_of_getElem? (i := 864) (by decide +kernel), List.mem_of_getElem? (i := 865) (by decide +kernel)⟩
theorem lw_p25 : lw_okq (⟨"TideTableModel", "datumOf", "(I)I"⟩, 15) := ⟨⟨by decide +kernel, by decide +kernel⟩, List.mem_of_getElem? (i := 740) (by decide +kernel), List.mem_of_getElem? (i := 876) (by decide +kernel), List.mem_of_getElem? (i := 877) (by decide +kernel)⟩
theorem lw_p26 : lw_okq (⟨"TideTableModel", "extreme", "(I)J"⟩, 15) := ⟨⟨by decide +kernel, by decide +kernel⟩, List.mem_of_getElem? (i := 740) (by decide +kernel), List.mem_of_getElem? (i := 880) (by decide +kernel), List.mem_of_getElem? (i := 881) (by decide +kernel)⟩
theorem lw_p27 : lw_okq (⟨"TideTableModel", "mean", "(Z)J"⟩, 15) := ⟨⟨by decide +kernel, by decide +kernel⟩, List.mem_of_getElem? (i := 740) (by decide +kernel), List.mem_of_getElem? (i := 887) (by decide +kernel), List.mem_of_getElem? (i := 888) (by decide +kernel)⟩
theorem lw_p28 : lw_okq (⟨"TideTableModel", "greatestRange", "()J"⟩, 15) := ⟨⟨by decide +kernel, by decide +kernel⟩, List.mem_of_getElem? (i := 740) (by decide +kernel), List.mem_of_getElem? (i := 891) (by decide +kernel), List.mem_of_getElem? (i := 892) (by decide +kernel)⟩
theorem lw_p29 : lw_okq (⟨"TideTableModel", "isPort", "(I)Z"⟩, 15) := ⟨⟨by decide +kernel, by decide +kernel⟩, List.mem_of_getElem? (i := 740) (by decide +kernel), List.mem_of_getElem? (i := 904) (by decide +kernel), List.mem_of_getElem? (i := 905) (by decide +kernel)⟩
theorem lw_p30 : lw_okq (⟨"TideTableModel", "isOrdered", "(I)Z"⟩, 15) := ⟨⟨by decide +kernel, by decide +kernel⟩, List.mem_of_getElem? (i := 740) (by decide +kernel), List.mem_of_getElem? (i := 920) (by decide +kernel), List.mem_of_getElem? (i := 921) (by decide +kernel)⟩
theorem lw_p31 : lw_okq (⟨"TideTableModel", "timeAt", "(II)I"⟩, 15) := ⟨⟨by decide +kernel, by decide +kernel⟩, List.mem_of_getElem? (i := 740) (by decide +kernel), List.mem_of_getElem? (i := 924) (by decide +kernel), List.mem_of_getElem? (i := 925) (by decide +kernel)⟩
def lw_privs_2 : List (MethodName × Nat) := [(⟨"TideTable", "tallyChiefPort", "(LTideTable$Tally;III)V"⟩, 5), (⟨"TideTable", "tallyPort", "(LTideTable$Tally;LTideTable$Port;III)V"⟩, 5), (⟨"TideTableModel", "fail", "(I)I"⟩, 15), (⟨"TideTableModel", "isWave", "(I)Z"⟩, 15), (⟨"TideTableModel", "find", "()V"⟩, 15), (⟨"TideTableModel", "waveAt", "(II)J"⟩, 15), (⟨"TideTableModel", "counted", "(I)I"⟩, 15), (⟨"TideTableModel", "waterTold", "(II)I"⟩, 15), (⟨"TideTableModel", "isHigh", "(I)Z"⟩, 15), (⟨"TideTableModel", "datumOf", "(I)I"⟩, 15), (⟨"TideTableModel", "extreme", "(I)J"⟩, 15), (⟨"TideTableModel", "mean", "(Z)J"⟩, 15), (⟨"TideTableModel", "greatestRange", "()J"⟩, 15), (⟨"TideTableModel", "isPort", "(I)Z"⟩, 15), (⟨"TideTableModel", "isOrdered", "(I)Z"⟩, 15), (⟨"TideTableModel", "timeAt", "(II)I"⟩, 15)]
theorem lw_r2 : ∀ q ∈ lw_privs_2, lw_okq q := List.forall_mem_cons.mpr ⟨lw_p16, List.forall_mem_cons.mpr ⟨lw_p17, List.forall_mem_cons.mpr ⟨lw_p18, List.forall_mem_cons.mpr ⟨lw_p19, List.forall_mem_cons.mpr ⟨lw_p20, List.forall_mem_cons.mpr ⟨lw_p21, List.forall_mem_cons.mpr ⟨lw_p22, List.forall_mem_cons.mpr ⟨lw_p23, List.forall_mem_cons.mpr ⟨lw_p24, List.forall_mem_cons.mpr ⟨lw_p25, List.forall_mem_cons.mpr ⟨lw_p26, List.forall_mem_cons.mpr ⟨lw_p27, List.forall_mem_cons.mpr ⟨lw_p28, List.forall_mem_cons.mpr ⟨lw_p29, List.forall_mem_cons.mpr ⟨lw_p30, List.forall_mem_cons.mpr ⟨lw_p31, fun _ h => absurd h List.not_mem_nil⟩⟩⟩⟩⟩⟩⟩⟩⟩⟩⟩⟩⟩⟩⟩⟩
theorem lw_p32 : lw_okq (⟨"TideTableModel", "heightAt", "(II)J"⟩, 15) := ⟨⟨by decide +kernel, by decide +kernel⟩, List.mem_of_getElem? (i := 740) (by decide +kernel), List.mem_of_getElem? (i := 932) (by decide +kernel), List.mem_of_getElem? (i := 933) (by decide +kernel)⟩
theorem lw_p33 : lw_okq (⟨"TideTableModel", "waterAhead", "(II)I"⟩, 15) := ⟨⟨by decide +kernel, by decide +kernel⟩, List.mem_of_getElem? (i := 740) (by decide +kernel), List.mem_of_getElem? (i := 941) (by decide +kernel), List.mem_of_getElem? (i := 942) (by decide +kernel)⟩
theorem lw_p34 : lw_okq (⟨"TideTableModel", "between", "(III)J"⟩, 15) := ⟨⟨by decide +kernel, by decide +kernel⟩, List.mem_of_getElem? (i := 740) (by decide +kernel), List.mem_of_getElem? (i := 945) (by decide +kernel), List.mem_of_getElem? (i := 946) (by decide +kernel)⟩
theorem lw_p35 : lw_okq (⟨"TideTableModel", "sumOff", "()J"⟩, 15) := ⟨⟨by decide +kernel, by decide +kernel⟩, List.mem_of_getElem? (i := 740) (by decide +kernel), List.mem_of_getElem? (i := 970) (by decide +kernel), List.mem_of_getElem? (i := 971) (by decide +kernel)⟩
theorem lw_p36 : lw_okq (⟨"TideTableModel", "off", "(I)J"⟩, 15) := ⟨⟨by decide +kernel, by decide +kernel⟩, List.mem_of_getElem? (i := 740) (by decide +kernel), List.mem_of_getElem? (i := 974) (by decide +kernel), List.mem_of_getElem? (i := 975) (by decide +kernel)⟩
def lw_privs_3 : List (MethodName × Nat) := [(⟨"TideTableModel", "heightAt", "(II)J"⟩, 15), (⟨"TideTableModel", "waterAhead", "(II)I"⟩, 15), (⟨"TideTableModel", "between", "(III)J"⟩, 15), (⟨"TideTableModel", "sumOff", "()J"⟩, 15), (⟨"TideTableModel", "off", "(I)J"⟩, 15)]
theorem lw_r3 : ∀ q ∈ lw_privs_3, lw_okq q := List.forall_mem_cons.mpr ⟨lw_p32, List.forall_mem_cons.mpr ⟨lw_p33, List.forall_mem_cons.mpr ⟨lw_p34, List.forall_mem_cons.mpr ⟨lw_p35, List.forall_mem_cons.mpr ⟨lw_p36, fun _ h => absurd h List.not_mem_nil⟩⟩⟩⟩⟩
def lw_privs : List (MethodName × Nat) := lw_privs_1 ++ (lw_privs_2 ++ (lw_privs_3))
def lw_tbl : List Cond := k2_sels lw_privs ++ tables_1
theorem lw_privs_ok : ∀ q ∈ lw_privs, lw_okq q := by
  show ∀ q ∈ lw_privs_1 ++ (lw_privs_2 ++ (lw_privs_3)), lw_okq q
  exact List.forall_mem_append.mpr ⟨lw_r1, List.forall_mem_append.mpr ⟨lw_r2, lw_r3⟩⟩
/-- the streams that the claim lets the run draw from -/
abbrev lw_cs : List Choice := [Jvm.Choice.named "NaN.bits"]
theorem lw_bits : nanBits ∈ lw_cs := by first | decide | exact List.mem_cons_self | simp [lw_cs, nanBits]
end
section
/-! ===== BEGIN words of one list among another's, by their places ===== -/
theorem goodIn_r {big : List Cond} (ws : List Cond) (ps : List Nat) (hp : ws = ps.filterMap (fun i => big[i]?)) (h : ws.all goodWord = true) : GoodIn big ws := by
  intro w hw
  have h1 := List.all_eq_true.mp h w hw
  rw [hp] at hw
  obtain ⟨i, -, hi⟩ := List.mem_filterMap.mp hw
  have hm : w ∈ big := by first | exact List.mem_of_getElem? hi | exact List.getElem?_mem hi
  exact ⟨hm, good_of_word h1⟩
theorem goodIn_app {big a b : List Cond} (ha : GoodIn big a) (hb : GoodIn big b) : GoodIn big (a ++ b) := fun w h => (List.mem_append.mp h).elim (ha w) (hb w)
theorem goodIn_ca {big a b : List Cond} {c : Cond} (ha : GoodIn big (c :: a)) (hb : GoodIn big b) : GoodIn big (c :: (a ++ b)) := fun w h => (List.mem_cons.mp h).elim (fun e => ha w (List.mem_cons.mpr (Or.inl e))) (fun h => (List.mem_append.mp h).elim (fun h => ha w (List.mem_cons.mpr (Or.inr h))) (hb w))
theorem goodIn_sub {big ws : List Cond} (hm : ∀ w ∈ ws, w ∈ big) (h : ws.all goodWord = true) : GoodIn big ws := fun w hw => ⟨hm w hw, good_of_word (List.all_eq_true.mp h w hw)⟩
/-! ===== END ===== -/

/-! ===== BEGIN exceptions that leave a method, and their catching by the caller (launches without stack traces) ===== -/
section VXA
/-! The laws vx_back, vx_callV, vx_callS, vx_callSW, vx_throw0, vx_throwS follow proofs of the library, with one case more: JvmDerived/Free/Laws.lean (Back.of_free), Shelf42/LK1.lean (callV, callS), Shelf/KitTraced.lean (throwNew0V, throwNewS). -/
/-- where a method has thrown q: the class by its name, the cell, what was written, the world -/
def vx_T (XC : String → State → State → Prop) (st : State) (q : Addr) (t : State) (mc ms : Nat) (free : Addr → Prop) : Prop :=
  ∃ (E : String) (ce : Cell) (L : List Loc), XC E st t ∧ t.heap[q]? = some ce ∧ ce.vm = .none ∧ st.vm.findClass E = some ce.cls ∧ st.WarmedH t.vm ∧ st.sameButNew ({ t with vm := st.vm } : State) L mc ms ∧ ∀ z ∈ L, free z.base
def vx_Q (Qc : Array Value → State → Outcome → State → Prop) (XC : String → State → State → Prop) (mc ms : Nat) (free : Addr → Prop) : Array Value → State → Outcome → State → Prop := fun a st o t =>
  (Qc a st o t ∧ ∃ L, FrameEnd st o t L mc ms ∧ ∀ q ∈ L, free q.base) ∨ ∃ q, o = .threw q ∧ vx_T XC st q t mc ms free
/-- a callee that returns or throws -/
def vx_Met (l : Launch) (y : MethodName) (ws : List Cond) (rm : Room) (Pc : Array Value → State → Prop) (Qc : Array Value → State → Outcome → State → Prop) (XC : String → State → State → Prop) (mc ms : Nat) (free : Addr → Prop) : Prop :=
  MetFree l y (headSpec ws rm) Pc (fun _ _ _ _ _ => True) (vx_Q Qc XC mc ms free)
def vx_Post (XC : String → State → State → Prop) (mc ms : Nat) (free : Addr → Prop) : Pt → Array Value → Addr → Pt → Prop := fun A a q B =>
  ∃ (g : JFrame) (mk : MethodId) (t : State) (L : List Loc) (E : String) (ce : Cell), B.U.heap = t.heap ∧ B.U.vm = t.vm ∧ XC E (A.U.calling g mk a) t ∧ t.heap[q]? = some ce ∧ ce.vm = .none ∧ A.U.vm.findClass E = some ce.cls ∧ B.locs = A.locs ++ L ∧ (∀ z ∈ L, free z.base) ∧ B.cells = A.cells + mc ∧ B.slots = A.slots + ms
def vx_Back (l : Launch) (R : Room) (p : Program) (e : Env) (below : List Frame) (s : State) (sargs : Array Value) (y : MethodName) (len W9 : Nat)
    (Pre : Pt → Array Value → Prop) (Post : Pt → Array Value → Option Value → Pt → Prop) (PostX : Pt → Array Value → Addr → Pt → Prop) : Prop :=
  ∀ (m : MethodId) (meth : Method) (c : Code) (A : Pt) (g : JFrame) (ig : Instr) (mk : MethodId) (a : Array Value),
    Stand p l e R s m sargs below meth c A.U A.locs A.cells A.slots → g.method = m → g.locals.size = c.maxLocals → decode c.code g.pc = .ok (ig, len) →
    2 * g.monitorRoom + (g.stack.map fun v => v.category).sum ≤ W9 → A.U.methodNamed? y = some mk → Pre A a →
    (∃ (v : Option Value) (B : Pt), Stand p l e R s m sargs below meth c B.U B.locs B.cells B.slots ∧ Post A a v B ∧
      Steps p.tables e below (doInvoke e (A.U.setTop g) [] mk a).1 (B.U.setTop { g with pc := g.pc + len, stack := v.toList ++ g.stack })) ∨
    (∃ (q : Addr) (B : Pt), Stand p l e R s m sargs below meth c B.U B.locs B.cells B.slots ∧ PostX A a q B ∧
      Steps p.tables e below (doInvoke e (A.U.setTop g) [] mk a).1 ((B.U.setTop g).pushFrame (.throwing q)))
section Payer
variable {l : Launch} {R : Room} {p : Program} {e : Env} {below : List Frame} {s : State} {sargs : Array Value} {y : MethodName} {len W9 : Nat}
theorem vx_back {ws : List Cond} {rm : Room} {Pc : Array Value → State → Prop} {Qc : Array Value → State → Outcome → State → Prop} {XC : String → State → State → Prop} {mc ms : Nat} {free : Addr → Prop} {bytes : ByteArray} {maxL : Nat} {ret : Option FieldType}
    (hM : vx_Met l y ws rm Pc Qc XC mc ms free) (hblind : FrameBlind Pc) (hrc : rm.cells = mc) (hrs : rm.slots = ms)
    (hframes : rm.frames + 1 ≤ R.frames) (hlocals : W9 + (maxL + 11) + rm.locals ≤ R.locals)
    (hws : ∀ w ∈ ws, ∀ a' U, s.WarmedH U.vm → w.before a' U = true) (hcode : Cond.code y bytes maxL ret ∈ ws) (hinit : ∀ a' U, s.WarmedH U.vm → (Cond.initialized y.cls).before a' U = true) :
    vx_Back l R p e below s sargs y len W9 (PreOf R mc ms Pc) (PostOf Qc mc ms free) (vx_Post XC mc ms free) := by
  intro m meth c A g ig mk a X hg hsize hdg hW hn hp
  have h1 : (headSpec ws rm).pre.before a A.U = true := atoms_intro fun w hw => hws w hw _ _ X.warmed
  have h2 : (Cond.code y bytes maxL ret).before a A.U = true := hws _ hcode _ _ X.warmed
  have h3 : (Cond.initialized y.cls).before a A.U = true := hinit _ _ X.warmed
  have h4 : A.cells + (headSpec ws rm).room.cells ≤ R.cells := by rw [show (headSpec ws rm).room.cells = mc from hrc]; exact hp.1
  have h5 : A.slots + (headSpec ws rm).room.slots ≤ R.slots := by rw [show (headSpec ws rm).room.slots = ms from hrs]; exact hp.2.1
  have hPc : Pc a (A.U.calling g mk a) := hblind _ _ _ _ hp.2.2
  obtain ⟨U, Ls, c0, s0⟩ := A
  dsimp only [Pt.U, Pt.locs, Pt.cells, Pt.slots] at h1 h2 h3 h4 h5 X hn hPc ⊢
  obtain ⟨methY, cY, hmY, hcY, -, hlY, -, -, -, -⟩ := Cond.code_spec hn h2
  obtain ⟨kY, hkY, -⟩ := className_of_methodNamed hn
  have hinitY : kY.init = .initialized := Cond.initialized_spec (findClass_of_methodNamed hn) hkY h3
  have h : At U g.method c below := by rw [hg]; exact X.here
  have hlocals9 : W9 + (maxL + 11) + (headSpec ws rm).room.locals ≤ R.locals := hlocals
  have happ : (headSpec ws rm).appliesLoose y e.platform (U.calling g mk a) = true :=
    Spec.appliesLoose_calling (g := g) h hdg hn hkY hinitY
      (X.room_calling (g := g) (R' := (headSpec ws rm).room) hsize hmY hcY hframes (by rw [hlY]; omega) h4 h5) h1
  obtain ⟨mid, hmid⟩ := h.above
  have hfr : (U.setTop g).frames = (.java g :: mid) ++ below := by rw [State.frames_setTop' g h.top, hmid]; rfl
  obtain ⟨o, s₂, hsteps, -, hend, hq⟩ := Steps.callFree hM p X.admits X.cas X.clock (acts := []) hfr happ hPc trivial
  have hq' : vx_Q Qc XC mc ms free a (U.calling g mk a) o s₂ := hq
  rw [State.frames_setTop' g h.top] at hend
  obtain ⟨g₀, hg0⟩ := Option.isSome_iff_exists.mp h.top
  obtain ⟨r, hr⟩ := State.topJava?_eq_some.mp hg0
  have hr' : (({ U with heap := s₂.heap, slotsUsed := s₂.slotsUsed } : State).setVm s₂.vm).frames = .java g₀ :: r := hr
  rcases hq' with ⟨hqc, L, hfe, hL⟩ | ⟨q, rfl, E, ce, L, hx, hce, hcv, hcl, hW₂, hsm, hL⟩
  · obtain ⟨⟨v, rfl⟩, hW₂, e2, q2, q3, q4, q5, q6⟩ := id hfe
    have e3 : s₂ = ({ (U.calling g mk a).setFrames s₂.frames with heap := s₂.heap, slotsUsed := s₂.slotsUsed } : State).setVm s₂.vm := by
      have : s₂ = ({ s₂ with vm := (U.calling g mk a).vm } : State).setVm s₂.vm := rfl
      rw [e2] at this
      exact this
    obtain ⟨c₂, i₂, len₂, hc₂, hd₂, hf₂⟩ := hend
    have hW' : U.WarmedH s₂.vm := hW₂
    have hcc : c₂ = c := by
      have h1 : s₂.code? g.method = U.code? g.method := by
        rw [State.code?_eq, State.code?_eq, hW'.alike.method?]
      exact Option.some.inj (hc₂.symm.trans (h1.trans h.code))
    subst hcc
    have hlen : len₂ = len := by rw [hdg] at hd₂; cases hd₂; rfl
    subst hlen
    have hs₂ : s₂ = (({ U with heap := s₂.heap, slotsUsed := s₂.slotsUsed } : State).setVm s₂.vm).setTop { g with pc := g.pc + len₂, stack := v.toList ++ g.stack } := by
      refine e3.trans ?_
      rw [hf₂, State.calling_eq h.top, State.setFrames_setFrames, State.setTop_of_frames _ hr', hr]
      rfl
    have hsame : U.sameButNew ({ U with heap := s₂.heap, slotsUsed := s₂.slotsUsed } : State) L mc ms := by
      refine ⟨?_, q2, q3, q4, q5, q6⟩
      obtain ⟨t, ht, -⟩ := State.frames_cons hr
      show ({ U with heap := s₂.heap, slotsUsed := s₂.slotsUsed } : State) = { U.setFrames U.frames with heap := s₂.heap, slotsUsed := s₂.slotsUsed }
      rw [State.setFrames_self ht]
    subst hg
    refine Or.inl ⟨v, ⟨(({ U with heap := s₂.heap, slotsUsed := s₂.slotsUsed } : State).setVm s₂.vm), Ls ++ L, c0 + mc, s0 + ms⟩,
      ⟨X.admits, X.cas, X.clock, X.frames, X.room, X.hears, X.method, X.code, (X.here.setHeapUsed s₂.heap s₂.slotsUsed).setVm hW'.alike, X.tail, State.WarmedH.trans X.warmed hW', X.limits, X.bytes, X.same.trans (hsame.setVm s.vm)⟩,
      ⟨g, mk, s₂, L, rfl, rfl, hqc, rfl, hL, rfl, rfl⟩, ?_⟩
    show Steps p.tables e below _ ((({ U with heap := s₂.heap, slotsUsed := s₂.slotsUsed } : State).setVm s₂.vm).setTop { g with pc := g.pc + len₂, stack := v.toList ++ g.stack })
    rw [← hs₂]
    exact hsteps
  · obtain ⟨e2, q2, q3, q4, q5, q6⟩ := id hsm
    have e3 : s₂ = ({ (U.calling g mk a).setFrames s₂.frames with heap := s₂.heap, slotsUsed := s₂.slotsUsed } : State).setVm s₂.vm := by
      have : s₂ = ({ s₂ with vm := (U.calling g mk a).vm } : State).setVm s₂.vm := rfl
      rw [e2] at this
      exact this
    have hf₂ : s₂.frames = .throwing q :: .java g :: U.frames.tail := hend
    have hW' : U.WarmedH s₂.vm := hW₂
    have hs₂ : s₂ = ((({ U with heap := s₂.heap, slotsUsed := s₂.slotsUsed } : State).setVm s₂.vm).setTop g).pushFrame (.throwing q) := by
      refine e3.trans ?_
      rw [hf₂, State.calling_eq h.top, State.setFrames_setFrames, State.pushFrame, State.frames_setTop _ hr', State.setTop_of_frames _ hr', State.setFrames_setFrames, hr]
      rfl
    have hsame : U.sameButNew ({ U with heap := s₂.heap, slotsUsed := s₂.slotsUsed } : State) L mc ms := by
      refine ⟨?_, q2, q3, q4, q5, q6⟩
      obtain ⟨t, ht, -⟩ := State.frames_cons hr
      show ({ U with heap := s₂.heap, slotsUsed := s₂.slotsUsed } : State) = { U.setFrames U.frames with heap := s₂.heap, slotsUsed := s₂.slotsUsed }
      rw [State.setFrames_self ht]
    subst hg
    refine Or.inr ⟨q, ⟨(({ U with heap := s₂.heap, slotsUsed := s₂.slotsUsed } : State).setVm s₂.vm), Ls ++ L, c0 + mc, s0 + ms⟩,
      ⟨X.admits, X.cas, X.clock, X.frames, X.room, X.hears, X.method, X.code, (X.here.setHeapUsed s₂.heap s₂.slotsUsed).setVm hW'.alike, X.tail, State.WarmedH.trans X.warmed hW', X.limits, X.bytes, X.same.trans (hsame.setVm s.vm)⟩,
      ⟨g, mk, s₂, L, E, ce, rfl, rfl, hx, hce, hcv, hcl, rfl, hL, rfl, rfl⟩, ?_⟩
    show Steps p.tables e below _ (((({ U with heap := s₂.heap, slotsUsed := s₂.slotsUsed } : State).setVm s₂.vm).setTop g).pushFrame (.throwing q))
    rw [← hs₂]
    exact hsteps
end Payer
section Calls
variable {p : Program} {l : Launch} {e : Env} {R : Room} {s : State} {m : MethodId} {args : Array Value} {below : List Frame} {meth : Method} {c : Code} {T : State} {locs : List Loc} {cells slots : Nat}
theorem vx_callV (X : Stand p l e R s m args below meth c T locs cells slots) (hexec : p.tables.exec = Jvm.exec) {own C : String} {index : Nat} {y : MethodName} {bytes : ByteArray} {maxL : Nat} {ret : Option FieldType}
    (hown : s.vm.findClass own = some m.cls) (hlink : (Cond.methodLink own index y).before args s = true) (hinst : (Cond.instanceMethod y).before args s = true) (hsel : (Cond.selects C y y).before args s = true)
    (hcode : (Cond.code y bytes maxL ret).before args s = true) (hy : y.cls ≠ "java/lang/invoke/MethodHandle" ∧ y.cls ≠ "java/lang/invoke/VarHandle")
    {W9 : Nat} {Pre : Pt → Array Value → Prop} {Post : Pt → Array Value → Option Value → Pt → Prop} {PostX : Pt → Array Value → Addr → Pt → Prop} (hK : vx_Back l R p e below s args y 3 W9 Pre Post PostX)
    {b : Addr} {cellB : Cell} (hcell : T.heap[b]? = some cellB) (hobj : cellB.vm.isStatics = false) (hcls : s.vm.findClass C = some cellB.cls)
    {g : JFrame} (hg : g.method = m) (hsize : g.locals.size = c.maxLocals) {argsL rest : List Value} (hlen : ∀ sig, parseMethodDescriptor y.desc = some sig → argsL.length = sig.parameters.length)
    (hstack : g.stack = argsL.reverse ++ .ref b :: rest) (hW : 2 * g.monitorRoom + (rest.map fun v => v.category).sum ≤ W9) (hdg : decode c.code g.pc = .ok (.invokevirtual index, 3))
    (hpre : ∀ vm₁, s.WarmedH vm₁ → Pre ⟨T.setVm vm₁, locs, cells, slots⟩ (Value.ref b :: argsL).toArray) :
    (∃ (v : Option Value) (vm₁ : Vm) (B : Pt), s.WarmedH vm₁ ∧ Stand p l e R s m args below meth c B.U B.locs B.cells B.slots ∧ Post ⟨T.setVm vm₁, locs, cells, slots⟩ (Value.ref b :: argsL).toArray v B ∧
      ∀ target, Steps p.tables e below (B.U.setTop { g with pc := g.pc + 3, stack := v.toList ++ rest }) target → Steps p.tables e below (T.setTop g) target) ∨
    (∃ (q : Addr) (vm₁ : Vm) (B : Pt), s.WarmedH vm₁ ∧ Stand p l e R s m args below meth c B.U B.locs B.cells B.slots ∧ PostX ⟨T.setVm vm₁, locs, cells, slots⟩ (Value.ref b :: argsL).toArray q B ∧
      Steps p.tables e below (T.setTop g) ((B.U.setTop { g with stack := rest }).pushFrame (.throwing q))) := by
  obtain ⟨mk, methM, hnamed, hmethM, hstM, habM⟩ := Cond.instanceMethod_spec hinst
  obtain ⟨methM', cM, hmethM', -, -, -, -, -, -, hsigM⟩ := Cond.code_spec hnamed hcode
  cases hmethM.symm.trans hmethM'
  obtain ⟨c2, r2, m2, q1, q2, q3, q4, kP, hkP, hkPi⟩ := Cond.selects_spec hsel
  cases hcls.symm.trans q1
  cases (State.methodFound?_of_named hnamed hy).symm.trans q2
  cases hnamed.symm.trans q3
  have hselP : selectMethod e.platform s.vm cellB.cls mk = .method mk := by rw [Launch.admits_selectMethod X.admits]; exact q4
  obtain ⟨vm₁, X₁, hstep₁⟩ := X.invokevirtual hexec hown hlink hnamed hmethM hstM hkP hkPi hy (a := b) (cell := cellB) hcell
    (fun z h => by rw [h] at hobj; cases hobj) hselP hmethM habM hkP hkPi (g := g) hg (argsL := argsL) (rest := rest) (hlen _ hsigM) hstack hdg
  rcases hK m meth c ⟨T.setVm vm₁, locs, cells, slots⟩ { g with stack := rest } (.invokevirtual index) mk (Value.ref b :: argsL).toArray X₁ hg hsize hdg hW (X₁.named hnamed) (hpre vm₁ X₁.warmed) with ⟨v, B, X', hpost, hsteps⟩ | ⟨q, B, X', hpost, hsteps⟩
  · exact Or.inl ⟨v, vm₁, B, X₁.warmed, X', hpost, fun target h => hstep₁ _ fun acts => by rw [doInvoke_state]; exact hsteps.trans h⟩
  · exact Or.inr ⟨q, vm₁, B, X₁.warmed, X', hpost, hstep₁ _ fun acts => by rw [doInvoke_state]; exact hsteps⟩
theorem vx_callS (X : Stand p l e R s m args below meth c T locs cells slots) (hexec : p.tables.exec = Jvm.exec) {own : String} {index : Nat} {y : MethodName} {bytes : ByteArray} {maxL : Nat} {ret : Option FieldType}
    (hown : s.vm.findClass own = some m.cls) (hlink : (Cond.methodLink own index y).before args s = true) (hstat : (Cond.static y).before args s = true) (hinit : (Cond.initialized y.cls).before args s = true)
    (hcode : (Cond.code y bytes maxL ret).before args s = true) (hy : y.cls ≠ "java/lang/invoke/MethodHandle" ∧ y.cls ≠ "java/lang/invoke/VarHandle")
    {W9 : Nat} {Pre : Pt → Array Value → Prop} {Post : Pt → Array Value → Option Value → Pt → Prop} {PostX : Pt → Array Value → Addr → Pt → Prop} (hK : vx_Back l R p e below s args y 3 W9 Pre Post PostX)
    {g : JFrame} (hg : g.method = m) (hsize : g.locals.size = c.maxLocals) {argsL rest : List Value} (hlen : ∀ sig, parseMethodDescriptor y.desc = some sig → argsL.length = sig.parameters.length)
    (hstack : g.stack = argsL.reverse ++ rest) (hW : 2 * g.monitorRoom + (rest.map fun v => v.category).sum ≤ W9) (hdg : decode c.code g.pc = .ok (.invokestatic index, 3))
    (hpre : ∀ vm₁, s.WarmedH vm₁ → Pre ⟨T.setVm vm₁, locs, cells, slots⟩ argsL.toArray) :
    (∃ (v : Option Value) (vm₁ : Vm) (B : Pt), s.WarmedH vm₁ ∧ Stand p l e R s m args below meth c B.U B.locs B.cells B.slots ∧ Post ⟨T.setVm vm₁, locs, cells, slots⟩ argsL.toArray v B ∧
      ∀ target, Steps p.tables e below (B.U.setTop { g with pc := g.pc + 3, stack := v.toList ++ rest }) target → Steps p.tables e below (T.setTop g) target) ∨
    (∃ (q : Addr) (vm₁ : Vm) (B : Pt), s.WarmedH vm₁ ∧ Stand p l e R s m args below meth c B.U B.locs B.cells B.slots ∧ PostX ⟨T.setVm vm₁, locs, cells, slots⟩ argsL.toArray q B ∧
      Steps p.tables e below (T.setTop g) ((B.U.setTop { g with stack := rest }).pushFrame (.throwing q))) := by
  obtain ⟨mk, hnamed⟩ := Cond.code_named hcode
  obtain ⟨methM, cM, hmethM, -, -, -, -, -, -, hsigM⟩ := Cond.code_spec hnamed hcode
  have hstatic : methM.isStatic = true := Cond.static_spec hnamed hmethM hstat
  obtain ⟨kP, hkP, -⟩ := className_of_methodNamed hnamed
  have hinitP : kP.init = .initialized := Cond.initialized_spec (findClass_of_methodNamed hnamed) hkP hinit
  obtain ⟨vm₁, X₁, hstep₁⟩ := X.invokestatic hexec hown hlink hnamed hmethM hstatic hkP hinitP hy (g := g) hg (argsL := argsL) (rest := rest) (hlen _ hsigM) hstack hdg
  rcases hK m meth c ⟨T.setVm vm₁, locs, cells, slots⟩ { g with stack := rest } (.invokestatic index) mk argsL.toArray X₁ hg hsize hdg hW (X₁.named hnamed) (hpre vm₁ X₁.warmed) with ⟨v, B, X', hpost, hsteps⟩ | ⟨q, B, X', hpost, hsteps⟩
  · exact Or.inl ⟨v, vm₁, B, X₁.warmed, X', hpost, fun target h => hstep₁ _ fun acts => by rw [doInvoke_state]; exact hsteps.trans h⟩
  · exact Or.inr ⟨q, vm₁, B, X₁.warmed, X', hpost, hstep₁ _ fun acts => by rw [doInvoke_state]; exact hsteps⟩
end Calls
theorem vx_cls {s : State} {T : State} {vm₁ : Vm} {E : String} {k : ClassId} (hW : s.WarmedH vm₁) (h : (T.setVm vm₁).vm.findClass E = some k) : s.vm.findClass E = some k := by
  have h1 : vm₁.findClass E = some k := h
  rw [hW.alike.findClass] at h1
  exact h1
/-- the method's frame g, with q thrown over it -/
def vx_W (p : Program) (l : Launch) (e : Env) (R : Room) (s : State) (m : MethodId) (args : Array Value) (below : List Frame) (meth : Method) (c : Code) (H : Heap) (locs : List Loc) (cells slots : Nat) (Q : State → Prop) (g : JFrame) (q : Addr) : Prop :=
  ∀ T : State, T.heap = H → Stand p l e R s m args below meth c T locs cells slots → ∃ t, Steps p.tables e below ((T.setTop g).pushFrame (.throwing q)) t ∧ Q t
def vx_Run (p : Program) (l : Launch) (e : Env) (R : Room) (s : State) (m : MethodId) (args : Array Value) (below : List Frame) (meth : Method) (c : Code) (H : Heap) (locs : List Loc) (cells slots mc ms : Nat) (g : JFrame) (rest : List Value) (Qa : State → Outcome → State → Prop) (XC : String → State → State → Prop) (free : Addr → Prop) : Prop :=
  ∀ T : State, T.heap = H → Stand p l e R s m args below meth c T locs cells slots →
    (∃ (v : Option Value) (st₀ t T' : State) (L : List Loc), st₀.heap = H ∧ Stand p l e R s m args below meth c T' (locs ++ L) (cells + mc) (slots + ms) ∧ (∀ q ∈ L, free q.base) ∧ T'.heap = t.heap ∧ T'.vm = t.vm ∧ Qa st₀ (.returned v) t ∧
      Goes p e below T g T' { g with pc := g.pc + 3, stack := v.toList ++ rest }) ∨
    (∃ (q : Addr) (st₀ t T' : State) (L : List Loc) (E : String) (ce : Cell), st₀.heap = H ∧ Stand p l e R s m args below meth c T' (locs ++ L) (cells + mc) (slots + ms) ∧ (∀ z ∈ L, free z.base) ∧ T'.heap = t.heap ∧ T'.vm = t.vm ∧ XC E st₀ t ∧ t.heap[q]? = some ce ∧ ce.vm = .none ∧ s.vm.findClass E = some ce.cls ∧
      Steps p.tables e below (T.setTop g) ((T'.setTop { g with stack := rest }).pushFrame (.throwing q)))
def vx_X {S : Type} (px : S → Prop) (B : String → S → State → Prop) (A : Nat → Prop) : String → State → State → Prop := fun E st t => ∃ u : S, px u ∧ B E u t ∧ va_F A st t
section Runs
variable {p : Program} {l : Launch} {e : Env} {R : Room} {s : State} {m : MethodId} {args : Array Value} {below : List Frame} {meth : Method} {c : Code} {H : Heap} {locs : List Loc} {cells slots : Nat}
variable {y : MethodName} {bytes cc : ByteArray} {maxL nL mc ms n index : Nat} {ret : Option FieldType} {ws : List Cond} {rm : Room} {Pc : Array Value → State → Prop} {Qc : Array Value → State → Outcome → State → Prop} {XC : String → State → State → Prop} {free : Addr → Prop} {Ts : List Cond} {own C : String} {b : Addr} {As rest : List Value} {g : JFrame}
theorem vx_callBack (cb : CallB R s args own index y bytes maxL ret ws rm mc ms n) (hM : vx_Met l y ws rm Pc Qc XC mc ms free) (hbl : FrameBlind Pc) : vx_Back l R p e below s args y 3 8 (PreOf R mc ms Pc) (PostOf Qc mc ms free) (vx_Post XC mc ms free) := by
  obtain ⟨hrc, hrs, hfr, hlo, hws, hcw, -, hini, -⟩ := cb
  exact vx_back (bytes := bytes) (maxL := maxL) (ret := ret) hM hbl hrc hrs hfr hlo hws hcw (fun a' U hW => word_at hW (Or.inl (by first | rfl | simp [Cond.onTables, Cond.keeps, Cond.steady])) hini)
theorem vx_runV (S : CallFix p m c cc nL s args Ts own) (hM : vx_Met l y ws rm Pc Qc XC mc ms free) (cw : CallW R s args own C index y bytes maxL ret ws rm mc ms n) (hp : PreV s H C b Pc As)
    (hg : g.method = m) (hn : As.length = n) (hsize : g.locals.size = nL) (hstack : g.stack = As.reverse ++ .ref b :: rest) (hW : 2 * g.monitorRoom + (rest.map fun v => v.category).sum ≤ 8) (hdg : decode cc g.pc = .ok (.invokevirtual index, 3)) (hf : cells + mc ≤ R.cells ∧ slots + ms ≤ R.slots) :
    vx_Run p l e R s m args below meth c H locs cells slots mc ms g rest (Qc (Value.ref b :: As).toArray) XC free := by
  have hK : vx_Back l R p e below s args y 3 8 (PreOf R mc ms Pc) (PostOf Qc mc ms free) (vx_Post XC mc ms free) := vx_callBack cw.1 hM hp.1
  obtain ⟨⟨-, -, -, -, -, -, hcode, -, hy, hlen, hl⟩, hin, hse⟩ := cw
  obtain ⟨hx, hb, hml, ho, -⟩ := S
  obtain ⟨-, ⟨cellB, hcB, hoB, hclB⟩, hPc⟩ := hp
  intro T hT X
  rcases vx_callV X hx (C := C) (bytes := bytes) (maxL := maxL) (ret := ret) ho hl hin hse hcode hy hK (by rw [hT]; exact hcB) hoB hclB hg (hsize.trans hml.symm) (argsL := As) (rest := rest) (fun sig h => hn.trans (hlen sig h)) hstack hW (by rw [hb]; exact hdg)
    (fun vm₁ hW₁ => ⟨hf.1, hf.2, hPc (T.setVm vm₁) hT hW₁⟩) with ⟨v, vm₁, ⟨U', l2, c2, s2⟩, hW₁, X', ⟨g', mk, t, L, e1, e2, hq, h1, hL, h2, h3⟩, st⟩ | ⟨q, vm₁, ⟨U', l2, c2, s2⟩, hW₁, X', ⟨g', mk, t, L, E, ce, e1, e2, hq, hce, hcv, hcl, h1, hL, h2, h3⟩, st⟩
  · dsimp only [Pt.U, Pt.locs, Pt.cells, Pt.slots] at X' e1 e2 h1 h2 h3 st
    subst h1; subst h2; subst h3
    exact Or.inl ⟨v, (T.setVm vm₁).calling g' mk (Value.ref b :: As).toArray, t, U', L, hT, X', hL, e1, e2, hq, st⟩
  · dsimp only [Pt.U, Pt.locs, Pt.cells, Pt.slots] at X' e1 e2 h1 h2 h3 st hcl
    subst h1; subst h2; subst h3
    exact Or.inr ⟨q, (T.setVm vm₁).calling g' mk (Value.ref b :: As).toArray, t, U', L, E, ce, hT, X', hL, e1, e2, hq, hce, hcv, vx_cls hW₁ hcl, st⟩
theorem vx_runS (S : CallFix p m c cc nL s args Ts own) (hM : vx_Met l y ws rm Pc Qc XC mc ms free) (cw : CallB R s args own index y bytes maxL ret ws rm mc ms n ∧ (Cond.static y).before args s = true) (hp : PreS s H Pc As)
    (hg : g.method = m) (hn : As.length = n) (hsize : g.locals.size = nL) (hstack : g.stack = As.reverse ++ rest) (hW : 2 * g.monitorRoom + (rest.map fun v => v.category).sum ≤ 8) (hdg : decode cc g.pc = .ok (.invokestatic index, 3)) (hf : cells + mc ≤ R.cells ∧ slots + ms ≤ R.slots) :
    vx_Run p l e R s m args below meth c H locs cells slots mc ms g rest (Qc As.toArray) XC free := by
  have hK : vx_Back l R p e below s args y 3 8 (PreOf R mc ms Pc) (PostOf Qc mc ms free) (vx_Post XC mc ms free) := vx_callBack cw.1 hM hp.1
  obtain ⟨⟨-, -, -, -, -, -, hcode, hini, hy, hlen, hl⟩, hstt⟩ := cw
  obtain ⟨hx, hb, hml, ho, -⟩ := S
  intro T hT X
  rcases vx_callS X hx (bytes := bytes) (maxL := maxL) (ret := ret) ho hl hstt hini hcode hy hK hg (hsize.trans hml.symm) (argsL := As) (rest := rest) (fun sig h => hn.trans (hlen sig h)) hstack hW (by rw [hb]; exact hdg)
    (fun vm₁ hW₁ => ⟨hf.1, hf.2, hp.2 (T.setVm vm₁) hT hW₁⟩) with ⟨v, vm₁, ⟨U', l2, c2, s2⟩, hW₁, X', ⟨g', mk, t, L, e1, e2, hq, h1, hL, h2, h3⟩, st⟩ | ⟨q, vm₁, ⟨U', l2, c2, s2⟩, hW₁, X', ⟨g', mk, t, L, E, ce, e1, e2, hq, hce, hcv, hcl, h1, hL, h2, h3⟩, st⟩
  · dsimp only [Pt.U, Pt.locs, Pt.cells, Pt.slots] at X' e1 e2 h1 h2 h3 st
    subst h1; subst h2; subst h3
    exact Or.inl ⟨v, (T.setVm vm₁).calling g' mk As.toArray, t, U', L, hT, X', hL, e1, e2, hq, st⟩
  · dsimp only [Pt.U, Pt.locs, Pt.cells, Pt.slots] at X' e1 e2 h1 h2 h3 st hcl
    subst h1; subst h2; subst h3
    exact Or.inr ⟨q, (T.setVm vm₁).calling g' mk As.toArray, t, U', L, E, ce, hT, X', hL, e1, e2, hq, hce, hcv, vx_cls hW₁ hcl, st⟩
end Runs
section Rows
variable {p : Program} {l : Launch} {e : Env} {R : Room} {s : State} {m : MethodId} {args : Array Value} {below : List Frame} {meth : Method} {c : Code} {H : Heap} {locs : List Loc} {cells slots : Nat} {Q : State → Prop}
variable {mc ms : Nat} {free : Addr → Prop} {A0 A1 : Nat → Prop} {H0 : Heap} {a : Array Value} {pc : Nat} {ls : Array Slot} {st0 rest : List Value}
theorem vx_keep {st₀ t T' : State} {L : List Loc} (h0 : st₀.heap = H) (e1 : T'.heap = t.heap) (hS : va_S A0 H0 H locs) (hA : ∀ q, q < H.size → A1 q → A0 q) (hf : ∀ q, free q → A0 q) (hL : ∀ q ∈ L, free q.base) (hF : va_F A1 st₀ t) :
    H.size ≤ T'.heap.size ∧ (∀ q : Nat, q < H.size → ¬ A1 q → T'.heap[q]? = H[q]?) ∧ va_S A0 H0 T'.heap (locs ++ L) := by
  obtain ⟨hz, hk⟩ := hF
  rw [h0] at hz hk
  exact ⟨by rw [e1]; exact hz, fun q h1 h2 => by rw [e1]; exact hk q h1 h2,
    ⟨Nat.le_trans hS.1 (by rw [e1]; exact hz), fun q h1 h2 => by rw [e1, hk q (Nat.lt_of_lt_of_le h1 hS.1) (fun z => h2 (hA q (Nat.lt_of_lt_of_le h1 hS.1) z))]; exact hS.2.1 q h1 h2, fun q hq => by
      rcases List.mem_append.mp hq with h | h
      · exact hS.2.2 q h
      · exact hf _ (hL q h)⟩⟩
theorem vx_calli {S SX : Type} {post : Int32 → S → Prop} {px : SX → Prop} {B : S → State → Prop} {BX : String → SX → State → Prop} {AX : Nat → Prop} (hr : vx_Run p l e R s m args below meth c H locs cells slots mc ms (F0 m pc ls st0) rest (va_Qi post B A1 a) (vx_X px BX AX) free) (hS : va_S A0 H0 H locs) (hA : ∀ q, q < H.size → A1 q → A0 q) (hf : ∀ q, free q → A0 q) (hAX : ∀ q, q < H.size → AX q → A0 q)
    (kx : ∀ (E : String) (ce : Cell) (q9 : Addr) (u : SX) (t : State) (H1 : Heap) (locs1 : List Loc), t.heap = H1 → s.vm.Alike t.vm → px u → BX E u t → H.size ≤ H1.size → (∀ q : Nat, q < H.size → ¬ AX q → H1[q]? = H[q]?) → va_S A0 H0 H1 locs1 → H1[q9]? = some ce → ce.vm = .none → s.vm.findClass E = some ce.cls → vx_W p l e R s m args below meth c H1 locs1 (cells + mc) (slots + ms) Q (F0 m pc ls rest) q9)
    (kk : ∀ (r : Int32) (u : S) (t : State) (H1 : Heap) (locs1 : List Loc), t.heap = H1 → s.vm.Alike t.vm → post r u → B u t → H.size ≤ H1.size → (∀ q : Nat, q < H.size → ¬ A1 q → H1[q]? = H[q]?) → va_S A0 H0 H1 locs1 → W p l e R s m args below meth c H1 locs1 (cells + mc) (slots + ms) Q (F0 m (pc + 3) ls (.int r :: rest))) : W p l e R s m args below meth c H locs cells slots Q (F0 m pc ls st0) := by
  intro T hT X
  rcases hr T hT X with ⟨v, st₀, t, T', L, h0, X', hL, e1, e2, ⟨⟨r, u, hv, hp, hb⟩, hF⟩, st⟩ | ⟨q, st₀, t, T', L, E, ce, h0, X', hL, e1, e2, ⟨u, hp, hb, hF⟩, hce, hcv, hcl, st⟩
  · cases hv
    obtain ⟨k1, k2, k3⟩ := vx_keep h0 e1 hS hA hf hL hF
    obtain ⟨t2, a1, b1⟩ := kk r u t T'.heap (locs ++ L) e1.symm (by rw [← e2]; exact X'.warmed.alike) hp hb k1 k2 k3 T' rfl X'
    exact ⟨t2, st t2 a1, b1⟩
  · obtain ⟨k1, k2, k3⟩ := vx_keep h0 e1 hS hAX hf hL hF
    obtain ⟨t2, a1, b1⟩ := kx E ce q u t T'.heap (locs ++ L) e1.symm (by rw [← e2]; exact X'.warmed.alike) hp hb k1 k2 k3 (by rw [e1]; exact hce) hcv hcl T' rfl X'
    exact ⟨t2, st.trans a1, b1⟩
theorem vx_calll {S SX : Type} {post : Int64 → S → Prop} {px : SX → Prop} {B : S → State → Prop} {BX : String → SX → State → Prop} {AX : Nat → Prop} (hr : vx_Run p l e R s m args below meth c H locs cells slots mc ms (F0 m pc ls st0) rest (va_Ql post B A1 a) (vx_X px BX AX) free) (hS : va_S A0 H0 H locs) (hA : ∀ q, q < H.size → A1 q → A0 q) (hf : ∀ q, free q → A0 q) (hAX : ∀ q, q < H.size → AX q → A0 q)
    (kx : ∀ (E : String) (ce : Cell) (q9 : Addr) (u : SX) (t : State) (H1 : Heap) (locs1 : List Loc), t.heap = H1 → s.vm.Alike t.vm → px u → BX E u t → H.size ≤ H1.size → (∀ q : Nat, q < H.size → ¬ AX q → H1[q]? = H[q]?) → va_S A0 H0 H1 locs1 → H1[q9]? = some ce → ce.vm = .none → s.vm.findClass E = some ce.cls → vx_W p l e R s m args below meth c H1 locs1 (cells + mc) (slots + ms) Q (F0 m pc ls rest) q9)
    (kk : ∀ (r : Int64) (u : S) (t : State) (H1 : Heap) (locs1 : List Loc), t.heap = H1 → s.vm.Alike t.vm → post r u → B u t → H.size ≤ H1.size → (∀ q : Nat, q < H.size → ¬ A1 q → H1[q]? = H[q]?) → va_S A0 H0 H1 locs1 → W p l e R s m args below meth c H1 locs1 (cells + mc) (slots + ms) Q (F0 m (pc + 3) ls (.long r :: rest))) : W p l e R s m args below meth c H locs cells slots Q (F0 m pc ls st0) := by
  intro T hT X
  rcases hr T hT X with ⟨v, st₀, t, T', L, h0, X', hL, e1, e2, ⟨⟨r, u, hv, hp, hb⟩, hF⟩, st⟩ | ⟨q, st₀, t, T', L, E, ce, h0, X', hL, e1, e2, ⟨u, hp, hb, hF⟩, hce, hcv, hcl, st⟩
  · cases hv
    obtain ⟨k1, k2, k3⟩ := vx_keep h0 e1 hS hA hf hL hF
    obtain ⟨t2, a1, b1⟩ := kk r u t T'.heap (locs ++ L) e1.symm (by rw [← e2]; exact X'.warmed.alike) hp hb k1 k2 k3 T' rfl X'
    exact ⟨t2, st t2 a1, b1⟩
  · obtain ⟨k1, k2, k3⟩ := vx_keep h0 e1 hS hAX hf hL hF
    obtain ⟨t2, a1, b1⟩ := kx E ce q u t T'.heap (locs ++ L) e1.symm (by rw [← e2]; exact X'.warmed.alike) hp hb k1 k2 k3 (by rw [e1]; exact hce) hcv hcl T' rfl X'
    exact ⟨t2, st.trans a1, b1⟩
theorem vx_callf {S SX : Type} {post : UInt32 → S → Prop} {px : SX → Prop} {B : S → State → Prop} {BX : String → SX → State → Prop} {AX : Nat → Prop} (hr : vx_Run p l e R s m args below meth c H locs cells slots mc ms (F0 m pc ls st0) rest (va_Qf post B A1 a) (vx_X px BX AX) free) (hS : va_S A0 H0 H locs) (hA : ∀ q, q < H.size → A1 q → A0 q) (hf : ∀ q, free q → A0 q) (hAX : ∀ q, q < H.size → AX q → A0 q)
    (kx : ∀ (E : String) (ce : Cell) (q9 : Addr) (u : SX) (t : State) (H1 : Heap) (locs1 : List Loc), t.heap = H1 → s.vm.Alike t.vm → px u → BX E u t → H.size ≤ H1.size → (∀ q : Nat, q < H.size → ¬ AX q → H1[q]? = H[q]?) → va_S A0 H0 H1 locs1 → H1[q9]? = some ce → ce.vm = .none → s.vm.findClass E = some ce.cls → vx_W p l e R s m args below meth c H1 locs1 (cells + mc) (slots + ms) Q (F0 m pc ls rest) q9)
    (kk : ∀ (r : UInt32) (u : S) (t : State) (H1 : Heap) (locs1 : List Loc), t.heap = H1 → s.vm.Alike t.vm → post r u → B u t → H.size ≤ H1.size → (∀ q : Nat, q < H.size → ¬ A1 q → H1[q]? = H[q]?) → va_S A0 H0 H1 locs1 → W p l e R s m args below meth c H1 locs1 (cells + mc) (slots + ms) Q (F0 m (pc + 3) ls (.float r :: rest))) : W p l e R s m args below meth c H locs cells slots Q (F0 m pc ls st0) := by
  intro T hT X
  rcases hr T hT X with ⟨v, st₀, t, T', L, h0, X', hL, e1, e2, ⟨⟨r, u, hv, hp, hb⟩, hF⟩, st⟩ | ⟨q, st₀, t, T', L, E, ce, h0, X', hL, e1, e2, ⟨u, hp, hb, hF⟩, hce, hcv, hcl, st⟩
  · cases hv
    obtain ⟨k1, k2, k3⟩ := vx_keep h0 e1 hS hA hf hL hF
    obtain ⟨t2, a1, b1⟩ := kk r u t T'.heap (locs ++ L) e1.symm (by rw [← e2]; exact X'.warmed.alike) hp hb k1 k2 k3 T' rfl X'
    exact ⟨t2, st t2 a1, b1⟩
  · obtain ⟨k1, k2, k3⟩ := vx_keep h0 e1 hS hAX hf hL hF
    obtain ⟨t2, a1, b1⟩ := kx E ce q u t T'.heap (locs ++ L) e1.symm (by rw [← e2]; exact X'.warmed.alike) hp hb k1 k2 k3 (by rw [e1]; exact hce) hcv hcl T' rfl X'
    exact ⟨t2, st.trans a1, b1⟩
theorem vx_calld {S SX : Type} {post : UInt64 → S → Prop} {px : SX → Prop} {B : S → State → Prop} {BX : String → SX → State → Prop} {AX : Nat → Prop} (hr : vx_Run p l e R s m args below meth c H locs cells slots mc ms (F0 m pc ls st0) rest (va_Qd post B A1 a) (vx_X px BX AX) free) (hS : va_S A0 H0 H locs) (hA : ∀ q, q < H.size → A1 q → A0 q) (hf : ∀ q, free q → A0 q) (hAX : ∀ q, q < H.size → AX q → A0 q)
    (kx : ∀ (E : String) (ce : Cell) (q9 : Addr) (u : SX) (t : State) (H1 : Heap) (locs1 : List Loc), t.heap = H1 → s.vm.Alike t.vm → px u → BX E u t → H.size ≤ H1.size → (∀ q : Nat, q < H.size → ¬ AX q → H1[q]? = H[q]?) → va_S A0 H0 H1 locs1 → H1[q9]? = some ce → ce.vm = .none → s.vm.findClass E = some ce.cls → vx_W p l e R s m args below meth c H1 locs1 (cells + mc) (slots + ms) Q (F0 m pc ls rest) q9)
    (kk : ∀ (r : UInt64) (u : S) (t : State) (H1 : Heap) (locs1 : List Loc), t.heap = H1 → s.vm.Alike t.vm → post r u → B u t → H.size ≤ H1.size → (∀ q : Nat, q < H.size → ¬ A1 q → H1[q]? = H[q]?) → va_S A0 H0 H1 locs1 → W p l e R s m args below meth c H1 locs1 (cells + mc) (slots + ms) Q (F0 m (pc + 3) ls (.double r :: rest))) : W p l e R s m args below meth c H locs cells slots Q (F0 m pc ls st0) := by
  intro T hT X
  rcases hr T hT X with ⟨v, st₀, t, T', L, h0, X', hL, e1, e2, ⟨⟨r, u, hv, hp, hb⟩, hF⟩, st⟩ | ⟨q, st₀, t, T', L, E, ce, h0, X', hL, e1, e2, ⟨u, hp, hb, hF⟩, hce, hcv, hcl, st⟩
  · cases hv
    obtain ⟨k1, k2, k3⟩ := vx_keep h0 e1 hS hA hf hL hF
    obtain ⟨t2, a1, b1⟩ := kk r u t T'.heap (locs ++ L) e1.symm (by rw [← e2]; exact X'.warmed.alike) hp hb k1 k2 k3 T' rfl X'
    exact ⟨t2, st t2 a1, b1⟩
  · obtain ⟨k1, k2, k3⟩ := vx_keep h0 e1 hS hAX hf hL hF
    obtain ⟨t2, a1, b1⟩ := kx E ce q u t T'.heap (locs ++ L) e1.symm (by rw [← e2]; exact X'.warmed.alike) hp hb k1 k2 k3 (by rw [e1]; exact hce) hcv hcl T' rfl X'
    exact ⟨t2, st.trans a1, b1⟩
theorem vx_callv {S SX : Type} {post : S → Prop} {px : SX → Prop} {B : S → State → Prop} {BX : String → SX → State → Prop} {AX : Nat → Prop} (hr : vx_Run p l e R s m args below meth c H locs cells slots mc ms (F0 m pc ls st0) rest (va_Qv post B A1 a) (vx_X px BX AX) free) (hS : va_S A0 H0 H locs) (hA : ∀ q, q < H.size → A1 q → A0 q) (hf : ∀ q, free q → A0 q) (hAX : ∀ q, q < H.size → AX q → A0 q)
    (kx : ∀ (E : String) (ce : Cell) (q9 : Addr) (u : SX) (t : State) (H1 : Heap) (locs1 : List Loc), t.heap = H1 → s.vm.Alike t.vm → px u → BX E u t → H.size ≤ H1.size → (∀ q : Nat, q < H.size → ¬ AX q → H1[q]? = H[q]?) → va_S A0 H0 H1 locs1 → H1[q9]? = some ce → ce.vm = .none → s.vm.findClass E = some ce.cls → vx_W p l e R s m args below meth c H1 locs1 (cells + mc) (slots + ms) Q (F0 m pc ls rest) q9)
    (kk : ∀ (u : S) (t : State) (H1 : Heap) (locs1 : List Loc), t.heap = H1 → s.vm.Alike t.vm → post u → B u t → H.size ≤ H1.size → (∀ q : Nat, q < H.size → ¬ A1 q → H1[q]? = H[q]?) → va_S A0 H0 H1 locs1 → W p l e R s m args below meth c H1 locs1 (cells + mc) (slots + ms) Q (F0 m (pc + 3) ls (rest))) : W p l e R s m args below meth c H locs cells slots Q (F0 m pc ls st0) := by
  intro T hT X
  rcases hr T hT X with ⟨v, st₀, t, T', L, h0, X', hL, e1, e2, ⟨⟨u, hv, hp, hb⟩, hF⟩, st⟩ | ⟨q, st₀, t, T', L, E, ce, h0, X', hL, e1, e2, ⟨u, hp, hb, hF⟩, hce, hcv, hcl, st⟩
  · cases hv
    obtain ⟨k1, k2, k3⟩ := vx_keep h0 e1 hS hA hf hL hF
    obtain ⟨t2, a1, b1⟩ := kk u t T'.heap (locs ++ L) e1.symm (by rw [← e2]; exact X'.warmed.alike) hp hb k1 k2 k3 T' rfl X'
    exact ⟨t2, st t2 a1, b1⟩
  · obtain ⟨k1, k2, k3⟩ := vx_keep h0 e1 hS hAX hf hL hF
    obtain ⟨t2, a1, b1⟩ := kx E ce q u t T'.heap (locs ++ L) e1.symm (by rw [← e2]; exact X'.warmed.alike) hp hb k1 k2 k3 (by rw [e1]; exact hce) hcv hcl T' rfl X'
    exact ⟨t2, st.trans a1, b1⟩
/-- caught by the row x of this method's table; the rows ahead don't take it -/
theorem vx_catch {own name : String} {E : String} {ce : Cell} {q : Addr} (hown : s.vm.findClass own = some m.cls) (pre : List ExceptionTableEntry) (x : ExceptionTableEntry) (suf : List ExceptionTableEntry) (hsplit : c.exceptionTable.toList = pre ++ x :: suf)
    (hpass : ∀ z ∈ pre, covers z pc = false ∨ (z.catchType ≠ 0 ∧ ∃ nm : String, (Cond.classLink own z.catchType nm).before args s = true ∧ va_Nc E nm s)) (hx : covers x pc = true) (h0 : x.catchType ≠ 0)
    (hlink : (Cond.classLink own x.catchType name).before args s = true) (hcast : (Cond.castable E name).before args s = true) (hcell : H[q]? = some ce) (hv : ce.vm = .none) (hcl : s.vm.findClass E = some ce.cls)
    (kk : W p l e R s m args below meth c H locs cells slots Q (F0 m x.handlerPc ls [.ref q])) : vx_W p l e R s m args below meth c H locs cells slots Q (F0 m pc ls rest) q := by
  intro T hT X
  have hpl : e.platform.magicAccessors = ({} : Platform).magicAccessors := by rw [X.admits.platform]
  obtain ⟨c3, c4, hc3, hc4, hasg⟩ := Cond.castable_spec hcast
  cases Option.some.inj (hc3.symm.trans hcl)
  obtain ⟨c5, hc5, hcl5⟩ := Cond.classLink_spec hown hlink e.platform hpl
  cases Option.some.inj (hc4.symm.trans hc5)
  obtain ⟨vm', X', st⟩ := X.thenCaughtThrough q (g := F0 m pc ls rest) rfl (Steps.refl _) (by rw [hT]; exact hcell) (by rw [hv]; rfl) (by obtain ⟨k9, h9, -⟩ := Vm.findClass_spec hcl; exact ⟨k9, h9⟩) pre x suf hsplit
    (fun z hz => by
      rcases hpass z hz with h | ⟨hz0, nm, hl1, hn1⟩
      · exact Or.inl h
      · obtain ⟨c6, hc6, hcl6⟩ := Cond.classLink_spec hown hl1 e.platform hpl
        obtain ⟨a8, b8, h1, h2, h3⟩ := hn1
        cases Option.some.inj (h1.symm.trans hcl)
        cases Option.some.inj (h2.symm.trans hc6)
        exact Or.inr ⟨hz0, _, hcl6, h3⟩) hx (Or.inr ⟨h0, c4, hcl5, hasg⟩)
  obtain ⟨t, a1, b1⟩ := kk (T.setVm vm') hT X'
  exact ⟨t, st.trans a1, b1⟩
end Rows
section Ends
variable {p : Program} {l : Launch} {e : Env} {R : Room} {s : State} {m : MethodId} {args : Array Value} {below : List Frame} {meth : Method} {c : Code} {H : Heap} {locs : List Loc} {cells slots : Nat} {Q : State → Prop}
variable {mc ms : Nat} {free : Addr → Prop} {A0 A1 : Nat → Prop} {H0 : Heap} {a : Array Value} {ls : Array Slot} {st0 rest : List Value}
variable {Qc : Array Value → State → Outcome → State → Prop} {XC : String → State → State → Prop}
/-- what a body that may throw owes at its end -/
def vx_MQ (below : List Frame) (Qc : Array Value → State → Outcome → State → Prop) (XC : String → State → State → Prop) (a : Array Value) (s : State) (mc ms : Nat) (free : Addr → Prop) : State → Prop := fun t =>
  ∃ o, t.status = .running ∧ Ended t below o ∧ vx_Q Qc XC mc ms free a s o t
theorem vx_ret {g : JFrame} {mc ms : Nat} (k : W p l e R s m args below meth c H locs cells slots (MQ below Qc args s mc ms free) g) : W p l e R s m args below meth c H locs cells slots (vx_MQ below Qc XC args s mc ms free) g := by
  intro T hT X
  obtain ⟨t, a1, o, b1, b2, b3, b4⟩ := k T hT X
  exact ⟨t, a1, o, b1, b2, Or.inl ⟨b3, b4⟩⟩
/-- not caught here: it goes on to the caller -/
theorem vx_widen {g : JFrame} {q : Addr} {k n : Nat} (h1 : cells ≤ k) (h2 : slots ≤ n) (kk : vx_W p l e R s m args below meth c H locs k n Q g q) : vx_W p l e R s m args below meth c H locs cells slots Q g q := fun T hT X => kk T hT (stand_widen X h1 h2)
theorem vx_out {pc : Nat} {E : String} {ce : Cell} {q : Addr} {mc ms : Nat} (hout : ∀ x ∈ c.exceptionTable.toList, covers x pc = false) (hlocks : meth.locks = false) (hcell : H[q]? = some ce) (hv : ce.vm = .none) (hcl : s.vm.findClass E = some ce.cls)
    (hx : ∀ t : State, t.heap = H → s.vm.Alike t.vm → XC E s t) (hf : ∀ z ∈ locs, free z.base) (hc : cells ≤ mc) (hs : slots ≤ ms) :
    vx_W p l e R s m args below meth c H locs cells slots (vx_MQ below Qc XC args s mc ms free) (F0 m pc ls rest) q := by
  intro T hT X
  obtain ⟨st1, hrun, hend, hW, hsm⟩ := X.leaveThrown q (g := F0 m pc ls rest) rfl rfl rfl hout hlocks
  have hcell9 : (T.setFrames (.throwing q :: below)).heap[q]? = some ce := by
    show T.heap[q]? = some ce
    rw [hT]; exact hcell
  exact ⟨_, st1, .threw q, hrun, hend, Or.inr ⟨q, rfl, E, ce, locs, hx _ hT hW.alike, hcell9, hv, hcl, hW, hsm.mono hc hs, hf⟩⟩
theorem vx_frame {U : State} {k n : Nat} (h : s.sameButNew ({ U with vm := s.vm } : State) locs k n) : s.heap.size ≤ U.heap.size ∧ ∀ q : Nat, q < s.heap.size → (∀ z ∈ locs, z.base ≠ q) → U.heap[q]? = s.heap[q]? := by
  obtain ⟨-, h2, -, -, -, h6⟩ := h
  refine ⟨h2, fun q hq hz => ?_⟩
  obtain ⟨c9, e1, e2, e3, e4⟩ := h6 q _ (Array.getElem?_eq_getElem hq)
  have hs : c9.slots = (s.heap[q]).slots := Array.ext_getElem? fun i => e4 i fun hm => hz _ hm rfl
  have h9 : c9 = s.heap[q] := by
    rw [hs] at e2
    exact e2
  have e5 : U.heap[q]? = some c9 := e1
  rw [e5, h9, Array.getElem?_eq_getElem hq]
/-- the words of a throw but the four that speak of the heap -/
def vx_no (w : Cond) : Bool := decide (w ≠ .isRef (.static Bundle.tN "UNASSIGNED_STACK" Bundle.steD)) && decide (w ≠ .isRef (.static Bundle.tN "SUPPRESSED_SENTINEL" Bundle.listD)) && decide (w ≠ .laysStatic Bundle.tN "UNASSIGNED_STACK" Bundle.steD) && decide (w ≠ .laysStatic Bundle.tN "SUPPRESSED_SENTINEL" Bundle.listD)
def vx_at0 (own : String) (ic : Nat) (X : String) (names : List String) : List Cond := (Bundle.ownAtoms0 own ic X names).filter vx_no
def vx_atS (own : String) (ic : Nat) (X : String) (names : List String) : List Cond := (Bundle.ownAtoms own ic X names).filter vx_no
/-- a word that the tables alone decide, or a good one -/
def vx_ot (w : Cond) : Bool := w.onTables || goodWord w
theorem vx_ot_at {args a' : Array Value} {s U : State} {w : Cond} (hW : s.WarmedH U.vm) (hvm : s.vm = U.vm) (hg : vx_ot w = true) (h : w.before args s = true) : w.before a' U = true := by
  simp only [vx_ot, Bool.or_eq_true] at hg
  rcases hg with hg | hg
  · exact va_tabs hg hvm h
  · exact word_at hW (good_of_word hg) h
/-- a list's words: the good ones out of the method's own list, the others by premises of their own -/
theorem vx_hat {args : Array Value} {s : State} {L B : List Cond} (h1 : ∀ w ∈ L.filter goodWord, w.before args s = true) (h2 : ∀ w ∈ L.filter (fun w => !goodWord w), w ∈ B) (h3 : ∀ w ∈ B, w.before args s = true) : ∀ w ∈ L, w.before args s = true := by
  intro w hw
  by_cases g : goodWord w = true
  · exact h1 w (List.mem_filter.mpr ⟨hw, g⟩)
  · refine h3 w (h2 w (List.mem_filter.mpr ⟨hw, ?_⟩))
    show (!goodWord w) = true
    cases hgw : goodWord w
    · rfl
    · exact absurd hgw g
theorem vx_c {args : Array Value} {s : State} {w : Cond} {B : List Cond} (h : w.before args s = true) (t : ∀ w ∈ B, w.before args s = true) : ∀ w' ∈ w :: B, w'.before args s = true := fun w' h' => (List.mem_cons.mp h').elim (fun e => by rw [e]; exact h) (t w')
theorem vx_n {args : Array Value} {s : State} : ∀ w ∈ ([] : List Cond), w.before args s = true := fun _ h => nomatch h
theorem vx_own {args : Array Value} {s : State} {L : List Cond} (h1 : ∀ w ∈ L.filter vx_no, w.before args s = true)
    (hU : (Cond.isRef (.static Bundle.tN "UNASSIGNED_STACK" Bundle.steD)).before args s = true) (hN : (Cond.isRef (.static Bundle.tN "SUPPRESSED_SENTINEL" Bundle.listD)).before args s = true)
    (lU : (Cond.laysStatic Bundle.tN "UNASSIGNED_STACK" Bundle.steD).before args s = true) (lN : (Cond.laysStatic Bundle.tN "SUPPRESSED_SENTINEL" Bundle.listD).before args s = true) : ∀ w ∈ L, w.before args s = true := by
  intro w hw
  by_cases e1 : w = .isRef (.static Bundle.tN "UNASSIGNED_STACK" Bundle.steD)
  · rw [e1]; exact hU
  · by_cases e2 : w = .isRef (.static Bundle.tN "SUPPRESSED_SENTINEL" Bundle.listD)
    · rw [e2]; exact hN
    · by_cases e3 : w = .laysStatic Bundle.tN "UNASSIGNED_STACK" Bundle.steD
      · rw [e3]; exact lU
      · by_cases e4 : w = .laysStatic Bundle.tN "SUPPRESSED_SENTINEL" Bundle.listD
        · rw [e4]; exact lN
        · exact h1 w (List.mem_filter.mpr ⟨hw, by unfold vx_no; rw [decide_eq_true e1, decide_eq_true e2, decide_eq_true e3, decide_eq_true e4]; rfl⟩)
/-- where a static field lies, its class's statics cell in H -/
def vx_L (C n d : String) (A : Nat → Prop) (U : State) (H : Heap) : Prop := ∃ (c : ClassId) (k : Class) (i : Nat) (f : Field) (a : Nat) (cell : Cell), U.vm.findClass C = some c ∧ U.fieldFound? C n d = some (c, k, i, f) ∧ f.isStatic = true ∧ k.statics = some a ∧ H[a]? = some cell ∧ cell.vm.isStatics = true ∧ cell.cls = c ∧ f.slot < cell.slots.size ∧ k.staticTypes[f.slot]? = some f.type ∧ ¬ A a
theorem vx_L.moved {C n d : String} {A : Nat → Prop} {u U : State} {H : Heap} (hvm : u.vm.Alike U.vm) (h : vx_L C n d A u H) : vx_L C n d A U H := by
  obtain ⟨c, k, i, f, a, cell, h1, h2, h3, h4, h5, h6, h7, h8, h9, h10⟩ := h
  obtain ⟨k', hi', he⟩ := State.fieldFound?_setVm hvm h2
  exact ⟨c, k', i, f, a, cell, by rw [hvm.findClass]; exact h1, hi', h3, by rw [he]; exact h4, h5, h6, h7, h8, by rw [he]; exact h9, h10⟩
theorem vx_L.kept {C n d : String} {A : Nat → Prop} {U : State} {H H1 : Heap} (h : vx_L C n d A U H) (hq : ∀ a : Nat, a < H.size → ¬ A a → H1[a]? = H[a]?) : vx_L C n d A U H1 := by
  obtain ⟨c, k, i, f, a, cell, h1, h2, h3, h4, h5, h6, h7, h8, h9, h10⟩ := h
  exact ⟨c, k, i, f, a, cell, h1, h2, h3, h4, by rw [hq a (Array.getElem?_eq_some_iff.mp h5).1 h10]; exact h5, h6, h7, h8, h9, h10⟩
theorem vx_L.narrow {C n d : String} {A B : Nat → Prop} {U : State} {H : Heap} (h : vx_L C n d A U H) (hAB : ∀ q, B q → A q) : vx_L C n d B U H := by
  obtain ⟨c, k, i, f, a, cell, h1, h2, h3, h4, h5, h6, h7, h8, h9, h10⟩ := h
  exact ⟨c, k, i, f, a, cell, h1, h2, h3, h4, h5, h6, h7, h8, h9, fun z => h10 (hAB _ z)⟩
theorem vx_L.word {C n d : String} {A : Nat → Prop} {s : State} {args : Array Value} (h : vx_L C n d A s s.heap) : (Cond.laysStatic C n d).before args s = true := by
  obtain ⟨c, k, i, f, a, cell, h1, h2, h3, h4, h5, h6, h7, h8, h9, -⟩ := h
  show (Cond.laysStatic C n d).holds args s none s [] = true
  exact Cond.laysStatic_of h1 h2 h3 h4 h5 h6 h7 h8 h9
/-- .. and what it holds: null or some reference -/
def vx_Zq (C n d : String) (A : Nat → Prop) (U : State) (H : Heap) : Prop := va_Zq C n d A U H ∧ vx_L C n d A U H
theorem vx_Zq.moved {C n d : String} {A : Nat → Prop} {u U : State} {H : Heap} (hvm : u.vm.Alike U.vm) (h : vx_Zq C n d A u H) : vx_Zq C n d A U H := ⟨va_Zq.moved hvm h.1, vx_L.moved hvm h.2⟩
theorem vx_Zq.kept {C n d : String} {A : Nat → Prop} {U : State} {H H1 : Heap} (h : vx_Zq C n d A U H) (hq : ∀ a : Nat, a < H.size → ¬ A a → H1[a]? = H[a]?) : vx_Zq C n d A U H1 := ⟨va_Zq.kept h.1 hq, vx_L.kept h.2 hq⟩
theorem vx_Zq.narrow {C n d : String} {A B : Nat → Prop} {U : State} {H : Heap} (h : vx_Zq C n d A U H) (hAB : ∀ q, B q → A q) : vx_Zq C n d B U H := ⟨va_Zq.narrow h.1 hAB, vx_L.narrow h.2 hAB⟩
theorem vx_Zqof {args : Array Value} {s : State} {C n d : String} {A : Nat → Prop} (hl : (Cond.laysStatic C n d).before args s = true) (hini : (Cond.initialized C).before args s = true) (h : (Cond.isRef (.static C n d)).before args s = true) (hA : ∀ a : Nat, a < s.heap.size → ¬ A a) : vx_Zq C n d A s s.heap := by
  refine ⟨va_Zqof hl hini h hA, ?_⟩
  obtain ⟨c, k, i, f, a, cell, h1, h2, h3, h4, h5, h6, h7, h8, h9⟩ := Cond.laysStatic_spec hl
  exact ⟨c, k, i, f, a, cell, h1, h2, h3, h4, h5, h6, h7, h8, h9, hA a (Array.getElem?_eq_some_iff.mp h5).1⟩
theorem vx_isRef {C n d : String} {v : Value} {A : Nat → Prop} {s : State} {args : Array Value} (h : va_Z C n d v A s s.heap) (hv : v.isRef = true) : (Cond.isRef (.static C n d)).before args s = true := by
  obtain ⟨cf, kf, fi, f, a, cell, h1, h2, h3, h4, h5, h6, h7, -⟩ := h
  have he : (Term.static C n d).eval args s none [] s = some v := by
    simp [Term.eval, State.fieldNamed?, h1, h2, h4, h5, h6, h7]
  simp only [Cond.before, Cond.holds, Cond.value, he]
  cases v <;> simp_all [Value.isRef]
theorem vx_isRefq {C n d : String} {A : Nat → Prop} {s : State} {args : Array Value} (h : va_Zq C n d A s s.heap) : (Cond.isRef (.static C n d)).before args s = true := by
  rcases h with h | ⟨t, h⟩
  · exact vx_isRef h rfl
  · exact vx_isRef h rfl
/-- the same frame, seen from here: as if the method were called anew in this heap -/
theorem vx_rebase {T : State} (X : Stand p l e R s m args below meth c T locs cells slots) {R' : Room} (hf : R'.frames ≤ R.frames) (hl : R'.locals ≤ R.locals) (hc : cells + R'.cells ≤ R.cells) (hs : slots + R'.slots ≤ R.slots) :
    Stand p l e R' ((T.setVm s.vm).setFrames (.invoking m args :: below)) m args below meth c T [] 0 0 := by
  have htop : (T.setVm s.vm).topJava?.isSome := X.here.top
  have hF : ((T.setVm s.vm).setFrames (.invoking m args :: below)).frames = .invoking m args :: below := State.frames_setFrames _ (State.cur_lt_of_top htop)
  obtain ⟨g₀, hg0⟩ := Option.isSome_iff_exists.mp htop
  obtain ⟨r, hr⟩ := State.topJava?_eq_some.mp hg0
  have hl9 : e.platform.stackLimits (T.setVm s.vm).me = e.platform.stackLimits s.me := X.limits
  have hb9 : (T.setVm s.vm).me.stackBytes = s.me.stackBytes := X.bytes
  refine ⟨X.admits, X.cas, X.clock, hF, ?_, X.hears, X.method, X.code, X.here, X.tail, X.warmed, ?_, ?_, ?_⟩
  · have h := X.room
    have hU : ((T.setVm s.vm).setFrames (.invoking m args :: below)).localsInUse = s.localsInUse := by
      rw [State.localsInUse_invoking hF (meth := meth) (c := c) X.method X.code, State.localsInUse_invoking X.frames X.method X.code]
    simp only [State.hasRoom, Bool.and_eq_true, decide_eq_true_eq] at h ⊢
    obtain ⟨⟨⟨⟨h1, h2, h3, h4, h5, h6⟩, h7⟩, h8⟩, h9⟩ := h
    rw [X.frames, List.length_cons] at h2 h3
    have q1 := X.heapSize
    have q2 := X.used
    simp only [hF, hU, List.length_cons, State.stackLimits_setFrames, State.stackBytes_setFrames, hl9, hb9]
    refine ⟨⟨⟨⟨by omega, by omega, by omega, by omega, by omega, h6⟩, ?_⟩, ?_⟩, X.book⟩
    · show T.heap.size + R'.cells ≤ e.platform.maxCells
      omega
    · show T.slotsUsed + R'.slots ≤ e.platform.maxSlots
      omega
  · rw [State.stackLimits_setFrames]; rfl
  · rw [State.stackBytes_setFrames]; rfl
  · refine ⟨?_, Nat.le_refl _, Nat.le_refl _, ?_, ?_, fun a c9 h9 => ⟨c9, h9, rfl, rfl, fun _ _ => rfl⟩⟩
    · obtain ⟨t, ht, -⟩ := State.frames_cons hr
      show T.setVm s.vm = { ((T.setVm s.vm).setFrames (.invoking m args :: below)).setFrames (T.setVm s.vm).frames with heap := T.heap, slotsUsed := T.slotsUsed }
      rw [State.setFrames_setFrames, State.setFrames_self ht]
      rfl
    · show T.slotsUsed = T.slotsUsed + ((T.heap.toList.drop T.heap.size).map (·.slots.size)).sum
      rw [List.drop_eq_nil_of_le (Nat.le_of_eq Array.length_toList)]
      rfl
    · show ((T.heap.toList.drop T.heap.size).map (·.slots.size)).sum ≤ 0
      rw [List.drop_eq_nil_of_le (Nat.le_of_eq Array.length_toList)]
      exact Nat.le_refl _
/-- 'throw new E()': new; dup; invokespecial; athrow -/
theorem vx_throw0 {cc : ByteArray} {pc : Nat} (hexec : p.tables.exec = Jvm.exec) (hb : c.code = cc) (hl : l.stackTraces = false) {own cls : String} {names : List String} {ik ic mc ms : Nat} {A : Nat → Prop}
    (hown : s.vm.findClass own = some m.cls) (hcls : Bundle.fit cls = true) (hnames : ∀ n ∈ names, Bundle.fit n = true)
    (hk : (Cond.classLink own ik cls).before args s = true) (hini : (Cond.initialized cls).before args s = true) (hat : ∀ w ∈ vx_at0 own ic cls names, w.before args s = true)
    (hgood : ∀ w ∈ Cond.classLink own ik cls :: Cond.initialized cls :: vx_at0 own ic cls names, vx_ot w = true)
    (hU : vx_Zq Bundle.tN "UNASSIGNED_STACK" Bundle.steD A s s.heap) (hN : vx_Zq Bundle.tN "SUPPRESSED_SENTINEL" Bundle.listD A s s.heap) (hS : va_S A s.heap H locs) (hsize : ls.size = c.maxLocals)
    (d0 : decode cc pc = .ok (.new ik, 3)) (d3 : decode cc (pc + 3) = .ok (.dup, 1)) (d4 : decode cc (pc + 4) = .ok (.invokespecial ic, 3)) (d7 : decode cc (pc + 7) = .ok (.athrow, 1))
    (hout : ∀ x ∈ c.exceptionTable.toList, covers x (pc + 7) = false)
    (hRframes : names.length + 3 < R.frames) (hRlocals : (rest.map fun v => v.category).sum + (13 * (names.length + 1) + 42) ≤ R.locals) (hRcells : cells + 1 ≤ R.cells) (hRslots : slots + 6 ≤ R.slots) (hlocks : meth.locks = false)
    (hx : ∀ t : State, s.vm.Alike t.vm → H.size ≤ t.heap.size → (∀ q : Nat, q < H.size → t.heap[q]? = H[q]?) → XC cls s t)
    (hf : ∀ z ∈ locs, free z.base) (hc : cells + 1 ≤ mc) (hs : slots + 6 ≤ ms) :
    W p l e R s m args below meth c H locs cells slots (vx_MQ below Qc XC args s mc ms free) (F0 m pc ls rest) := by
  intro T hT X
  have htr : e.platform.stackTraces = false := (show e.platform.stackTraces = l.stackTraces by rw [X.admits.platform]).trans hl
  have Y := vx_rebase X (R' := { frames := R.frames, locals := R.locals, cells := 1, slots := 6 }) (Nat.le_refl _) (Nat.le_refl _) hRcells hRslots
  obtain ⟨s', hA⟩ : ∃ z, z = (T.setVm s.vm).setFrames (.invoking m args :: below) := ⟨_, rfl⟩
  rw [← hA] at Y
  have hvm : s'.vm = s.vm := by rw [hA]; rfl
  have hhp : s'.heap = H := by rw [hA]; exact hT
  have hW0 : s.WarmedH s'.vm := by rw [hvm]; exact State.WarmedH.refl s
  have hat' : ∀ w ∈ vx_at0 own ic cls names, w.before args s' = true := fun w hw => vx_ot_at hW0 hvm.symm (hgood w (List.mem_cons_of_mem _ (List.mem_cons_of_mem _ hw))) (hat w hw)
  have hk' : (Cond.classLink own ik cls).before args s' = true := vx_ot_at hW0 hvm.symm (hgood _ List.mem_cons_self) hk
  have hini' : (Cond.initialized cls).before args s' = true := vx_ot_at hW0 hvm.symm (hgood _ (List.mem_cons_of_mem _ List.mem_cons_self)) hini
  have hU' : vx_Zq Bundle.tN "UNASSIGNED_STACK" Bundle.steD A s' s'.heap := by rw [hhp]; exact vx_Zq.moved hW0.alike (hU.kept hS.2.1)
  have hN' : vx_Zq Bundle.tN "SUPPRESSED_SENTINEL" Bundle.listD A s' s'.heap := by rw [hhp]; exact vx_Zq.moved hW0.alike (hN.kept hS.2.1)
  have h : ∀ w ∈ Bundle.ownAtoms0 own ic cls names, w.before args s' = true := vx_own hat' (vx_isRefq hU'.1) (vx_isRefq hN'.1) hU'.2.word hN'.2.word
  have hown' : s'.vm.findClass own = some m.cls := by rw [hvm]; exact hown
  have hins : (Cond.instantiable cls 6).before args s' = true := h _ (by simp [Bundle.ownAtoms0])
  obtain ⟨vm₁, cX, kX, hfX, hkX, -, -, X₁, st1⟩ := Y.newCold hexec (own := own) (C := cls) (index := ik) (n := 6) hown' hk' hins hini'
    (g := F0 m pc ls rest) rfl (by rw [hb]; exact d0) (Nat.le_refl _) (Nat.le_refl _)
  generalize hT1 : (T.setVm vm₁).pushCell { cls := cX, slots := kX.instanceTypes.map defaultValue, vm := .none } = T1 at X₁ st1
  have hcat : (Value.ref T.heap.size).category = 1 := rfl
  have hcellA : T1.heap[T.heap.size]? = some (freshCell cX kX) := by rw [← hT1]; exact State.heap_pushCell_size _ _
  have d3' : decode c.code (pc + 3) = .ok (.dup, 1) := by rw [hb]; exact d3
  obtain ⟨U, hsteps, hrun, hend, hW, hsame, ce, hce, hO⟩ := X₁.ctorThrow0 hexec htr (own := own) (cls := cls) (names := names) (ic := ic) hown' hcls hnames h (fun x hx => nomatch hx) hfX hkX hcellA (by rw [hhp, hT]; exact Nat.le_refl _)
    (g := { method := m, pc := pc + 4, locals := ls, stack := .ref T.heap.size :: .ref T.heap.size :: rest, locked := none }) rfl hsize rfl rfl (rest := rest) rfl
    (by rw [hb]; exact d4) (by rw [hb]; exact d7) hout hRframes (by simp only [List.map_cons, List.sum_cons, hcat]; omega) hlocks
  obtain ⟨f1, f2⟩ := vx_frame hsame
  rw [hhp] at f1 f2
  have hWs : s.WarmedH U.vm := State.WarmedH.trans hW0 hW
  have hcl : s.vm.findClass cls = some ce.cls := by
    have h9 := hO.cls
    rw [hvm] at h9
    exact h9
  have hall : s.sameButNew ({ U with vm := s.vm } : State) locs mc ms := by
    subst hA
    obtain ⟨e1, e2⟩ := hsame
    rw [State.setFrames_setFrames] at e1
    have h2 : (T.setVm s.vm).sameButNew ({ U with vm := s.vm } : State) [] (0 + 1) (0 + 6) := ⟨e1, e2⟩
    have h3 := X.same.trans h2
    rw [List.append_nil] at h3
    exact h3.mono hc hs
  refine ⟨U, ?_, .threw T.heap.size, hrun, hend, Or.inr ⟨T.heap.size, rfl, cls, ce, locs, hx U hWs.alike f1 (fun q hq => f2 q hq (fun z hz => nomatch hz)), hce, hO.vm, hcl, hWs, hall, hf⟩⟩
  refine st1 _ ?_
  show Steps p.tables e below (T1.setTop { method := m, pc := pc + 3, locals := ls, stack := .ref T.heap.size :: rest, locked := none }) _
  jvm_step X₁.here [X₁.here.top, hexec, d3', Value.category]
  exact hsteps
/-- 'throw new E("text")': new; dup; ldc; invokespecial; athrow -/
theorem vx_throwS {cc : ByteArray} {pc : Nat} (hexec : p.tables.exec = Jvm.exec) (hb : c.code = cc) (hl : l.stackTraces = false) {own cls text : String} {names : List String} {ik is ic mc ms sa : Nat} {A : Nat → Prop}
    (hown : s.vm.findClass own = some m.cls) (hcls : Bundle.fit cls = true) (hnames : ∀ n ∈ names, Bundle.fit n = true)
    (hk : (Cond.classLink own ik cls).before args s = true) (hini : (Cond.initialized cls).before args s = true) (hstr : vk_R own is text sa s) (hat : ∀ w ∈ vx_atS own ic cls names, w.before args s = true)
    (hgood : ∀ w ∈ Cond.classLink own ik cls :: Cond.initialized cls :: vx_atS own ic cls names, vx_ot w = true)
    (hU : vx_Zq Bundle.tN "UNASSIGNED_STACK" Bundle.steD A s s.heap) (hN : vx_Zq Bundle.tN "SUPPRESSED_SENTINEL" Bundle.listD A s s.heap) (hS : va_S A s.heap H locs) (hsize : ls.size = c.maxLocals)
    (d0 : decode cc pc = .ok (.new ik, 3)) (d3 : decode cc (pc + 3) = .ok (.dup, 1)) (d4 : decode cc (pc + 4) = .ok (.ldc is, 2)) (d6 : decode cc (pc + 6) = .ok (.invokespecial ic, 3)) (d9 : decode cc (pc + 9) = .ok (.athrow, 1))
    (hout : ∀ x ∈ c.exceptionTable.toList, covers x (pc + 9) = false)
    (hRframes : names.length + 3 < R.frames) (hRlocals : (rest.map fun v => v.category).sum + (13 * (names.length + 1) + 43) ≤ R.locals) (hRcells : cells + 1 ≤ R.cells) (hRslots : slots + 6 ≤ R.slots) (hlocks : meth.locks = false)
    (hx : ∀ t : State, s.vm.Alike t.vm → H.size ≤ t.heap.size → (∀ q : Nat, q < H.size → t.heap[q]? = H[q]?) → XC cls s t)
    (hf : ∀ z ∈ locs, free z.base) (hc : cells + 1 ≤ mc) (hs : slots + 6 ≤ ms) :
    W p l e R s m args below meth c H locs cells slots (vx_MQ below Qc XC args s mc ms free) (F0 m pc ls rest) := by
  intro T hT X
  have htr : e.platform.stackTraces = false := (show e.platform.stackTraces = l.stackTraces by rw [X.admits.platform]).trans hl
  have Y := vx_rebase X (R' := { frames := R.frames, locals := R.locals, cells := 1, slots := 6 }) (Nat.le_refl _) (Nat.le_refl _) hRcells hRslots
  obtain ⟨s', hA⟩ : ∃ z, z = (T.setVm s.vm).setFrames (.invoking m args :: below) := ⟨_, rfl⟩
  rw [← hA] at Y
  have hvm : s'.vm = s.vm := by rw [hA]; rfl
  have hhp : s'.heap = H := by rw [hA]; exact hT
  have hW0 : s.WarmedH s'.vm := by rw [hvm]; exact State.WarmedH.refl s
  have hat' : ∀ w ∈ vx_atS own ic cls names, w.before args s' = true := fun w hw => vx_ot_at hW0 hvm.symm (hgood w (List.mem_cons_of_mem _ (List.mem_cons_of_mem _ hw))) (hat w hw)
  have hk' : (Cond.classLink own ik cls).before args s' = true := vx_ot_at hW0 hvm.symm (hgood _ List.mem_cons_self) hk
  have hini' : (Cond.initialized cls).before args s' = true := vx_ot_at hW0 hvm.symm (hgood _ (List.mem_cons_of_mem _ List.mem_cons_self)) hini
  have hU' : vx_Zq Bundle.tN "UNASSIGNED_STACK" Bundle.steD A s' s'.heap := by rw [hhp]; exact vx_Zq.moved hW0.alike (hU.kept hS.2.1)
  have hN' : vx_Zq Bundle.tN "SUPPRESSED_SENTINEL" Bundle.listD A s' s'.heap := by rw [hhp]; exact vx_Zq.moved hW0.alike (hN.kept hS.2.1)
  have h : ∀ w ∈ Bundle.ownAtoms own ic cls names, w.before args s' = true := vx_own hat' (vx_isRefq hU'.1) (vx_isRefq hN'.1) hU'.2.word hN'.2.word
  have hown' : s'.vm.findClass own = some m.cls := by rw [hvm]; exact hown
  have hins : (Cond.instantiable cls 6).before args s' = true := h _ (by simp [Bundle.ownAtoms])
  obtain ⟨vm₁, cX, kX, hfX, hkX, -, -, X₁, st1⟩ := Y.newCold hexec (own := own) (C := cls) (index := ik) (n := 6) hown' hk' hins hini'
    (g := F0 m pc ls rest) rfl (by rw [hb]; exact d0) (Nat.le_refl _) (Nat.le_refl _)
  generalize hT1 : (T.setVm vm₁).pushCell { cls := cX, slots := kX.instanceTypes.map defaultValue, vm := .none } = T1 at X₁ st1
  have hcat : (Value.ref T.heap.size).category = 1 := rfl
  have hcellA : T1.heap[T.heap.size]? = some (freshCell cX kX) := by rw [← hT1]; exact State.heap_pushCell_size _ _
  have d3' : decode c.code (pc + 3) = .ok (.dup, 1) := by rw [hb]; exact d3
  have d4' : decode c.code (pc + 4) = .ok (.ldc is, 2) := by rw [hb]; exact d4
  have hstr' : vk_R own is text sa s' := vk_R.warm hW0 hstr
  obtain ⟨U, hsteps, hrun, hend, hW, hsame, ce, hce, hO⟩ := X₁.ctorThrowS hexec htr (own := own) (cls := cls) (names := names) (ic := ic) hown' hcls hnames h (fun x hx => nomatch hx) hfX hkX hcellA (by rw [hhp, hT]; exact Nat.le_refl _) (msg := .ref sa) rfl
    (g := { method := m, pc := pc + 6, locals := ls, stack := .ref sa :: .ref T.heap.size :: .ref T.heap.size :: rest, locked := none }) rfl hsize rfl rfl (rest := rest) rfl
    (by rw [hb]; exact d6) (by rw [hb]; exact d9) hout hRframes (by simp only [List.map_cons, List.sum_cons, hcat]; omega) hlocks
  obtain ⟨f1, f2⟩ := vx_frame hsame
  rw [hhp] at f1 f2
  have hWs : s.WarmedH U.vm := State.WarmedH.trans hW0 hW
  have hcl : s.vm.findClass cls = some ce.cls := by
    have h9 := hO.cls
    rw [hvm] at h9
    exact h9
  have hall : s.sameButNew ({ U with vm := s.vm } : State) locs mc ms := by
    subst hA
    obtain ⟨e1, e2⟩ := hsame
    rw [State.setFrames_setFrames] at e1
    have h2 : (T.setVm s.vm).sameButNew ({ U with vm := s.vm } : State) [] (0 + 1) (0 + 6) := ⟨e1, e2⟩
    have h3 := X.same.trans h2
    rw [List.append_nil] at h3
    exact h3.mono hc hs
  refine ⟨U, ?_, .threw T.heap.size, hrun, hend, Or.inr ⟨T.heap.size, rfl, cls, ce, locs, hx U hWs.alike f1 (fun q hq => f2 q hq (fun z hz => nomatch hz)), hce, hO.vm, hcl, hWs, hall, hf⟩⟩
  refine st1 _ ?_
  show Steps p.tables e below (T1.setTop { method := m, pc := pc + 3, locals := ls, stack := .ref T.heap.size :: rest, locked := none }) _
  jvm_step X₁.here [X₁.here.top, hexec, d3', Value.category]
  exact X₁.ldcString hexec (own := own) (text := text) (index := is) (a := sa) hown' hstr'.1 hstr'.2
    (g := { method := m, pc := pc + 4, locals := ls, stack := .ref T.heap.size :: .ref T.heap.size :: rest, locked := none }) rfl d4' _ hsteps
/-- 'throw new E("text")', the text by a wide index -/
theorem vx_throwSW {cc : ByteArray} {pc : Nat} (hexec : p.tables.exec = Jvm.exec) (hb : c.code = cc) (hl : l.stackTraces = false) {own cls text : String} {names : List String} {ik is ic mc ms sa : Nat} {A : Nat → Prop}
    (hown : s.vm.findClass own = some m.cls) (hcls : Bundle.fit cls = true) (hnames : ∀ n ∈ names, Bundle.fit n = true)
    (hk : (Cond.classLink own ik cls).before args s = true) (hini : (Cond.initialized cls).before args s = true) (hstr : vk_R own is text sa s) (hat : ∀ w ∈ vx_atS own ic cls names, w.before args s = true)
    (hgood : ∀ w ∈ Cond.classLink own ik cls :: Cond.initialized cls :: vx_atS own ic cls names, vx_ot w = true)
    (hU : vx_Zq Bundle.tN "UNASSIGNED_STACK" Bundle.steD A s s.heap) (hN : vx_Zq Bundle.tN "SUPPRESSED_SENTINEL" Bundle.listD A s s.heap) (hS : va_S A s.heap H locs) (hsize : ls.size = c.maxLocals)
    (d0 : decode cc pc = .ok (.new ik, 3)) (d3 : decode cc (pc + 3) = .ok (.dup, 1)) (d4 : decode cc (pc + 4) = .ok (.ldc_w is, 3)) (d7 : decode cc (pc + 7) = .ok (.invokespecial ic, 3)) (d10 : decode cc (pc + 10) = .ok (.athrow, 1))
    (hout : ∀ x ∈ c.exceptionTable.toList, covers x (pc + 10) = false)
    (hRframes : names.length + 3 < R.frames) (hRlocals : (rest.map fun v => v.category).sum + (13 * (names.length + 1) + 43) ≤ R.locals) (hRcells : cells + 1 ≤ R.cells) (hRslots : slots + 6 ≤ R.slots) (hlocks : meth.locks = false)
    (hx : ∀ t : State, s.vm.Alike t.vm → H.size ≤ t.heap.size → (∀ q : Nat, q < H.size → t.heap[q]? = H[q]?) → XC cls s t)
    (hf : ∀ z ∈ locs, free z.base) (hc : cells + 1 ≤ mc) (hs : slots + 6 ≤ ms) :
    W p l e R s m args below meth c H locs cells slots (vx_MQ below Qc XC args s mc ms free) (F0 m pc ls rest) := by
  intro T hT X
  have htr : e.platform.stackTraces = false := (show e.platform.stackTraces = l.stackTraces by rw [X.admits.platform]).trans hl
  have Y := vx_rebase X (R' := { frames := R.frames, locals := R.locals, cells := 1, slots := 6 }) (Nat.le_refl _) (Nat.le_refl _) hRcells hRslots
  obtain ⟨s', hA⟩ : ∃ z, z = (T.setVm s.vm).setFrames (.invoking m args :: below) := ⟨_, rfl⟩
  rw [← hA] at Y
  have hvm : s'.vm = s.vm := by rw [hA]; rfl
  have hhp : s'.heap = H := by rw [hA]; exact hT
  have hW0 : s.WarmedH s'.vm := by rw [hvm]; exact State.WarmedH.refl s
  have hat' : ∀ w ∈ vx_atS own ic cls names, w.before args s' = true := fun w hw => vx_ot_at hW0 hvm.symm (hgood w (List.mem_cons_of_mem _ (List.mem_cons_of_mem _ hw))) (hat w hw)
  have hk' : (Cond.classLink own ik cls).before args s' = true := vx_ot_at hW0 hvm.symm (hgood _ List.mem_cons_self) hk
  have hini' : (Cond.initialized cls).before args s' = true := vx_ot_at hW0 hvm.symm (hgood _ (List.mem_cons_of_mem _ List.mem_cons_self)) hini
  have hU' : vx_Zq Bundle.tN "UNASSIGNED_STACK" Bundle.steD A s' s'.heap := by rw [hhp]; exact vx_Zq.moved hW0.alike (hU.kept hS.2.1)
  have hN' : vx_Zq Bundle.tN "SUPPRESSED_SENTINEL" Bundle.listD A s' s'.heap := by rw [hhp]; exact vx_Zq.moved hW0.alike (hN.kept hS.2.1)
  have h : ∀ w ∈ Bundle.ownAtoms own ic cls names, w.before args s' = true := vx_own hat' (vx_isRefq hU'.1) (vx_isRefq hN'.1) hU'.2.word hN'.2.word
  have hown' : s'.vm.findClass own = some m.cls := by rw [hvm]; exact hown
  have hins : (Cond.instantiable cls 6).before args s' = true := h _ (by simp [Bundle.ownAtoms])
  obtain ⟨vm₁, cX, kX, hfX, hkX, -, -, X₁, st1⟩ := Y.newCold hexec (own := own) (C := cls) (index := ik) (n := 6) hown' hk' hins hini'
    (g := F0 m pc ls rest) rfl (by rw [hb]; exact d0) (Nat.le_refl _) (Nat.le_refl _)
  generalize hT1 : (T.setVm vm₁).pushCell { cls := cX, slots := kX.instanceTypes.map defaultValue, vm := .none } = T1 at X₁ st1
  have hcat : (Value.ref T.heap.size).category = 1 := rfl
  have hcellA : T1.heap[T.heap.size]? = some (freshCell cX kX) := by rw [← hT1]; exact State.heap_pushCell_size _ _
  have d3' : decode c.code (pc + 3) = .ok (.dup, 1) := by rw [hb]; exact d3
  have d4' : decode c.code (pc + 4) = .ok (.ldc_w is, 3) := by rw [hb]; exact d4
  have hstr' : vk_R own is text sa s' := vk_R.warm hW0 hstr
  obtain ⟨U, hsteps, hrun, hend, hW, hsame, ce, hce, hO⟩ := X₁.ctorThrowS hexec htr (own := own) (cls := cls) (names := names) (ic := ic) hown' hcls hnames h (fun x hx => nomatch hx) hfX hkX hcellA (by rw [hhp, hT]; exact Nat.le_refl _) (msg := .ref sa) rfl
    (g := { method := m, pc := pc + 7, locals := ls, stack := .ref sa :: .ref T.heap.size :: .ref T.heap.size :: rest, locked := none }) rfl hsize rfl rfl (rest := rest) rfl
    (by rw [hb]; exact d7) (by rw [hb]; exact d10) hout hRframes (by simp only [List.map_cons, List.sum_cons, hcat]; omega) hlocks
  obtain ⟨f1, f2⟩ := vx_frame hsame
  rw [hhp] at f1 f2
  have hWs : s.WarmedH U.vm := State.WarmedH.trans hW0 hW
  have hcl : s.vm.findClass cls = some ce.cls := by
    have h9 := hO.cls
    rw [hvm] at h9
    exact h9
  have hall : s.sameButNew ({ U with vm := s.vm } : State) locs mc ms := by
    subst hA
    obtain ⟨e1, e2⟩ := hsame
    rw [State.setFrames_setFrames] at e1
    have h2 : (T.setVm s.vm).sameButNew ({ U with vm := s.vm } : State) [] (0 + 1) (0 + 6) := ⟨e1, e2⟩
    have h3 := X.same.trans h2
    rw [List.append_nil] at h3
    exact h3.mono hc hs
  refine ⟨U, ?_, .threw T.heap.size, hrun, hend, Or.inr ⟨T.heap.size, rfl, cls, ce, locs, hx U hWs.alike f1 (fun q hq => f2 q hq (fun z hz => nomatch hz)), hce, hO.vm, hcl, hWs, hall, hf⟩⟩
  refine st1 _ ?_
  show Steps p.tables e below (T1.setTop { method := m, pc := pc + 3, locals := ls, stack := .ref T.heap.size :: rest, locked := none }) _
  jvm_step X₁.here [X₁.here.top, hexec, d3', Value.category]
  exact X₁.ldcStringW hexec (own := own) (text := text) (index := is) (a := sa) hown' hstr'.1 hstr'.2
    (g := { method := m, pc := pc + 4, locals := ls, stack := .ref T.heap.size :: .ref T.heap.size :: rest, locked := none }) rfl d4' _ hsteps
end Ends
section Bodies
variable {l : Launch}
theorem vx_ofW {y : MethodName} {ws ws' : List Cond} {rm : Room} {Pc : Array Value → State → Prop} {Qc : Array Value → State → Outcome → State → Prop} {XC : String → State → State → Prop} {mc ms : Nat} {free : Addr → Prop} {cc : ByteArray} {maxL : Nat} {ret : Option FieldType}
    (hy : plainName y.cls = true) (hw : ws = Cond.code y cc maxL ret :: ws')
    (body : ∀ p e s m args below meth c s₁, BodyLoose p l y (headSpec ws rm) cc maxL ret e s m args below meth c s₁ → c.maxLocals = maxL → (∀ x ∈ c.exceptionTable.toList, False) → Pc args s →
      W p l e (headSpec ws rm).room s m args below meth c s.heap [] 0 0 (vx_MQ below Qc XC args s mc ms free) (entryFrame m args maxL)) : vx_Met l y ws rm Pc Qc XC mc ms free := by
  refine MetFree.of_bodyS (code := cc) (maxLocals := maxL) (ret := ret) hy ?_ ?_
  · intro args s m h hn
    obtain ⟨meth, c, h1, h2, h3, h4, h5, h6, -, -⟩ := Cond.code_spec hn (atoms_spec (ws := ws) h _ (by rw [hw]; exact List.mem_cons_self))
    exact ⟨meth, c, h1, h2, h3, h4, h5, h6⟩
  · intro p e s m args below meth c s₁ B hml hP _
    have hh0 : s₁.heap = s.heap := by rw [B.state]; rfl
    have ht : ∀ x ∈ c.exceptionTable.toList, False := by
      obtain ⟨meth9, c9, h1, h2, -, -, -, -, h7, -⟩ := Cond.code_spec B.named (atoms_spec (ws := ws) B.pre _ (by rw [hw]; exact List.mem_cons_self))
      cases Option.some.inj (h1.symm.trans B.method)
      cases Option.some.inj (h2.symm.trans (Stand.of_body B).code)
      intro x hx
      rw [Array.isEmpty_iff.mp h7] at hx
      cases hx
    obtain ⟨t, a1, o, b1, b2, b3⟩ := body p e s m args below meth c s₁ B hml ht hP s₁ hh0 (Stand.of_body B)
    exact ⟨t, o, a1, b1, b2, b3⟩
/-- the table of a body with handlers -/
theorem vx_table {p : Program} {x y : MethodName} {S : Spec} {cc bytes : ByteArray} {maxL maxL' : Nat} {ret ret' : Option FieldType} {e : Env} {s s₁ : State} {m : MethodId} {args : Array Value} {below : List Frame} {meth : Method} {c : Code} {hh : List (Nat × Nat × Nat × Nat)}
    (B : BodyLoose p l y S cc maxL ret e s m args below meth c s₁) (h : (Cond.codeWith y bytes maxL' ret' hh).before args s = true) : c.exceptionTable.toList = tableOf hh := by
  obtain ⟨m9, meth9, c9, hn9, h1, h2, -, -, h6, -⟩ := Cond.codeWith_spec h
  cases Option.some.inj (hn9.symm.trans B.named)
  cases Option.some.inj (h1.symm.trans B.method)
  cases Option.some.inj (h2.symm.trans (Stand.of_body B).code)
  rw [← h6, table_eq]
end Bodies
end VXA
/-! ===== END ===== -/
/-! ===== BEGIN a static call of a method with an exception table ===== -/
section VXS
variable {p : Program} {l : Launch} {e : Env} {R : Room} {s : State} {m : MethodId} {args : Array Value} {below : List Frame} {meth : Method} {c : Code} {T : State} {H : Heap} {locs : List Loc} {cells slots : Nat}
abbrev vx_CSW (R : Room) (s : State) (args : Array Value) (own : String) (index : Nat) (y : MethodName) (bytes : ByteArray) (maxL : Nat) (ret : Option FieldType) (hh : List (Nat × Nat × Nat × Nat)) (ws : List Cond) (rm : Room) (mc ms n : Nat) : Prop :=
  (rm.cells = mc ∧ rm.slots = ms ∧ rm.frames + 1 ≤ R.frames ∧ 8 + (maxL + 11) + rm.locals ≤ R.locals ∧ (∀ w ∈ ws, ∀ (a' : Array Value) (U : State), s.WarmedH U.vm → w.before a' U = true) ∧ Cond.codeWith y bytes maxL ret hh ∈ ws) ∧
  (Cond.codeWith y bytes maxL ret hh).before args s = true ∧ (Cond.initialized y.cls).before args s = true ∧ (y.cls ≠ "java/lang/invoke/MethodHandle" ∧ y.cls ≠ "java/lang/invoke/VarHandle") ∧
  (∀ sig, parseMethodDescriptor y.desc = some sig → n = sig.parameters.length) ∧ (Cond.methodLink own index y).before args s = true ∧ (Cond.static y).before args s = true
theorem vx_cwSW {own : String} {index maxL mc ms : Nat} {y : MethodName} {bytes : ByteArray} {ret : Option FieldType} {hh : List (Nat × Nat × Nat × Nat)} {Ts ws ws' : List Cond} {rm : Room} (n : Nat) (ht : ∀ w ∈ Ts, w.before args s = true) (hT : GoodIn Ts (va_wsS own index y ws)) (hw : ws = Cond.codeWith y bytes maxL ret hh :: ws') (hrc : rm.cells = mc) (hrs : rm.slots = ms)
    (hd : y.cls ≠ "java/lang/invoke/MethodHandle" ∧ y.cls ≠ "java/lang/invoke/VarHandle" ∧ (parseMethodDescriptor y.desc).map (fun d => d.parameters.length) = some n) (hR : rm.frames + 1 ≤ R.frames ∧ 8 + (maxL + 11) + rm.locals ≤ R.locals) :
    vx_CSW R s args own index y bytes maxL ret hh ws rm mc ms n := by
  have ok : ∀ w ∈ va_wsS own index y ws, w.before args s = true := fun w h => ht w (hT w h).1
  have hG : GoodIn Ts ws := fun w h => hT w (by unfold va_wsS; exact List.mem_append_right _ h)
  have hc : Cond.codeWith y bytes maxL ret hh ∈ ws := by rw [hw]; exact List.mem_cons_self
  refine ⟨⟨hrc, hrs, hR.1, hR.2, pay_in ht hG, hc⟩, ht _ (hG _ hc).1, ok _ (by simp [va_wsS]), ⟨hd.1, hd.2.1⟩, fun sig h => ?_, ok _ (by simp [va_wsS]), ok _ (by simp [va_wsS])⟩
  have h2 := hd.2.2
  rw [h] at h2
  exact (Option.some.inj h2).symm
theorem vx_callSW (X : Stand p l e R s m args below meth c T locs cells slots) (hexec : p.tables.exec = Jvm.exec) {own : String} {index : Nat} {y : MethodName} {bytes : ByteArray} {maxL : Nat} {ret : Option FieldType} {hh : List (Nat × Nat × Nat × Nat)}
    (hown : s.vm.findClass own = some m.cls) (hlink : (Cond.methodLink own index y).before args s = true) (hstat : (Cond.static y).before args s = true) (hinit : (Cond.initialized y.cls).before args s = true)
    (hcode : (Cond.codeWith y bytes maxL ret hh).before args s = true) (hy : y.cls ≠ "java/lang/invoke/MethodHandle" ∧ y.cls ≠ "java/lang/invoke/VarHandle")
    {W9 : Nat} {Pre : Pt → Array Value → Prop} {Post : Pt → Array Value → Option Value → Pt → Prop} (hK : Back l R p e below s args y 3 W9 Pre Post)
    {g : JFrame} (hg : g.method = m) (hsize : g.locals.size = c.maxLocals) {argsL rest : List Value} (hlen : ∀ sig, parseMethodDescriptor y.desc = some sig → argsL.length = sig.parameters.length)
    (hstack : g.stack = argsL.reverse ++ rest) (hW : 2 * g.monitorRoom + (rest.map fun v => v.category).sum ≤ W9) (hdg : decode c.code g.pc = .ok (.invokestatic index, 3))
    (hpre : ∀ vm₁, s.WarmedH vm₁ → Pre ⟨T.setVm vm₁, locs, cells, slots⟩ argsL.toArray) :
    ∃ (v : Option Value) (vm₁ : Vm) (B : Pt), s.WarmedH vm₁ ∧ Stand p l e R s m args below meth c B.U B.locs B.cells B.slots ∧ Post ⟨T.setVm vm₁, locs, cells, slots⟩ argsL.toArray v B ∧
      ∀ target, Steps p.tables e below (B.U.setTop { g with pc := g.pc + 3, stack := v.toList ++ rest }) target → Steps p.tables e below (T.setTop g) target := by
  obtain ⟨mk, methM, cM, hnamed, hmethM, -, -, -, -, -, -, hsigM⟩ := Cond.codeWith_spec hcode
  have hstatic : methM.isStatic = true := Cond.static_spec hnamed hmethM hstat
  obtain ⟨kP, hkP, -⟩ := className_of_methodNamed hnamed
  have hinitP : kP.init = .initialized := Cond.initialized_spec (findClass_of_methodNamed hnamed) hkP hinit
  obtain ⟨vm₁, X₁, hstep₁⟩ := X.invokestatic hexec hown hlink hnamed hmethM hstatic hkP hinitP hy (g := g) hg (argsL := argsL) (rest := rest) (hlen _ hsigM) hstack hdg
  obtain ⟨v, B, X', hpost, hsteps⟩ := hK m meth c ⟨T.setVm vm₁, locs, cells, slots⟩ { g with stack := rest } (.invokestatic index) mk argsL.toArray X₁ hg hsize hdg hW (X₁.named hnamed) (hpre vm₁ X₁.warmed)
  exact ⟨v, vm₁, B, X₁.warmed, X', hpost, fun target h => hstep₁ _ fun acts => by rw [doInvoke_state]; exact hsteps.trans h⟩
theorem vx_runSW {y : MethodName} {bytes cc : ByteArray} {maxL nL mc ms n index : Nat} {ret : Option FieldType} {hh : List (Nat × Nat × Nat × Nat)} {ws : List Cond} {rm : Room} {Pc : Array Value → State → Prop} {Qc : Array Value → State → Outcome → State → Prop} {free : Addr → Prop} {Ts : List Cond} {own : String} {As rest : List Value} {g : JFrame}
    (S : CallFix p m c cc nL s args Ts own) (hM : Met l y ws rm Pc Qc mc ms free) (cw : vx_CSW R s args own index y bytes maxL ret hh ws rm mc ms n) (hp : PreS s H Pc As)
    (hg : g.method = m) (hn : As.length = n) (hsize : g.locals.size = nL) (hstack : g.stack = As.reverse ++ rest) (hW : 2 * g.monitorRoom + (rest.map fun v => v.category).sum ≤ 8) (hdg : decode cc g.pc = .ok (.invokestatic index, 3)) (hf : cells + mc ≤ R.cells ∧ slots + ms ≤ R.slots) :
    va_Run p l e R s m args below meth c H locs cells slots mc ms g rest (Qc As.toArray) (free) := by
  obtain ⟨⟨hrc, hrs, hfr, hlo, hws, hcw⟩, hcode, hini, hy, hlen, hl, hstt⟩ := cw
  have hK : Back l R p e below s args y 3 8 (PreOf R mc ms Pc) (PostOf Qc mc ms free) := va_backW (hh := hh) (bytes := bytes) (maxL := maxL) (ret := ret) hM hp.1 hrc hrs hfr hlo hws hcw (fun a' U hW => word_at hW (Or.inl (by first | rfl | simp [Cond.onTables, Cond.keeps, Cond.steady])) hini)
  obtain ⟨hx, hb, hml, ho, -⟩ := S
  intro T hT X
  obtain ⟨v, vm₁, ⟨U', l2, c2, s2⟩, hW₁, X', ⟨g', mk, t, L, e1, e2, hq, h1, hL, h2, h3⟩, st⟩ := vx_callSW X hx (hh := hh) (bytes := bytes) (maxL := maxL) (ret := ret) ho hl hstt hini hcode hy hK hg (hsize.trans hml.symm) (argsL := As) (rest := rest) (fun sig h => hn.trans (hlen sig h)) hstack hW (by rw [hb]; exact hdg)
    (fun vm₁ hW₁ => ⟨hf.1, hf.2, hp.2 (T.setVm vm₁) hT hW₁⟩)
  dsimp only [Pt.U, Pt.locs, Pt.cells, Pt.slots] at X' e1 e2 h1 h2 h3 st
  subst h1; subst h2; subst h3
  exact ⟨v, (T.setVm vm₁).calling g' mk As.toArray, t, U', L, hT, X', hL, e1, e2, hq, st⟩
/-- not caught here, past rows that name other classes: it goes on to the caller -/
theorem vx_outP {p : Program} {l : Launch} {e : Env} {R : Room} {s : State} {m : MethodId} {args : Array Value} {below : List Frame} {meth : Method} {c : Code} {H : Heap} {locs : List Loc} {cells slots : Nat} {free : Addr → Prop} {ls : Array Slot} {rest : List Value} {Qc : Array Value → State → Outcome → State → Prop} {XC : String → State → State → Prop}
    {pc : Nat} {own E : String} {ce : Cell} {q : Addr} {mc ms : Nat} (hown : s.vm.findClass own = some m.cls) (hlocks : meth.locks = false)
    (hpass : ∀ z ∈ c.exceptionTable.toList, covers z pc = false ∨ (z.catchType ≠ 0 ∧ ∃ nm : String, (Cond.classLink own z.catchType nm).before args s = true ∧ va_Nc E nm s)) (hcell : H[q]? = some ce) (hv : ce.vm = .none) (hcl : s.vm.findClass E = some ce.cls)
    (hx : ∀ t : State, t.heap = H → s.vm.Alike t.vm → XC E s t) (hf : ∀ z ∈ locs, free z.base) (hc : cells ≤ mc) (hs : slots ≤ ms) :
    vx_W p l e R s m args below meth c H locs cells slots (vx_MQ below Qc XC args s mc ms free) (F0 m pc ls rest) q := by
  intro T hT X
  have hpl : e.platform.magicAccessors = ({} : Platform).magicAccessors := by rw [X.admits.platform]
  obtain ⟨vm', hW', X', st⟩ := X.outThrough hlocks q (g := F0 m pc ls rest) rfl rfl rfl (cell := ce) (by rw [hT]; exact hcell) (by rw [hv]; rfl)
    (by obtain ⟨k9, h9, -⟩ := Vm.findClass_spec hcl; exact ⟨k9, h9⟩) (fun z hz => by
      rcases hpass z hz with h | ⟨hz0, nm, hl1, hn1⟩
      · exact Or.inl h
      · obtain ⟨c6, hc6, hcl6⟩ := Cond.classLink_spec hown hl1 e.platform hpl
        obtain ⟨a8, b8, h1, h2, h3⟩ := hn1
        cases Option.some.inj (h1.symm.trans hcl)
        cases Option.some.inj (h2.symm.trans hc6)
        exact Or.inr ⟨hz0, _, hcl6, h3⟩)
  obtain ⟨g₀, hfr⟩ := X'.frames_eq
  have hcell9 : ((T.setVm vm').setFrames (.throwing q :: below)).heap[q]? = some ce := by
    show T.heap[q]? = some ce
    rw [hT]; exact hcell
  have hend : Ended ((T.setVm vm').setFrames (.throwing q :: below)) below (.threw q) := State.frames_setFrames _ (State.cur_lt_of_frames hfr)
  refine ⟨(T.setVm vm').setFrames (.throwing q :: below), ?_, .threw q, X'.here.running, hend, Or.inr ⟨q, rfl, E, ce, locs, hx _ hT (X'.ends _).1.alike, hcell9, hv, hcl, (X'.ends _).1, (X'.ends _).2.mono hc hs, hf⟩⟩
  rw [X.pushThrowing_eq]
  exact st
/-- a thing of a world lies in the heap -/
theorem vx_lt {D : va_G} {cl : List vw_C} {ws : va_W} {H1 : Heap} (h : va_P D cl ws H1) {k : Nat} {q : Nat × va_E} (hk : ws[k]? = some q) : q.1 < H1.size := (h k q hk).lt
end VXS
/-! ===== END ===== -/
/-! ===== BEGIN methods with a table of their own: called by a name, returning or throwing ===== -/
section VXH
/-! vx_backW, vx_callVX, vx_callSX, vx_callVW, vx_runVW, vx_runVX, vx_runSX, vx_ofWH follow the same proofs as their sisters above (Free/Laws.lean, Shelf42/LK1.lean); vx_outP calls Shelf42/NT130.lean (outThrough). -/
section
variable {l : Launch} {R : Room} {p : Program} {e : Env} {below : List Frame} {s : State} {sargs : Array Value} {y : MethodName} {len W9 : Nat}
theorem vx_backW {ws : List Cond} {rm : Room} {Pc : Array Value → State → Prop} {Qc : Array Value → State → Outcome → State → Prop} {XC : String → State → State → Prop} {mc ms : Nat} {free : Addr → Prop} {bytes : ByteArray} {maxL : Nat} {ret : Option FieldType} {hh : List (Nat × Nat × Nat × Nat)}
    (hM : vx_Met l y ws rm Pc Qc XC mc ms free) (hblind : FrameBlind Pc) (hrc : rm.cells = mc) (hrs : rm.slots = ms)
    (hframes : rm.frames + 1 ≤ R.frames) (hlocals : W9 + (maxL + 11) + rm.locals ≤ R.locals)
    (hws : ∀ w ∈ ws, ∀ a' U, s.WarmedH U.vm → w.before a' U = true) (hcode : Cond.codeWith y bytes maxL ret hh ∈ ws) (hinit : ∀ a' U, s.WarmedH U.vm → (Cond.initialized y.cls).before a' U = true) :
    vx_Back l R p e below s sargs y len W9 (PreOf R mc ms Pc) (PostOf Qc mc ms free) (vx_Post XC mc ms free) := by
  intro m meth c A g ig mk a X hg hsize hdg hW hn hp
  have h1 : (headSpec ws rm).pre.before a A.U = true := atoms_intro fun w hw => hws w hw _ _ X.warmed
  have h2 : (Cond.codeWith y bytes maxL ret hh).before a A.U = true := hws _ hcode _ _ X.warmed
  have h3 : (Cond.initialized y.cls).before a A.U = true := hinit _ _ X.warmed
  have h4 : A.cells + (headSpec ws rm).room.cells ≤ R.cells := by rw [show (headSpec ws rm).room.cells = mc from hrc]; exact hp.1
  have h5 : A.slots + (headSpec ws rm).room.slots ≤ R.slots := by rw [show (headSpec ws rm).room.slots = ms from hrs]; exact hp.2.1
  have hPc : Pc a (A.U.calling g mk a) := hblind _ _ _ _ hp.2.2
  obtain ⟨U, Ls, c0, s0⟩ := A
  dsimp only [Pt.U, Pt.locs, Pt.cells, Pt.slots] at h1 h2 h3 h4 h5 X hn hPc ⊢
  obtain ⟨m9, methY, cY, hn9, hmY, hcY, -, hlY, -⟩ := Cond.codeWith_spec h2
  cases Option.some.inj (hn9.symm.trans hn)
  obtain ⟨kY, hkY, -⟩ := className_of_methodNamed hn
  have hinitY : kY.init = .initialized := Cond.initialized_spec (findClass_of_methodNamed hn) hkY h3
  have h : At U g.method c below := by rw [hg]; exact X.here
  have hlocals9 : W9 + (maxL + 11) + (headSpec ws rm).room.locals ≤ R.locals := hlocals
  have happ : (headSpec ws rm).appliesLoose y e.platform (U.calling g mk a) = true :=
    Spec.appliesLoose_calling (g := g) h hdg hn hkY hinitY
      (X.room_calling (g := g) (R' := (headSpec ws rm).room) hsize hmY hcY hframes (by rw [hlY]; omega) h4 h5) h1
  obtain ⟨mid, hmid⟩ := h.above
  have hfr : (U.setTop g).frames = (.java g :: mid) ++ below := by rw [State.frames_setTop' g h.top, hmid]; rfl
  obtain ⟨o, s₂, hsteps, -, hend, hq⟩ := Steps.callFree hM p X.admits X.cas X.clock (acts := []) hfr happ hPc trivial
  have hq' : vx_Q Qc XC mc ms free a (U.calling g mk a) o s₂ := hq
  rw [State.frames_setTop' g h.top] at hend
  obtain ⟨g₀, hg0⟩ := Option.isSome_iff_exists.mp h.top
  obtain ⟨r, hr⟩ := State.topJava?_eq_some.mp hg0
  have hr' : (({ U with heap := s₂.heap, slotsUsed := s₂.slotsUsed } : State).setVm s₂.vm).frames = .java g₀ :: r := hr
  rcases hq' with ⟨hqc, L, hfe, hL⟩ | ⟨q, rfl, E, ce, L, hx, hce, hcv, hcl, hW₂, hsm, hL⟩
  · obtain ⟨⟨v, rfl⟩, hW₂, e2, q2, q3, q4, q5, q6⟩ := id hfe
    have e3 : s₂ = ({ (U.calling g mk a).setFrames s₂.frames with heap := s₂.heap, slotsUsed := s₂.slotsUsed } : State).setVm s₂.vm := by
      have : s₂ = ({ s₂ with vm := (U.calling g mk a).vm } : State).setVm s₂.vm := rfl
      rw [e2] at this
      exact this
    obtain ⟨c₂, i₂, len₂, hc₂, hd₂, hf₂⟩ := hend
    have hW' : U.WarmedH s₂.vm := hW₂
    have hcc : c₂ = c := by
      have h1 : s₂.code? g.method = U.code? g.method := by
        rw [State.code?_eq, State.code?_eq, hW'.alike.method?]
      exact Option.some.inj (hc₂.symm.trans (h1.trans h.code))
    subst hcc
    have hlen : len₂ = len := by rw [hdg] at hd₂; cases hd₂; rfl
    subst hlen
    have hs₂ : s₂ = (({ U with heap := s₂.heap, slotsUsed := s₂.slotsUsed } : State).setVm s₂.vm).setTop { g with pc := g.pc + len₂, stack := v.toList ++ g.stack } := by
      refine e3.trans ?_
      rw [hf₂, State.calling_eq h.top, State.setFrames_setFrames, State.setTop_of_frames _ hr', hr]
      rfl
    have hsame : U.sameButNew ({ U with heap := s₂.heap, slotsUsed := s₂.slotsUsed } : State) L mc ms := by
      refine ⟨?_, q2, q3, q4, q5, q6⟩
      obtain ⟨t, ht, -⟩ := State.frames_cons hr
      show ({ U with heap := s₂.heap, slotsUsed := s₂.slotsUsed } : State) = { U.setFrames U.frames with heap := s₂.heap, slotsUsed := s₂.slotsUsed }
      rw [State.setFrames_self ht]
    subst hg
    refine Or.inl ⟨v, ⟨(({ U with heap := s₂.heap, slotsUsed := s₂.slotsUsed } : State).setVm s₂.vm), Ls ++ L, c0 + mc, s0 + ms⟩,
      ⟨X.admits, X.cas, X.clock, X.frames, X.room, X.hears, X.method, X.code, (X.here.setHeapUsed s₂.heap s₂.slotsUsed).setVm hW'.alike, X.tail, State.WarmedH.trans X.warmed hW', X.limits, X.bytes, X.same.trans (hsame.setVm s.vm)⟩,
      ⟨g, mk, s₂, L, rfl, rfl, hqc, rfl, hL, rfl, rfl⟩, ?_⟩
    show Steps p.tables e below _ ((({ U with heap := s₂.heap, slotsUsed := s₂.slotsUsed } : State).setVm s₂.vm).setTop { g with pc := g.pc + len₂, stack := v.toList ++ g.stack })
    rw [← hs₂]
    exact hsteps
  · obtain ⟨e2, q2, q3, q4, q5, q6⟩ := id hsm
    have e3 : s₂ = ({ (U.calling g mk a).setFrames s₂.frames with heap := s₂.heap, slotsUsed := s₂.slotsUsed } : State).setVm s₂.vm := by
      have : s₂ = ({ s₂ with vm := (U.calling g mk a).vm } : State).setVm s₂.vm := rfl
      rw [e2] at this
      exact this
    have hf₂ : s₂.frames = .throwing q :: .java g :: U.frames.tail := hend
    have hW' : U.WarmedH s₂.vm := hW₂
    have hs₂ : s₂ = ((({ U with heap := s₂.heap, slotsUsed := s₂.slotsUsed } : State).setVm s₂.vm).setTop g).pushFrame (.throwing q) := by
      refine e3.trans ?_
      rw [hf₂, State.calling_eq h.top, State.setFrames_setFrames, State.pushFrame, State.frames_setTop _ hr', State.setTop_of_frames _ hr', State.setFrames_setFrames, hr]
      rfl
    have hsame : U.sameButNew ({ U with heap := s₂.heap, slotsUsed := s₂.slotsUsed } : State) L mc ms := by
      refine ⟨?_, q2, q3, q4, q5, q6⟩
      obtain ⟨t, ht, -⟩ := State.frames_cons hr
      show ({ U with heap := s₂.heap, slotsUsed := s₂.slotsUsed } : State) = { U.setFrames U.frames with heap := s₂.heap, slotsUsed := s₂.slotsUsed }
      rw [State.setFrames_self ht]
    subst hg
    refine Or.inr ⟨q, ⟨(({ U with heap := s₂.heap, slotsUsed := s₂.slotsUsed } : State).setVm s₂.vm), Ls ++ L, c0 + mc, s0 + ms⟩,
      ⟨X.admits, X.cas, X.clock, X.frames, X.room, X.hears, X.method, X.code, (X.here.setHeapUsed s₂.heap s₂.slotsUsed).setVm hW'.alike, X.tail, State.WarmedH.trans X.warmed hW', X.limits, X.bytes, X.same.trans (hsame.setVm s.vm)⟩,
      ⟨g, mk, s₂, L, E, ce, rfl, rfl, hx, hce, hcv, hcl, rfl, hL, rfl, rfl⟩, ?_⟩
    show Steps p.tables e below _ (((({ U with heap := s₂.heap, slotsUsed := s₂.slotsUsed } : State).setVm s₂.vm).setTop g).pushFrame (.throwing q))
    rw [← hs₂]
    exact hsteps
end
variable {p : Program} {l : Launch} {e : Env} {R : Room} {s : State} {m : MethodId} {args : Array Value} {below : List Frame} {meth : Method} {c : Code} {T : State} {H : Heap} {locs : List Loc} {cells slots : Nat}
theorem vx_callVX (X : Stand p l e R s m args below meth c T locs cells slots) (hexec : p.tables.exec = Jvm.exec) {own C : String} {index : Nat} {y : MethodName} {bytes : ByteArray} {maxL : Nat} {ret : Option FieldType} {hh : List (Nat × Nat × Nat × Nat)}
    (hown : s.vm.findClass own = some m.cls) (hlink : (Cond.methodLink own index y).before args s = true) (hinst : (Cond.instanceMethod y).before args s = true) (hsel : (Cond.selects C y y).before args s = true)
    (hcode : (Cond.codeWith y bytes maxL ret hh).before args s = true) (hy : y.cls ≠ "java/lang/invoke/MethodHandle" ∧ y.cls ≠ "java/lang/invoke/VarHandle")
    {W9 : Nat} {Pre : Pt → Array Value → Prop} {Post : Pt → Array Value → Option Value → Pt → Prop} {PostX : Pt → Array Value → Addr → Pt → Prop} (hK : vx_Back l R p e below s args y 3 W9 Pre Post PostX)
    {b : Addr} {cellB : Cell} (hcell : T.heap[b]? = some cellB) (hobj : cellB.vm.isStatics = false) (hcls : s.vm.findClass C = some cellB.cls)
    {g : JFrame} (hg : g.method = m) (hsize : g.locals.size = c.maxLocals) {argsL rest : List Value} (hlen : ∀ sig, parseMethodDescriptor y.desc = some sig → argsL.length = sig.parameters.length)
    (hstack : g.stack = argsL.reverse ++ .ref b :: rest) (hW : 2 * g.monitorRoom + (rest.map fun v => v.category).sum ≤ W9) (hdg : decode c.code g.pc = .ok (.invokevirtual index, 3))
    (hpre : ∀ vm₁, s.WarmedH vm₁ → Pre ⟨T.setVm vm₁, locs, cells, slots⟩ (Value.ref b :: argsL).toArray) :
    (∃ (v : Option Value) (vm₁ : Vm) (B : Pt), s.WarmedH vm₁ ∧ Stand p l e R s m args below meth c B.U B.locs B.cells B.slots ∧ Post ⟨T.setVm vm₁, locs, cells, slots⟩ (Value.ref b :: argsL).toArray v B ∧
      ∀ target, Steps p.tables e below (B.U.setTop { g with pc := g.pc + 3, stack := v.toList ++ rest }) target → Steps p.tables e below (T.setTop g) target) ∨
    (∃ (q : Addr) (vm₁ : Vm) (B : Pt), s.WarmedH vm₁ ∧ Stand p l e R s m args below meth c B.U B.locs B.cells B.slots ∧ PostX ⟨T.setVm vm₁, locs, cells, slots⟩ (Value.ref b :: argsL).toArray q B ∧
      Steps p.tables e below (T.setTop g) ((B.U.setTop { g with stack := rest }).pushFrame (.throwing q))) := by
  obtain ⟨mk, methM, hnamed, hmethM, hstM, habM⟩ := Cond.instanceMethod_spec hinst
  obtain ⟨m8, methM', cM, hn8, hmethM', -, -, -, -, -, -, hsigM⟩ := Cond.codeWith_spec hcode
  cases Option.some.inj (hn8.symm.trans hnamed)
  cases hmethM.symm.trans hmethM'
  obtain ⟨c2, r2, m2, q1, q2, q3, q4, kP, hkP, hkPi⟩ := Cond.selects_spec hsel
  cases hcls.symm.trans q1
  cases (State.methodFound?_of_named hnamed hy).symm.trans q2
  cases hnamed.symm.trans q3
  have hselP : selectMethod e.platform s.vm cellB.cls mk = .method mk := by rw [Launch.admits_selectMethod X.admits]; exact q4
  obtain ⟨vm₁, X₁, hstep₁⟩ := X.invokevirtual hexec hown hlink hnamed hmethM hstM hkP hkPi hy (a := b) (cell := cellB) hcell
    (fun z h => by rw [h] at hobj; cases hobj) hselP hmethM habM hkP hkPi (g := g) hg (argsL := argsL) (rest := rest) (hlen _ hsigM) hstack hdg
  rcases hK m meth c ⟨T.setVm vm₁, locs, cells, slots⟩ { g with stack := rest } (.invokevirtual index) mk (Value.ref b :: argsL).toArray X₁ hg hsize hdg hW (X₁.named hnamed) (hpre vm₁ X₁.warmed) with ⟨v, B, X', hpost, hsteps⟩ | ⟨q, B, X', hpost, hsteps⟩
  · exact Or.inl ⟨v, vm₁, B, X₁.warmed, X', hpost, fun target h => hstep₁ _ fun acts => by rw [doInvoke_state]; exact hsteps.trans h⟩
  · exact Or.inr ⟨q, vm₁, B, X₁.warmed, X', hpost, hstep₁ _ fun acts => by rw [doInvoke_state]; exact hsteps⟩
theorem vx_callSX (X : Stand p l e R s m args below meth c T locs cells slots) (hexec : p.tables.exec = Jvm.exec) {own : String} {index : Nat} {y : MethodName} {bytes : ByteArray} {maxL : Nat} {ret : Option FieldType} {hh : List (Nat × Nat × Nat × Nat)}
    (hown : s.vm.findClass own = some m.cls) (hlink : (Cond.methodLink own index y).before args s = true) (hstat : (Cond.static y).before args s = true) (hinit : (Cond.initialized y.cls).before args s = true)
    (hcode : (Cond.codeWith y bytes maxL ret hh).before args s = true) (hy : y.cls ≠ "java/lang/invoke/MethodHandle" ∧ y.cls ≠ "java/lang/invoke/VarHandle")
    {W9 : Nat} {Pre : Pt → Array Value → Prop} {Post : Pt → Array Value → Option Value → Pt → Prop} {PostX : Pt → Array Value → Addr → Pt → Prop} (hK : vx_Back l R p e below s args y 3 W9 Pre Post PostX)
    {g : JFrame} (hg : g.method = m) (hsize : g.locals.size = c.maxLocals) {argsL rest : List Value} (hlen : ∀ sig, parseMethodDescriptor y.desc = some sig → argsL.length = sig.parameters.length)
    (hstack : g.stack = argsL.reverse ++ rest) (hW : 2 * g.monitorRoom + (rest.map fun v => v.category).sum ≤ W9) (hdg : decode c.code g.pc = .ok (.invokestatic index, 3))
    (hpre : ∀ vm₁, s.WarmedH vm₁ → Pre ⟨T.setVm vm₁, locs, cells, slots⟩ argsL.toArray) :
    (∃ (v : Option Value) (vm₁ : Vm) (B : Pt), s.WarmedH vm₁ ∧ Stand p l e R s m args below meth c B.U B.locs B.cells B.slots ∧ Post ⟨T.setVm vm₁, locs, cells, slots⟩ argsL.toArray v B ∧
      ∀ target, Steps p.tables e below (B.U.setTop { g with pc := g.pc + 3, stack := v.toList ++ rest }) target → Steps p.tables e below (T.setTop g) target) ∨
    (∃ (q : Addr) (vm₁ : Vm) (B : Pt), s.WarmedH vm₁ ∧ Stand p l e R s m args below meth c B.U B.locs B.cells B.slots ∧ PostX ⟨T.setVm vm₁, locs, cells, slots⟩ argsL.toArray q B ∧
      Steps p.tables e below (T.setTop g) ((B.U.setTop { g with stack := rest }).pushFrame (.throwing q))) := by
  obtain ⟨mk, methM, cM, hnamed, hmethM, -, -, -, -, -, -, hsigM⟩ := Cond.codeWith_spec hcode
  have hstatic : methM.isStatic = true := Cond.static_spec hnamed hmethM hstat
  obtain ⟨kP, hkP, -⟩ := className_of_methodNamed hnamed
  have hinitP : kP.init = .initialized := Cond.initialized_spec (findClass_of_methodNamed hnamed) hkP hinit
  obtain ⟨vm₁, X₁, hstep₁⟩ := X.invokestatic hexec hown hlink hnamed hmethM hstatic hkP hinitP hy (g := g) hg (argsL := argsL) (rest := rest) (hlen _ hsigM) hstack hdg
  rcases hK m meth c ⟨T.setVm vm₁, locs, cells, slots⟩ { g with stack := rest } (.invokestatic index) mk argsL.toArray X₁ hg hsize hdg hW (X₁.named hnamed) (hpre vm₁ X₁.warmed) with ⟨v, B, X', hpost, hsteps⟩ | ⟨q, B, X', hpost, hsteps⟩
  · exact Or.inl ⟨v, vm₁, B, X₁.warmed, X', hpost, fun target h => hstep₁ _ fun acts => by rw [doInvoke_state]; exact hsteps.trans h⟩
  · exact Or.inr ⟨q, vm₁, B, X₁.warmed, X', hpost, hstep₁ _ fun acts => by rw [doInvoke_state]; exact hsteps⟩
theorem vx_callVW (X : Stand p l e R s m args below meth c T locs cells slots) (hexec : p.tables.exec = Jvm.exec) {own C : String} {index : Nat} {y : MethodName} {bytes : ByteArray} {maxL : Nat} {ret : Option FieldType} {hh : List (Nat × Nat × Nat × Nat)}
    (hown : s.vm.findClass own = some m.cls) (hlink : (Cond.methodLink own index y).before args s = true) (hinst : (Cond.instanceMethod y).before args s = true) (hsel : (Cond.selects C y y).before args s = true)
    (hcode : (Cond.codeWith y bytes maxL ret hh).before args s = true) (hy : y.cls ≠ "java/lang/invoke/MethodHandle" ∧ y.cls ≠ "java/lang/invoke/VarHandle")
    {W9 : Nat} {Pre : Pt → Array Value → Prop} {Post : Pt → Array Value → Option Value → Pt → Prop} (hK : Back l R p e below s args y 3 W9 Pre Post)
    {b : Addr} {cellB : Cell} (hcell : T.heap[b]? = some cellB) (hobj : cellB.vm.isStatics = false) (hcls : s.vm.findClass C = some cellB.cls)
    {g : JFrame} (hg : g.method = m) (hsize : g.locals.size = c.maxLocals) {argsL rest : List Value} (hlen : ∀ sig, parseMethodDescriptor y.desc = some sig → argsL.length = sig.parameters.length)
    (hstack : g.stack = argsL.reverse ++ .ref b :: rest) (hW : 2 * g.monitorRoom + (rest.map fun v => v.category).sum ≤ W9) (hdg : decode c.code g.pc = .ok (.invokevirtual index, 3))
    (hpre : ∀ vm₁, s.WarmedH vm₁ → Pre ⟨T.setVm vm₁, locs, cells, slots⟩ (Value.ref b :: argsL).toArray) :
    ∃ (v : Option Value) (vm₁ : Vm) (B : Pt), s.WarmedH vm₁ ∧ Stand p l e R s m args below meth c B.U B.locs B.cells B.slots ∧ Post ⟨T.setVm vm₁, locs, cells, slots⟩ (Value.ref b :: argsL).toArray v B ∧
      ∀ target, Steps p.tables e below (B.U.setTop { g with pc := g.pc + 3, stack := v.toList ++ rest }) target → Steps p.tables e below (T.setTop g) target := by
  obtain ⟨mk, methM, hnamed, hmethM, hstM, habM⟩ := Cond.instanceMethod_spec hinst
  obtain ⟨m8, methM', cM, hn8, hmethM', -, -, -, -, -, -, hsigM⟩ := Cond.codeWith_spec hcode
  cases Option.some.inj (hn8.symm.trans hnamed)
  cases hmethM.symm.trans hmethM'
  obtain ⟨c2, r2, m2, q1, q2, q3, q4, kP, hkP, hkPi⟩ := Cond.selects_spec hsel
  cases hcls.symm.trans q1
  cases (State.methodFound?_of_named hnamed hy).symm.trans q2
  cases hnamed.symm.trans q3
  have hselP : selectMethod e.platform s.vm cellB.cls mk = .method mk := by rw [Launch.admits_selectMethod X.admits]; exact q4
  obtain ⟨vm₁, X₁, hstep₁⟩ := X.invokevirtual hexec hown hlink hnamed hmethM hstM hkP hkPi hy (a := b) (cell := cellB) hcell
    (fun z h => by rw [h] at hobj; cases hobj) hselP hmethM habM hkP hkPi (g := g) hg (argsL := argsL) (rest := rest) (hlen _ hsigM) hstack hdg
  obtain ⟨v, B, X', hpost, hsteps⟩ := hK m meth c ⟨T.setVm vm₁, locs, cells, slots⟩ { g with stack := rest } (.invokevirtual index) mk (Value.ref b :: argsL).toArray X₁ hg hsize hdg hW (X₁.named hnamed) (hpre vm₁ X₁.warmed)
  exact ⟨v, vm₁, B, X₁.warmed, X', hpost, fun target h => hstep₁ _ fun acts => by rw [doInvoke_state]; exact hsteps.trans h⟩
abbrev vx_CVW (R : Room) (s : State) (args : Array Value) (own C : String) (index : Nat) (y : MethodName) (bytes : ByteArray) (maxL : Nat) (ret : Option FieldType) (hh : List (Nat × Nat × Nat × Nat)) (ws : List Cond) (rm : Room) (mc ms n : Nat) : Prop :=
  (rm.cells = mc ∧ rm.slots = ms ∧ rm.frames + 1 ≤ R.frames ∧ 8 + (maxL + 11) + rm.locals ≤ R.locals ∧ (∀ w ∈ ws, ∀ (a' : Array Value) (U : State), s.WarmedH U.vm → w.before a' U = true) ∧ Cond.codeWith y bytes maxL ret hh ∈ ws) ∧
  (Cond.codeWith y bytes maxL ret hh).before args s = true ∧ (Cond.initialized y.cls).before args s = true ∧ (y.cls ≠ "java/lang/invoke/MethodHandle" ∧ y.cls ≠ "java/lang/invoke/VarHandle") ∧
  (∀ sig, parseMethodDescriptor y.desc = some sig → n = sig.parameters.length) ∧ (Cond.methodLink own index y).before args s = true ∧ (Cond.instanceMethod y).before args s = true ∧ (Cond.selects C y y).before args s = true
theorem vx_cwVW {own C : String} {index maxL mc ms : Nat} {y : MethodName} {bytes : ByteArray} {ret : Option FieldType} {hh : List (Nat × Nat × Nat × Nat)} {Ts ws ws' : List Cond} {rm : Room} (n : Nat) (ht : ∀ w ∈ Ts, w.before args s = true) (hT : GoodIn Ts (wsV own index C y ws)) (hw : ws = Cond.codeWith y bytes maxL ret hh :: ws') (hrc : rm.cells = mc) (hrs : rm.slots = ms)
    (hd : y.cls = C ∧ y.cls ≠ "java/lang/invoke/MethodHandle" ∧ y.cls ≠ "java/lang/invoke/VarHandle" ∧ (parseMethodDescriptor y.desc).map (fun d => d.parameters.length) = some n) (hR : rm.frames + 1 ≤ R.frames ∧ 8 + (maxL + 11) + rm.locals ≤ R.locals) :
    vx_CVW R s args own C index y bytes maxL ret hh ws rm mc ms n := by
  obtain ⟨hC, hd⟩ := hd
  subst hC
  have ok : ∀ w ∈ wsV own index y.cls y ws, w.before args s = true := fun w h => ht w (hT w h).1
  have hG : GoodIn Ts ws := fun w h => hT w (by unfold wsV; exact List.mem_append_right _ h)
  have hc : Cond.codeWith y bytes maxL ret hh ∈ ws := by rw [hw]; exact List.mem_cons_self
  refine ⟨⟨hrc, hrs, hR.1, hR.2, pay_in ht hG, hc⟩, ht _ (hG _ hc).1, ok _ (by simp [wsV]), ⟨hd.1, hd.2.1⟩, fun sig h => ?_, ok _ (by simp [wsV]), ok _ (by simp [wsV]), ok _ (by simp [wsV])⟩
  have h2 := hd.2.2
  rw [h] at h2
  exact (Option.some.inj h2).symm
theorem vx_runVW {y : MethodName} {bytes cc : ByteArray} {maxL nL mc ms n index : Nat} {ret : Option FieldType} {hh : List (Nat × Nat × Nat × Nat)} {ws : List Cond} {rm : Room} {Pc : Array Value → State → Prop} {Qc : Array Value → State → Outcome → State → Prop} {free : Addr → Prop} {Ts : List Cond} {own C : String} {b : Addr} {As rest : List Value} {g : JFrame}
    (S : CallFix p m c cc nL s args Ts own) (hM : Met l y ws rm Pc Qc mc ms free) (cw : vx_CVW R s args own C index y bytes maxL ret hh ws rm mc ms n) (hp : PreV s H C b Pc As)
    (hg : g.method = m) (hn : As.length = n) (hsize : g.locals.size = nL) (hstack : g.stack = As.reverse ++ .ref b :: rest) (hW : 2 * g.monitorRoom + (rest.map fun v => v.category).sum ≤ 8) (hdg : decode cc g.pc = .ok (.invokevirtual index, 3)) (hf : cells + mc ≤ R.cells ∧ slots + ms ≤ R.slots) :
    va_Run p l e R s m args below meth c H locs cells slots mc ms g rest (Qc (Value.ref b :: As).toArray) free := by
  obtain ⟨⟨hrc, hrs, hfr, hlo, hws, hcw⟩, hcode, hini, hy, hlen, hl, hin, hse⟩ := cw
  have hK : Back l R p e below s args y 3 8 (PreOf R mc ms Pc) (PostOf Qc mc ms free) := va_backW (hh := hh) (bytes := bytes) (maxL := maxL) (ret := ret) hM hp.1 hrc hrs hfr hlo hws hcw (fun a' U hW => word_at hW (Or.inl (by first | rfl | simp [Cond.onTables, Cond.keeps, Cond.steady])) hini)
  obtain ⟨hx, hb, hml, ho, -⟩ := S
  obtain ⟨-, ⟨cellB, hcB, hoB, hclB⟩, hPc⟩ := hp
  intro T hT X
  obtain ⟨v, vm₁, ⟨U', l2, c2, s2⟩, hW₁, X', ⟨g', mk, t, L, e1, e2, hq, h1, hL, h2, h3⟩, st⟩ := vx_callVW X hx (C := C) (hh := hh) (bytes := bytes) (maxL := maxL) (ret := ret) ho hl hin hse hcode hy hK (by rw [hT]; exact hcB) hoB hclB hg (hsize.trans hml.symm) (argsL := As) (rest := rest) (fun sig h => hn.trans (hlen sig h)) hstack hW (by rw [hb]; exact hdg)
    (fun vm₁ hW₁ => ⟨hf.1, hf.2, hPc (T.setVm vm₁) hT hW₁⟩)
  dsimp only [Pt.U, Pt.locs, Pt.cells, Pt.slots] at X' e1 e2 h1 h2 h3 st
  subst h1; subst h2; subst h3
  exact ⟨v, (T.setVm vm₁).calling g' mk (Value.ref b :: As).toArray, t, U', L, hT, X', hL, e1, e2, hq, st⟩
section
variable {y : MethodName} {bytes cc : ByteArray} {maxL nL mc ms n index : Nat} {ret : Option FieldType} {ws : List Cond} {rm : Room} {Pc : Array Value → State → Prop} {Qc : Array Value → State → Outcome → State → Prop} {XC : String → State → State → Prop} {free : Addr → Prop} {Ts : List Cond} {own C : String} {b : Addr} {As rest : List Value} {g : JFrame}
theorem vx_runVX {hh : List (Nat × Nat × Nat × Nat)} (S : CallFix p m c cc nL s args Ts own) (hM : vx_Met l y ws rm Pc Qc XC mc ms free) (cw : vx_CVW R s args own C index y bytes maxL ret hh ws rm mc ms n) (hp : PreV s H C b Pc As)
    (hg : g.method = m) (hn : As.length = n) (hsize : g.locals.size = nL) (hstack : g.stack = As.reverse ++ .ref b :: rest) (hW : 2 * g.monitorRoom + (rest.map fun v => v.category).sum ≤ 8) (hdg : decode cc g.pc = .ok (.invokevirtual index, 3)) (hf : cells + mc ≤ R.cells ∧ slots + ms ≤ R.slots) :
    vx_Run p l e R s m args below meth c H locs cells slots mc ms g rest (Qc (Value.ref b :: As).toArray) XC free := by
  obtain ⟨⟨hrc, hrs, hfr, hlo, hws, hcw⟩, hcode, hini, hy, hlen, hl, hin, hse⟩ := cw
  have hK : vx_Back l R p e below s args y 3 8 (PreOf R mc ms Pc) (PostOf Qc mc ms free) (vx_Post XC mc ms free) := vx_backW (hh := hh) (bytes := bytes) (maxL := maxL) (ret := ret) hM hp.1 hrc hrs hfr hlo hws hcw (fun a' U hW => word_at hW (Or.inl (by first | rfl | simp [Cond.onTables, Cond.keeps, Cond.steady])) hini)
  obtain ⟨hx, hb, hml, ho, -⟩ := S
  obtain ⟨-, ⟨cellB, hcB, hoB, hclB⟩, hPc⟩ := hp
  intro T hT X
  rcases vx_callVX X hx (C := C) (hh := hh) (bytes := bytes) (maxL := maxL) (ret := ret) ho hl hin hse hcode hy hK (by rw [hT]; exact hcB) hoB hclB hg (hsize.trans hml.symm) (argsL := As) (rest := rest) (fun sig h => hn.trans (hlen sig h)) hstack hW (by rw [hb]; exact hdg)
    (fun vm₁ hW₁ => ⟨hf.1, hf.2, hPc (T.setVm vm₁) hT hW₁⟩) with ⟨v, vm₁, ⟨U', l2, c2, s2⟩, hW₁, X', ⟨g', mk, t, L, e1, e2, hq, h1, hL, h2, h3⟩, st⟩ | ⟨q, vm₁, ⟨U', l2, c2, s2⟩, hW₁, X', ⟨g', mk, t, L, E, ce, e1, e2, hq, hce, hcv, hcl, h1, hL, h2, h3⟩, st⟩
  · dsimp only [Pt.U, Pt.locs, Pt.cells, Pt.slots] at X' e1 e2 h1 h2 h3 st
    subst h1; subst h2; subst h3
    exact Or.inl ⟨v, (T.setVm vm₁).calling g' mk (Value.ref b :: As).toArray, t, U', L, hT, X', hL, e1, e2, hq, st⟩
  · dsimp only [Pt.U, Pt.locs, Pt.cells, Pt.slots] at X' e1 e2 h1 h2 h3 st hcl
    subst h1; subst h2; subst h3
    exact Or.inr ⟨q, (T.setVm vm₁).calling g' mk (Value.ref b :: As).toArray, t, U', L, E, ce, hT, X', hL, e1, e2, hq, hce, hcv, vx_cls hW₁ hcl, st⟩
theorem vx_runSX {hh : List (Nat × Nat × Nat × Nat)} (S : CallFix p m c cc nL s args Ts own) (hM : vx_Met l y ws rm Pc Qc XC mc ms free) (cw : vx_CSW R s args own index y bytes maxL ret hh ws rm mc ms n) (hp : PreS s H Pc As)
    (hg : g.method = m) (hn : As.length = n) (hsize : g.locals.size = nL) (hstack : g.stack = As.reverse ++ rest) (hW : 2 * g.monitorRoom + (rest.map fun v => v.category).sum ≤ 8) (hdg : decode cc g.pc = .ok (.invokestatic index, 3)) (hf : cells + mc ≤ R.cells ∧ slots + ms ≤ R.slots) :
    vx_Run p l e R s m args below meth c H locs cells slots mc ms g rest (Qc As.toArray) XC free := by
  obtain ⟨⟨hrc, hrs, hfr, hlo, hws, hcw⟩, hcode, hini, hy, hlen, hl, hstt⟩ := cw
  have hK : vx_Back l R p e below s args y 3 8 (PreOf R mc ms Pc) (PostOf Qc mc ms free) (vx_Post XC mc ms free) := vx_backW (hh := hh) (bytes := bytes) (maxL := maxL) (ret := ret) hM hp.1 hrc hrs hfr hlo hws hcw (fun a' U hW => word_at hW (Or.inl (by first | rfl | simp [Cond.onTables, Cond.keeps, Cond.steady])) hini)
  obtain ⟨hx, hb, hml, ho, -⟩ := S
  intro T hT X
  rcases vx_callSX X hx (hh := hh) (bytes := bytes) (maxL := maxL) (ret := ret) ho hl hstt hini hcode hy hK hg (hsize.trans hml.symm) (argsL := As) (rest := rest) (fun sig h => hn.trans (hlen sig h)) hstack hW (by rw [hb]; exact hdg)
    (fun vm₁ hW₁ => ⟨hf.1, hf.2, hp.2 (T.setVm vm₁) hT hW₁⟩) with ⟨v, vm₁, ⟨U', l2, c2, s2⟩, hW₁, X', ⟨g', mk, t, L, e1, e2, hq, h1, hL, h2, h3⟩, st⟩ | ⟨q, vm₁, ⟨U', l2, c2, s2⟩, hW₁, X', ⟨g', mk, t, L, E, ce, e1, e2, hq, hce, hcv, hcl, h1, hL, h2, h3⟩, st⟩
  · dsimp only [Pt.U, Pt.locs, Pt.cells, Pt.slots] at X' e1 e2 h1 h2 h3 st
    subst h1; subst h2; subst h3
    exact Or.inl ⟨v, (T.setVm vm₁).calling g' mk As.toArray, t, U', L, hT, X', hL, e1, e2, hq, st⟩
  · dsimp only [Pt.U, Pt.locs, Pt.cells, Pt.slots] at X' e1 e2 h1 h2 h3 st hcl
    subst h1; subst h2; subst h3
    exact Or.inr ⟨q, (T.setVm vm₁).calling g' mk As.toArray, t, U', L, E, ce, hT, X', hL, e1, e2, hq, hce, hcv, vx_cls hW₁ hcl, st⟩
end
end VXH
theorem vx_ofWH {l : Launch} {y : MethodName} {ws ws' : List Cond} {rm : Room} {Pc : Array Value → State → Prop} {Qc : Array Value → State → Outcome → State → Prop} {XC : String → State → State → Prop} {mc ms : Nat} {free : Addr → Prop} {cc : ByteArray} {maxL : Nat} {ret : Option FieldType} {hh : List (Nat × Nat × Nat × Nat)}
    (hy : plainName y.cls = true) (hw : ws = Cond.codeWith y cc maxL ret hh :: ws')
    (body : ∀ p e s m args below meth c s₁, BodyLoose p l y (headSpec ws rm) cc maxL ret e s m args below meth c s₁ → c.maxLocals = maxL → Pc args s →
      W p l e (headSpec ws rm).room s m args below meth c s.heap [] 0 0 (vx_MQ below Qc XC args s mc ms free) (entryFrame m args maxL)) : vx_Met l y ws rm Pc Qc XC mc ms free := by
  refine MetFree.of_bodyS (code := cc) (maxLocals := maxL) (ret := ret) hy ?_ ?_
  · intro args s m h hn
    obtain ⟨m9, meth, c, hn9, h1, h2, h3, h4, -, h5, h6, -⟩ := Cond.codeWith_spec (atoms_spec (ws := ws) h _ (by rw [hw]; exact List.mem_cons_self))
    cases hn.symm.trans hn9
    exact ⟨meth, c, h1, h2, h3, h4, h5, h6⟩
  · intro p e s m args below meth c s₁ B hml hP _
    have hh0 : s₁.heap = s.heap := by rw [B.state]; rfl
    obtain ⟨t, a1, o, b1, b2, b3⟩ := body p e s m args below meth c s₁ B hml hP s₁ hh0 (Stand.of_body B)
    exact ⟨t, o, a1, b1, b2, b3⟩
/-! ===== END ===== -/
end
section
def RX0 : String := "TideTable$Follow"
def TX0 : u_T := fun k => match k with
  | 0 => ("TideTable$Follow", "shift", "I", false)
  | _ => ("TideTable$Follow", "factor", "I", false)
def tyX0 : Nat → FieldType := fun k => match k with
  | 0 => .int
  | _ => .int
theorem nmX0 : ∀ a, a < 2 → ∀ b, b < 2 → a ≠ b → (TX0 a).2.1 ≠ (TX0 b).2.1 := by decide +kernel
theorem tyX0_ok : ∀ k, k < 2 → parseFieldDescriptor (TX0 k).2.2.1 = some (tyX0 k) := by decide +kernel
abbrev cX0_init : ByteArray := prog_2_method_1_code
def yX0_init : MethodName := ⟨RX0, "<init>", "()V"⟩
def RX1 : String := "TideTable$Port"
def TX1 : u_T := fun k => match k with
  | 0 => ("TideTable$Port", "highs", "LTideTable$Follow;", true)
  | 1 => ("TideTable$Port", "lows", "LTideTable$Follow;", true)
  | _ => ("TideTable$Port", "addition", "I", false)
def tyX1 : Nat → FieldType := fun k => match k with
  | 0 => .object "TideTable$Follow"
  | 1 => .object "TideTable$Follow"
  | _ => .int
theorem nmX1 : ∀ a, a < 3 → ∀ b, b < 3 → a ≠ b → (TX1 a).2.1 ≠ (TX1 b).2.1 := by decide +kernel
theorem tyX1_ok : ∀ k, k < 3 → parseFieldDescriptor (TX1 k).2.2.1 = some (tyX1 k) := by decide +kernel
abbrev cX1_init : ByteArray := prog_3_method_1_code
def yX1_init : MethodName := ⟨RX1, "<init>", "()V"⟩
abbrev cX1_followOf : ByteArray := prog_3_method_2_code
def yX1_followOf : MethodName := ⟨RX1, "followOf", "(Z)LTideTable$Follow;"⟩
abbrev cX1_timeOf : ByteArray := prog_3_method_3_code
def yX1_timeOf : MethodName := ⟨RX1, "timeOf", "(LTideTable$Table;I)I"⟩
abbrev cX1_heightOf : ByteArray := prog_3_method_4_code
def yX1_heightOf : MethodName := ⟨RX1, "heightOf", "(LTideTable$Table;I)I"⟩
abbrev cX1_isOrderly : ByteArray := prog_3_method_5_code
def yX1_isOrderly : MethodName := ⟨RX1, "isOrderly", "(LTideTable$Table;)Z"⟩
abbrev cX1_latestWater : ByteArray := prog_3_method_6_code
def yX1_latestWater : MethodName := ⟨RX1, "latestWater", "(LTideTable$Table;II)I"⟩
abbrev cX1_heightBehind : ByteArray := prog_3_method_7_code
def yX1_heightBehind : MethodName := ⟨RX1, "heightBehind", "(LTideTable$Table;II)I"⟩
abbrev cX1_twelfthsGone : ByteArray := prog_3_method_8_code
def yX1_twelfthsGone : MethodName := ⟨RX1, "twelfthsGone", "(JJ)J"⟩
def RX2 : String := "TideTable$Reading"
def TX2 : u_T := fun k => match k with
  | 0 => ("TideTable$Reading", "time", "I", true)
  | _ => ("TideTable$Reading", "height", "I", true)
def tyX2 : Nat → FieldType := fun k => match k with
  | 0 => .int
  | _ => .int
theorem nmX2 : ∀ a, a < 2 → ∀ b, b < 2 → a ≠ b → (TX2 a).2.1 ≠ (TX2 b).2.1 := by decide +kernel
theorem tyX2_ok : ∀ k, k < 2 → parseFieldDescriptor (TX2 k).2.2.1 = some (tyX2 k) := by decide +kernel
abbrev cX2_init : ByteArray := prog_4_method_1_code
def yX2_init : MethodName := ⟨RX2, "<init>", "(II)V"⟩
def RX3 : String := "TideTable$Table"
def TX3 : u_T := fun k => match k with
  | 0 => ("TideTable$Table", "heights", "[I", true)
  | 1 => ("TideTable$Table", "waterTimes", "[I", true)
  | 2 => ("TideTable$Table", "waterHeights", "[I", true)
  | 3 => ("TideTable$Table", "waterHighs", "[Z", true)
  | _ => ("TideTable$Table", "waters", "I", false)
def tyX3 : Nat → FieldType := fun k => match k with
  | 0 => .array .int
  | 1 => .array .int
  | 2 => .array .int
  | 3 => .array .boolean
  | _ => .int
theorem nmX3 : ∀ a, a < 5 → ∀ b, b < 5 → a ≠ b → (TX3 a).2.1 ≠ (TX3 b).2.1 := by decide +kernel
theorem tyX3_ok : ∀ k, k < 5 → parseFieldDescriptor (TX3 k).2.2.1 = some (tyX3 k) := by decide +kernel
abbrev cX3_init : ByteArray := prog_5_method_1_code
def yX3_init : MethodName := ⟨RX3, "<init>", "()V"⟩
abbrev cX3_fill : ByteArray := prog_5_method_2_code
def yX3_fill : MethodName := ⟨RX3, "fill", "(LTideTable$Tide;)V"⟩
abbrev cX3_findWaters : ByteArray := prog_5_method_3_code
def yX3_findWaters : MethodName := ⟨RX3, "findWaters", "()V"⟩
abbrev cX3_noteWater : ByteArray := prog_5_method_4_code
def yX3_noteWater : MethodName := ⟨RX3, "noteWater", "(IIZ)V"⟩
abbrev cX3_hasWater : ByteArray := prog_5_method_5_code
def yX3_hasWater : MethodName := ⟨RX3, "hasWater", "(I)Z"⟩
abbrev cX3_isBetweenWaters : ByteArray := prog_5_method_6_code
def yX3_isBetweenWaters : MethodName := ⟨RX3, "isBetweenWaters", "(I)Z"⟩
abbrev cX3_heightAt : ByteArray := prog_5_method_7_code
def yX3_heightAt : MethodName := ⟨RX3, "heightAt", "(I)I"⟩
abbrev cX3_timeOf : ByteArray := prog_5_method_8_code
def yX3_timeOf : MethodName := ⟨RX3, "timeOf", "(I)I"⟩
abbrev cX3_heightOf : ByteArray := prog_5_method_9_code
def yX3_heightOf : MethodName := ⟨RX3, "heightOf", "(I)I"⟩
abbrev cX3_isHigh : ByteArray := prog_5_method_10_code
def yX3_isHigh : MethodName := ⟨RX3, "isHigh", "(I)Z"⟩
abbrev cX3_datumOf : ByteArray := prog_5_method_11_code
def yX3_datumOf : MethodName := ⟨RX3, "datumOf", "(I)I"⟩
abbrev cX3_greatestHeight : ByteArray := prog_5_method_12_code
def yX3_greatestHeight : MethodName := ⟨RX3, "greatestHeight", "()I"⟩
abbrev cX3_leastHeight : ByteArray := prog_5_method_13_code
def yX3_leastHeight : MethodName := ⟨RX3, "leastHeight", "()I"⟩
abbrev cX3_meanOfWaters : ByteArray := prog_5_method_14_code
def yX3_meanOfWaters : MethodName := ⟨RX3, "meanOfWaters", "(Z)I"⟩
abbrev cX3_greatestDifference : ByteArray := prog_5_method_15_code
def yX3_greatestDifference : MethodName := ⟨RX3, "greatestDifference", "()I"⟩
def RX4 : String := "TideTable$Tally"
def TX4 : u_T := fun k => match k with
  | 0 => ("TideTable$Tally", "windows", "I", false)
  | 1 => ("TideTable$Tally", "minutes", "I", false)
  | 2 => ("TideTable$Tally", "first", "I", false)
  | 3 => ("TideTable$Tally", "longest", "I", false)
  | _ => ("TideTable$Tally", "current", "I", false)
def tyX4 : Nat → FieldType := fun k => match k with
  | 0 => .int
  | 1 => .int
  | 2 => .int
  | 3 => .int
  | _ => .int
theorem nmX4 : ∀ a, a < 5 → ∀ b, b < 5 → a ≠ b → (TX4 a).2.1 ≠ (TX4 b).2.1 := by decide +kernel
theorem tyX4_ok : ∀ k, k < 5 → parseFieldDescriptor (TX4 k).2.2.1 = some (tyX4 k) := by decide +kernel
abbrev cX4_init : ByteArray := prog_6_method_1_code
def yX4_init : MethodName := ⟨RX4, "<init>", "()V"⟩
abbrev cX4_note : ByteArray := prog_6_method_2_code
def yX4_note : MethodName := ⟨RX4, "note", "(IZ)V"⟩
abbrev cX4_answer : ByteArray := prog_6_method_3_code
def yX4_answer : MethodName := ⟨RX4, "answer", "(I)I"⟩
def RX5 : String := "TideTable$Tide"
def TX5 : u_T := fun k => match k with
  | 0 => ("TideTable$Tide", "waves", "Ljava/util/ArrayList;", true)
  | _ => ("TideTable$Tide", "level", "I", false)
def tyX5 : Nat → FieldType := fun k => match k with
  | 0 => .object "java/util/ArrayList"
  | _ => .int
theorem nmX5 : ∀ a, a < 2 → ∀ b, b < 2 → a ≠ b → (TX5 a).2.1 ≠ (TX5 b).2.1 := by decide +kernel
theorem tyX5_ok : ∀ k, k < 2 → parseFieldDescriptor (TX5 k).2.2.1 = some (tyX5 k) := by decide +kernel
abbrev cX5_init : ByteArray := prog_7_method_1_code
def yX5_init : MethodName := ⟨RX5, "<init>", "()V"⟩
abbrev cX5_heightAt : ByteArray := prog_7_method_2_code
def yX5_heightAt : MethodName := ⟨RX5, "heightAt", "(I)I"⟩
def RX6 : String := "TideTable$Wave"
def TX6 : u_T := fun k => match k with
  | 0 => ("TideTable$Wave", "range", "I", false)
  | 1 => ("TideTable$Wave", "period", "I", true)
  | _ => ("TideTable$Wave", "offset", "I", true)
def tyX6 : Nat → FieldType := fun k => match k with
  | 0 => .int
  | 1 => .int
  | _ => .int
theorem nmX6 : ∀ a, a < 3 → ∀ b, b < 3 → a ≠ b → (TX6 a).2.1 ≠ (TX6 b).2.1 := by decide +kernel
theorem tyX6_ok : ∀ k, k < 3 → parseFieldDescriptor (TX6 k).2.2.1 = some (tyX6 k) := by decide +kernel
abbrev cX6_init : ByteArray := prog_8_method_1_code
def yX6_init : MethodName := ⟨RX6, "<init>", "(III)V"⟩
abbrev cX6_heightAt : ByteArray := prog_8_method_2_code
def yX6_heightAt : MethodName := ⟨RX6, "heightAt", "(I)I"⟩
def RX7 : String := "TideTable"
def TX7 : u_T := fun k => match k with
  | 0 => ("TideTable", "tide", "LTideTable$Tide;", true)
  | 1 => ("TideTable", "table", "LTideTable$Table;", true)
  | 2 => ("TideTable", "ports", "Ljava/util/ArrayList;", true)
  | 3 => ("TideTable", "readings", "Ljava/util/ArrayList;", true)
  | _ => ("TideTable", "isTableOld", "Z", false)
def tyX7 : Nat → FieldType := fun k => match k with
  | 0 => .object "TideTable$Tide"
  | 1 => .object "TideTable$Table"
  | 2 => .object "java/util/ArrayList"
  | 3 => .object "java/util/ArrayList"
  | _ => .boolean
theorem nmX7 : ∀ a, a < 5 → ∀ b, b < 5 → a ≠ b → (TX7 a).2.1 ≠ (TX7 b).2.1 := by decide +kernel
theorem tyX7_ok : ∀ k, k < 5 → parseFieldDescriptor (TX7 k).2.2.1 = some (tyX7 k) := by decide +kernel
abbrev cX7_init : ByteArray := prog_1_method_1_code
def yX7_init : MethodName := ⟨RX7, "<init>", "()V"⟩
abbrev cX7_addWave : ByteArray := prog_1_method_2_code
def yX7_addWave : MethodName := ⟨RX7, "addWave", "(III)I"⟩
abbrev cX7_setRange : ByteArray := prog_1_method_3_code
def yX7_setRange : MethodName := ⟨RX7, "setRange", "(II)I"⟩
abbrev cX7_setLevel : ByteArray := prog_1_method_4_code
def yX7_setLevel : MethodName := ⟨RX7, "setLevel", "(I)I"⟩
abbrev cX7_height : ByteArray := prog_1_method_5_code
def yX7_height : MethodName := ⟨RX7, "height", "(I)I"⟩
abbrev cX7_waveHeight : ByteArray := prog_1_method_6_code
def yX7_waveHeight : MethodName := ⟨RX7, "waveHeight", "(II)I"⟩
abbrev cX7_count : ByteArray := prog_1_method_7_code
def yX7_count : MethodName := ⟨RX7, "count", "(I)I"⟩
abbrev cX7_water : ByteArray := prog_1_method_8_code
def yX7_water : MethodName := ⟨RX7, "water", "(II)I"⟩
abbrev cX7_next : ByteArray := prog_1_method_9_code
def yX7_next : MethodName := ⟨RX7, "next", "(IZ)I"⟩
abbrev cX7_datum : ByteArray := prog_1_method_10_code
def yX7_datum : MethodName := ⟨RX7, "datum", "(I)I"⟩
abbrev cX7_addPort : ByteArray := prog_1_method_11_code
def yX7_addPort : MethodName := ⟨RX7, "addPort", "()I"⟩
abbrev cX7_setPort : ByteArray := prog_1_method_12_code
def yX7_setPort : MethodName := ⟨RX7, "setPort", "(IZII)I"⟩
abbrev cX7_setAddition : ByteArray := prog_1_method_13_code
def yX7_setAddition : MethodName := ⟨RX7, "setAddition", "(II)I"⟩
abbrev cX7_isInOrder : ByteArray := prog_1_method_14_code
def yX7_isInOrder : MethodName := ⟨RX7, "isInOrder", "(I)Z"⟩
abbrev cX7_portWater : ByteArray := prog_1_method_15_code
def yX7_portWater : MethodName := ⟨RX7, "portWater", "(IIZ)I"⟩
abbrev cX7_portHeight : ByteArray := prog_1_method_16_code
def yX7_portHeight : MethodName := ⟨RX7, "portHeight", "(II)I"⟩
abbrev cX7_windows : ByteArray := prog_1_method_17_code
def yX7_windows : MethodName := ⟨RX7, "windows", "(IIIII)I"⟩
abbrev cX7_read : ByteArray := prog_1_method_18_code
def yX7_read : MethodName := ⟨RX7, "read", "(II)I"⟩
abbrev cX7_residual : ByteArray := prog_1_method_19_code
def yX7_residual : MethodName := ⟨RX7, "residual", "()D"⟩
abbrev cX7_worst : ByteArray := prog_1_method_20_code
def yX7_worst : MethodName := ⟨RX7, "worst", "()I"⟩
abbrev cX7_adjust : ByteArray := prog_1_method_21_code
def yX7_adjust : MethodName := ⟨RX7, "adjust", "()I"⟩
abbrev cX7_digest : ByteArray := prog_1_method_22_code
def yX7_digest : MethodName := ⟨RX7, "digest", "()J"⟩
abbrev cX7_isWithin : ByteArray := prog_1_method_23_code
def yX7_isWithin : MethodName := ⟨RX7, "isWithin", "(III)Z"⟩
abbrev cX7_isMinute : ByteArray := prog_1_method_24_code
def yX7_isMinute : MethodName := ⟨RX7, "isMinute", "(I)Z"⟩
abbrev cX7_quotient : ByteArray := prog_1_method_25_code
def yX7_quotient : MethodName := ⟨RX7, "quotient", "(JJ)J"⟩
abbrev cX7_hasWave : ByteArray := prog_1_method_26_code
def yX7_hasWave : MethodName := ⟨RX7, "hasWave", "(I)Z"⟩
abbrev cX7_hasPort : ByteArray := prog_1_method_27_code
def yX7_hasPort : MethodName := ⟨RX7, "hasPort", "(I)Z"⟩
abbrev cX7_currentTable : ByteArray := prog_1_method_28_code
def yX7_currentTable : MethodName := ⟨RX7, "currentTable", "()LTideTable$Table;"⟩
abbrev cX7_numberOf : ByteArray := prog_1_method_29_code
def yX7_numberOf : MethodName := ⟨RX7, "numberOf", "(I)I"⟩
abbrev cX7_tallyChiefPort : ByteArray := prog_1_method_30_code
def yX7_tallyChiefPort : MethodName := ⟨RX7, "tallyChiefPort", "(LTideTable$Tally;III)V"⟩
abbrev cX7_tallyPort : ByteArray := prog_1_method_31_code
def yX7_tallyPort : MethodName := ⟨RX7, "tallyPort", "(LTideTable$Tally;LTideTable$Port;III)V"⟩
abbrev cX7_differenceOf : ByteArray := prog_1_method_32_code
def yX7_differenceOf : MethodName := ⟨RX7, "differenceOf", "(I)J"⟩
abbrev cX7_sumOfDifferences : ByteArray := prog_1_method_33_code
def yX7_sumOfDifferences : MethodName := ⟨RX7, "sumOfDifferences", "()J"⟩
abbrev cX7_mixed : ByteArray := prog_1_method_34_code
def yX7_mixed : MethodName := ⟨RX7, "mixed", "(JJ)J"⟩
abbrev cX7_mixedWithWaters : ByteArray := prog_1_method_35_code
def yX7_mixedWithWaters : MethodName := ⟨RX7, "mixedWithWaters", "(JLTideTable$Table;)J"⟩
abbrev cX7_mixedWithPort : ByteArray := prog_1_method_36_code
def yX7_mixedWithPort : MethodName := ⟨RX7, "mixedWithPort", "(JLTideTable$Table;LTideTable$Port;)J"⟩
def RX8 : String := "TideTableModel"
def TX8 : u_T := fun k => match k with
  | 0 => ("TideTableModel", "thrown", "I", false)
  | 1 => ("TideTableModel", "waves", "I", false)
  | 2 => ("TideTableModel", "ranges", "[I", true)
  | 3 => ("TideTableModel", "periods", "[I", true)
  | 4 => ("TideTableModel", "offsets", "[I", true)
  | 5 => ("TideTableModel", "level", "I", false)
  | 6 => ("TideTableModel", "ports", "I", false)
  | 7 => ("TideTableModel", "table", "[I", true)
  | 8 => ("TideTableModel", "readings", "I", false)
  | 9 => ("TideTableModel", "readTimes", "[I", true)
  | 10 => ("TideTableModel", "readHeights", "[I", true)
  | 11 => ("TideTableModel", "isFresh", "Z", false)
  | 12 => ("TideTableModel", "heights", "[J", true)
  | 13 => ("TideTableModel", "waters", "I", false)
  | _ => ("TideTableModel", "times", "[I", true)
def tyX8 : Nat → FieldType := fun k => match k with
  | 0 => .int
  | 1 => .int
  | 2 => .array .int
  | 3 => .array .int
  | 4 => .array .int
  | 5 => .int
  | 6 => .int
  | 7 => .array .int
  | 8 => .int
  | 9 => .array .int
  | 10 => .array .int
  | 11 => .boolean
  | 12 => .array .long
  | 13 => .int
  | _ => .array .int
theorem nmX8 : ∀ a, a < 15 → ∀ b, b < 15 → a ≠ b → (TX8 a).2.1 ≠ (TX8 b).2.1 := by decide +kernel
theorem tyX8_ok : ∀ k, k < 15 → parseFieldDescriptor (TX8 k).2.2.1 = some (tyX8 k) := by decide +kernel
abbrev cX8_init : ByteArray := prog_10_method_1_code
def yX8_init : MethodName := ⟨RX8, "<init>", "()V"⟩
abbrev cX8_thrown : ByteArray := prog_10_method_2_code
def yX8_thrown : MethodName := ⟨RX8, "thrown", "()I"⟩
abbrev cX8_fail : ByteArray := prog_10_method_3_code
def yX8_fail : MethodName := ⟨RX8, "fail", "(I)I"⟩
abbrev cX8_isIn : ByteArray := prog_10_method_4_code
def yX8_isIn : MethodName := ⟨RX8, "isIn", "(JJJ)Z"⟩
abbrev cX8_isTime : ByteArray := prog_10_method_5_code
def yX8_isTime : MethodName := ⟨RX8, "isTime", "(I)Z"⟩
abbrev cX8_isWave : ByteArray := prog_10_method_6_code
def yX8_isWave : MethodName := ⟨RX8, "isWave", "(I)Z"⟩
abbrev cX8_isPort : ByteArray := prog_10_method_7_code
def yX8_isPort : MethodName := ⟨RX8, "isPort", "(I)Z"⟩
abbrev cX8_addWave : ByteArray := prog_10_method_8_code
def yX8_addWave : MethodName := ⟨RX8, "addWave", "(III)I"⟩
abbrev cX8_setRange : ByteArray := prog_10_method_9_code
def yX8_setRange : MethodName := ⟨RX8, "setRange", "(II)I"⟩
abbrev cX8_setLevel : ByteArray := prog_10_method_10_code
def yX8_setLevel : MethodName := ⟨RX8, "setLevel", "(I)I"⟩
abbrev cX8_waveAt : ByteArray := prog_10_method_11_code
def yX8_waveAt : MethodName := ⟨RX8, "waveAt", "(II)J"⟩
abbrev cX8_find : ByteArray := prog_10_method_12_code
def yX8_find : MethodName := ⟨RX8, "find", "()V"⟩
abbrev cX8_isHigh : ByteArray := prog_10_method_13_code
def yX8_isHigh : MethodName := ⟨RX8, "isHigh", "(I)Z"⟩
abbrev cX8_height : ByteArray := prog_10_method_14_code
def yX8_height : MethodName := ⟨RX8, "height", "(I)I"⟩
abbrev cX8_waveHeight : ByteArray := prog_10_method_15_code
def yX8_waveHeight : MethodName := ⟨RX8, "waveHeight", "(II)I"⟩
abbrev cX8_counted : ByteArray := prog_10_method_16_code
def yX8_counted : MethodName := ⟨RX8, "counted", "(I)I"⟩
abbrev cX8_count : ByteArray := prog_10_method_17_code
def yX8_count : MethodName := ⟨RX8, "count", "(I)I"⟩
abbrev cX8_waterTold : ByteArray := prog_10_method_18_code
def yX8_waterTold : MethodName := ⟨RX8, "waterTold", "(II)I"⟩
abbrev cX8_water : ByteArray := prog_10_method_19_code
def yX8_water : MethodName := ⟨RX8, "water", "(II)I"⟩
abbrev cX8_next : ByteArray := prog_10_method_20_code
def yX8_next : MethodName := ⟨RX8, "next", "(IZ)I"⟩
abbrev cX8_extreme : ByteArray := prog_10_method_21_code
def yX8_extreme : MethodName := ⟨RX8, "extreme", "(I)J"⟩
abbrev cX8_mean : ByteArray := prog_10_method_22_code
def yX8_mean : MethodName := ⟨RX8, "mean", "(Z)J"⟩
abbrev cX8_greatestRange : ByteArray := prog_10_method_23_code
def yX8_greatestRange : MethodName := ⟨RX8, "greatestRange", "()J"⟩
abbrev cX8_datumOf : ByteArray := prog_10_method_24_code
def yX8_datumOf : MethodName := ⟨RX8, "datumOf", "(I)I"⟩
abbrev cX8_datum : ByteArray := prog_10_method_25_code
def yX8_datum : MethodName := ⟨RX8, "datum", "(I)I"⟩
abbrev cX8_addPort : ByteArray := prog_10_method_26_code
def yX8_addPort : MethodName := ⟨RX8, "addPort", "()I"⟩
abbrev cX8_setPort : ByteArray := prog_10_method_27_code
def yX8_setPort : MethodName := ⟨RX8, "setPort", "(IZII)I"⟩
abbrev cX8_setAddition : ByteArray := prog_10_method_28_code
def yX8_setAddition : MethodName := ⟨RX8, "setAddition", "(II)I"⟩
abbrev cX8_timeAt : ByteArray := prog_10_method_29_code
def yX8_timeAt : MethodName := ⟨RX8, "timeAt", "(II)I"⟩
abbrev cX8_heightAt : ByteArray := prog_10_method_30_code
def yX8_heightAt : MethodName := ⟨RX8, "heightAt", "(II)J"⟩
abbrev cX8_isOrdered : ByteArray := prog_10_method_31_code
def yX8_isOrdered : MethodName := ⟨RX8, "isOrdered", "(I)Z"⟩
abbrev cX8_isInOrder : ByteArray := prog_10_method_32_code
def yX8_isInOrder : MethodName := ⟨RX8, "isInOrder", "(I)Z"⟩
abbrev cX8_portWater : ByteArray := prog_10_method_33_code
def yX8_portWater : MethodName := ⟨RX8, "portWater", "(IIZ)I"⟩
abbrev cX8_waterAhead : ByteArray := prog_10_method_34_code
def yX8_waterAhead : MethodName := ⟨RX8, "waterAhead", "(II)I"⟩
abbrev cX8_between : ByteArray := prog_10_method_35_code
def yX8_between : MethodName := ⟨RX8, "between", "(III)J"⟩
abbrev cX8_portHeight : ByteArray := prog_10_method_36_code
def yX8_portHeight : MethodName := ⟨RX8, "portHeight", "(II)I"⟩
abbrev cX8_windows : ByteArray := prog_10_method_37_code
def yX8_windows : MethodName := ⟨RX8, "windows", "(IIIII)I"⟩
abbrev cX8_read : ByteArray := prog_10_method_38_code
def yX8_read : MethodName := ⟨RX8, "read", "(II)I"⟩
abbrev cX8_off : ByteArray := prog_10_method_39_code
def yX8_off : MethodName := ⟨RX8, "off", "(I)J"⟩
abbrev cX8_sumOff : ByteArray := prog_10_method_40_code
def yX8_sumOff : MethodName := ⟨RX8, "sumOff", "()J"⟩
abbrev cX8_residual : ByteArray := prog_10_method_41_code
def yX8_residual : MethodName := ⟨RX8, "residual", "()D"⟩
abbrev cX8_worst : ByteArray := prog_10_method_42_code
def yX8_worst : MethodName := ⟨RX8, "worst", "()I"⟩
abbrev cX8_adjust : ByteArray := prog_10_method_43_code
def yX8_adjust : MethodName := ⟨RX8, "adjust", "()I"⟩
abbrev cX8_digest : ByteArray := prog_10_method_44_code
def yX8_digest : MethodName := ⟨RX8, "digest", "()J"⟩
def RJx145de : String := "java/io/Serializable"
def TJx145de : u_T := fun k => match k with
  | _ => ("", "", "", false)
def tyJx145de : Nat → FieldType := fun k => match k with
  | _ => .int
theorem nmJx145de : ∀ a, a < 0 → ∀ b, b < 0 → a ≠ b → (TJx145de a).2.1 ≠ (TJx145de b).2.1 := by decide +kernel
theorem tyJx145de_ok : ∀ k, k < 0 → parseFieldDescriptor (TJx145de k).2.2.1 = some (tyJx145de k) := by decide +kernel
def RJx8e188 : String := "java/lang/Cloneable"
def TJx8e188 : u_T := fun k => match k with
  | _ => ("", "", "", false)
def tyJx8e188 : Nat → FieldType := fun k => match k with
  | _ => .int
theorem nmJx8e188 : ∀ a, a < 0 → ∀ b, b < 0 → a ≠ b → (TJx8e188 a).2.1 ≠ (TJx8e188 b).2.1 := by decide +kernel
theorem tyJx8e188_ok : ∀ k, k < 0 → parseFieldDescriptor (TJx8e188 k).2.2.1 = some (tyJx8e188 k) := by decide +kernel
def RJxab1ab : String := "java/lang/Iterable"
def TJxab1ab : u_T := fun k => match k with
  | _ => ("", "", "", false)
def tyJxab1ab : Nat → FieldType := fun k => match k with
  | _ => .int
theorem nmJxab1ab : ∀ a, a < 0 → ∀ b, b < 0 → a ≠ b → (TJxab1ab a).2.1 ≠ (TJxab1ab b).2.1 := by decide +kernel
theorem tyJxab1ab_ok : ∀ k, k < 0 → parseFieldDescriptor (TJxab1ab k).2.2.1 = some (tyJxab1ab k) := by decide +kernel
def RJ9 : String := "java/lang/Math"
def TJ9 : u_T := fun k => match k with
  | _ => ("", "", "", false)
def tyJ9 : Nat → FieldType := fun k => match k with
  | _ => .int
theorem nmJ9 : ∀ a, a < 0 → ∀ b, b < 0 → a ≠ b → (TJ9 a).2.1 ≠ (TJ9 b).2.1 := by decide +kernel
theorem tyJ9_ok : ∀ k, k < 0 → parseFieldDescriptor (TJ9 k).2.2.1 = some (tyJ9 k) := by decide +kernel
abbrev cJ9_abs_0f7a4 : ByteArray := prog_18_method_59_code
def yJ9_abs_0f7a4 : MethodName := ⟨RJ9, "abs", "(I)I"⟩
abbrev cJ9_abs_067f4 : ByteArray := prog_18_method_61_code
def yJ9_abs_067f4 : MethodName := ⟨RJ9, "abs", "(J)J"⟩
abbrev cJ9_max_7cf53 : ByteArray := prog_18_method_65_code
def yJ9_max_7cf53 : MethodName := ⟨RJ9, "max", "(II)I"⟩
abbrev cJ9_max_f86c9 : ByteArray := prog_18_method_66_code
def yJ9_max_f86c9 : MethodName := ⟨RJ9, "max", "(JJ)J"⟩
abbrev cJ9_min_7cf53 : ByteArray := prog_18_method_69_code
def yJ9_min_7cf53 : MethodName := ⟨RJ9, "min", "(II)I"⟩
def RJ0 : String := "java/lang/String"
def TJ0 : u_T := fun k => match k with
  | _ => ("", "", "", false)
def tyJ0 : Nat → FieldType := fun k => match k with
  | _ => .int
theorem nmJ0 : ∀ a, a < 0 → ∀ b, b < 0 → a ≠ b → (TJ0 a).2.1 ≠ (TJ0 b).2.1 := by decide +kernel
theorem tyJ0_ok : ∀ k, k < 0 → parseFieldDescriptor (TJ0 k).2.2.1 = some (tyJ0 k) := by decide +kernel
def RJ10 : String := "java/lang/System"
def TJ10 : u_T := fun k => match k with
  | _ => ("", "", "", false)
def tyJ10 : Nat → FieldType := fun k => match k with
  | _ => .int
theorem nmJ10 : ∀ a, a < 0 → ∀ b, b < 0 → a ≠ b → (TJ10 a).2.1 ≠ (TJ10 b).2.1 := by decide +kernel
theorem tyJ10_ok : ∀ k, k < 0 → parseFieldDescriptor (TJ10 k).2.2.1 = some (tyJ10 k) := by decide +kernel
def RJxa1e45 : String := "java/util/AbstractCollection"
def TJxa1e45 : u_T := fun k => match k with
  | _ => ("", "", "", false)
def tyJxa1e45 : Nat → FieldType := fun k => match k with
  | _ => .int
theorem nmJxa1e45 : ∀ a, a < 0 → ∀ b, b < 0 → a ≠ b → (TJxa1e45 a).2.1 ≠ (TJxa1e45 b).2.1 := by decide +kernel
theorem tyJxa1e45_ok : ∀ k, k < 0 → parseFieldDescriptor (TJxa1e45 k).2.2.1 = some (tyJxa1e45 k) := by decide +kernel
abbrev cJxa1e45_init_da8c8 : ByteArray := prog_23_method_1_code
def yJxa1e45_init_da8c8 : MethodName := ⟨RJxa1e45, "<init>", "()V"⟩
def RJxc12de : String := "java/util/AbstractList"
def TJxc12de : u_T := fun k => match k with
  | _ => ("", "", "", false)
def tyJxc12de : Nat → FieldType := fun k => match k with
  | _ => .int
theorem nmJxc12de : ∀ a, a < 0 → ∀ b, b < 0 → a ≠ b → (TJxc12de a).2.1 ≠ (TJxc12de b).2.1 := by decide +kernel
theorem tyJxc12de_ok : ∀ k, k < 0 → parseFieldDescriptor (TJxc12de k).2.2.1 = some (tyJxc12de k) := by decide +kernel
abbrev cJxc12de_init_da8c8 : ByteArray := prog_24_method_1_code
def yJxc12de_init_da8c8 : MethodName := ⟨RJxc12de, "<init>", "()V"⟩
def RJx4a65c : String := "java/util/ArrayList"
def TJx4a65c : u_T := fun k => match k with
  | 0 => ("java/util/AbstractList", "modCount", "I", false)
  | 1 => ("java/util/ArrayList", "elementData", "[Ljava/lang/Object;", false)
  | _ => ("java/util/ArrayList", "size", "I", false)
def tyJx4a65c : Nat → FieldType := fun k => match k with
  | 0 => .int
  | 1 => .array (.object "java/lang/Object")
  | _ => .int
theorem nmJx4a65c : ∀ a, a < 3 → ∀ b, b < 3 → a ≠ b → (TJx4a65c a).2.1 ≠ (TJx4a65c b).2.1 := by decide +kernel
theorem tyJx4a65c_ok : ∀ k, k < 3 → parseFieldDescriptor (TJx4a65c k).2.2.1 = some (tyJx4a65c k) := by decide +kernel
abbrev cJx4a65c_init_da8c8 : ByteArray := prog_25_method_2_code
def yJx4a65c_init_da8c8 : MethodName := ⟨RJx4a65c, "<init>", "()V"⟩
abbrev cJx4a65c_grow_92f84 : ByteArray := prog_25_method_6_code
def yJx4a65c_grow_92f84 : MethodName := ⟨RJx4a65c, "grow", "(I)[Ljava/lang/Object;"⟩
abbrev cJx4a65c_grow_d5877 : ByteArray := prog_25_method_7_code
def yJx4a65c_grow_d5877 : MethodName := ⟨RJx4a65c, "grow", "()[Ljava/lang/Object;"⟩
abbrev cJx4a65c_size_8abf5 : ByteArray := prog_25_method_8_code
def yJx4a65c_size_8abf5 : MethodName := ⟨RJx4a65c, "size", "()I"⟩
abbrev cJx4a65c_isEmpty_aae02 : ByteArray := prog_25_method_9_code
def yJx4a65c_isEmpty_aae02 : MethodName := ⟨RJx4a65c, "isEmpty", "()Z"⟩
abbrev cJx4a65c_elementData_915e3 : ByteArray := prog_25_method_18_code
def yJx4a65c_elementData_915e3 : MethodName := ⟨RJx4a65c, "elementData", "(I)Ljava/lang/Object;"⟩
abbrev cJx4a65c_get_915e3 : ByteArray := prog_25_method_20_code
def yJx4a65c_get_915e3 : MethodName := ⟨RJx4a65c, "get", "(I)Ljava/lang/Object;"⟩
abbrev cJx4a65c_add_72be8 : ByteArray := prog_25_method_24_code
def yJx4a65c_add_72be8 : MethodName := ⟨RJx4a65c, "add", "(Ljava/lang/Object;[Ljava/lang/Object;I)V"⟩
abbrev cJx4a65c_add_9ea2d : ByteArray := prog_25_method_25_code
def yJx4a65c_add_9ea2d : MethodName := ⟨RJx4a65c, "add", "(Ljava/lang/Object;)Z"⟩
abbrev cJx4a65c_clear_da8c8 : ByteArray := prog_25_method_40_code
def yJx4a65c_clear_da8c8 : MethodName := ⟨RJx4a65c, "clear", "()V"⟩
def RJ7 : String := "java/util/Arrays"
def TJ7 : u_T := fun k => match k with
  | _ => ("", "", "", false)
def tyJ7 : Nat → FieldType := fun k => match k with
  | _ => .int
theorem nmJ7 : ∀ a, a < 0 → ∀ b, b < 0 → a ≠ b → (TJ7 a).2.1 ≠ (TJ7 b).2.1 := by decide +kernel
theorem tyJ7_ok : ∀ k, k < 0 → parseFieldDescriptor (TJ7 k).2.2.1 = some (tyJ7 k) := by decide +kernel
abbrev cJ7_copyOf_1904c : ByteArray := prog_26_method_119_code
def yJ7_copyOf_1904c : MethodName := ⟨RJ7, "copyOf", "([Ljava/lang/Object;I)[Ljava/lang/Object;"⟩
abbrev cJ7_copyOf_6403c : ByteArray := prog_26_method_120_code
def yJ7_copyOf_6403c : MethodName := ⟨RJ7, "copyOf", "([Ljava/lang/Object;ILjava/lang/Class;)[Ljava/lang/Object;"⟩
def RJx5ef63 : String := "java/util/Collection"
def TJx5ef63 : u_T := fun k => match k with
  | _ => ("", "", "", false)
def tyJx5ef63 : Nat → FieldType := fun k => match k with
  | _ => .int
theorem nmJx5ef63 : ∀ a, a < 0 → ∀ b, b < 0 → a ≠ b → (TJx5ef63 a).2.1 ≠ (TJx5ef63 b).2.1 := by decide +kernel
theorem tyJx5ef63_ok : ∀ k, k < 0 → parseFieldDescriptor (TJx5ef63 k).2.2.1 = some (tyJx5ef63 k) := by decide +kernel
def RJxbd725 : String := "java/util/List"
def TJxbd725 : u_T := fun k => match k with
  | _ => ("", "", "", false)
def tyJxbd725 : Nat → FieldType := fun k => match k with
  | _ => .int
theorem nmJxbd725 : ∀ a, a < 0 → ∀ b, b < 0 → a ≠ b → (TJxbd725 a).2.1 ≠ (TJxbd725 b).2.1 := by decide +kernel
theorem tyJxbd725_ok : ∀ k, k < 0 → parseFieldDescriptor (TJxbd725 k).2.2.1 = some (tyJxbd725 k) := by decide +kernel
def RJ15 : String := "java/util/Objects"
def TJ15 : u_T := fun k => match k with
  | _ => ("", "", "", false)
def tyJ15 : Nat → FieldType := fun k => match k with
  | _ => .int
theorem nmJ15 : ∀ a, a < 0 → ∀ b, b < 0 → a ≠ b → (TJ15 a).2.1 ≠ (TJ15 b).2.1 := by decide +kernel
theorem tyJ15_ok : ∀ k, k < 0 → parseFieldDescriptor (TJ15 k).2.2.1 = some (tyJ15 k) := by decide +kernel
abbrev cJ15_checkIndex_7cf53 : ByteArray := prog_29_method_17_code
def yJ15_checkIndex_7cf53 : MethodName := ⟨RJ15, "checkIndex", "(II)I"⟩
def RJxf0a74 : String := "java/util/RandomAccess"
def TJxf0a74 : u_T := fun k => match k with
  | _ => ("", "", "", false)
def tyJxf0a74 : Nat → FieldType := fun k => match k with
  | _ => .int
theorem nmJxf0a74 : ∀ a, a < 0 → ∀ b, b < 0 → a ≠ b → (TJxf0a74 a).2.1 ≠ (TJxf0a74 b).2.1 := by decide +kernel
theorem tyJxf0a74_ok : ∀ k, k < 0 → parseFieldDescriptor (TJxf0a74 k).2.2.1 = some (tyJxf0a74 k) := by decide +kernel
def RJxa66e6 : String := "java/util/SequencedCollection"
def TJxa66e6 : u_T := fun k => match k with
  | _ => ("", "", "", false)
def tyJxa66e6 : Nat → FieldType := fun k => match k with
  | _ => .int
theorem nmJxa66e6 : ∀ a, a < 0 → ∀ b, b < 0 → a ≠ b → (TJxa66e6 a).2.1 ≠ (TJxa66e6 b).2.1 := by decide +kernel
theorem tyJxa66e6_ok : ∀ k, k < 0 → parseFieldDescriptor (TJxa66e6 k).2.2.1 = some (tyJxa66e6 k) := by decide +kernel
def RJ8 : String := "jdk/internal/util/ArraysSupport"
def TJ8 : u_T := fun k => match k with
  | _ => ("", "", "", false)
def tyJ8 : Nat → FieldType := fun k => match k with
  | _ => .int
theorem nmJ8 : ∀ a, a < 0 → ∀ b, b < 0 → a ≠ b → (TJ8 a).2.1 ≠ (TJ8 b).2.1 := by decide +kernel
theorem tyJ8_ok : ∀ k, k < 0 → parseFieldDescriptor (TJ8 k).2.2.1 = some (tyJ8 k) := by decide +kernel
abbrev cJ8_newLength_cabcc : ByteArray := prog_32_method_27_code
def yJ8_newLength_cabcc : MethodName := ⟨RJ8, "newLength", "(III)I"⟩
abbrev cJ8_hugeLength_7cf53 : ByteArray := prog_32_method_28_code
def yJ8_hugeLength_7cf53 : MethodName := ⟨RJ8, "hugeLength", "(II)I"⟩
def RJ3 : String := "jdk/internal/util/Preconditions"
def TJ3 : u_T := fun k => match k with
  | _ => ("", "", "", false)
def tyJ3 : Nat → FieldType := fun k => match k with
  | _ => .int
theorem nmJ3 : ∀ a, a < 0 → ∀ b, b < 0 → a ≠ b → (TJ3 a).2.1 ≠ (TJ3 b).2.1 := by decide +kernel
theorem tyJ3_ok : ∀ k, k < 0 → parseFieldDescriptor (TJ3 k).2.2.1 = some (tyJ3 k) := by decide +kernel
abbrev cJ3_checkIndex_8e157 : ByteArray := prog_33_method_11_code
def yJ3_checkIndex_8e157 : MethodName := ⟨RJ3, "checkIndex", "(IILjava/util/function/BiFunction;)I"⟩
def RL : String := "TideTableLaw"
abbrev cL_addWave : ByteArray := method_3_code
def yL_addWave : MethodName := ⟨RL, "addWave", "(LTideTable;III[J)I"⟩
abbrev cL_setRange : ByteArray := method_4_code
def yL_setRange : MethodName := ⟨RL, "setRange", "(LTideTable;II[J)I"⟩
abbrev cL_setLevel : ByteArray := method_5_code
def yL_setLevel : MethodName := ⟨RL, "setLevel", "(LTideTable;I[J)I"⟩
abbrev cL_height : ByteArray := method_6_code
def yL_height : MethodName := ⟨RL, "height", "(LTideTable;I[J)I"⟩
abbrev cL_waveHeight : ByteArray := method_7_code
def yL_waveHeight : MethodName := ⟨RL, "waveHeight", "(LTideTable;II[J)I"⟩
abbrev cL_count : ByteArray := method_8_code
def yL_count : MethodName := ⟨RL, "count", "(LTideTable;I[J)I"⟩
abbrev cL_water : ByteArray := method_9_code
def yL_water : MethodName := ⟨RL, "water", "(LTideTable;II[J)I"⟩
abbrev cL_next : ByteArray := method_10_code
def yL_next : MethodName := ⟨RL, "next", "(LTideTable;IZ[J)I"⟩
abbrev cL_datum : ByteArray := method_11_code
def yL_datum : MethodName := ⟨RL, "datum", "(LTideTable;I[J)I"⟩
abbrev cL_addPort : ByteArray := method_12_code
def yL_addPort : MethodName := ⟨RL, "addPort", "(LTideTable;[J)I"⟩
abbrev cL_setPort : ByteArray := method_13_code
def yL_setPort : MethodName := ⟨RL, "setPort", "(LTideTable;IZII[J)I"⟩
abbrev cL_setAddition : ByteArray := method_14_code
def yL_setAddition : MethodName := ⟨RL, "setAddition", "(LTideTable;II[J)I"⟩
abbrev cL_isInOrder : ByteArray := method_15_code
def yL_isInOrder : MethodName := ⟨RL, "isInOrder", "(LTideTable;I[J)I"⟩
abbrev cL_portWater : ByteArray := method_16_code
def yL_portWater : MethodName := ⟨RL, "portWater", "(LTideTable;IIZ[J)I"⟩
abbrev cL_portHeight : ByteArray := method_17_code
def yL_portHeight : MethodName := ⟨RL, "portHeight", "(LTideTable;II[J)I"⟩
abbrev cL_windows : ByteArray := method_18_code
def yL_windows : MethodName := ⟨RL, "windows", "(LTideTable;IIIII[J)I"⟩
abbrev cL_read : ByteArray := method_19_code
def yL_read : MethodName := ⟨RL, "read", "(LTideTable;II[J)I"⟩
abbrev cL_adjust : ByteArray := method_20_code
def yL_adjust : MethodName := ⟨RL, "adjust", "(LTideTable;[J)I"⟩
abbrev cL_law : ByteArray := code
def yL_law : MethodName := ⟨RL, "law", "([I)Z"⟩
abbrev vwCl : List vw_C := [(RJx4a65c, TJx4a65c, 3), (RX0, TX0, 2), (RX1, TX1, 3), (RX2, TX2, 2), (RX3, TX3, 5), (RX4, TX4, 5), (RX5, TX5, 2), (RX6, TX6, 3), (RX7, TX7, 5), (RX8, TX8, 15)]
end
section
theorem dJ9_abs_0f7a4_0 : decode cJ9_abs_0f7a4 0 = .ok (.iload_n 0, 1) := by decide +kernel
theorem dJ9_abs_0f7a4_1 : decode cJ9_abs_0f7a4 1 = .ok (.ifCond .ge 8, 3) := by decide +kernel
theorem dJ9_abs_0f7a4_4 : decode cJ9_abs_0f7a4 4 = .ok (.iload_n 0, 1) := by decide +kernel
theorem dJ9_abs_0f7a4_5 : decode cJ9_abs_0f7a4 5 = .ok (.ineg, 1) := by decide +kernel
theorem dJ9_abs_0f7a4_6 : decode cJ9_abs_0f7a4 6 = .ok (.goto 4, 3) := by decide +kernel
theorem dJ9_abs_0f7a4_9 : decode cJ9_abs_0f7a4 9 = .ok (.iload_n 0, 1) := by decide +kernel
theorem dJ9_abs_0f7a4_10 : decode cJ9_abs_0f7a4 10 = .ok (.ireturn, 1) := by decide +kernel
theorem dJ9_abs_067f4_0 : decode cJ9_abs_067f4 0 = .ok (.lload_n 0, 1) := by decide +kernel
theorem dJ9_abs_067f4_1 : decode cJ9_abs_067f4 1 = .ok (.lconst 0, 1) := by decide +kernel
theorem dJ9_abs_067f4_2 : decode cJ9_abs_067f4 2 = .ok (.lcmp, 1) := by decide +kernel
theorem dJ9_abs_067f4_3 : decode cJ9_abs_067f4 3 = .ok (.ifCond .ge 8, 3) := by decide +kernel
theorem dJ9_abs_067f4_6 : decode cJ9_abs_067f4 6 = .ok (.lload_n 0, 1) := by decide +kernel
theorem dJ9_abs_067f4_7 : decode cJ9_abs_067f4 7 = .ok (.lneg, 1) := by decide +kernel
theorem dJ9_abs_067f4_8 : decode cJ9_abs_067f4 8 = .ok (.goto 4, 3) := by decide +kernel
theorem dJ9_abs_067f4_11 : decode cJ9_abs_067f4 11 = .ok (.lload_n 0, 1) := by decide +kernel
theorem dJ9_abs_067f4_12 : decode cJ9_abs_067f4 12 = .ok (.lreturn, 1) := by decide +kernel
theorem dJ9_max_7cf53_0 : decode cJ9_max_7cf53 0 = .ok (.iload_n 0, 1) := by decide +kernel
theorem dJ9_max_7cf53_1 : decode cJ9_max_7cf53 1 = .ok (.iload_n 1, 1) := by decide +kernel
theorem dJ9_max_7cf53_2 : decode cJ9_max_7cf53 2 = .ok (.if_icmp .lt 7, 3) := by decide +kernel
theorem dJ9_max_7cf53_5 : decode cJ9_max_7cf53 5 = .ok (.iload_n 0, 1) := by decide +kernel
theorem dJ9_max_7cf53_6 : decode cJ9_max_7cf53 6 = .ok (.goto 4, 3) := by decide +kernel
theorem dJ9_max_7cf53_9 : decode cJ9_max_7cf53 9 = .ok (.iload_n 1, 1) := by decide +kernel
theorem dJ9_max_7cf53_10 : decode cJ9_max_7cf53 10 = .ok (.ireturn, 1) := by decide +kernel
theorem dJ9_max_f86c9_0 : decode cJ9_max_f86c9 0 = .ok (.lload_n 0, 1) := by decide +kernel
theorem dJ9_max_f86c9_1 : decode cJ9_max_f86c9 1 = .ok (.lload_n 2, 1) := by decide +kernel
theorem dJ9_max_f86c9_2 : decode cJ9_max_f86c9 2 = .ok (.lcmp, 1) := by decide +kernel
theorem dJ9_max_f86c9_3 : decode cJ9_max_f86c9 3 = .ok (.ifCond .lt 7, 3) := by decide +kernel
theorem dJ9_max_f86c9_6 : decode cJ9_max_f86c9 6 = .ok (.lload_n 0, 1) := by decide +kernel
theorem dJ9_max_f86c9_7 : decode cJ9_max_f86c9 7 = .ok (.goto 4, 3) := by decide +kernel
theorem dJ9_max_f86c9_10 : decode cJ9_max_f86c9 10 = .ok (.lload_n 2, 1) := by decide +kernel
theorem dJ9_max_f86c9_11 : decode cJ9_max_f86c9 11 = .ok (.lreturn, 1) := by decide +kernel
theorem dJ9_min_7cf53_0 : decode cJ9_min_7cf53 0 = .ok (.iload_n 0, 1) := by decide +kernel
theorem dJ9_min_7cf53_1 : decode cJ9_min_7cf53 1 = .ok (.iload_n 1, 1) := by decide +kernel
theorem dJ9_min_7cf53_2 : decode cJ9_min_7cf53 2 = .ok (.if_icmp .gt 7, 3) := by decide +kernel
theorem dJ9_min_7cf53_5 : decode cJ9_min_7cf53 5 = .ok (.iload_n 0, 1) := by decide +kernel
theorem dJ9_min_7cf53_6 : decode cJ9_min_7cf53 6 = .ok (.goto 4, 3) := by decide +kernel
theorem dJ9_min_7cf53_9 : decode cJ9_min_7cf53 9 = .ok (.iload_n 1, 1) := by decide +kernel
theorem dJ9_min_7cf53_10 : decode cJ9_min_7cf53 10 = .ok (.ireturn, 1) := by decide +kernel
theorem dJxa1e45_init_da8c8_0 : decode cJxa1e45_init_da8c8 0 = .ok (.aload_n 0, 1) := by decide +kernel
theorem dJxa1e45_init_da8c8_1 : decode cJxa1e45_init_da8c8 1 = .ok (.invokespecial 1, 3) := by decide +kernel
theorem dJxa1e45_init_da8c8_4 : decode cJxa1e45_init_da8c8 4 = .ok (.return_, 1) := by decide +kernel
theorem dJxc12de_init_da8c8_0 : decode cJxc12de_init_da8c8 0 = .ok (.aload_n 0, 1) := by decide +kernel
theorem dJxc12de_init_da8c8_1 : decode cJxc12de_init_da8c8 1 = .ok (.invokespecial 1, 3) := by decide +kernel
theorem dJxc12de_init_da8c8_4 : decode cJxc12de_init_da8c8 4 = .ok (.aload_n 0, 1) := by decide +kernel
theorem dJxc12de_init_da8c8_5 : decode cJxc12de_init_da8c8 5 = .ok (.iconst 0, 1) := by decide +kernel
theorem dJxc12de_init_da8c8_6 : decode cJxc12de_init_da8c8 6 = .ok (.putfield 7, 3) := by decide +kernel
theorem dJxc12de_init_da8c8_9 : decode cJxc12de_init_da8c8 9 = .ok (.return_, 1) := by decide +kernel
theorem dJx4a65c_init_da8c8_0 : decode cJx4a65c_init_da8c8 0 = .ok (.aload_n 0, 1) := by decide +kernel
theorem dJx4a65c_init_da8c8_1 : decode cJx4a65c_init_da8c8 1 = .ok (.invokespecial 1, 3) := by decide +kernel
theorem dJx4a65c_init_da8c8_4 : decode cJx4a65c_init_da8c8 4 = .ok (.aload_n 0, 1) := by decide +kernel
theorem dJx4a65c_init_da8c8_5 : decode cJx4a65c_init_da8c8 5 = .ok (.getstatic 39, 3) := by decide +kernel
theorem dJx4a65c_init_da8c8_8 : decode cJx4a65c_init_da8c8 8 = .ok (.putfield 9, 3) := by decide +kernel
theorem dJx4a65c_init_da8c8_11 : decode cJx4a65c_init_da8c8 11 = .ok (.return_, 1) := by decide +kernel
theorem dJx4a65c_grow_92f84_0 : decode cJx4a65c_grow_92f84 0 = .ok (.aload_n 0, 1) := by decide +kernel
theorem dJx4a65c_grow_92f84_1 : decode cJx4a65c_grow_92f84 1 = .ok (.getfield 9, 3) := by decide +kernel
theorem dJx4a65c_grow_92f84_4 : decode cJx4a65c_grow_92f84 4 = .ok (.arraylength, 1) := by decide +kernel
theorem dJx4a65c_grow_92f84_5 : decode cJx4a65c_grow_92f84 5 = .ok (.istore_n 2, 1) := by decide +kernel
theorem dJx4a65c_grow_92f84_6 : decode cJx4a65c_grow_92f84 6 = .ok (.iload_n 2, 1) := by decide +kernel
theorem dJx4a65c_grow_92f84_7 : decode cJx4a65c_grow_92f84 7 = .ok (.ifCond .gt 13, 3) := by decide +kernel
theorem dJx4a65c_grow_92f84_10 : decode cJx4a65c_grow_92f84 10 = .ok (.aload_n 0, 1) := by decide +kernel
theorem dJx4a65c_grow_92f84_11 : decode cJx4a65c_grow_92f84 11 = .ok (.getfield 9, 3) := by decide +kernel
theorem dJx4a65c_grow_92f84_14 : decode cJx4a65c_grow_92f84 14 = .ok (.getstatic 39, 3) := by decide +kernel
theorem dJx4a65c_grow_92f84_17 : decode cJx4a65c_grow_92f84 17 = .ok (.if_acmp .eq 28, 3) := by decide +kernel
theorem dJx4a65c_grow_92f84_20 : decode cJx4a65c_grow_92f84 20 = .ok (.iload_n 2, 1) := by decide +kernel
theorem dJx4a65c_grow_92f84_21 : decode cJx4a65c_grow_92f84 21 = .ok (.iload_n 1, 1) := by decide +kernel
theorem dJx4a65c_grow_92f84_22 : decode cJx4a65c_grow_92f84 22 = .ok (.iload_n 2, 1) := by decide +kernel
theorem dJx4a65c_grow_92f84_23 : decode cJx4a65c_grow_92f84 23 = .ok (.isub, 1) := by decide +kernel
theorem dJx4a65c_grow_92f84_24 : decode cJx4a65c_grow_92f84 24 = .ok (.iload_n 2, 1) := by decide +kernel
theorem dJx4a65c_grow_92f84_25 : decode cJx4a65c_grow_92f84 25 = .ok (.iconst 1, 1) := by decide +kernel
theorem dJx4a65c_grow_92f84_26 : decode cJx4a65c_grow_92f84 26 = .ok (.ishr, 1) := by decide +kernel
theorem dJx4a65c_grow_92f84_27 : decode cJx4a65c_grow_92f84 27 = .ok (.invokestatic 73, 3) := by decide +kernel
theorem dJx4a65c_grow_92f84_30 : decode cJx4a65c_grow_92f84 30 = .ok (.istore_n 3, 1) := by decide +kernel
theorem dJx4a65c_grow_92f84_31 : decode cJx4a65c_grow_92f84 31 = .ok (.aload_n 0, 1) := by decide +kernel
theorem dJx4a65c_grow_92f84_32 : decode cJx4a65c_grow_92f84 32 = .ok (.aload_n 0, 1) := by decide +kernel
theorem dJx4a65c_grow_92f84_33 : decode cJx4a65c_grow_92f84 33 = .ok (.getfield 9, 3) := by decide +kernel
theorem dJx4a65c_grow_92f84_36 : decode cJx4a65c_grow_92f84 36 = .ok (.iload_n 3, 1) := by decide +kernel
theorem dJx4a65c_grow_92f84_37 : decode cJx4a65c_grow_92f84 37 = .ok (.invokestatic 66, 3) := by decide +kernel
theorem dJx4a65c_grow_92f84_40 : decode cJx4a65c_grow_92f84 40 = .ok (.dup_x1, 1) := by decide +kernel
theorem dJx4a65c_grow_92f84_41 : decode cJx4a65c_grow_92f84 41 = .ok (.putfield 9, 3) := by decide +kernel
theorem dJx4a65c_grow_92f84_44 : decode cJx4a65c_grow_92f84 44 = .ok (.areturn, 1) := by decide +kernel
theorem dJx4a65c_grow_92f84_45 : decode cJx4a65c_grow_92f84 45 = .ok (.aload_n 0, 1) := by decide +kernel
theorem dJx4a65c_grow_92f84_46 : decode cJx4a65c_grow_92f84 46 = .ok (.bipush 10, 2) := by decide +kernel
theorem dJx4a65c_grow_92f84_48 : decode cJx4a65c_grow_92f84 48 = .ok (.iload_n 1, 1) := by decide +kernel
theorem dJx4a65c_grow_92f84_49 : decode cJx4a65c_grow_92f84 49 = .ok (.invokestatic 79, 3) := by decide +kernel
theorem dJx4a65c_grow_92f84_52 : decode cJx4a65c_grow_92f84 52 = .ok (.anewarray 7, 3) := by decide +kernel
theorem dJx4a65c_grow_92f84_55 : decode cJx4a65c_grow_92f84 55 = .ok (.dup_x1, 1) := by decide +kernel
theorem dJx4a65c_grow_92f84_56 : decode cJx4a65c_grow_92f84 56 = .ok (.putfield 9, 3) := by decide +kernel
theorem dJx4a65c_grow_92f84_59 : decode cJx4a65c_grow_92f84 59 = .ok (.areturn, 1) := by decide +kernel
theorem dJx4a65c_grow_d5877_0 : decode cJx4a65c_grow_d5877 0 = .ok (.aload_n 0, 1) := by decide +kernel
theorem dJx4a65c_grow_d5877_1 : decode cJx4a65c_grow_d5877 1 = .ok (.aload_n 0, 1) := by decide +kernel
theorem dJx4a65c_grow_d5877_2 : decode cJx4a65c_grow_d5877 2 = .ok (.getfield 48, 3) := by decide +kernel
theorem dJx4a65c_grow_d5877_5 : decode cJx4a65c_grow_d5877 5 = .ok (.iconst 1, 1) := by decide +kernel
theorem dJx4a65c_grow_d5877_6 : decode cJx4a65c_grow_d5877 6 = .ok (.iadd, 1) := by decide +kernel
theorem dJx4a65c_grow_d5877_7 : decode cJx4a65c_grow_d5877 7 = .ok (.invokevirtual 69, 3) := by decide +kernel
theorem dJx4a65c_grow_d5877_10 : decode cJx4a65c_grow_d5877 10 = .ok (.areturn, 1) := by decide +kernel
theorem dJx4a65c_size_8abf5_0 : decode cJx4a65c_size_8abf5 0 = .ok (.aload_n 0, 1) := by decide +kernel
theorem dJx4a65c_size_8abf5_1 : decode cJx4a65c_size_8abf5 1 = .ok (.getfield 48, 3) := by decide +kernel
theorem dJx4a65c_size_8abf5_4 : decode cJx4a65c_size_8abf5 4 = .ok (.ireturn, 1) := by decide +kernel
theorem dJx4a65c_isEmpty_aae02_0 : decode cJx4a65c_isEmpty_aae02 0 = .ok (.aload_n 0, 1) := by decide +kernel
theorem dJx4a65c_isEmpty_aae02_1 : decode cJx4a65c_isEmpty_aae02 1 = .ok (.getfield 48, 3) := by decide +kernel
theorem dJx4a65c_isEmpty_aae02_4 : decode cJx4a65c_isEmpty_aae02 4 = .ok (.ifCond .ne 7, 3) := by decide +kernel
theorem dJx4a65c_isEmpty_aae02_7 : decode cJx4a65c_isEmpty_aae02 7 = .ok (.iconst 1, 1) := by decide +kernel
theorem dJx4a65c_isEmpty_aae02_8 : decode cJx4a65c_isEmpty_aae02 8 = .ok (.goto 4, 3) := by decide +kernel
theorem dJx4a65c_isEmpty_aae02_11 : decode cJx4a65c_isEmpty_aae02 11 = .ok (.iconst 0, 1) := by decide +kernel
theorem dJx4a65c_isEmpty_aae02_12 : decode cJx4a65c_isEmpty_aae02 12 = .ok (.ireturn, 1) := by decide +kernel
theorem dJx4a65c_elementData_915e3_0 : decode cJx4a65c_elementData_915e3 0 = .ok (.aload_n 0, 1) := by decide +kernel
theorem dJx4a65c_elementData_915e3_1 : decode cJx4a65c_elementData_915e3 1 = .ok (.getfield 9, 3) := by decide +kernel
theorem dJx4a65c_elementData_915e3_4 : decode cJx4a65c_elementData_915e3 4 = .ok (.iload_n 1, 1) := by decide +kernel
theorem dJx4a65c_elementData_915e3_5 : decode cJx4a65c_elementData_915e3 5 = .ok (.aaload, 1) := by decide +kernel
theorem dJx4a65c_elementData_915e3_6 : decode cJx4a65c_elementData_915e3 6 = .ok (.areturn, 1) := by decide +kernel
theorem dJx4a65c_get_915e3_0 : decode cJx4a65c_get_915e3 0 = .ok (.iload_n 1, 1) := by decide +kernel
theorem dJx4a65c_get_915e3_1 : decode cJx4a65c_get_915e3 1 = .ok (.aload_n 0, 1) := by decide +kernel
theorem dJx4a65c_get_915e3_2 : decode cJx4a65c_get_915e3 2 = .ok (.getfield 48, 3) := by decide +kernel
theorem dJx4a65c_get_915e3_5 : decode cJx4a65c_get_915e3 5 = .ok (.invokestatic 118, 3) := by decide +kernel
theorem dJx4a65c_get_915e3_8 : decode cJx4a65c_get_915e3 8 = .ok (.pop, 1) := by decide +kernel
theorem dJx4a65c_get_915e3_9 : decode cJx4a65c_get_915e3 9 = .ok (.aload_n 0, 1) := by decide +kernel
theorem dJx4a65c_get_915e3_10 : decode cJx4a65c_get_915e3 10 = .ok (.iload_n 1, 1) := by decide +kernel
theorem dJx4a65c_get_915e3_11 : decode cJx4a65c_get_915e3 11 = .ok (.invokevirtual 123, 3) := by decide +kernel
theorem dJx4a65c_get_915e3_14 : decode cJx4a65c_get_915e3 14 = .ok (.areturn, 1) := by decide +kernel
theorem dJx4a65c_add_72be8_0 : decode cJx4a65c_add_72be8 0 = .ok (.iload_n 3, 1) := by decide +kernel
theorem dJx4a65c_add_72be8_1 : decode cJx4a65c_add_72be8 1 = .ok (.aload_n 2, 1) := by decide +kernel
theorem dJx4a65c_add_72be8_2 : decode cJx4a65c_add_72be8 2 = .ok (.arraylength, 1) := by decide +kernel
theorem dJx4a65c_add_72be8_3 : decode cJx4a65c_add_72be8 3 = .ok (.if_icmp .ne 8, 3) := by decide +kernel
theorem dJx4a65c_add_72be8_6 : decode cJx4a65c_add_72be8 6 = .ok (.aload_n 0, 1) := by decide +kernel
theorem dJx4a65c_add_72be8_7 : decode cJx4a65c_add_72be8 7 = .ok (.invokevirtual 129, 3) := by decide +kernel
theorem dJx4a65c_add_72be8_10 : decode cJx4a65c_add_72be8 10 = .ok (.astore_n 2, 1) := by decide +kernel
theorem dJx4a65c_add_72be8_11 : decode cJx4a65c_add_72be8 11 = .ok (.aload_n 2, 1) := by decide +kernel
theorem dJx4a65c_add_72be8_12 : decode cJx4a65c_add_72be8 12 = .ok (.iload_n 3, 1) := by decide +kernel
theorem dJx4a65c_add_72be8_13 : decode cJx4a65c_add_72be8 13 = .ok (.aload_n 1, 1) := by decide +kernel
theorem dJx4a65c_add_72be8_14 : decode cJx4a65c_add_72be8 14 = .ok (.aastore, 1) := by decide +kernel
theorem dJx4a65c_add_72be8_15 : decode cJx4a65c_add_72be8 15 = .ok (.aload_n 0, 1) := by decide +kernel
theorem dJx4a65c_add_72be8_16 : decode cJx4a65c_add_72be8 16 = .ok (.iload_n 3, 1) := by decide +kernel
theorem dJx4a65c_add_72be8_17 : decode cJx4a65c_add_72be8 17 = .ok (.iconst 1, 1) := by decide +kernel
theorem dJx4a65c_add_72be8_18 : decode cJx4a65c_add_72be8 18 = .ok (.iadd, 1) := by decide +kernel
theorem dJx4a65c_add_72be8_19 : decode cJx4a65c_add_72be8 19 = .ok (.putfield 48, 3) := by decide +kernel
theorem dJx4a65c_add_72be8_22 : decode cJx4a65c_add_72be8 22 = .ok (.return_, 1) := by decide +kernel
theorem dJx4a65c_add_9ea2d_0 : decode cJx4a65c_add_9ea2d 0 = .ok (.aload_n 0, 1) := by decide +kernel
theorem dJx4a65c_add_9ea2d_1 : decode cJx4a65c_add_9ea2d 1 = .ok (.dup, 1) := by decide +kernel
theorem dJx4a65c_add_9ea2d_2 : decode cJx4a65c_add_9ea2d 2 = .ok (.getfield 63, 3) := by decide +kernel
theorem dJx4a65c_add_9ea2d_5 : decode cJx4a65c_add_9ea2d 5 = .ok (.iconst 1, 1) := by decide +kernel
theorem dJx4a65c_add_9ea2d_6 : decode cJx4a65c_add_9ea2d 6 = .ok (.iadd, 1) := by decide +kernel
theorem dJx4a65c_add_9ea2d_7 : decode cJx4a65c_add_9ea2d 7 = .ok (.putfield 63, 3) := by decide +kernel
theorem dJx4a65c_add_9ea2d_10 : decode cJx4a65c_add_9ea2d 10 = .ok (.aload_n 0, 1) := by decide +kernel
theorem dJx4a65c_add_9ea2d_11 : decode cJx4a65c_add_9ea2d 11 = .ok (.aload_n 1, 1) := by decide +kernel
theorem dJx4a65c_add_9ea2d_12 : decode cJx4a65c_add_9ea2d 12 = .ok (.aload_n 0, 1) := by decide +kernel
theorem dJx4a65c_add_9ea2d_13 : decode cJx4a65c_add_9ea2d 13 = .ok (.getfield 9, 3) := by decide +kernel
theorem dJx4a65c_add_9ea2d_16 : decode cJx4a65c_add_9ea2d 16 = .ok (.aload_n 0, 1) := by decide +kernel
theorem dJx4a65c_add_9ea2d_17 : decode cJx4a65c_add_9ea2d 17 = .ok (.getfield 48, 3) := by decide +kernel
theorem dJx4a65c_add_9ea2d_20 : decode cJx4a65c_add_9ea2d 20 = .ok (.invokevirtual 131, 3) := by decide +kernel
theorem dJx4a65c_add_9ea2d_23 : decode cJx4a65c_add_9ea2d 23 = .ok (.iconst 1, 1) := by decide +kernel
theorem dJx4a65c_add_9ea2d_24 : decode cJx4a65c_add_9ea2d 24 = .ok (.ireturn, 1) := by decide +kernel
theorem dJx4a65c_clear_da8c8_0 : decode cJx4a65c_clear_da8c8 0 = .ok (.aload_n 0, 1) := by decide +kernel
theorem dJx4a65c_clear_da8c8_1 : decode cJx4a65c_clear_da8c8 1 = .ok (.dup, 1) := by decide +kernel
theorem dJx4a65c_clear_da8c8_2 : decode cJx4a65c_clear_da8c8 2 = .ok (.getfield 63, 3) := by decide +kernel
theorem dJx4a65c_clear_da8c8_5 : decode cJx4a65c_clear_da8c8 5 = .ok (.iconst 1, 1) := by decide +kernel
theorem dJx4a65c_clear_da8c8_6 : decode cJx4a65c_clear_da8c8 6 = .ok (.iadd, 1) := by decide +kernel
theorem dJx4a65c_clear_da8c8_7 : decode cJx4a65c_clear_da8c8 7 = .ok (.putfield 63, 3) := by decide +kernel
theorem dJx4a65c_clear_da8c8_10 : decode cJx4a65c_clear_da8c8 10 = .ok (.aload_n 0, 1) := by decide +kernel
theorem dJx4a65c_clear_da8c8_11 : decode cJx4a65c_clear_da8c8 11 = .ok (.getfield 9, 3) := by decide +kernel
theorem dJx4a65c_clear_da8c8_14 : decode cJx4a65c_clear_da8c8 14 = .ok (.astore_n 1, 1) := by decide +kernel
theorem dJx4a65c_clear_da8c8_15 : decode cJx4a65c_clear_da8c8 15 = .ok (.aload_n 0, 1) := by decide +kernel
theorem dJx4a65c_clear_da8c8_16 : decode cJx4a65c_clear_da8c8 16 = .ok (.getfield 48, 3) := by decide +kernel
theorem dJx4a65c_clear_da8c8_19 : decode cJx4a65c_clear_da8c8 19 = .ok (.istore_n 2, 1) := by decide +kernel
theorem dJx4a65c_clear_da8c8_20 : decode cJx4a65c_clear_da8c8 20 = .ok (.aload_n 0, 1) := by decide +kernel
theorem dJx4a65c_clear_da8c8_21 : decode cJx4a65c_clear_da8c8 21 = .ok (.iconst 0, 1) := by decide +kernel
theorem dJx4a65c_clear_da8c8_22 : decode cJx4a65c_clear_da8c8 22 = .ok (.dup_x1, 1) := by decide +kernel
theorem dJx4a65c_clear_da8c8_23 : decode cJx4a65c_clear_da8c8 23 = .ok (.putfield 48, 3) := by decide +kernel
theorem dJx4a65c_clear_da8c8_26 : decode cJx4a65c_clear_da8c8 26 = .ok (.istore_n 3, 1) := by decide +kernel
theorem dJx4a65c_clear_da8c8_27 : decode cJx4a65c_clear_da8c8 27 = .ok (.iload_n 3, 1) := by decide +kernel
theorem dJx4a65c_clear_da8c8_28 : decode cJx4a65c_clear_da8c8 28 = .ok (.iload_n 2, 1) := by decide +kernel
theorem dJx4a65c_clear_da8c8_29 : decode cJx4a65c_clear_da8c8 29 = .ok (.if_icmp .ge 13, 3) := by decide +kernel
theorem dJx4a65c_clear_da8c8_32 : decode cJx4a65c_clear_da8c8 32 = .ok (.aload_n 1, 1) := by decide +kernel
theorem dJx4a65c_clear_da8c8_33 : decode cJx4a65c_clear_da8c8 33 = .ok (.iload_n 3, 1) := by decide +kernel
theorem dJx4a65c_clear_da8c8_34 : decode cJx4a65c_clear_da8c8 34 = .ok (.aconst_null, 1) := by decide +kernel
theorem dJx4a65c_clear_da8c8_35 : decode cJx4a65c_clear_da8c8 35 = .ok (.aastore, 1) := by decide +kernel
theorem dJx4a65c_clear_da8c8_36 : decode cJx4a65c_clear_da8c8 36 = .ok (.iinc 3 1, 3) := by decide +kernel
theorem dJx4a65c_clear_da8c8_39 : decode cJx4a65c_clear_da8c8 39 = .ok (.goto (-12), 3) := by decide +kernel
theorem dJx4a65c_clear_da8c8_42 : decode cJx4a65c_clear_da8c8 42 = .ok (.return_, 1) := by decide +kernel
theorem dJ7_copyOf_1904c_0 : decode cJ7_copyOf_1904c 0 = .ok (.aload_n 0, 1) := by decide +kernel
theorem dJ7_copyOf_1904c_1 : decode cJ7_copyOf_1904c 1 = .ok (.iload_n 1, 1) := by decide +kernel
theorem dJ7_copyOf_1904c_2 : decode cJ7_copyOf_1904c 2 = .ok (.aload_n 0, 1) := by decide +kernel
theorem dJ7_copyOf_1904c_3 : decode cJ7_copyOf_1904c 3 = .ok (.invokevirtual 86, 3) := by decide +kernel
theorem dJ7_copyOf_1904c_6 : decode cJ7_copyOf_1904c 6 = .ok (.invokestatic 300, 3) := by decide +kernel
theorem dJ7_copyOf_1904c_9 : decode cJ7_copyOf_1904c 9 = .ok (.areturn, 1) := by decide +kernel
theorem dJ7_copyOf_6403c_0 : decode cJ7_copyOf_6403c 0 = .ok (.aload_n 2, 1) := by decide +kernel
theorem dJ7_copyOf_6403c_1 : decode cJ7_copyOf_6403c 1 = .ok (.ldc 110, 2) := by decide +kernel
theorem dJ7_copyOf_6403c_3 : decode cJ7_copyOf_6403c 3 = .ok (.if_acmp .ne 10, 3) := by decide +kernel
theorem dJ7_copyOf_6403c_6 : decode cJ7_copyOf_6403c 6 = .ok (.iload_n 1, 1) := by decide +kernel
theorem dJ7_copyOf_6403c_7 : decode cJ7_copyOf_6403c 7 = .ok (.anewarray 2, 3) := by decide +kernel
theorem dJ7_copyOf_6403c_10 : decode cJ7_copyOf_6403c 10 = .ok (.goto 14, 3) := by decide +kernel
theorem dJ7_copyOf_6403c_13 : decode cJ7_copyOf_6403c 13 = .ok (.aload_n 2, 1) := by decide +kernel
theorem dJ7_copyOf_6403c_14 : decode cJ7_copyOf_6403c 14 = .ok (.invokevirtual 90, 3) := by decide +kernel
theorem dJ7_copyOf_6403c_17 : decode cJ7_copyOf_6403c 17 = .ok (.iload_n 1, 1) := by decide +kernel
theorem dJ7_copyOf_6403c_18 : decode cJ7_copyOf_6403c 18 = .ok (.invokestatic 95, 3) := by decide +kernel
theorem dJ7_copyOf_6403c_21 : decode cJ7_copyOf_6403c 21 = .ok (.checkcast 110, 3) := by decide +kernel
theorem dJ7_copyOf_6403c_24 : decode cJ7_copyOf_6403c 24 = .ok (.astore_n 3, 1) := by decide +kernel
theorem dJ7_copyOf_6403c_25 : decode cJ7_copyOf_6403c 25 = .ok (.aload_n 0, 1) := by decide +kernel
theorem dJ7_copyOf_6403c_26 : decode cJ7_copyOf_6403c 26 = .ok (.iconst 0, 1) := by decide +kernel
theorem dJ7_copyOf_6403c_27 : decode cJ7_copyOf_6403c 27 = .ok (.aload_n 3, 1) := by decide +kernel
theorem dJ7_copyOf_6403c_28 : decode cJ7_copyOf_6403c 28 = .ok (.iconst 0, 1) := by decide +kernel
theorem dJ7_copyOf_6403c_29 : decode cJ7_copyOf_6403c 29 = .ok (.aload_n 0, 1) := by decide +kernel
theorem dJ7_copyOf_6403c_30 : decode cJ7_copyOf_6403c 30 = .ok (.arraylength, 1) := by decide +kernel
theorem dJ7_copyOf_6403c_31 : decode cJ7_copyOf_6403c 31 = .ok (.iload_n 1, 1) := by decide +kernel
theorem dJ7_copyOf_6403c_32 : decode cJ7_copyOf_6403c 32 = .ok (.invokestatic 304, 3) := by decide +kernel
theorem dJ7_copyOf_6403c_35 : decode cJ7_copyOf_6403c 35 = .ok (.invokestatic 150, 3) := by decide +kernel
theorem dJ7_copyOf_6403c_38 : decode cJ7_copyOf_6403c 38 = .ok (.aload_n 3, 1) := by decide +kernel
theorem dJ7_copyOf_6403c_39 : decode cJ7_copyOf_6403c 39 = .ok (.areturn, 1) := by decide +kernel
theorem dJ15_checkIndex_7cf53_0 : decode cJ15_checkIndex_7cf53 0 = .ok (.iload_n 0, 1) := by decide +kernel
theorem dJ15_checkIndex_7cf53_1 : decode cJ15_checkIndex_7cf53 1 = .ok (.iload_n 1, 1) := by decide +kernel
theorem dJ15_checkIndex_7cf53_2 : decode cJ15_checkIndex_7cf53 2 = .ok (.aconst_null, 1) := by decide +kernel
theorem dJ15_checkIndex_7cf53_3 : decode cJ15_checkIndex_7cf53 3 = .ok (.invokestatic 105, 3) := by decide +kernel
theorem dJ15_checkIndex_7cf53_6 : decode cJ15_checkIndex_7cf53 6 = .ok (.ireturn, 1) := by decide +kernel
theorem dJ8_newLength_cabcc_0 : decode cJ8_newLength_cabcc 0 = .ok (.iload_n 0, 1) := by decide +kernel
theorem dJ8_newLength_cabcc_1 : decode cJ8_newLength_cabcc 1 = .ok (.iload_n 1, 1) := by decide +kernel
theorem dJ8_newLength_cabcc_2 : decode cJ8_newLength_cabcc 2 = .ok (.iload_n 2, 1) := by decide +kernel
theorem dJ8_newLength_cabcc_3 : decode cJ8_newLength_cabcc 3 = .ok (.invokestatic 194, 3) := by decide +kernel
theorem dJ8_newLength_cabcc_6 : decode cJ8_newLength_cabcc 6 = .ok (.iadd, 1) := by decide +kernel
theorem dJ8_newLength_cabcc_7 : decode cJ8_newLength_cabcc 7 = .ok (.istore_n 3, 1) := by decide +kernel
theorem dJ8_newLength_cabcc_8 : decode cJ8_newLength_cabcc 8 = .ok (.iconst 0, 1) := by decide +kernel
theorem dJ8_newLength_cabcc_9 : decode cJ8_newLength_cabcc 9 = .ok (.iload_n 3, 1) := by decide +kernel
theorem dJ8_newLength_cabcc_10 : decode cJ8_newLength_cabcc 10 = .ok (.if_icmp .ge 11, 3) := by decide +kernel
theorem dJ8_newLength_cabcc_13 : decode cJ8_newLength_cabcc 13 = .ok (.iload_n 3, 1) := by decide +kernel
theorem dJ8_newLength_cabcc_14 : decode cJ8_newLength_cabcc 14 = .ok (.ldc 200, 2) := by decide +kernel
theorem dJ8_newLength_cabcc_16 : decode cJ8_newLength_cabcc 16 = .ok (.if_icmp .gt 5, 3) := by decide +kernel
theorem dJ8_newLength_cabcc_19 : decode cJ8_newLength_cabcc 19 = .ok (.iload_n 3, 1) := by decide +kernel
theorem dJ8_newLength_cabcc_20 : decode cJ8_newLength_cabcc 20 = .ok (.ireturn, 1) := by decide +kernel
theorem dJ8_newLength_cabcc_21 : decode cJ8_newLength_cabcc 21 = .ok (.iload_n 0, 1) := by decide +kernel
theorem dJ8_newLength_cabcc_22 : decode cJ8_newLength_cabcc 22 = .ok (.iload_n 1, 1) := by decide +kernel
theorem dJ8_newLength_cabcc_23 : decode cJ8_newLength_cabcc 23 = .ok (.invokestatic 201, 3) := by decide +kernel
theorem dJ8_newLength_cabcc_26 : decode cJ8_newLength_cabcc 26 = .ok (.ireturn, 1) := by decide +kernel
theorem dJ8_hugeLength_7cf53_0 : decode cJ8_hugeLength_7cf53 0 = .ok (.iload_n 0, 1) := by decide +kernel
theorem dJ8_hugeLength_7cf53_1 : decode cJ8_hugeLength_7cf53 1 = .ok (.iload_n 1, 1) := by decide +kernel
theorem dJ8_hugeLength_7cf53_2 : decode cJ8_hugeLength_7cf53 2 = .ok (.iadd, 1) := by decide +kernel
theorem dJ8_hugeLength_7cf53_3 : decode cJ8_hugeLength_7cf53 3 = .ok (.istore_n 2, 1) := by decide +kernel
theorem dJ8_hugeLength_7cf53_4 : decode cJ8_hugeLength_7cf53 4 = .ok (.iload_n 2, 1) := by decide +kernel
theorem dJ8_hugeLength_7cf53_5 : decode cJ8_hugeLength_7cf53 5 = .ok (.ifCond .ge 44, 3) := by decide +kernel
theorem dJ8_hugeLength_7cf53_8 : decode cJ8_hugeLength_7cf53 8 = .ok (.new 204, 3) := by decide +kernel
theorem dJ8_hugeLength_7cf53_11 : decode cJ8_hugeLength_7cf53 11 = .ok (.dup, 1) := by decide +kernel
theorem dJ8_hugeLength_7cf53_12 : decode cJ8_hugeLength_7cf53 12 = .ok (.new 89, 3) := by decide +kernel
theorem dJ8_hugeLength_7cf53_15 : decode cJ8_hugeLength_7cf53 15 = .ok (.dup, 1) := by decide +kernel
theorem dJ8_hugeLength_7cf53_16 : decode cJ8_hugeLength_7cf53 16 = .ok (.invokespecial 91, 3) := by decide +kernel
theorem dJ8_hugeLength_7cf53_19 : decode cJ8_hugeLength_7cf53 19 = .ok (.ldc 206, 2) := by decide +kernel
theorem dJ8_hugeLength_7cf53_21 : decode cJ8_hugeLength_7cf53 21 = .ok (.invokevirtual 94, 3) := by decide +kernel
theorem dJ8_hugeLength_7cf53_24 : decode cJ8_hugeLength_7cf53 24 = .ok (.iload_n 0, 1) := by decide +kernel
theorem dJ8_hugeLength_7cf53_25 : decode cJ8_hugeLength_7cf53 25 = .ok (.invokevirtual 98, 3) := by decide +kernel
theorem dJ8_hugeLength_7cf53_28 : decode cJ8_hugeLength_7cf53 28 = .ok (.ldc 208, 2) := by decide +kernel
theorem dJ8_hugeLength_7cf53_30 : decode cJ8_hugeLength_7cf53 30 = .ok (.invokevirtual 94, 3) := by decide +kernel
theorem dJ8_hugeLength_7cf53_33 : decode cJ8_hugeLength_7cf53 33 = .ok (.iload_n 1, 1) := by decide +kernel
theorem dJ8_hugeLength_7cf53_34 : decode cJ8_hugeLength_7cf53 34 = .ok (.invokevirtual 98, 3) := by decide +kernel
theorem dJ8_hugeLength_7cf53_37 : decode cJ8_hugeLength_7cf53 37 = .ok (.ldc 210, 2) := by decide +kernel
theorem dJ8_hugeLength_7cf53_39 : decode cJ8_hugeLength_7cf53 39 = .ok (.invokevirtual 94, 3) := by decide +kernel
theorem dJ8_hugeLength_7cf53_42 : decode cJ8_hugeLength_7cf53 42 = .ok (.invokevirtual 101, 3) := by decide +kernel
theorem dJ8_hugeLength_7cf53_45 : decode cJ8_hugeLength_7cf53 45 = .ok (.invokespecial 212, 3) := by decide +kernel
theorem dJ8_hugeLength_7cf53_48 : decode cJ8_hugeLength_7cf53 48 = .ok (.athrow, 1) := by decide +kernel
theorem dJ8_hugeLength_7cf53_49 : decode cJ8_hugeLength_7cf53 49 = .ok (.iload_n 2, 1) := by decide +kernel
theorem dJ8_hugeLength_7cf53_50 : decode cJ8_hugeLength_7cf53 50 = .ok (.ldc 200, 2) := by decide +kernel
theorem dJ8_hugeLength_7cf53_52 : decode cJ8_hugeLength_7cf53 52 = .ok (.if_icmp .gt 6, 3) := by decide +kernel
theorem dJ8_hugeLength_7cf53_55 : decode cJ8_hugeLength_7cf53 55 = .ok (.ldc 200, 2) := by decide +kernel
theorem dJ8_hugeLength_7cf53_57 : decode cJ8_hugeLength_7cf53 57 = .ok (.ireturn, 1) := by decide +kernel
theorem dJ8_hugeLength_7cf53_58 : decode cJ8_hugeLength_7cf53 58 = .ok (.iload_n 2, 1) := by decide +kernel
theorem dJ8_hugeLength_7cf53_59 : decode cJ8_hugeLength_7cf53 59 = .ok (.ireturn, 1) := by decide +kernel
theorem dJ3_checkIndex_8e157_0 : decode cJ3_checkIndex_8e157 0 = .ok (.iload_n 0, 1) := by decide +kernel
theorem dJ3_checkIndex_8e157_1 : decode cJ3_checkIndex_8e157 1 = .ok (.ifCond .lt 8, 3) := by decide +kernel
theorem dJ3_checkIndex_8e157_4 : decode cJ3_checkIndex_8e157 4 = .ok (.iload_n 0, 1) := by decide +kernel
theorem dJ3_checkIndex_8e157_5 : decode cJ3_checkIndex_8e157 5 = .ok (.iload_n 1, 1) := by decide +kernel
theorem dJ3_checkIndex_8e157_6 : decode cJ3_checkIndex_8e157 6 = .ok (.if_icmp .lt 10, 3) := by decide +kernel
theorem dJ3_checkIndex_8e157_9 : decode cJ3_checkIndex_8e157 9 = .ok (.aload_n 2, 1) := by decide +kernel
theorem dJ3_checkIndex_8e157_10 : decode cJ3_checkIndex_8e157 10 = .ok (.iload_n 0, 1) := by decide +kernel
theorem dJ3_checkIndex_8e157_11 : decode cJ3_checkIndex_8e157 11 = .ok (.iload_n 1, 1) := by decide +kernel
theorem dJ3_checkIndex_8e157_12 : decode cJ3_checkIndex_8e157 12 = .ok (.invokestatic 95, 3) := by decide +kernel
theorem dJ3_checkIndex_8e157_15 : decode cJ3_checkIndex_8e157 15 = .ok (.athrow, 1) := by decide +kernel
theorem dJ3_checkIndex_8e157_16 : decode cJ3_checkIndex_8e157 16 = .ok (.iload_n 0, 1) := by decide +kernel
theorem dJ3_checkIndex_8e157_17 : decode cJ3_checkIndex_8e157 17 = .ok (.ireturn, 1) := by decide +kernel
theorem dX0_init_0 : decode cX0_init 0 = .ok (.aload_n 0, 1) := by decide +kernel
theorem dX0_init_1 : decode cX0_init 1 = .ok (.invokespecial 3, 3) := by decide +kernel
theorem dX0_init_4 : decode cX0_init 4 = .ok (.aload_n 0, 1) := by decide +kernel
theorem dX0_init_5 : decode cX0_init 5 = .ok (.bipush 100, 2) := by decide +kernel
theorem dX0_init_7 : decode cX0_init 7 = .ok (.putfield 9, 3) := by decide +kernel
theorem dX0_init_10 : decode cX0_init 10 = .ok (.return_, 1) := by decide +kernel
theorem dX1_init_0 : decode cX1_init 0 = .ok (.aload_n 0, 1) := by decide +kernel
theorem dX1_init_1 : decode cX1_init 1 = .ok (.invokespecial 3, 3) := by decide +kernel
theorem dX1_init_4 : decode cX1_init 4 = .ok (.aload_n 0, 1) := by decide +kernel
theorem dX1_init_5 : decode cX1_init 5 = .ok (.new 9, 3) := by decide +kernel
theorem dX1_init_8 : decode cX1_init 8 = .ok (.dup, 1) := by decide +kernel
theorem dX1_init_9 : decode cX1_init 9 = .ok (.invokespecial 11, 3) := by decide +kernel
theorem dX1_init_12 : decode cX1_init 12 = .ok (.putfield 12, 3) := by decide +kernel
theorem dX1_init_15 : decode cX1_init 15 = .ok (.aload_n 0, 1) := by decide +kernel
theorem dX1_init_16 : decode cX1_init 16 = .ok (.new 9, 3) := by decide +kernel
theorem dX1_init_19 : decode cX1_init 19 = .ok (.dup, 1) := by decide +kernel
theorem dX1_init_20 : decode cX1_init 20 = .ok (.invokespecial 11, 3) := by decide +kernel
theorem dX1_init_23 : decode cX1_init 23 = .ok (.putfield 18, 3) := by decide +kernel
theorem dX1_init_26 : decode cX1_init 26 = .ok (.return_, 1) := by decide +kernel
theorem dX1_followOf_0 : decode cX1_followOf 0 = .ok (.iload_n 1, 1) := by decide +kernel
theorem dX1_followOf_1 : decode cX1_followOf 1 = .ok (.ifCond .eq 10, 3) := by decide +kernel
theorem dX1_followOf_4 : decode cX1_followOf 4 = .ok (.aload_n 0, 1) := by decide +kernel
theorem dX1_followOf_5 : decode cX1_followOf 5 = .ok (.getfield 12, 3) := by decide +kernel
theorem dX1_followOf_8 : decode cX1_followOf 8 = .ok (.goto 7, 3) := by decide +kernel
theorem dX1_followOf_11 : decode cX1_followOf 11 = .ok (.aload_n 0, 1) := by decide +kernel
theorem dX1_followOf_12 : decode cX1_followOf 12 = .ok (.getfield 18, 3) := by decide +kernel
theorem dX1_followOf_15 : decode cX1_followOf 15 = .ok (.areturn, 1) := by decide +kernel
theorem dX1_timeOf_0 : decode cX1_timeOf 0 = .ok (.aload_n 1, 1) := by decide +kernel
theorem dX1_timeOf_1 : decode cX1_timeOf 1 = .ok (.iload_n 2, 1) := by decide +kernel
theorem dX1_timeOf_2 : decode cX1_timeOf 2 = .ok (.invokevirtual 21, 3) := by decide +kernel
theorem dX1_timeOf_5 : decode cX1_timeOf 5 = .ok (.aload_n 0, 1) := by decide +kernel
theorem dX1_timeOf_6 : decode cX1_timeOf 6 = .ok (.aload_n 1, 1) := by decide +kernel
theorem dX1_timeOf_7 : decode cX1_timeOf 7 = .ok (.iload_n 2, 1) := by decide +kernel
theorem dX1_timeOf_8 : decode cX1_timeOf 8 = .ok (.invokevirtual 27, 3) := by decide +kernel
theorem dX1_timeOf_11 : decode cX1_timeOf 11 = .ok (.invokevirtual 31, 3) := by decide +kernel
theorem dX1_timeOf_14 : decode cX1_timeOf 14 = .ok (.getfield 35, 3) := by decide +kernel
theorem dX1_timeOf_17 : decode cX1_timeOf 17 = .ok (.iadd, 1) := by decide +kernel
theorem dX1_timeOf_18 : decode cX1_timeOf 18 = .ok (.ireturn, 1) := by decide +kernel
theorem dX1_heightOf_0 : decode cX1_heightOf 0 = .ok (.aload_n 0, 1) := by decide +kernel
theorem dX1_heightOf_1 : decode cX1_heightOf 1 = .ok (.aload_n 1, 1) := by decide +kernel
theorem dX1_heightOf_2 : decode cX1_heightOf 2 = .ok (.iload_n 2, 1) := by decide +kernel
theorem dX1_heightOf_3 : decode cX1_heightOf 3 = .ok (.invokevirtual 27, 3) := by decide +kernel
theorem dX1_heightOf_6 : decode cX1_heightOf 6 = .ok (.invokevirtual 31, 3) := by decide +kernel
theorem dX1_heightOf_9 : decode cX1_heightOf 9 = .ok (.getfield 39, 3) := by decide +kernel
theorem dX1_heightOf_12 : decode cX1_heightOf 12 = .ok (.istore_n 3, 1) := by decide +kernel
theorem dX1_heightOf_13 : decode cX1_heightOf 13 = .ok (.aload_n 1, 1) := by decide +kernel
theorem dX1_heightOf_14 : decode cX1_heightOf 14 = .ok (.iload_n 2, 1) := by decide +kernel
theorem dX1_heightOf_15 : decode cX1_heightOf 15 = .ok (.invokevirtual 42, 3) := by decide +kernel
theorem dX1_heightOf_18 : decode cX1_heightOf 18 = .ok (.iload_n 3, 1) := by decide +kernel
theorem dX1_heightOf_19 : decode cX1_heightOf 19 = .ok (.imul, 1) := by decide +kernel
theorem dX1_heightOf_20 : decode cX1_heightOf 20 = .ok (.bipush 100, 2) := by decide +kernel
theorem dX1_heightOf_22 : decode cX1_heightOf 22 = .ok (.idiv, 1) := by decide +kernel
theorem dX1_heightOf_23 : decode cX1_heightOf 23 = .ok (.aload_n 0, 1) := by decide +kernel
theorem dX1_heightOf_24 : decode cX1_heightOf 24 = .ok (.getfield 45, 3) := by decide +kernel
theorem dX1_heightOf_27 : decode cX1_heightOf 27 = .ok (.iadd, 1) := by decide +kernel
theorem dX1_heightOf_28 : decode cX1_heightOf 28 = .ok (.ireturn, 1) := by decide +kernel
theorem dX1_isOrderly_0 : decode cX1_isOrderly 0 = .ok (.iconst 1, 1) := by decide +kernel
theorem dX1_isOrderly_1 : decode cX1_isOrderly 1 = .ok (.istore_n 2, 1) := by decide +kernel
theorem dX1_isOrderly_2 : decode cX1_isOrderly 2 = .ok (.iload_n 2, 1) := by decide +kernel
theorem dX1_isOrderly_3 : decode cX1_isOrderly 3 = .ok (.aload_n 1, 1) := by decide +kernel
theorem dX1_isOrderly_4 : decode cX1_isOrderly 4 = .ok (.getfield 48, 3) := by decide +kernel
theorem dX1_isOrderly_7 : decode cX1_isOrderly 7 = .ok (.if_icmp .ge 28, 3) := by decide +kernel
theorem dX1_isOrderly_10 : decode cX1_isOrderly 10 = .ok (.aload_n 0, 1) := by decide +kernel
theorem dX1_isOrderly_11 : decode cX1_isOrderly 11 = .ok (.aload_n 1, 1) := by decide +kernel
theorem dX1_isOrderly_12 : decode cX1_isOrderly 12 = .ok (.iload_n 2, 1) := by decide +kernel
theorem dX1_isOrderly_13 : decode cX1_isOrderly 13 = .ok (.invokevirtual 51, 3) := by decide +kernel
theorem dX1_isOrderly_16 : decode cX1_isOrderly 16 = .ok (.aload_n 0, 1) := by decide +kernel
theorem dX1_isOrderly_17 : decode cX1_isOrderly 17 = .ok (.aload_n 1, 1) := by decide +kernel
theorem dX1_isOrderly_18 : decode cX1_isOrderly 18 = .ok (.iload_n 2, 1) := by decide +kernel
theorem dX1_isOrderly_19 : decode cX1_isOrderly 19 = .ok (.iconst 1, 1) := by decide +kernel
theorem dX1_isOrderly_20 : decode cX1_isOrderly 20 = .ok (.isub, 1) := by decide +kernel
theorem dX1_isOrderly_21 : decode cX1_isOrderly 21 = .ok (.invokevirtual 51, 3) := by decide +kernel
theorem dX1_isOrderly_24 : decode cX1_isOrderly 24 = .ok (.if_icmp .gt 5, 3) := by decide +kernel
theorem dX1_isOrderly_27 : decode cX1_isOrderly 27 = .ok (.iconst 0, 1) := by decide +kernel
theorem dX1_isOrderly_28 : decode cX1_isOrderly 28 = .ok (.ireturn, 1) := by decide +kernel
theorem dX1_isOrderly_29 : decode cX1_isOrderly 29 = .ok (.iinc 2 1, 3) := by decide +kernel
theorem dX1_isOrderly_32 : decode cX1_isOrderly 32 = .ok (.goto (-30), 3) := by decide +kernel
theorem dX1_isOrderly_35 : decode cX1_isOrderly 35 = .ok (.iconst 1, 1) := by decide +kernel
theorem dX1_isOrderly_36 : decode cX1_isOrderly 36 = .ok (.ireturn, 1) := by decide +kernel
theorem dX1_latestWater_0 : decode cX1_latestWater 0 = .ok (.iload_n 2, 1) := by decide +kernel
theorem dX1_latestWater_1 : decode cX1_latestWater 1 = .ok (.istore 4, 2) := by decide +kernel
theorem dX1_latestWater_3 : decode cX1_latestWater 3 = .ok (.iload_n 2, 1) := by decide +kernel
theorem dX1_latestWater_4 : decode cX1_latestWater 4 = .ok (.iconst 1, 1) := by decide +kernel
theorem dX1_latestWater_5 : decode cX1_latestWater 5 = .ok (.iadd, 1) := by decide +kernel
theorem dX1_latestWater_6 : decode cX1_latestWater 6 = .ok (.istore 5, 2) := by decide +kernel
theorem dX1_latestWater_8 : decode cX1_latestWater 8 = .ok (.iload 5, 2) := by decide +kernel
theorem dX1_latestWater_10 : decode cX1_latestWater 10 = .ok (.aload_n 1, 1) := by decide +kernel
theorem dX1_latestWater_11 : decode cX1_latestWater 11 = .ok (.getfield 48, 3) := by decide +kernel
theorem dX1_latestWater_14 : decode cX1_latestWater 14 = .ok (.if_icmp .ge 27, 3) := by decide +kernel
theorem dX1_latestWater_17 : decode cX1_latestWater 17 = .ok (.aload_n 0, 1) := by decide +kernel
theorem dX1_latestWater_18 : decode cX1_latestWater 18 = .ok (.aload_n 1, 1) := by decide +kernel
theorem dX1_latestWater_19 : decode cX1_latestWater 19 = .ok (.iload 5, 2) := by decide +kernel
theorem dX1_latestWater_21 : decode cX1_latestWater 21 = .ok (.invokevirtual 51, 3) := by decide +kernel
theorem dX1_latestWater_24 : decode cX1_latestWater 24 = .ok (.iload_n 3, 1) := by decide +kernel
theorem dX1_latestWater_25 : decode cX1_latestWater 25 = .ok (.if_icmp .le 6, 3) := by decide +kernel
theorem dX1_latestWater_28 : decode cX1_latestWater 28 = .ok (.goto 13, 3) := by decide +kernel
theorem dX1_latestWater_31 : decode cX1_latestWater 31 = .ok (.iload 5, 2) := by decide +kernel
theorem dX1_latestWater_33 : decode cX1_latestWater 33 = .ok (.istore 4, 2) := by decide +kernel
theorem dX1_latestWater_35 : decode cX1_latestWater 35 = .ok (.iinc 5 1, 3) := by decide +kernel
theorem dX1_latestWater_38 : decode cX1_latestWater 38 = .ok (.goto (-30), 3) := by decide +kernel
theorem dX1_latestWater_41 : decode cX1_latestWater 41 = .ok (.iload 4, 2) := by decide +kernel
theorem dX1_latestWater_43 : decode cX1_latestWater 43 = .ok (.ireturn, 1) := by decide +kernel
theorem dX1_heightBehind_0 : decode cX1_heightBehind 0 = .ok (.aload_n 0, 1) := by decide +kernel
theorem dX1_heightBehind_1 : decode cX1_heightBehind 1 = .ok (.aload_n 1, 1) := by decide +kernel
theorem dX1_heightBehind_2 : decode cX1_heightBehind 2 = .ok (.iload_n 2, 1) := by decide +kernel
theorem dX1_heightBehind_3 : decode cX1_heightBehind 3 = .ok (.invokevirtual 51, 3) := by decide +kernel
theorem dX1_heightBehind_6 : decode cX1_heightBehind 6 = .ok (.i2l, 1) := by decide +kernel
theorem dX1_heightBehind_7 : decode cX1_heightBehind 7 = .ok (.lstore 4, 2) := by decide +kernel
theorem dX1_heightBehind_9 : decode cX1_heightBehind 9 = .ok (.aload_n 0, 1) := by decide +kernel
theorem dX1_heightBehind_10 : decode cX1_heightBehind 10 = .ok (.aload_n 1, 1) := by decide +kernel
theorem dX1_heightBehind_11 : decode cX1_heightBehind 11 = .ok (.iload_n 2, 1) := by decide +kernel
theorem dX1_heightBehind_12 : decode cX1_heightBehind 12 = .ok (.iconst 1, 1) := by decide +kernel
theorem dX1_heightBehind_13 : decode cX1_heightBehind 13 = .ok (.iadd, 1) := by decide +kernel
theorem dX1_heightBehind_14 : decode cX1_heightBehind 14 = .ok (.invokevirtual 51, 3) := by decide +kernel
theorem dX1_heightBehind_17 : decode cX1_heightBehind 17 = .ok (.i2l, 1) := by decide +kernel
theorem dX1_heightBehind_18 : decode cX1_heightBehind 18 = .ok (.lload 4, 2) := by decide +kernel
theorem dX1_heightBehind_20 : decode cX1_heightBehind 20 = .ok (.lsub, 1) := by decide +kernel
theorem dX1_heightBehind_21 : decode cX1_heightBehind 21 = .ok (.lstore 6, 2) := by decide +kernel
theorem dX1_heightBehind_23 : decode cX1_heightBehind 23 = .ok (.aload_n 0, 1) := by decide +kernel
theorem dX1_heightBehind_24 : decode cX1_heightBehind 24 = .ok (.aload_n 1, 1) := by decide +kernel
theorem dX1_heightBehind_25 : decode cX1_heightBehind 25 = .ok (.iload_n 2, 1) := by decide +kernel
theorem dX1_heightBehind_26 : decode cX1_heightBehind 26 = .ok (.invokevirtual 54, 3) := by decide +kernel
theorem dX1_heightBehind_29 : decode cX1_heightBehind 29 = .ok (.i2l, 1) := by decide +kernel
theorem dX1_heightBehind_30 : decode cX1_heightBehind 30 = .ok (.lstore 8, 2) := by decide +kernel
theorem dX1_heightBehind_32 : decode cX1_heightBehind 32 = .ok (.aload_n 0, 1) := by decide +kernel
theorem dX1_heightBehind_33 : decode cX1_heightBehind 33 = .ok (.aload_n 1, 1) := by decide +kernel
theorem dX1_heightBehind_34 : decode cX1_heightBehind 34 = .ok (.iload_n 2, 1) := by decide +kernel
theorem dX1_heightBehind_35 : decode cX1_heightBehind 35 = .ok (.iconst 1, 1) := by decide +kernel
theorem dX1_heightBehind_36 : decode cX1_heightBehind 36 = .ok (.iadd, 1) := by decide +kernel
theorem dX1_heightBehind_37 : decode cX1_heightBehind 37 = .ok (.invokevirtual 54, 3) := by decide +kernel
theorem dX1_heightBehind_40 : decode cX1_heightBehind 40 = .ok (.i2l, 1) := by decide +kernel
theorem dX1_heightBehind_41 : decode cX1_heightBehind 41 = .ok (.lload 8, 2) := by decide +kernel
theorem dX1_heightBehind_43 : decode cX1_heightBehind 43 = .ok (.lsub, 1) := by decide +kernel
theorem dX1_heightBehind_44 : decode cX1_heightBehind 44 = .ok (.lstore 10, 2) := by decide +kernel
theorem dX1_heightBehind_46 : decode cX1_heightBehind 46 = .ok (.iload_n 3, 1) := by decide +kernel
theorem dX1_heightBehind_47 : decode cX1_heightBehind 47 = .ok (.i2l, 1) := by decide +kernel
theorem dX1_heightBehind_48 : decode cX1_heightBehind 48 = .ok (.lload 4, 2) := by decide +kernel
theorem dX1_heightBehind_50 : decode cX1_heightBehind 50 = .ok (.lsub, 1) := by decide +kernel
theorem dX1_heightBehind_51 : decode cX1_heightBehind 51 = .ok (.lload 6, 2) := by decide +kernel
theorem dX1_heightBehind_53 : decode cX1_heightBehind 53 = .ok (.invokestatic 56, 3) := by decide +kernel
theorem dX1_heightBehind_56 : decode cX1_heightBehind 56 = .ok (.lstore 12, 2) := by decide +kernel
theorem dX1_heightBehind_58 : decode cX1_heightBehind 58 = .ok (.lload 8, 2) := by decide +kernel
theorem dX1_heightBehind_60 : decode cX1_heightBehind 60 = .ok (.lload 10, 2) := by decide +kernel
theorem dX1_heightBehind_62 : decode cX1_heightBehind 62 = .ok (.lload 12, 2) := by decide +kernel
theorem dX1_heightBehind_64 : decode cX1_heightBehind 64 = .ok (.lmul, 1) := by decide +kernel
theorem dX1_heightBehind_65 : decode cX1_heightBehind 65 = .ok (.ldc2_w 60, 3) := by decide +kernel
theorem dX1_heightBehind_68 : decode cX1_heightBehind 68 = .ok (.lload 6, 2) := by decide +kernel
theorem dX1_heightBehind_70 : decode cX1_heightBehind 70 = .ok (.lmul, 1) := by decide +kernel
theorem dX1_heightBehind_71 : decode cX1_heightBehind 71 = .ok (.invokestatic 62, 3) := by decide +kernel
theorem dX1_heightBehind_74 : decode cX1_heightBehind 74 = .ok (.ladd, 1) := by decide +kernel
theorem dX1_heightBehind_75 : decode cX1_heightBehind 75 = .ok (.l2i, 1) := by decide +kernel
theorem dX1_heightBehind_76 : decode cX1_heightBehind 76 = .ok (.ireturn, 1) := by decide +kernel
theorem dX1_twelfthsGone_0 : decode cX1_twelfthsGone 0 = .ok (.ldc2_w 65, 3) := by decide +kernel
theorem dX1_twelfthsGone_3 : decode cX1_twelfthsGone 3 = .ok (.lload_n 0, 1) := by decide +kernel
theorem dX1_twelfthsGone_4 : decode cX1_twelfthsGone 4 = .ok (.lmul, 1) := by decide +kernel
theorem dX1_twelfthsGone_5 : decode cX1_twelfthsGone 5 = .ok (.lload_n 2, 1) := by decide +kernel
theorem dX1_twelfthsGone_6 : decode cX1_twelfthsGone 6 = .ok (.invokestatic 62, 3) := by decide +kernel
theorem dX1_twelfthsGone_9 : decode cX1_twelfthsGone 9 = .ok (.l2i, 1) := by decide +kernel
theorem dX1_twelfthsGone_10 : decode cX1_twelfthsGone 10 = .ok (.istore 4, 2) := by decide +kernel
theorem dX1_twelfthsGone_12 : decode cX1_twelfthsGone 12 = .ok (.iload 4, 2) := by decide +kernel
theorem dX1_twelfthsGone_14 : decode cX1_twelfthsGone 14 = .ok (.ifCond .lt 21, 3) := by decide +kernel
theorem dX1_twelfthsGone_17 : decode cX1_twelfthsGone 17 = .ok (.iload 4, 2) := by decide +kernel
theorem dX1_twelfthsGone_19 : decode cX1_twelfthsGone 19 = .ok (.getstatic 67, 3) := by decide +kernel
theorem dX1_twelfthsGone_22 : decode cX1_twelfthsGone 22 = .ok (.arraylength, 1) := by decide +kernel
theorem dX1_twelfthsGone_23 : decode cX1_twelfthsGone 23 = .ok (.if_icmp .ge 12, 3) := by decide +kernel
theorem dX1_twelfthsGone_26 : decode cX1_twelfthsGone 26 = .ok (.iload 4, 2) := by decide +kernel
theorem dX1_twelfthsGone_28 : decode cX1_twelfthsGone 28 = .ok (.getstatic 71, 3) := by decide +kernel
theorem dX1_twelfthsGone_31 : decode cX1_twelfthsGone 31 = .ok (.arraylength, 1) := by decide +kernel
theorem dX1_twelfthsGone_32 : decode cX1_twelfthsGone 32 = .ok (.if_icmp .lt 5, 3) := by decide +kernel
theorem dX1_twelfthsGone_35 : decode cX1_twelfthsGone 35 = .ok (.lconst 0, 1) := by decide +kernel
theorem dX1_twelfthsGone_36 : decode cX1_twelfthsGone 36 = .ok (.lreturn, 1) := by decide +kernel
theorem dX1_twelfthsGone_37 : decode cX1_twelfthsGone 37 = .ok (.getstatic 71, 3) := by decide +kernel
theorem dX1_twelfthsGone_40 : decode cX1_twelfthsGone 40 = .ok (.iload 4, 2) := by decide +kernel
theorem dX1_twelfthsGone_42 : decode cX1_twelfthsGone 42 = .ok (.iaload, 1) := by decide +kernel
theorem dX1_twelfthsGone_43 : decode cX1_twelfthsGone 43 = .ok (.i2l, 1) := by decide +kernel
theorem dX1_twelfthsGone_44 : decode cX1_twelfthsGone 44 = .ok (.lload_n 2, 1) := by decide +kernel
theorem dX1_twelfthsGone_45 : decode cX1_twelfthsGone 45 = .ok (.lmul, 1) := by decide +kernel
theorem dX1_twelfthsGone_46 : decode cX1_twelfthsGone 46 = .ok (.getstatic 67, 3) := by decide +kernel
theorem dX1_twelfthsGone_49 : decode cX1_twelfthsGone 49 = .ok (.iload 4, 2) := by decide +kernel
theorem dX1_twelfthsGone_51 : decode cX1_twelfthsGone 51 = .ok (.iaload, 1) := by decide +kernel
theorem dX1_twelfthsGone_52 : decode cX1_twelfthsGone 52 = .ok (.i2l, 1) := by decide +kernel
theorem dX1_twelfthsGone_53 : decode cX1_twelfthsGone 53 = .ok (.ldc2_w 65, 3) := by decide +kernel
theorem dX1_twelfthsGone_56 : decode cX1_twelfthsGone 56 = .ok (.lload_n 0, 1) := by decide +kernel
theorem dX1_twelfthsGone_57 : decode cX1_twelfthsGone 57 = .ok (.lmul, 1) := by decide +kernel
theorem dX1_twelfthsGone_58 : decode cX1_twelfthsGone 58 = .ok (.iload 4, 2) := by decide +kernel
theorem dX1_twelfthsGone_60 : decode cX1_twelfthsGone 60 = .ok (.i2l, 1) := by decide +kernel
theorem dX1_twelfthsGone_61 : decode cX1_twelfthsGone 61 = .ok (.lload_n 2, 1) := by decide +kernel
theorem dX1_twelfthsGone_62 : decode cX1_twelfthsGone 62 = .ok (.lmul, 1) := by decide +kernel
theorem dX1_twelfthsGone_63 : decode cX1_twelfthsGone 63 = .ok (.lsub, 1) := by decide +kernel
theorem dX1_twelfthsGone_64 : decode cX1_twelfthsGone 64 = .ok (.lmul, 1) := by decide +kernel
theorem dX1_twelfthsGone_65 : decode cX1_twelfthsGone 65 = .ok (.ladd, 1) := by decide +kernel
theorem dX1_twelfthsGone_66 : decode cX1_twelfthsGone 66 = .ok (.lreturn, 1) := by decide +kernel
theorem dX2_init_0 : decode cX2_init 0 = .ok (.aload_n 0, 1) := by decide +kernel
theorem dX2_init_1 : decode cX2_init 1 = .ok (.invokespecial 1, 3) := by decide +kernel
theorem dX2_init_4 : decode cX2_init 4 = .ok (.aload_n 0, 1) := by decide +kernel
theorem dX2_init_5 : decode cX2_init 5 = .ok (.iload_n 1, 1) := by decide +kernel
theorem dX2_init_6 : decode cX2_init 6 = .ok (.putfield 7, 3) := by decide +kernel
theorem dX2_init_9 : decode cX2_init 9 = .ok (.aload_n 0, 1) := by decide +kernel
theorem dX2_init_10 : decode cX2_init 10 = .ok (.iload_n 2, 1) := by decide +kernel
theorem dX2_init_11 : decode cX2_init 11 = .ok (.putfield 13, 3) := by decide +kernel
theorem dX2_init_14 : decode cX2_init 14 = .ok (.return_, 1) := by decide +kernel
theorem dX3_init_0 : decode cX3_init 0 = .ok (.aload_n 0, 1) := by decide +kernel
theorem dX3_init_1 : decode cX3_init 1 = .ok (.invokespecial 3, 3) := by decide +kernel
theorem dX3_init_4 : decode cX3_init 4 = .ok (.aload_n 0, 1) := by decide +kernel
theorem dX3_init_5 : decode cX3_init 5 = .ok (.sipush 4320, 3) := by decide +kernel
theorem dX3_init_8 : decode cX3_init 8 = .ok (.newarray .int, 2) := by decide +kernel
theorem dX3_init_10 : decode cX3_init 10 = .ok (.putfield 9, 3) := by decide +kernel
theorem dX3_init_13 : decode cX3_init 13 = .ok (.aload_n 0, 1) := by decide +kernel
theorem dX3_init_14 : decode cX3_init 14 = .ok (.sipush 4320, 3) := by decide +kernel
theorem dX3_init_17 : decode cX3_init 17 = .ok (.newarray .int, 2) := by decide +kernel
theorem dX3_init_19 : decode cX3_init 19 = .ok (.putfield 15, 3) := by decide +kernel
theorem dX3_init_22 : decode cX3_init 22 = .ok (.aload_n 0, 1) := by decide +kernel
theorem dX3_init_23 : decode cX3_init 23 = .ok (.sipush 4320, 3) := by decide +kernel
theorem dX3_init_26 : decode cX3_init 26 = .ok (.newarray .int, 2) := by decide +kernel
theorem dX3_init_28 : decode cX3_init 28 = .ok (.putfield 18, 3) := by decide +kernel
theorem dX3_init_31 : decode cX3_init 31 = .ok (.aload_n 0, 1) := by decide +kernel
theorem dX3_init_32 : decode cX3_init 32 = .ok (.sipush 4320, 3) := by decide +kernel
theorem dX3_init_35 : decode cX3_init 35 = .ok (.newarray .boolean, 2) := by decide +kernel
theorem dX3_init_37 : decode cX3_init 37 = .ok (.putfield 21, 3) := by decide +kernel
theorem dX3_init_40 : decode cX3_init 40 = .ok (.return_, 1) := by decide +kernel
theorem dX3_fill_0 : decode cX3_fill 0 = .ok (.iconst 0, 1) := by decide +kernel
theorem dX3_fill_1 : decode cX3_fill 1 = .ok (.istore_n 2, 1) := by decide +kernel
theorem dX3_fill_2 : decode cX3_fill 2 = .ok (.iload_n 2, 1) := by decide +kernel
theorem dX3_fill_3 : decode cX3_fill 3 = .ok (.aload_n 0, 1) := by decide +kernel
theorem dX3_fill_4 : decode cX3_fill 4 = .ok (.getfield 9, 3) := by decide +kernel
theorem dX3_fill_7 : decode cX3_fill 7 = .ok (.arraylength, 1) := by decide +kernel
theorem dX3_fill_8 : decode cX3_fill 8 = .ok (.if_icmp .ge 20, 3) := by decide +kernel
theorem dX3_fill_11 : decode cX3_fill 11 = .ok (.aload_n 0, 1) := by decide +kernel
theorem dX3_fill_12 : decode cX3_fill 12 = .ok (.getfield 9, 3) := by decide +kernel
theorem dX3_fill_15 : decode cX3_fill 15 = .ok (.iload_n 2, 1) := by decide +kernel
theorem dX3_fill_16 : decode cX3_fill 16 = .ok (.aload_n 1, 1) := by decide +kernel
theorem dX3_fill_17 : decode cX3_fill 17 = .ok (.iload_n 2, 1) := by decide +kernel
theorem dX3_fill_18 : decode cX3_fill 18 = .ok (.invokevirtual 25, 3) := by decide +kernel
theorem dX3_fill_21 : decode cX3_fill 21 = .ok (.iastore, 1) := by decide +kernel
theorem dX3_fill_22 : decode cX3_fill 22 = .ok (.iinc 2 1, 3) := by decide +kernel
theorem dX3_fill_25 : decode cX3_fill 25 = .ok (.goto (-23), 3) := by decide +kernel
theorem dX3_fill_28 : decode cX3_fill 28 = .ok (.aload_n 0, 1) := by decide +kernel
theorem dX3_fill_29 : decode cX3_fill 29 = .ok (.invokevirtual 31, 3) := by decide +kernel
theorem dX3_fill_32 : decode cX3_fill 32 = .ok (.return_, 1) := by decide +kernel
theorem dX3_findWaters_0 : decode cX3_findWaters 0 = .ok (.aload_n 0, 1) := by decide +kernel
theorem dX3_findWaters_1 : decode cX3_findWaters 1 = .ok (.iconst 0, 1) := by decide +kernel
theorem dX3_findWaters_2 : decode cX3_findWaters 2 = .ok (.putfield 34, 3) := by decide +kernel
theorem dX3_findWaters_5 : decode cX3_findWaters 5 = .ok (.iconst 0, 1) := by decide +kernel
theorem dX3_findWaters_6 : decode cX3_findWaters 6 = .ok (.istore_n 1, 1) := by decide +kernel
theorem dX3_findWaters_7 : decode cX3_findWaters 7 = .ok (.iconst 0, 1) := by decide +kernel
theorem dX3_findWaters_8 : decode cX3_findWaters 8 = .ok (.istore_n 2, 1) := by decide +kernel
theorem dX3_findWaters_9 : decode cX3_findWaters 9 = .ok (.iconst 1, 1) := by decide +kernel
theorem dX3_findWaters_10 : decode cX3_findWaters 10 = .ok (.istore_n 3, 1) := by decide +kernel
theorem dX3_findWaters_11 : decode cX3_findWaters 11 = .ok (.iload_n 3, 1) := by decide +kernel
theorem dX3_findWaters_12 : decode cX3_findWaters 12 = .ok (.aload_n 0, 1) := by decide +kernel
theorem dX3_findWaters_13 : decode cX3_findWaters 13 = .ok (.getfield 9, 3) := by decide +kernel
theorem dX3_findWaters_16 : decode cX3_findWaters 16 = .ok (.arraylength, 1) := by decide +kernel
theorem dX3_findWaters_17 : decode cX3_findWaters 17 = .ok (.if_icmp .ge 82, 3) := by decide +kernel
theorem dX3_findWaters_20 : decode cX3_findWaters 20 = .ok (.aload_n 0, 1) := by decide +kernel
theorem dX3_findWaters_21 : decode cX3_findWaters 21 = .ok (.getfield 9, 3) := by decide +kernel
theorem dX3_findWaters_24 : decode cX3_findWaters 24 = .ok (.iload_n 3, 1) := by decide +kernel
theorem dX3_findWaters_25 : decode cX3_findWaters 25 = .ok (.iaload, 1) := by decide +kernel
theorem dX3_findWaters_26 : decode cX3_findWaters 26 = .ok (.aload_n 0, 1) := by decide +kernel
theorem dX3_findWaters_27 : decode cX3_findWaters 27 = .ok (.getfield 9, 3) := by decide +kernel
theorem dX3_findWaters_30 : decode cX3_findWaters 30 = .ok (.iload_n 3, 1) := by decide +kernel
theorem dX3_findWaters_31 : decode cX3_findWaters 31 = .ok (.iconst 1, 1) := by decide +kernel
theorem dX3_findWaters_32 : decode cX3_findWaters 32 = .ok (.isub, 1) := by decide +kernel
theorem dX3_findWaters_33 : decode cX3_findWaters 33 = .ok (.iaload, 1) := by decide +kernel
theorem dX3_findWaters_34 : decode cX3_findWaters 34 = .ok (.if_icmp .ne 6, 3) := by decide +kernel
theorem dX3_findWaters_37 : decode cX3_findWaters 37 = .ok (.goto 56, 3) := by decide +kernel
theorem dX3_findWaters_40 : decode cX3_findWaters 40 = .ok (.aload_n 0, 1) := by decide +kernel
theorem dX3_findWaters_41 : decode cX3_findWaters 41 = .ok (.getfield 9, 3) := by decide +kernel
theorem dX3_findWaters_44 : decode cX3_findWaters 44 = .ok (.iload_n 3, 1) := by decide +kernel
theorem dX3_findWaters_45 : decode cX3_findWaters 45 = .ok (.iaload, 1) := by decide +kernel
theorem dX3_findWaters_46 : decode cX3_findWaters 46 = .ok (.aload_n 0, 1) := by decide +kernel
theorem dX3_findWaters_47 : decode cX3_findWaters 47 = .ok (.getfield 9, 3) := by decide +kernel
theorem dX3_findWaters_50 : decode cX3_findWaters 50 = .ok (.iload_n 3, 1) := by decide +kernel
theorem dX3_findWaters_51 : decode cX3_findWaters 51 = .ok (.iconst 1, 1) := by decide +kernel
theorem dX3_findWaters_52 : decode cX3_findWaters 52 = .ok (.isub, 1) := by decide +kernel
theorem dX3_findWaters_53 : decode cX3_findWaters 53 = .ok (.iaload, 1) := by decide +kernel
theorem dX3_findWaters_54 : decode cX3_findWaters 54 = .ok (.if_icmp .le 7, 3) := by decide +kernel
theorem dX3_findWaters_57 : decode cX3_findWaters 57 = .ok (.iconst 1, 1) := by decide +kernel
end
section
theorem dX3_findWaters_58 : decode cX3_findWaters 58 = .ok (.goto 4, 3) := by decide +kernel
theorem dX3_findWaters_61 : decode cX3_findWaters 61 = .ok (.iconst 0, 1) := by decide +kernel
theorem dX3_findWaters_62 : decode cX3_findWaters 62 = .ok (.istore 4, 2) := by decide +kernel
theorem dX3_findWaters_64 : decode cX3_findWaters 64 = .ok (.iload_n 1, 1) := by decide +kernel
theorem dX3_findWaters_65 : decode cX3_findWaters 65 = .ok (.ifCond .le 23, 3) := by decide +kernel
theorem dX3_findWaters_68 : decode cX3_findWaters 68 = .ok (.iload 4, 2) := by decide +kernel
theorem dX3_findWaters_70 : decode cX3_findWaters 70 = .ok (.iload_n 2, 1) := by decide +kernel
theorem dX3_findWaters_71 : decode cX3_findWaters 71 = .ok (.if_icmp .eq 17, 3) := by decide +kernel
theorem dX3_findWaters_74 : decode cX3_findWaters 74 = .ok (.aload_n 0, 1) := by decide +kernel
theorem dX3_findWaters_75 : decode cX3_findWaters 75 = .ok (.iload_n 1, 1) := by decide +kernel
theorem dX3_findWaters_76 : decode cX3_findWaters 76 = .ok (.aload_n 0, 1) := by decide +kernel
theorem dX3_findWaters_77 : decode cX3_findWaters 77 = .ok (.getfield 9, 3) := by decide +kernel
theorem dX3_findWaters_80 : decode cX3_findWaters 80 = .ok (.iload_n 3, 1) := by decide +kernel
theorem dX3_findWaters_81 : decode cX3_findWaters 81 = .ok (.iconst 1, 1) := by decide +kernel
theorem dX3_findWaters_82 : decode cX3_findWaters 82 = .ok (.isub, 1) := by decide +kernel
theorem dX3_findWaters_83 : decode cX3_findWaters 83 = .ok (.iaload, 1) := by decide +kernel
theorem dX3_findWaters_84 : decode cX3_findWaters 84 = .ok (.iload_n 2, 1) := by decide +kernel
theorem dX3_findWaters_85 : decode cX3_findWaters 85 = .ok (.invokevirtual 38, 3) := by decide +kernel
theorem dX3_findWaters_88 : decode cX3_findWaters 88 = .ok (.iload_n 3, 1) := by decide +kernel
theorem dX3_findWaters_89 : decode cX3_findWaters 89 = .ok (.istore_n 1, 1) := by decide +kernel
theorem dX3_findWaters_90 : decode cX3_findWaters 90 = .ok (.iload 4, 2) := by decide +kernel
theorem dX3_findWaters_92 : decode cX3_findWaters 92 = .ok (.istore_n 2, 1) := by decide +kernel
theorem dX3_findWaters_93 : decode cX3_findWaters 93 = .ok (.iinc 3 1, 3) := by decide +kernel
theorem dX3_findWaters_96 : decode cX3_findWaters 96 = .ok (.goto (-85), 3) := by decide +kernel
theorem dX3_findWaters_99 : decode cX3_findWaters 99 = .ok (.return_, 1) := by decide +kernel
theorem dX3_noteWater_0 : decode cX3_noteWater 0 = .ok (.aload_n 0, 1) := by decide +kernel
theorem dX3_noteWater_1 : decode cX3_noteWater 1 = .ok (.getfield 34, 3) := by decide +kernel
theorem dX3_noteWater_4 : decode cX3_noteWater 4 = .ok (.sipush 4320, 3) := by decide +kernel
theorem dX3_noteWater_7 : decode cX3_noteWater 7 = .ok (.if_icmp .ge 43, 3) := by decide +kernel
theorem dX3_noteWater_10 : decode cX3_noteWater 10 = .ok (.aload_n 0, 1) := by decide +kernel
theorem dX3_noteWater_11 : decode cX3_noteWater 11 = .ok (.getfield 15, 3) := by decide +kernel
theorem dX3_noteWater_14 : decode cX3_noteWater 14 = .ok (.aload_n 0, 1) := by decide +kernel
theorem dX3_noteWater_15 : decode cX3_noteWater 15 = .ok (.getfield 34, 3) := by decide +kernel
theorem dX3_noteWater_18 : decode cX3_noteWater 18 = .ok (.iload_n 1, 1) := by decide +kernel
theorem dX3_noteWater_19 : decode cX3_noteWater 19 = .ok (.iastore, 1) := by decide +kernel
theorem dX3_noteWater_20 : decode cX3_noteWater 20 = .ok (.aload_n 0, 1) := by decide +kernel
theorem dX3_noteWater_21 : decode cX3_noteWater 21 = .ok (.getfield 18, 3) := by decide +kernel
theorem dX3_noteWater_24 : decode cX3_noteWater 24 = .ok (.aload_n 0, 1) := by decide +kernel
theorem dX3_noteWater_25 : decode cX3_noteWater 25 = .ok (.getfield 34, 3) := by decide +kernel
theorem dX3_noteWater_28 : decode cX3_noteWater 28 = .ok (.iload_n 2, 1) := by decide +kernel
theorem dX3_noteWater_29 : decode cX3_noteWater 29 = .ok (.iastore, 1) := by decide +kernel
theorem dX3_noteWater_30 : decode cX3_noteWater 30 = .ok (.aload_n 0, 1) := by decide +kernel
theorem dX3_noteWater_31 : decode cX3_noteWater 31 = .ok (.getfield 21, 3) := by decide +kernel
theorem dX3_noteWater_34 : decode cX3_noteWater 34 = .ok (.aload_n 0, 1) := by decide +kernel
theorem dX3_noteWater_35 : decode cX3_noteWater 35 = .ok (.getfield 34, 3) := by decide +kernel
theorem dX3_noteWater_38 : decode cX3_noteWater 38 = .ok (.iload_n 3, 1) := by decide +kernel
theorem dX3_noteWater_39 : decode cX3_noteWater 39 = .ok (.bastore, 1) := by decide +kernel
theorem dX3_noteWater_40 : decode cX3_noteWater 40 = .ok (.aload_n 0, 1) := by decide +kernel
theorem dX3_noteWater_41 : decode cX3_noteWater 41 = .ok (.dup, 1) := by decide +kernel
theorem dX3_noteWater_42 : decode cX3_noteWater 42 = .ok (.getfield 34, 3) := by decide +kernel
theorem dX3_noteWater_45 : decode cX3_noteWater 45 = .ok (.iconst 1, 1) := by decide +kernel
theorem dX3_noteWater_46 : decode cX3_noteWater 46 = .ok (.iadd, 1) := by decide +kernel
theorem dX3_noteWater_47 : decode cX3_noteWater 47 = .ok (.putfield 34, 3) := by decide +kernel
theorem dX3_noteWater_50 : decode cX3_noteWater 50 = .ok (.return_, 1) := by decide +kernel
theorem dX3_hasWater_0 : decode cX3_hasWater 0 = .ok (.iload_n 1, 1) := by decide +kernel
theorem dX3_hasWater_1 : decode cX3_hasWater 1 = .ok (.ifCond .lt 15, 3) := by decide +kernel
theorem dX3_hasWater_4 : decode cX3_hasWater 4 = .ok (.iload_n 1, 1) := by decide +kernel
theorem dX3_hasWater_5 : decode cX3_hasWater 5 = .ok (.aload_n 0, 1) := by decide +kernel
theorem dX3_hasWater_6 : decode cX3_hasWater 6 = .ok (.getfield 34, 3) := by decide +kernel
theorem dX3_hasWater_9 : decode cX3_hasWater 9 = .ok (.if_icmp .ge 7, 3) := by decide +kernel
theorem dX3_hasWater_12 : decode cX3_hasWater 12 = .ok (.iconst 1, 1) := by decide +kernel
theorem dX3_hasWater_13 : decode cX3_hasWater 13 = .ok (.goto 4, 3) := by decide +kernel
theorem dX3_hasWater_16 : decode cX3_hasWater 16 = .ok (.iconst 0, 1) := by decide +kernel
theorem dX3_hasWater_17 : decode cX3_hasWater 17 = .ok (.ireturn, 1) := by decide +kernel
theorem dX3_isBetweenWaters_0 : decode cX3_isBetweenWaters 0 = .ok (.iload_n 1, 1) := by decide +kernel
theorem dX3_isBetweenWaters_1 : decode cX3_isBetweenWaters 1 = .ok (.ifCond .lt 17, 3) := by decide +kernel
theorem dX3_isBetweenWaters_4 : decode cX3_isBetweenWaters 4 = .ok (.iload_n 1, 1) := by decide +kernel
theorem dX3_isBetweenWaters_5 : decode cX3_isBetweenWaters 5 = .ok (.aload_n 0, 1) := by decide +kernel
theorem dX3_isBetweenWaters_6 : decode cX3_isBetweenWaters 6 = .ok (.getfield 34, 3) := by decide +kernel
theorem dX3_isBetweenWaters_9 : decode cX3_isBetweenWaters 9 = .ok (.iconst 1, 1) := by decide +kernel
theorem dX3_isBetweenWaters_10 : decode cX3_isBetweenWaters 10 = .ok (.isub, 1) := by decide +kernel
theorem dX3_isBetweenWaters_11 : decode cX3_isBetweenWaters 11 = .ok (.if_icmp .ge 7, 3) := by decide +kernel
theorem dX3_isBetweenWaters_14 : decode cX3_isBetweenWaters 14 = .ok (.iconst 1, 1) := by decide +kernel
theorem dX3_isBetweenWaters_15 : decode cX3_isBetweenWaters 15 = .ok (.goto 4, 3) := by decide +kernel
theorem dX3_isBetweenWaters_18 : decode cX3_isBetweenWaters 18 = .ok (.iconst 0, 1) := by decide +kernel
theorem dX3_isBetweenWaters_19 : decode cX3_isBetweenWaters 19 = .ok (.ireturn, 1) := by decide +kernel
theorem dX3_heightAt_0 : decode cX3_heightAt 0 = .ok (.iload_n 1, 1) := by decide +kernel
theorem dX3_heightAt_1 : decode cX3_heightAt 1 = .ok (.invokestatic 42, 3) := by decide +kernel
theorem dX3_heightAt_4 : decode cX3_heightAt 4 = .ok (.ifCond .eq 12, 3) := by decide +kernel
theorem dX3_heightAt_7 : decode cX3_heightAt 7 = .ok (.aload_n 0, 1) := by decide +kernel
theorem dX3_heightAt_8 : decode cX3_heightAt 8 = .ok (.getfield 9, 3) := by decide +kernel
theorem dX3_heightAt_11 : decode cX3_heightAt 11 = .ok (.iload_n 1, 1) := by decide +kernel
theorem dX3_heightAt_12 : decode cX3_heightAt 12 = .ok (.iaload, 1) := by decide +kernel
theorem dX3_heightAt_13 : decode cX3_heightAt 13 = .ok (.goto 4, 3) := by decide +kernel
theorem dX3_heightAt_16 : decode cX3_heightAt 16 = .ok (.iconst 0, 1) := by decide +kernel
theorem dX3_heightAt_17 : decode cX3_heightAt 17 = .ok (.ireturn, 1) := by decide +kernel
theorem dX3_timeOf_0 : decode cX3_timeOf 0 = .ok (.aload_n 0, 1) := by decide +kernel
theorem dX3_timeOf_1 : decode cX3_timeOf 1 = .ok (.iload_n 1, 1) := by decide +kernel
theorem dX3_timeOf_2 : decode cX3_timeOf 2 = .ok (.invokevirtual 46, 3) := by decide +kernel
theorem dX3_timeOf_5 : decode cX3_timeOf 5 = .ok (.ifCond .eq 12, 3) := by decide +kernel
theorem dX3_timeOf_8 : decode cX3_timeOf 8 = .ok (.aload_n 0, 1) := by decide +kernel
theorem dX3_timeOf_9 : decode cX3_timeOf 9 = .ok (.getfield 15, 3) := by decide +kernel
theorem dX3_timeOf_12 : decode cX3_timeOf 12 = .ok (.iload_n 1, 1) := by decide +kernel
theorem dX3_timeOf_13 : decode cX3_timeOf 13 = .ok (.iaload, 1) := by decide +kernel
theorem dX3_timeOf_14 : decode cX3_timeOf 14 = .ok (.goto 4, 3) := by decide +kernel
theorem dX3_timeOf_17 : decode cX3_timeOf 17 = .ok (.iconst 0, 1) := by decide +kernel
theorem dX3_timeOf_18 : decode cX3_timeOf 18 = .ok (.ireturn, 1) := by decide +kernel
theorem dX3_heightOf_0 : decode cX3_heightOf 0 = .ok (.aload_n 0, 1) := by decide +kernel
theorem dX3_heightOf_1 : decode cX3_heightOf 1 = .ok (.iload_n 1, 1) := by decide +kernel
theorem dX3_heightOf_2 : decode cX3_heightOf 2 = .ok (.invokevirtual 46, 3) := by decide +kernel
theorem dX3_heightOf_5 : decode cX3_heightOf 5 = .ok (.ifCond .eq 12, 3) := by decide +kernel
theorem dX3_heightOf_8 : decode cX3_heightOf 8 = .ok (.aload_n 0, 1) := by decide +kernel
theorem dX3_heightOf_9 : decode cX3_heightOf 9 = .ok (.getfield 18, 3) := by decide +kernel
theorem dX3_heightOf_12 : decode cX3_heightOf 12 = .ok (.iload_n 1, 1) := by decide +kernel
theorem dX3_heightOf_13 : decode cX3_heightOf 13 = .ok (.iaload, 1) := by decide +kernel
theorem dX3_heightOf_14 : decode cX3_heightOf 14 = .ok (.goto 4, 3) := by decide +kernel
theorem dX3_heightOf_17 : decode cX3_heightOf 17 = .ok (.iconst 0, 1) := by decide +kernel
theorem dX3_heightOf_18 : decode cX3_heightOf 18 = .ok (.ireturn, 1) := by decide +kernel
theorem dX3_isHigh_0 : decode cX3_isHigh 0 = .ok (.aload_n 0, 1) := by decide +kernel
theorem dX3_isHigh_1 : decode cX3_isHigh 1 = .ok (.iload_n 1, 1) := by decide +kernel
theorem dX3_isHigh_2 : decode cX3_isHigh 2 = .ok (.invokevirtual 46, 3) := by decide +kernel
theorem dX3_isHigh_5 : decode cX3_isHigh 5 = .ok (.ifCond .eq 16, 3) := by decide +kernel
theorem dX3_isHigh_8 : decode cX3_isHigh 8 = .ok (.aload_n 0, 1) := by decide +kernel
theorem dX3_isHigh_9 : decode cX3_isHigh 9 = .ok (.getfield 21, 3) := by decide +kernel
theorem dX3_isHigh_12 : decode cX3_isHigh 12 = .ok (.iload_n 1, 1) := by decide +kernel
theorem dX3_isHigh_13 : decode cX3_isHigh 13 = .ok (.baload, 1) := by decide +kernel
theorem dX3_isHigh_14 : decode cX3_isHigh 14 = .ok (.ifCond .eq 7, 3) := by decide +kernel
theorem dX3_isHigh_17 : decode cX3_isHigh 17 = .ok (.iconst 1, 1) := by decide +kernel
theorem dX3_isHigh_18 : decode cX3_isHigh 18 = .ok (.goto 4, 3) := by decide +kernel
theorem dX3_isHigh_21 : decode cX3_isHigh 21 = .ok (.iconst 0, 1) := by decide +kernel
theorem dX3_isHigh_22 : decode cX3_isHigh 22 = .ok (.ireturn, 1) := by decide +kernel
theorem dX3_datumOf_0 : decode cX3_datumOf 0 = .ok (.iload_n 1, 1) := by decide +kernel
theorem dX3_datumOf_1 : decode cX3_datumOf 1 = .ok (.tableswitch 53 0 3 #[31, 36, 41, 47], 31) := by decide +kernel
theorem dX3_datumOf_32 : decode cX3_datumOf 32 = .ok (.aload_n 0, 1) := by decide +kernel
theorem dX3_datumOf_33 : decode cX3_datumOf 33 = .ok (.invokevirtual 49, 3) := by decide +kernel
theorem dX3_datumOf_36 : decode cX3_datumOf 36 = .ok (.ireturn, 1) := by decide +kernel
theorem dX3_datumOf_37 : decode cX3_datumOf 37 = .ok (.aload_n 0, 1) := by decide +kernel
theorem dX3_datumOf_38 : decode cX3_datumOf 38 = .ok (.invokevirtual 53, 3) := by decide +kernel
theorem dX3_datumOf_41 : decode cX3_datumOf 41 = .ok (.ireturn, 1) := by decide +kernel
theorem dX3_datumOf_42 : decode cX3_datumOf 42 = .ok (.aload_n 0, 1) := by decide +kernel
theorem dX3_datumOf_43 : decode cX3_datumOf 43 = .ok (.iconst 1, 1) := by decide +kernel
theorem dX3_datumOf_44 : decode cX3_datumOf 44 = .ok (.invokevirtual 56, 3) := by decide +kernel
theorem dX3_datumOf_47 : decode cX3_datumOf 47 = .ok (.ireturn, 1) := by decide +kernel
theorem dX3_datumOf_48 : decode cX3_datumOf 48 = .ok (.aload_n 0, 1) := by decide +kernel
theorem dX3_datumOf_49 : decode cX3_datumOf 49 = .ok (.iconst 0, 1) := by decide +kernel
theorem dX3_datumOf_50 : decode cX3_datumOf 50 = .ok (.invokevirtual 56, 3) := by decide +kernel
theorem dX3_datumOf_53 : decode cX3_datumOf 53 = .ok (.ireturn, 1) := by decide +kernel
theorem dX3_datumOf_54 : decode cX3_datumOf 54 = .ok (.aload_n 0, 1) := by decide +kernel
theorem dX3_datumOf_55 : decode cX3_datumOf 55 = .ok (.invokevirtual 60, 3) := by decide +kernel
theorem dX3_datumOf_58 : decode cX3_datumOf 58 = .ok (.ireturn, 1) := by decide +kernel
theorem dX3_greatestHeight_0 : decode cX3_greatestHeight 0 = .ok (.aload_n 0, 1) := by decide +kernel
theorem dX3_greatestHeight_1 : decode cX3_greatestHeight 1 = .ok (.getfield 9, 3) := by decide +kernel
theorem dX3_greatestHeight_4 : decode cX3_greatestHeight 4 = .ok (.iconst 0, 1) := by decide +kernel
theorem dX3_greatestHeight_5 : decode cX3_greatestHeight 5 = .ok (.iaload, 1) := by decide +kernel
theorem dX3_greatestHeight_6 : decode cX3_greatestHeight 6 = .ok (.istore_n 1, 1) := by decide +kernel
theorem dX3_greatestHeight_7 : decode cX3_greatestHeight 7 = .ok (.aload_n 0, 1) := by decide +kernel
theorem dX3_greatestHeight_8 : decode cX3_greatestHeight 8 = .ok (.getfield 9, 3) := by decide +kernel
theorem dX3_greatestHeight_11 : decode cX3_greatestHeight 11 = .ok (.astore_n 2, 1) := by decide +kernel
theorem dX3_greatestHeight_12 : decode cX3_greatestHeight 12 = .ok (.aload_n 2, 1) := by decide +kernel
theorem dX3_greatestHeight_13 : decode cX3_greatestHeight 13 = .ok (.arraylength, 1) := by decide +kernel
theorem dX3_greatestHeight_14 : decode cX3_greatestHeight 14 = .ok (.istore_n 3, 1) := by decide +kernel
theorem dX3_greatestHeight_15 : decode cX3_greatestHeight 15 = .ok (.iconst 0, 1) := by decide +kernel
theorem dX3_greatestHeight_16 : decode cX3_greatestHeight 16 = .ok (.istore 4, 2) := by decide +kernel
theorem dX3_greatestHeight_18 : decode cX3_greatestHeight 18 = .ok (.iload 4, 2) := by decide +kernel
theorem dX3_greatestHeight_20 : decode cX3_greatestHeight 20 = .ok (.iload_n 3, 1) := by decide +kernel
theorem dX3_greatestHeight_21 : decode cX3_greatestHeight 21 = .ok (.if_icmp .ge 22, 3) := by decide +kernel
theorem dX3_greatestHeight_24 : decode cX3_greatestHeight 24 = .ok (.aload_n 2, 1) := by decide +kernel
theorem dX3_greatestHeight_25 : decode cX3_greatestHeight 25 = .ok (.iload 4, 2) := by decide +kernel
theorem dX3_greatestHeight_27 : decode cX3_greatestHeight 27 = .ok (.iaload, 1) := by decide +kernel
theorem dX3_greatestHeight_28 : decode cX3_greatestHeight 28 = .ok (.istore 5, 2) := by decide +kernel
theorem dX3_greatestHeight_30 : decode cX3_greatestHeight 30 = .ok (.iload_n 1, 1) := by decide +kernel
theorem dX3_greatestHeight_31 : decode cX3_greatestHeight 31 = .ok (.iload 5, 2) := by decide +kernel
theorem dX3_greatestHeight_33 : decode cX3_greatestHeight 33 = .ok (.invokestatic 63, 3) := by decide +kernel
theorem dX3_greatestHeight_36 : decode cX3_greatestHeight 36 = .ok (.istore_n 1, 1) := by decide +kernel
theorem dX3_greatestHeight_37 : decode cX3_greatestHeight 37 = .ok (.iinc 4 1, 3) := by decide +kernel
theorem dX3_greatestHeight_40 : decode cX3_greatestHeight 40 = .ok (.goto (-22), 3) := by decide +kernel
theorem dX3_greatestHeight_43 : decode cX3_greatestHeight 43 = .ok (.iload_n 1, 1) := by decide +kernel
theorem dX3_greatestHeight_44 : decode cX3_greatestHeight 44 = .ok (.ireturn, 1) := by decide +kernel
theorem dX3_leastHeight_0 : decode cX3_leastHeight 0 = .ok (.aload_n 0, 1) := by decide +kernel
theorem dX3_leastHeight_1 : decode cX3_leastHeight 1 = .ok (.getfield 9, 3) := by decide +kernel
theorem dX3_leastHeight_4 : decode cX3_leastHeight 4 = .ok (.iconst 0, 1) := by decide +kernel
theorem dX3_leastHeight_5 : decode cX3_leastHeight 5 = .ok (.iaload, 1) := by decide +kernel
theorem dX3_leastHeight_6 : decode cX3_leastHeight 6 = .ok (.istore_n 1, 1) := by decide +kernel
theorem dX3_leastHeight_7 : decode cX3_leastHeight 7 = .ok (.aload_n 0, 1) := by decide +kernel
theorem dX3_leastHeight_8 : decode cX3_leastHeight 8 = .ok (.getfield 9, 3) := by decide +kernel
theorem dX3_leastHeight_11 : decode cX3_leastHeight 11 = .ok (.astore_n 2, 1) := by decide +kernel
theorem dX3_leastHeight_12 : decode cX3_leastHeight 12 = .ok (.aload_n 2, 1) := by decide +kernel
theorem dX3_leastHeight_13 : decode cX3_leastHeight 13 = .ok (.arraylength, 1) := by decide +kernel
theorem dX3_leastHeight_14 : decode cX3_leastHeight 14 = .ok (.istore_n 3, 1) := by decide +kernel
theorem dX3_leastHeight_15 : decode cX3_leastHeight 15 = .ok (.iconst 0, 1) := by decide +kernel
theorem dX3_leastHeight_16 : decode cX3_leastHeight 16 = .ok (.istore 4, 2) := by decide +kernel
theorem dX3_leastHeight_18 : decode cX3_leastHeight 18 = .ok (.iload 4, 2) := by decide +kernel
theorem dX3_leastHeight_20 : decode cX3_leastHeight 20 = .ok (.iload_n 3, 1) := by decide +kernel
theorem dX3_leastHeight_21 : decode cX3_leastHeight 21 = .ok (.if_icmp .ge 22, 3) := by decide +kernel
theorem dX3_leastHeight_24 : decode cX3_leastHeight 24 = .ok (.aload_n 2, 1) := by decide +kernel
theorem dX3_leastHeight_25 : decode cX3_leastHeight 25 = .ok (.iload 4, 2) := by decide +kernel
theorem dX3_leastHeight_27 : decode cX3_leastHeight 27 = .ok (.iaload, 1) := by decide +kernel
theorem dX3_leastHeight_28 : decode cX3_leastHeight 28 = .ok (.istore 5, 2) := by decide +kernel
theorem dX3_leastHeight_30 : decode cX3_leastHeight 30 = .ok (.iload_n 1, 1) := by decide +kernel
theorem dX3_leastHeight_31 : decode cX3_leastHeight 31 = .ok (.iload 5, 2) := by decide +kernel
theorem dX3_leastHeight_33 : decode cX3_leastHeight 33 = .ok (.invokestatic 69, 3) := by decide +kernel
theorem dX3_leastHeight_36 : decode cX3_leastHeight 36 = .ok (.istore_n 1, 1) := by decide +kernel
theorem dX3_leastHeight_37 : decode cX3_leastHeight 37 = .ok (.iinc 4 1, 3) := by decide +kernel
theorem dX3_leastHeight_40 : decode cX3_leastHeight 40 = .ok (.goto (-22), 3) := by decide +kernel
theorem dX3_leastHeight_43 : decode cX3_leastHeight 43 = .ok (.iload_n 1, 1) := by decide +kernel
theorem dX3_leastHeight_44 : decode cX3_leastHeight 44 = .ok (.ireturn, 1) := by decide +kernel
theorem dX3_meanOfWaters_0 : decode cX3_meanOfWaters 0 = .ok (.lconst 0, 1) := by decide +kernel
theorem dX3_meanOfWaters_1 : decode cX3_meanOfWaters 1 = .ok (.lstore_n 2, 1) := by decide +kernel
theorem dX3_meanOfWaters_2 : decode cX3_meanOfWaters 2 = .ok (.iconst 0, 1) := by decide +kernel
theorem dX3_meanOfWaters_3 : decode cX3_meanOfWaters 3 = .ok (.istore 4, 2) := by decide +kernel
theorem dX3_meanOfWaters_5 : decode cX3_meanOfWaters 5 = .ok (.iconst 0, 1) := by decide +kernel
theorem dX3_meanOfWaters_6 : decode cX3_meanOfWaters 6 = .ok (.istore 5, 2) := by decide +kernel
theorem dX3_meanOfWaters_8 : decode cX3_meanOfWaters 8 = .ok (.iload 5, 2) := by decide +kernel
theorem dX3_meanOfWaters_10 : decode cX3_meanOfWaters 10 = .ok (.aload_n 0, 1) := by decide +kernel
theorem dX3_meanOfWaters_11 : decode cX3_meanOfWaters 11 = .ok (.getfield 34, 3) := by decide +kernel
theorem dX3_meanOfWaters_14 : decode cX3_meanOfWaters 14 = .ok (.if_icmp .ge 32, 3) := by decide +kernel
theorem dX3_meanOfWaters_17 : decode cX3_meanOfWaters 17 = .ok (.aload_n 0, 1) := by decide +kernel
theorem dX3_meanOfWaters_18 : decode cX3_meanOfWaters 18 = .ok (.iload 5, 2) := by decide +kernel
theorem dX3_meanOfWaters_20 : decode cX3_meanOfWaters 20 = .ok (.invokevirtual 72, 3) := by decide +kernel
theorem dX3_meanOfWaters_23 : decode cX3_meanOfWaters 23 = .ok (.iload_n 1, 1) := by decide +kernel
theorem dX3_meanOfWaters_24 : decode cX3_meanOfWaters 24 = .ok (.if_icmp .ne 16, 3) := by decide +kernel
theorem dX3_meanOfWaters_27 : decode cX3_meanOfWaters 27 = .ok (.lload_n 2, 1) := by decide +kernel
theorem dX3_meanOfWaters_28 : decode cX3_meanOfWaters 28 = .ok (.aload_n 0, 1) := by decide +kernel
theorem dX3_meanOfWaters_29 : decode cX3_meanOfWaters 29 = .ok (.iload 5, 2) := by decide +kernel
theorem dX3_meanOfWaters_31 : decode cX3_meanOfWaters 31 = .ok (.invokevirtual 75, 3) := by decide +kernel
theorem dX3_meanOfWaters_34 : decode cX3_meanOfWaters 34 = .ok (.i2l, 1) := by decide +kernel
theorem dX3_meanOfWaters_35 : decode cX3_meanOfWaters 35 = .ok (.ladd, 1) := by decide +kernel
theorem dX3_meanOfWaters_36 : decode cX3_meanOfWaters 36 = .ok (.lstore_n 2, 1) := by decide +kernel
theorem dX3_meanOfWaters_37 : decode cX3_meanOfWaters 37 = .ok (.iinc 4 1, 3) := by decide +kernel
theorem dX3_meanOfWaters_40 : decode cX3_meanOfWaters 40 = .ok (.iinc 5 1, 3) := by decide +kernel
theorem dX3_meanOfWaters_43 : decode cX3_meanOfWaters 43 = .ok (.goto (-35), 3) := by decide +kernel
theorem dX3_meanOfWaters_46 : decode cX3_meanOfWaters 46 = .ok (.lload_n 2, 1) := by decide +kernel
theorem dX3_meanOfWaters_47 : decode cX3_meanOfWaters 47 = .ok (.iload 4, 2) := by decide +kernel
theorem dX3_meanOfWaters_49 : decode cX3_meanOfWaters 49 = .ok (.i2l, 1) := by decide +kernel
theorem dX3_meanOfWaters_50 : decode cX3_meanOfWaters 50 = .ok (.invokestatic 78, 3) := by decide +kernel
theorem dX3_meanOfWaters_53 : decode cX3_meanOfWaters 53 = .ok (.l2i, 1) := by decide +kernel
theorem dX3_meanOfWaters_54 : decode cX3_meanOfWaters 54 = .ok (.ireturn, 1) := by decide +kernel
theorem dX3_greatestDifference_0 : decode cX3_greatestDifference 0 = .ok (.iconst 0, 1) := by decide +kernel
theorem dX3_greatestDifference_1 : decode cX3_greatestDifference 1 = .ok (.istore_n 1, 1) := by decide +kernel
theorem dX3_greatestDifference_2 : decode cX3_greatestDifference 2 = .ok (.iconst 1, 1) := by decide +kernel
theorem dX3_greatestDifference_3 : decode cX3_greatestDifference 3 = .ok (.istore_n 2, 1) := by decide +kernel
theorem dX3_greatestDifference_4 : decode cX3_greatestDifference 4 = .ok (.iload_n 2, 1) := by decide +kernel
theorem dX3_greatestDifference_5 : decode cX3_greatestDifference 5 = .ok (.aload_n 0, 1) := by decide +kernel
theorem dX3_greatestDifference_6 : decode cX3_greatestDifference 6 = .ok (.getfield 34, 3) := by decide +kernel
theorem dX3_greatestDifference_9 : decode cX3_greatestDifference 9 = .ok (.if_icmp .ge 32, 3) := by decide +kernel
theorem dX3_greatestDifference_12 : decode cX3_greatestDifference 12 = .ok (.aload_n 0, 1) := by decide +kernel
theorem dX3_greatestDifference_13 : decode cX3_greatestDifference 13 = .ok (.iload_n 2, 1) := by decide +kernel
theorem dX3_greatestDifference_14 : decode cX3_greatestDifference 14 = .ok (.invokevirtual 75, 3) := by decide +kernel
theorem dX3_greatestDifference_17 : decode cX3_greatestDifference 17 = .ok (.aload_n 0, 1) := by decide +kernel
theorem dX3_greatestDifference_18 : decode cX3_greatestDifference 18 = .ok (.iload_n 2, 1) := by decide +kernel
theorem dX3_greatestDifference_19 : decode cX3_greatestDifference 19 = .ok (.iconst 1, 1) := by decide +kernel
theorem dX3_greatestDifference_20 : decode cX3_greatestDifference 20 = .ok (.isub, 1) := by decide +kernel
theorem dX3_greatestDifference_21 : decode cX3_greatestDifference 21 = .ok (.invokevirtual 75, 3) := by decide +kernel
theorem dX3_greatestDifference_24 : decode cX3_greatestDifference 24 = .ok (.isub, 1) := by decide +kernel
theorem dX3_greatestDifference_25 : decode cX3_greatestDifference 25 = .ok (.invokestatic 82, 3) := by decide +kernel
theorem dX3_greatestDifference_28 : decode cX3_greatestDifference 28 = .ok (.istore_n 3, 1) := by decide +kernel
theorem dX3_greatestDifference_29 : decode cX3_greatestDifference 29 = .ok (.iload_n 1, 1) := by decide +kernel
theorem dX3_greatestDifference_30 : decode cX3_greatestDifference 30 = .ok (.iload_n 3, 1) := by decide +kernel
theorem dX3_greatestDifference_31 : decode cX3_greatestDifference 31 = .ok (.invokestatic 63, 3) := by decide +kernel
theorem dX3_greatestDifference_34 : decode cX3_greatestDifference 34 = .ok (.istore_n 1, 1) := by decide +kernel
theorem dX3_greatestDifference_35 : decode cX3_greatestDifference 35 = .ok (.iinc 2 1, 3) := by decide +kernel
theorem dX3_greatestDifference_38 : decode cX3_greatestDifference 38 = .ok (.goto (-34), 3) := by decide +kernel
theorem dX3_greatestDifference_41 : decode cX3_greatestDifference 41 = .ok (.iload_n 1, 1) := by decide +kernel
theorem dX3_greatestDifference_42 : decode cX3_greatestDifference 42 = .ok (.ireturn, 1) := by decide +kernel
theorem dX4_init_0 : decode cX4_init 0 = .ok (.aload_n 0, 1) := by decide +kernel
theorem dX4_init_1 : decode cX4_init 1 = .ok (.invokespecial 1, 3) := by decide +kernel
theorem dX4_init_4 : decode cX4_init 4 = .ok (.aload_n 0, 1) := by decide +kernel
theorem dX4_init_5 : decode cX4_init 5 = .ok (.iconst (-1), 1) := by decide +kernel
theorem dX4_init_6 : decode cX4_init 6 = .ok (.putfield 7, 3) := by decide +kernel
theorem dX4_init_9 : decode cX4_init 9 = .ok (.return_, 1) := by decide +kernel
theorem dX4_note_0 : decode cX4_note 0 = .ok (.iload_n 2, 1) := by decide +kernel
theorem dX4_note_1 : decode cX4_note 1 = .ok (.ifCond .ne 9, 3) := by decide +kernel
theorem dX4_note_4 : decode cX4_note 4 = .ok (.aload_n 0, 1) := by decide +kernel
theorem dX4_note_5 : decode cX4_note 5 = .ok (.iconst 0, 1) := by decide +kernel
theorem dX4_note_6 : decode cX4_note 6 = .ok (.putfield 13, 3) := by decide +kernel
theorem dX4_note_9 : decode cX4_note 9 = .ok (.return_, 1) := by decide +kernel
theorem dX4_note_10 : decode cX4_note 10 = .ok (.aload_n 0, 1) := by decide +kernel
theorem dX4_note_11 : decode cX4_note 11 = .ok (.getfield 13, 3) := by decide +kernel
theorem dX4_note_14 : decode cX4_note 14 = .ok (.ifCond .ne 13, 3) := by decide +kernel
theorem dX4_note_17 : decode cX4_note 17 = .ok (.aload_n 0, 1) := by decide +kernel
theorem dX4_note_18 : decode cX4_note 18 = .ok (.dup, 1) := by decide +kernel
theorem dX4_note_19 : decode cX4_note 19 = .ok (.getfield 16, 3) := by decide +kernel
theorem dX4_note_22 : decode cX4_note 22 = .ok (.iconst 1, 1) := by decide +kernel
theorem dX4_note_23 : decode cX4_note 23 = .ok (.iadd, 1) := by decide +kernel
theorem dX4_note_24 : decode cX4_note 24 = .ok (.putfield 16, 3) := by decide +kernel
theorem dX4_note_27 : decode cX4_note 27 = .ok (.aload_n 0, 1) := by decide +kernel
theorem dX4_note_28 : decode cX4_note 28 = .ok (.getfield 7, 3) := by decide +kernel
theorem dX4_note_31 : decode cX4_note 31 = .ok (.ifCond .ge 8, 3) := by decide +kernel
theorem dX4_note_34 : decode cX4_note 34 = .ok (.aload_n 0, 1) := by decide +kernel
theorem dX4_note_35 : decode cX4_note 35 = .ok (.iload_n 1, 1) := by decide +kernel
theorem dX4_note_36 : decode cX4_note 36 = .ok (.putfield 7, 3) := by decide +kernel
theorem dX4_note_39 : decode cX4_note 39 = .ok (.aload_n 0, 1) := by decide +kernel
theorem dX4_note_40 : decode cX4_note 40 = .ok (.dup, 1) := by decide +kernel
theorem dX4_note_41 : decode cX4_note 41 = .ok (.getfield 19, 3) := by decide +kernel
theorem dX4_note_44 : decode cX4_note 44 = .ok (.iconst 1, 1) := by decide +kernel
theorem dX4_note_45 : decode cX4_note 45 = .ok (.iadd, 1) := by decide +kernel
theorem dX4_note_46 : decode cX4_note 46 = .ok (.putfield 19, 3) := by decide +kernel
theorem dX4_note_49 : decode cX4_note 49 = .ok (.aload_n 0, 1) := by decide +kernel
theorem dX4_note_50 : decode cX4_note 50 = .ok (.dup, 1) := by decide +kernel
theorem dX4_note_51 : decode cX4_note 51 = .ok (.getfield 13, 3) := by decide +kernel
theorem dX4_note_54 : decode cX4_note 54 = .ok (.iconst 1, 1) := by decide +kernel
theorem dX4_note_55 : decode cX4_note 55 = .ok (.iadd, 1) := by decide +kernel
theorem dX4_note_56 : decode cX4_note 56 = .ok (.putfield 13, 3) := by decide +kernel
theorem dX4_note_59 : decode cX4_note 59 = .ok (.aload_n 0, 1) := by decide +kernel
theorem dX4_note_60 : decode cX4_note 60 = .ok (.aload_n 0, 1) := by decide +kernel
theorem dX4_note_61 : decode cX4_note 61 = .ok (.getfield 22, 3) := by decide +kernel
theorem dX4_note_64 : decode cX4_note 64 = .ok (.aload_n 0, 1) := by decide +kernel
theorem dX4_note_65 : decode cX4_note 65 = .ok (.getfield 13, 3) := by decide +kernel
theorem dX4_note_68 : decode cX4_note 68 = .ok (.invokestatic 25, 3) := by decide +kernel
theorem dX4_note_71 : decode cX4_note 71 = .ok (.putfield 22, 3) := by decide +kernel
theorem dX4_note_74 : decode cX4_note 74 = .ok (.return_, 1) := by decide +kernel
theorem dX4_answer_0 : decode cX4_answer 0 = .ok (.iload_n 1, 1) := by decide +kernel
theorem dX4_answer_1 : decode cX4_answer 1 = .ok (.tableswitch 42 0 2 #[27, 32, 37], 27) := by decide +kernel
theorem dX4_answer_28 : decode cX4_answer 28 = .ok (.aload_n 0, 1) := by decide +kernel
theorem dX4_answer_29 : decode cX4_answer 29 = .ok (.getfield 16, 3) := by decide +kernel
theorem dX4_answer_32 : decode cX4_answer 32 = .ok (.ireturn, 1) := by decide +kernel
theorem dX4_answer_33 : decode cX4_answer 33 = .ok (.aload_n 0, 1) := by decide +kernel
theorem dX4_answer_34 : decode cX4_answer 34 = .ok (.getfield 19, 3) := by decide +kernel
theorem dX4_answer_37 : decode cX4_answer 37 = .ok (.ireturn, 1) := by decide +kernel
theorem dX4_answer_38 : decode cX4_answer 38 = .ok (.aload_n 0, 1) := by decide +kernel
theorem dX4_answer_39 : decode cX4_answer 39 = .ok (.getfield 7, 3) := by decide +kernel
theorem dX4_answer_42 : decode cX4_answer 42 = .ok (.ireturn, 1) := by decide +kernel
theorem dX4_answer_43 : decode cX4_answer 43 = .ok (.aload_n 0, 1) := by decide +kernel
theorem dX4_answer_44 : decode cX4_answer 44 = .ok (.getfield 22, 3) := by decide +kernel
theorem dX4_answer_47 : decode cX4_answer 47 = .ok (.ireturn, 1) := by decide +kernel
theorem dX5_init_0 : decode cX5_init 0 = .ok (.aload_n 0, 1) := by decide +kernel
theorem dX5_init_1 : decode cX5_init 1 = .ok (.invokespecial 1, 3) := by decide +kernel
theorem dX5_init_4 : decode cX5_init 4 = .ok (.aload_n 0, 1) := by decide +kernel
theorem dX5_init_5 : decode cX5_init 5 = .ok (.new 7, 3) := by decide +kernel
theorem dX5_init_8 : decode cX5_init 8 = .ok (.dup, 1) := by decide +kernel
theorem dX5_init_9 : decode cX5_init 9 = .ok (.invokespecial 9, 3) := by decide +kernel
theorem dX5_init_12 : decode cX5_init 12 = .ok (.putfield 10, 3) := by decide +kernel
theorem dX5_init_15 : decode cX5_init 15 = .ok (.return_, 1) := by decide +kernel
theorem dX5_heightAt_0 : decode cX5_heightAt 0 = .ok (.aload_n 0, 1) := by decide +kernel
theorem dX5_heightAt_1 : decode cX5_heightAt 1 = .ok (.getfield 16, 3) := by decide +kernel
theorem dX5_heightAt_4 : decode cX5_heightAt 4 = .ok (.istore_n 2, 1) := by decide +kernel
theorem dX5_heightAt_5 : decode cX5_heightAt 5 = .ok (.iconst 0, 1) := by decide +kernel
theorem dX5_heightAt_6 : decode cX5_heightAt 6 = .ok (.istore_n 3, 1) := by decide +kernel
theorem dX5_heightAt_7 : decode cX5_heightAt 7 = .ok (.iload_n 3, 1) := by decide +kernel
theorem dX5_heightAt_8 : decode cX5_heightAt 8 = .ok (.aload_n 0, 1) := by decide +kernel
theorem dX5_heightAt_9 : decode cX5_heightAt 9 = .ok (.getfield 10, 3) := by decide +kernel
theorem dX5_heightAt_12 : decode cX5_heightAt 12 = .ok (.invokevirtual 20, 3) := by decide +kernel
theorem dX5_heightAt_15 : decode cX5_heightAt 15 = .ok (.if_icmp .ge 27, 3) := by decide +kernel
theorem dX5_heightAt_18 : decode cX5_heightAt 18 = .ok (.iload_n 2, 1) := by decide +kernel
theorem dX5_heightAt_19 : decode cX5_heightAt 19 = .ok (.aload_n 0, 1) := by decide +kernel
theorem dX5_heightAt_20 : decode cX5_heightAt 20 = .ok (.getfield 10, 3) := by decide +kernel
theorem dX5_heightAt_23 : decode cX5_heightAt 23 = .ok (.iload_n 3, 1) := by decide +kernel
theorem dX5_heightAt_24 : decode cX5_heightAt 24 = .ok (.invokevirtual 24, 3) := by decide +kernel
theorem dX5_heightAt_27 : decode cX5_heightAt 27 = .ok (.checkcast 28, 3) := by decide +kernel
theorem dX5_heightAt_30 : decode cX5_heightAt 30 = .ok (.iload_n 1, 1) := by decide +kernel
theorem dX5_heightAt_31 : decode cX5_heightAt 31 = .ok (.invokevirtual 30, 3) := by decide +kernel
theorem dX5_heightAt_34 : decode cX5_heightAt 34 = .ok (.iadd, 1) := by decide +kernel
theorem dX5_heightAt_35 : decode cX5_heightAt 35 = .ok (.istore_n 2, 1) := by decide +kernel
theorem dX5_heightAt_36 : decode cX5_heightAt 36 = .ok (.iinc 3 1, 3) := by decide +kernel
theorem dX5_heightAt_39 : decode cX5_heightAt 39 = .ok (.goto (-32), 3) := by decide +kernel
theorem dX5_heightAt_42 : decode cX5_heightAt 42 = .ok (.iload_n 2, 1) := by decide +kernel
theorem dX5_heightAt_43 : decode cX5_heightAt 43 = .ok (.ireturn, 1) := by decide +kernel
theorem dX6_init_0 : decode cX6_init 0 = .ok (.aload_n 0, 1) := by decide +kernel
theorem dX6_init_1 : decode cX6_init 1 = .ok (.invokespecial 1, 3) := by decide +kernel
theorem dX6_init_4 : decode cX6_init 4 = .ok (.aload_n 0, 1) := by decide +kernel
theorem dX6_init_5 : decode cX6_init 5 = .ok (.iload_n 1, 1) := by decide +kernel
theorem dX6_init_6 : decode cX6_init 6 = .ok (.putfield 7, 3) := by decide +kernel
theorem dX6_init_9 : decode cX6_init 9 = .ok (.aload_n 0, 1) := by decide +kernel
theorem dX6_init_10 : decode cX6_init 10 = .ok (.iload_n 2, 1) := by decide +kernel
theorem dX6_init_11 : decode cX6_init 11 = .ok (.putfield 13, 3) := by decide +kernel
theorem dX6_init_14 : decode cX6_init 14 = .ok (.aload_n 0, 1) := by decide +kernel
theorem dX6_init_15 : decode cX6_init 15 = .ok (.iload_n 3, 1) := by decide +kernel
theorem dX6_init_16 : decode cX6_init 16 = .ok (.putfield 16, 3) := by decide +kernel
theorem dX6_init_19 : decode cX6_init 19 = .ok (.return_, 1) := by decide +kernel
theorem dX6_heightAt_0 : decode cX6_heightAt 0 = .ok (.aload_n 0, 1) := by decide +kernel
theorem dX6_heightAt_1 : decode cX6_heightAt 1 = .ok (.getfield 13, 3) := by decide +kernel
theorem dX6_heightAt_4 : decode cX6_heightAt 4 = .ok (.ifCond .gt 5, 3) := by decide +kernel
theorem dX6_heightAt_7 : decode cX6_heightAt 7 = .ok (.iconst 0, 1) := by decide +kernel
theorem dX6_heightAt_8 : decode cX6_heightAt 8 = .ok (.ireturn, 1) := by decide +kernel
theorem dX6_heightAt_9 : decode cX6_heightAt 9 = .ok (.iconst 2, 1) := by decide +kernel
theorem dX6_heightAt_10 : decode cX6_heightAt 10 = .ok (.iload_n 1, 1) := by decide +kernel
theorem dX6_heightAt_11 : decode cX6_heightAt 11 = .ok (.aload_n 0, 1) := by decide +kernel
theorem dX6_heightAt_12 : decode cX6_heightAt 12 = .ok (.getfield 16, 3) := by decide +kernel
theorem dX6_heightAt_15 : decode cX6_heightAt 15 = .ok (.iadd, 1) := by decide +kernel
theorem dX6_heightAt_16 : decode cX6_heightAt 16 = .ok (.aload_n 0, 1) := by decide +kernel
theorem dX6_heightAt_17 : decode cX6_heightAt 17 = .ok (.getfield 13, 3) := by decide +kernel
theorem dX6_heightAt_20 : decode cX6_heightAt 20 = .ok (.irem, 1) := by decide +kernel
theorem dX6_heightAt_21 : decode cX6_heightAt 21 = .ok (.imul, 1) := by decide +kernel
theorem dX6_heightAt_22 : decode cX6_heightAt 22 = .ok (.istore_n 2, 1) := by decide +kernel
theorem dX6_heightAt_23 : decode cX6_heightAt 23 = .ok (.iload_n 2, 1) := by decide +kernel
theorem dX6_heightAt_24 : decode cX6_heightAt 24 = .ok (.aload_n 0, 1) := by decide +kernel
theorem dX6_heightAt_25 : decode cX6_heightAt 25 = .ok (.getfield 13, 3) := by decide +kernel
theorem dX6_heightAt_28 : decode cX6_heightAt 28 = .ok (.if_icmp .ge 7, 3) := by decide +kernel
theorem dX6_heightAt_31 : decode cX6_heightAt 31 = .ok (.iconst 1, 1) := by decide +kernel
theorem dX6_heightAt_32 : decode cX6_heightAt 32 = .ok (.goto 4, 3) := by decide +kernel
theorem dX6_heightAt_35 : decode cX6_heightAt 35 = .ok (.iconst 0, 1) := by decide +kernel
theorem dX6_heightAt_36 : decode cX6_heightAt 36 = .ok (.istore_n 3, 1) := by decide +kernel
theorem dX6_heightAt_37 : decode cX6_heightAt 37 = .ok (.iload_n 3, 1) := by decide +kernel
theorem dX6_heightAt_38 : decode cX6_heightAt 38 = .ok (.ifCond .eq 8, 3) := by decide +kernel
theorem dX6_heightAt_41 : decode cX6_heightAt 41 = .ok (.iload_n 2, 1) := by decide +kernel
theorem dX6_heightAt_42 : decode cX6_heightAt 42 = .ok (.i2l, 1) := by decide +kernel
theorem dX6_heightAt_43 : decode cX6_heightAt 43 = .ok (.goto 10, 3) := by decide +kernel
theorem dX6_heightAt_46 : decode cX6_heightAt 46 = .ok (.iload_n 2, 1) := by decide +kernel
theorem dX6_heightAt_47 : decode cX6_heightAt 47 = .ok (.aload_n 0, 1) := by decide +kernel
theorem dX6_heightAt_48 : decode cX6_heightAt 48 = .ok (.getfield 13, 3) := by decide +kernel
theorem dX6_heightAt_51 : decode cX6_heightAt 51 = .ok (.isub, 1) := by decide +kernel
theorem dX6_heightAt_52 : decode cX6_heightAt 52 = .ok (.i2l, 1) := by decide +kernel
theorem dX6_heightAt_53 : decode cX6_heightAt 53 = .ok (.lstore 4, 2) := by decide +kernel
theorem dX6_heightAt_55 : decode cX6_heightAt 55 = .ok (.ldc2_w 19, 3) := by decide +kernel
theorem dX6_heightAt_58 : decode cX6_heightAt 58 = .ok (.aload_n 0, 1) := by decide +kernel
theorem dX6_heightAt_59 : decode cX6_heightAt 59 = .ok (.getfield 7, 3) := by decide +kernel
theorem dX6_heightAt_62 : decode cX6_heightAt 62 = .ok (.i2l, 1) := by decide +kernel
theorem dX6_heightAt_63 : decode cX6_heightAt 63 = .ok (.lmul, 1) := by decide +kernel
theorem dX6_heightAt_64 : decode cX6_heightAt 64 = .ok (.lload 4, 2) := by decide +kernel
theorem dX6_heightAt_66 : decode cX6_heightAt 66 = .ok (.lmul, 1) := by decide +kernel
theorem dX6_heightAt_67 : decode cX6_heightAt 67 = .ok (.aload_n 0, 1) := by decide +kernel
theorem dX6_heightAt_68 : decode cX6_heightAt 68 = .ok (.getfield 13, 3) := by decide +kernel
theorem dX6_heightAt_71 : decode cX6_heightAt 71 = .ok (.i2l, 1) := by decide +kernel
theorem dX6_heightAt_72 : decode cX6_heightAt 72 = .ok (.lload 4, 2) := by decide +kernel
theorem dX6_heightAt_74 : decode cX6_heightAt 74 = .ok (.lsub, 1) := by decide +kernel
theorem dX6_heightAt_75 : decode cX6_heightAt 75 = .ok (.lmul, 1) := by decide +kernel
theorem dX6_heightAt_76 : decode cX6_heightAt 76 = .ok (.aload_n 0, 1) := by decide +kernel
theorem dX6_heightAt_77 : decode cX6_heightAt 77 = .ok (.getfield 13, 3) := by decide +kernel
theorem dX6_heightAt_80 : decode cX6_heightAt 80 = .ok (.i2l, 1) := by decide +kernel
theorem dX6_heightAt_81 : decode cX6_heightAt 81 = .ok (.aload_n 0, 1) := by decide +kernel
theorem dX6_heightAt_82 : decode cX6_heightAt 82 = .ok (.getfield 13, 3) := by decide +kernel
theorem dX6_heightAt_85 : decode cX6_heightAt 85 = .ok (.i2l, 1) := by decide +kernel
theorem dX6_heightAt_86 : decode cX6_heightAt 86 = .ok (.lmul, 1) := by decide +kernel
theorem dX6_heightAt_87 : decode cX6_heightAt 87 = .ok (.ldiv, 1) := by decide +kernel
theorem dX6_heightAt_88 : decode cX6_heightAt 88 = .ok (.lstore 6, 2) := by decide +kernel
theorem dX6_heightAt_90 : decode cX6_heightAt 90 = .ok (.iload_n 3, 1) := by decide +kernel
theorem dX6_heightAt_91 : decode cX6_heightAt 91 = .ok (.ifCond .eq 8, 3) := by decide +kernel
theorem dX6_heightAt_94 : decode cX6_heightAt 94 = .ok (.lload 6, 2) := by decide +kernel
theorem dX6_heightAt_96 : decode cX6_heightAt 96 = .ok (.goto 6, 3) := by decide +kernel
theorem dX6_heightAt_99 : decode cX6_heightAt 99 = .ok (.lload 6, 2) := by decide +kernel
theorem dX6_heightAt_101 : decode cX6_heightAt 101 = .ok (.lneg, 1) := by decide +kernel
theorem dX6_heightAt_102 : decode cX6_heightAt 102 = .ok (.l2i, 1) := by decide +kernel
theorem dX6_heightAt_103 : decode cX6_heightAt 103 = .ok (.ireturn, 1) := by decide +kernel
theorem dX7_init_0 : decode cX7_init 0 = .ok (.aload_n 0, 1) := by decide +kernel
theorem dX7_init_1 : decode cX7_init 1 = .ok (.invokespecial 1, 3) := by decide +kernel
theorem dX7_init_4 : decode cX7_init 4 = .ok (.aload_n 0, 1) := by decide +kernel
theorem dX7_init_5 : decode cX7_init 5 = .ok (.new 7, 3) := by decide +kernel
theorem dX7_init_8 : decode cX7_init 8 = .ok (.dup, 1) := by decide +kernel
theorem dX7_init_9 : decode cX7_init 9 = .ok (.invokespecial 9, 3) := by decide +kernel
theorem dX7_init_12 : decode cX7_init 12 = .ok (.putfield 10, 3) := by decide +kernel
theorem dX7_init_15 : decode cX7_init 15 = .ok (.aload_n 0, 1) := by decide +kernel
theorem dX7_init_16 : decode cX7_init 16 = .ok (.new 16, 3) := by decide +kernel
theorem dX7_init_19 : decode cX7_init 19 = .ok (.dup, 1) := by decide +kernel
theorem dX7_init_20 : decode cX7_init 20 = .ok (.invokespecial 18, 3) := by decide +kernel
theorem dX7_init_23 : decode cX7_init 23 = .ok (.putfield 19, 3) := by decide +kernel
theorem dX7_init_26 : decode cX7_init 26 = .ok (.aload_n 0, 1) := by decide +kernel
theorem dX7_init_27 : decode cX7_init 27 = .ok (.new 23, 3) := by decide +kernel
theorem dX7_init_30 : decode cX7_init 30 = .ok (.dup, 1) := by decide +kernel
theorem dX7_init_31 : decode cX7_init 31 = .ok (.invokespecial 25, 3) := by decide +kernel
theorem dX7_init_34 : decode cX7_init 34 = .ok (.putfield 26, 3) := by decide +kernel
theorem dX7_init_37 : decode cX7_init 37 = .ok (.aload_n 0, 1) := by decide +kernel
theorem dX7_init_38 : decode cX7_init 38 = .ok (.new 23, 3) := by decide +kernel
theorem dX7_init_41 : decode cX7_init 41 = .ok (.dup, 1) := by decide +kernel
theorem dX7_init_42 : decode cX7_init 42 = .ok (.invokespecial 25, 3) := by decide +kernel
theorem dX7_init_45 : decode cX7_init 45 = .ok (.putfield 30, 3) := by decide +kernel
theorem dX7_init_48 : decode cX7_init 48 = .ok (.aload_n 0, 1) := by decide +kernel
theorem dX7_init_49 : decode cX7_init 49 = .ok (.iconst 1, 1) := by decide +kernel
theorem dX7_init_50 : decode cX7_init 50 = .ok (.putfield 33, 3) := by decide +kernel
theorem dX7_init_53 : decode cX7_init 53 = .ok (.return_, 1) := by decide +kernel
theorem dX7_addWave_0 : decode cX7_addWave 0 = .ok (.iload_n 1, 1) := by decide +kernel
theorem dX7_addWave_1 : decode cX7_addWave 1 = .ok (.iconst 0, 1) := by decide +kernel
theorem dX7_addWave_2 : decode cX7_addWave 2 = .ok (.sipush 5000, 3) := by decide +kernel
theorem dX7_addWave_5 : decode cX7_addWave 5 = .ok (.invokestatic 37, 3) := by decide +kernel
theorem dX7_addWave_8 : decode cX7_addWave 8 = .ok (.ifCond .ne 13, 3) := by decide +kernel
theorem dX7_addWave_11 : decode cX7_addWave 11 = .ok (.new 41, 3) := by decide +kernel
theorem dX7_addWave_14 : decode cX7_addWave 14 = .ok (.dup, 1) := by decide +kernel
theorem dX7_addWave_15 : decode cX7_addWave 15 = .ok (.ldc 43, 2) := by decide +kernel
theorem dX7_addWave_17 : decode cX7_addWave 17 = .ok (.invokespecial 45, 3) := by decide +kernel
theorem dX7_addWave_20 : decode cX7_addWave 20 = .ok (.athrow, 1) := by decide +kernel
theorem dX7_addWave_21 : decode cX7_addWave 21 = .ok (.iload_n 2, 1) := by decide +kernel
theorem dX7_addWave_22 : decode cX7_addWave 22 = .ok (.bipush 60, 2) := by decide +kernel
theorem dX7_addWave_24 : decode cX7_addWave 24 = .ok (.sipush 20000, 3) := by decide +kernel
theorem dX7_addWave_27 : decode cX7_addWave 27 = .ok (.invokestatic 37, 3) := by decide +kernel
theorem dX7_addWave_30 : decode cX7_addWave 30 = .ok (.ifCond .ne 13, 3) := by decide +kernel
theorem dX7_addWave_33 : decode cX7_addWave 33 = .ok (.new 41, 3) := by decide +kernel
theorem dX7_addWave_36 : decode cX7_addWave 36 = .ok (.dup, 1) := by decide +kernel
theorem dX7_addWave_37 : decode cX7_addWave 37 = .ok (.ldc 48, 2) := by decide +kernel
theorem dX7_addWave_39 : decode cX7_addWave 39 = .ok (.invokespecial 45, 3) := by decide +kernel
theorem dX7_addWave_42 : decode cX7_addWave 42 = .ok (.athrow, 1) := by decide +kernel
theorem dX7_addWave_43 : decode cX7_addWave 43 = .ok (.iload_n 3, 1) := by decide +kernel
theorem dX7_addWave_44 : decode cX7_addWave 44 = .ok (.iconst 0, 1) := by decide +kernel
theorem dX7_addWave_45 : decode cX7_addWave 45 = .ok (.iload_n 2, 1) := by decide +kernel
theorem dX7_addWave_46 : decode cX7_addWave 46 = .ok (.iconst 1, 1) := by decide +kernel
theorem dX7_addWave_47 : decode cX7_addWave 47 = .ok (.isub, 1) := by decide +kernel
theorem dX7_addWave_48 : decode cX7_addWave 48 = .ok (.invokestatic 37, 3) := by decide +kernel
theorem dX7_addWave_51 : decode cX7_addWave 51 = .ok (.ifCond .ne 13, 3) := by decide +kernel
theorem dX7_addWave_54 : decode cX7_addWave 54 = .ok (.new 41, 3) := by decide +kernel
theorem dX7_addWave_57 : decode cX7_addWave 57 = .ok (.dup, 1) := by decide +kernel
theorem dX7_addWave_58 : decode cX7_addWave 58 = .ok (.ldc 50, 2) := by decide +kernel
theorem dX7_addWave_60 : decode cX7_addWave 60 = .ok (.invokespecial 45, 3) := by decide +kernel
theorem dX7_addWave_63 : decode cX7_addWave 63 = .ok (.athrow, 1) := by decide +kernel
theorem dX7_addWave_64 : decode cX7_addWave 64 = .ok (.aload_n 0, 1) := by decide +kernel
theorem dX7_addWave_65 : decode cX7_addWave 65 = .ok (.getfield 10, 3) := by decide +kernel
theorem dX7_addWave_68 : decode cX7_addWave 68 = .ok (.getfield 52, 3) := by decide +kernel
theorem dX7_addWave_71 : decode cX7_addWave 71 = .ok (.invokevirtual 55, 3) := by decide +kernel
theorem dX7_addWave_74 : decode cX7_addWave 74 = .ok (.bipush 8, 2) := by decide +kernel
theorem dX7_addWave_76 : decode cX7_addWave 76 = .ok (.if_icmp .lt 13, 3) := by decide +kernel
theorem dX7_addWave_79 : decode cX7_addWave 79 = .ok (.new 59, 3) := by decide +kernel
theorem dX7_addWave_82 : decode cX7_addWave 82 = .ok (.dup, 1) := by decide +kernel
theorem dX7_addWave_83 : decode cX7_addWave 83 = .ok (.ldc 61, 2) := by decide +kernel
theorem dX7_addWave_85 : decode cX7_addWave 85 = .ok (.invokespecial 63, 3) := by decide +kernel
theorem dX7_addWave_88 : decode cX7_addWave 88 = .ok (.athrow, 1) := by decide +kernel
theorem dX7_addWave_89 : decode cX7_addWave 89 = .ok (.aload_n 0, 1) := by decide +kernel
theorem dX7_addWave_90 : decode cX7_addWave 90 = .ok (.getfield 10, 3) := by decide +kernel
theorem dX7_addWave_93 : decode cX7_addWave 93 = .ok (.getfield 52, 3) := by decide +kernel
theorem dX7_addWave_96 : decode cX7_addWave 96 = .ok (.new 64, 3) := by decide +kernel
theorem dX7_addWave_99 : decode cX7_addWave 99 = .ok (.dup, 1) := by decide +kernel
theorem dX7_addWave_100 : decode cX7_addWave 100 = .ok (.iload_n 1, 1) := by decide +kernel
theorem dX7_addWave_101 : decode cX7_addWave 101 = .ok (.iload_n 2, 1) := by decide +kernel
theorem dX7_addWave_102 : decode cX7_addWave 102 = .ok (.iload_n 3, 1) := by decide +kernel
theorem dX7_addWave_103 : decode cX7_addWave 103 = .ok (.invokespecial 66, 3) := by decide +kernel
theorem dX7_addWave_106 : decode cX7_addWave 106 = .ok (.invokevirtual 69, 3) := by decide +kernel
theorem dX7_addWave_109 : decode cX7_addWave 109 = .ok (.pop, 1) := by decide +kernel
theorem dX7_addWave_110 : decode cX7_addWave 110 = .ok (.aload_n 0, 1) := by decide +kernel
theorem dX7_addWave_111 : decode cX7_addWave 111 = .ok (.iconst 1, 1) := by decide +kernel
theorem dX7_addWave_112 : decode cX7_addWave 112 = .ok (.putfield 33, 3) := by decide +kernel
theorem dX7_addWave_115 : decode cX7_addWave 115 = .ok (.aload_n 0, 1) := by decide +kernel
theorem dX7_addWave_116 : decode cX7_addWave 116 = .ok (.getfield 10, 3) := by decide +kernel
theorem dX7_addWave_119 : decode cX7_addWave 119 = .ok (.getfield 52, 3) := by decide +kernel
theorem dX7_addWave_122 : decode cX7_addWave 122 = .ok (.invokevirtual 55, 3) := by decide +kernel
theorem dX7_addWave_125 : decode cX7_addWave 125 = .ok (.iconst 1, 1) := by decide +kernel
theorem dX7_addWave_126 : decode cX7_addWave 126 = .ok (.isub, 1) := by decide +kernel
theorem dX7_addWave_127 : decode cX7_addWave 127 = .ok (.ireturn, 1) := by decide +kernel
theorem dX7_setRange_0 : decode cX7_setRange 0 = .ok (.aload_n 0, 1) := by decide +kernel
theorem dX7_setRange_1 : decode cX7_setRange 1 = .ok (.iload_n 1, 1) := by decide +kernel
theorem dX7_setRange_2 : decode cX7_setRange 2 = .ok (.invokevirtual 73, 3) := by decide +kernel
theorem dX7_setRange_5 : decode cX7_setRange 5 = .ok (.ifCond .ne 13, 3) := by decide +kernel
theorem dX7_setRange_8 : decode cX7_setRange 8 = .ok (.new 77, 3) := by decide +kernel
theorem dX7_setRange_11 : decode cX7_setRange 11 = .ok (.dup, 1) := by decide +kernel
theorem dX7_setRange_12 : decode cX7_setRange 12 = .ok (.ldc 79, 2) := by decide +kernel
theorem dX7_setRange_14 : decode cX7_setRange 14 = .ok (.invokespecial 81, 3) := by decide +kernel
theorem dX7_setRange_17 : decode cX7_setRange 17 = .ok (.athrow, 1) := by decide +kernel
theorem dX7_setRange_18 : decode cX7_setRange 18 = .ok (.iload_n 2, 1) := by decide +kernel
theorem dX7_setRange_19 : decode cX7_setRange 19 = .ok (.iconst 0, 1) := by decide +kernel
theorem dX7_setRange_20 : decode cX7_setRange 20 = .ok (.sipush 5000, 3) := by decide +kernel
theorem dX7_setRange_23 : decode cX7_setRange 23 = .ok (.invokestatic 37, 3) := by decide +kernel
theorem dX7_setRange_26 : decode cX7_setRange 26 = .ok (.ifCond .ne 13, 3) := by decide +kernel
theorem dX7_setRange_29 : decode cX7_setRange 29 = .ok (.new 41, 3) := by decide +kernel
theorem dX7_setRange_32 : decode cX7_setRange 32 = .ok (.dup, 1) := by decide +kernel
theorem dX7_setRange_33 : decode cX7_setRange 33 = .ok (.ldc 43, 2) := by decide +kernel
theorem dX7_setRange_35 : decode cX7_setRange 35 = .ok (.invokespecial 45, 3) := by decide +kernel
theorem dX7_setRange_38 : decode cX7_setRange 38 = .ok (.athrow, 1) := by decide +kernel
theorem dX7_setRange_39 : decode cX7_setRange 39 = .ok (.aload_n 0, 1) := by decide +kernel
theorem dX7_setRange_40 : decode cX7_setRange 40 = .ok (.getfield 10, 3) := by decide +kernel
theorem dX7_setRange_43 : decode cX7_setRange 43 = .ok (.getfield 52, 3) := by decide +kernel
theorem dX7_setRange_46 : decode cX7_setRange 46 = .ok (.iload_n 1, 1) := by decide +kernel
theorem dX7_setRange_47 : decode cX7_setRange 47 = .ok (.invokevirtual 82, 3) := by decide +kernel
theorem dX7_setRange_50 : decode cX7_setRange 50 = .ok (.checkcast 64, 3) := by decide +kernel
theorem dX7_setRange_53 : decode cX7_setRange 53 = .ok (.astore_n 3, 1) := by decide +kernel
theorem dX7_setRange_54 : decode cX7_setRange 54 = .ok (.aload_n 3, 1) := by decide +kernel
theorem dX7_setRange_55 : decode cX7_setRange 55 = .ok (.getfield 86, 3) := by decide +kernel
theorem dX7_setRange_58 : decode cX7_setRange 58 = .ok (.istore 4, 2) := by decide +kernel
theorem dX7_setRange_60 : decode cX7_setRange 60 = .ok (.aload_n 3, 1) := by decide +kernel
theorem dX7_setRange_61 : decode cX7_setRange 61 = .ok (.iload_n 2, 1) := by decide +kernel
theorem dX7_setRange_62 : decode cX7_setRange 62 = .ok (.putfield 86, 3) := by decide +kernel
theorem dX7_setRange_65 : decode cX7_setRange 65 = .ok (.aload_n 0, 1) := by decide +kernel
theorem dX7_setRange_66 : decode cX7_setRange 66 = .ok (.iconst 1, 1) := by decide +kernel
theorem dX7_setRange_67 : decode cX7_setRange 67 = .ok (.putfield 33, 3) := by decide +kernel
theorem dX7_setRange_70 : decode cX7_setRange 70 = .ok (.iload 4, 2) := by decide +kernel
theorem dX7_setRange_72 : decode cX7_setRange 72 = .ok (.ireturn, 1) := by decide +kernel
end
section
theorem dX7_setLevel_0 : decode cX7_setLevel 0 = .ok (.iload_n 1, 1) := by decide +kernel
theorem dX7_setLevel_1 : decode cX7_setLevel 1 = .ok (.sipush (-10000), 3) := by decide +kernel
theorem dX7_setLevel_4 : decode cX7_setLevel 4 = .ok (.sipush 10000, 3) := by decide +kernel
theorem dX7_setLevel_7 : decode cX7_setLevel 7 = .ok (.invokestatic 37, 3) := by decide +kernel
theorem dX7_setLevel_10 : decode cX7_setLevel 10 = .ok (.ifCond .ne 13, 3) := by decide +kernel
theorem dX7_setLevel_13 : decode cX7_setLevel 13 = .ok (.new 41, 3) := by decide +kernel
theorem dX7_setLevel_16 : decode cX7_setLevel 16 = .ok (.dup, 1) := by decide +kernel
theorem dX7_setLevel_17 : decode cX7_setLevel 17 = .ok (.ldc 90, 2) := by decide +kernel
theorem dX7_setLevel_19 : decode cX7_setLevel 19 = .ok (.invokespecial 45, 3) := by decide +kernel
theorem dX7_setLevel_22 : decode cX7_setLevel 22 = .ok (.athrow, 1) := by decide +kernel
theorem dX7_setLevel_23 : decode cX7_setLevel 23 = .ok (.aload_n 0, 1) := by decide +kernel
theorem dX7_setLevel_24 : decode cX7_setLevel 24 = .ok (.getfield 10, 3) := by decide +kernel
theorem dX7_setLevel_27 : decode cX7_setLevel 27 = .ok (.getfield 92, 3) := by decide +kernel
theorem dX7_setLevel_30 : decode cX7_setLevel 30 = .ok (.istore_n 2, 1) := by decide +kernel
theorem dX7_setLevel_31 : decode cX7_setLevel 31 = .ok (.aload_n 0, 1) := by decide +kernel
theorem dX7_setLevel_32 : decode cX7_setLevel 32 = .ok (.getfield 10, 3) := by decide +kernel
theorem dX7_setLevel_35 : decode cX7_setLevel 35 = .ok (.iload_n 1, 1) := by decide +kernel
theorem dX7_setLevel_36 : decode cX7_setLevel 36 = .ok (.putfield 92, 3) := by decide +kernel
theorem dX7_setLevel_39 : decode cX7_setLevel 39 = .ok (.aload_n 0, 1) := by decide +kernel
theorem dX7_setLevel_40 : decode cX7_setLevel 40 = .ok (.iconst 1, 1) := by decide +kernel
theorem dX7_setLevel_41 : decode cX7_setLevel 41 = .ok (.putfield 33, 3) := by decide +kernel
theorem dX7_setLevel_44 : decode cX7_setLevel 44 = .ok (.iload_n 2, 1) := by decide +kernel
theorem dX7_setLevel_45 : decode cX7_setLevel 45 = .ok (.ireturn, 1) := by decide +kernel
theorem dX7_height_0 : decode cX7_height 0 = .ok (.iload_n 1, 1) := by decide +kernel
theorem dX7_height_1 : decode cX7_height 1 = .ok (.invokestatic 95, 3) := by decide +kernel
theorem dX7_height_4 : decode cX7_height 4 = .ok (.ifCond .ne 13, 3) := by decide +kernel
theorem dX7_height_7 : decode cX7_height 7 = .ok (.new 41, 3) := by decide +kernel
theorem dX7_height_10 : decode cX7_height 10 = .ok (.dup, 1) := by decide +kernel
theorem dX7_height_11 : decode cX7_height 11 = .ok (.ldc 98, 2) := by decide +kernel
theorem dX7_height_13 : decode cX7_height 13 = .ok (.invokespecial 45, 3) := by decide +kernel
theorem dX7_height_16 : decode cX7_height 16 = .ok (.athrow, 1) := by decide +kernel
theorem dX7_height_17 : decode cX7_height 17 = .ok (.aload_n 0, 1) := by decide +kernel
theorem dX7_height_18 : decode cX7_height 18 = .ok (.getfield 10, 3) := by decide +kernel
theorem dX7_height_21 : decode cX7_height 21 = .ok (.iload_n 1, 1) := by decide +kernel
theorem dX7_height_22 : decode cX7_height 22 = .ok (.invokevirtual 100, 3) := by decide +kernel
theorem dX7_height_25 : decode cX7_height 25 = .ok (.ireturn, 1) := by decide +kernel
theorem dX7_waveHeight_0 : decode cX7_waveHeight 0 = .ok (.aload_n 0, 1) := by decide +kernel
theorem dX7_waveHeight_1 : decode cX7_waveHeight 1 = .ok (.iload_n 1, 1) := by decide +kernel
theorem dX7_waveHeight_2 : decode cX7_waveHeight 2 = .ok (.invokevirtual 73, 3) := by decide +kernel
theorem dX7_waveHeight_5 : decode cX7_waveHeight 5 = .ok (.ifCond .ne 13, 3) := by decide +kernel
theorem dX7_waveHeight_8 : decode cX7_waveHeight 8 = .ok (.new 77, 3) := by decide +kernel
theorem dX7_waveHeight_11 : decode cX7_waveHeight 11 = .ok (.dup, 1) := by decide +kernel
theorem dX7_waveHeight_12 : decode cX7_waveHeight 12 = .ok (.ldc 79, 2) := by decide +kernel
theorem dX7_waveHeight_14 : decode cX7_waveHeight 14 = .ok (.invokespecial 81, 3) := by decide +kernel
theorem dX7_waveHeight_17 : decode cX7_waveHeight 17 = .ok (.athrow, 1) := by decide +kernel
theorem dX7_waveHeight_18 : decode cX7_waveHeight 18 = .ok (.iload_n 2, 1) := by decide +kernel
theorem dX7_waveHeight_19 : decode cX7_waveHeight 19 = .ok (.invokestatic 95, 3) := by decide +kernel
theorem dX7_waveHeight_22 : decode cX7_waveHeight 22 = .ok (.ifCond .ne 13, 3) := by decide +kernel
theorem dX7_waveHeight_25 : decode cX7_waveHeight 25 = .ok (.new 41, 3) := by decide +kernel
theorem dX7_waveHeight_28 : decode cX7_waveHeight 28 = .ok (.dup, 1) := by decide +kernel
theorem dX7_waveHeight_29 : decode cX7_waveHeight 29 = .ok (.ldc 98, 2) := by decide +kernel
theorem dX7_waveHeight_31 : decode cX7_waveHeight 31 = .ok (.invokespecial 45, 3) := by decide +kernel
theorem dX7_waveHeight_34 : decode cX7_waveHeight 34 = .ok (.athrow, 1) := by decide +kernel
theorem dX7_waveHeight_35 : decode cX7_waveHeight 35 = .ok (.aload_n 0, 1) := by decide +kernel
theorem dX7_waveHeight_36 : decode cX7_waveHeight 36 = .ok (.getfield 10, 3) := by decide +kernel
theorem dX7_waveHeight_39 : decode cX7_waveHeight 39 = .ok (.getfield 52, 3) := by decide +kernel
theorem dX7_waveHeight_42 : decode cX7_waveHeight 42 = .ok (.iload_n 1, 1) := by decide +kernel
theorem dX7_waveHeight_43 : decode cX7_waveHeight 43 = .ok (.invokevirtual 82, 3) := by decide +kernel
theorem dX7_waveHeight_46 : decode cX7_waveHeight 46 = .ok (.checkcast 64, 3) := by decide +kernel
theorem dX7_waveHeight_49 : decode cX7_waveHeight 49 = .ok (.iload_n 2, 1) := by decide +kernel
theorem dX7_waveHeight_50 : decode cX7_waveHeight 50 = .ok (.invokevirtual 104, 3) := by decide +kernel
theorem dX7_waveHeight_53 : decode cX7_waveHeight 53 = .ok (.ireturn, 1) := by decide +kernel
theorem dX7_count_0 : decode cX7_count 0 = .ok (.iload_n 1, 1) := by decide +kernel
theorem dX7_count_1 : decode cX7_count 1 = .ok (.iconst 0, 1) := by decide +kernel
theorem dX7_count_2 : decode cX7_count 2 = .ok (.iconst 3, 1) := by decide +kernel
theorem dX7_count_3 : decode cX7_count 3 = .ok (.invokestatic 37, 3) := by decide +kernel
theorem dX7_count_6 : decode cX7_count 6 = .ok (.ifCond .ne 13, 3) := by decide +kernel
theorem dX7_count_9 : decode cX7_count 9 = .ok (.new 77, 3) := by decide +kernel
theorem dX7_count_12 : decode cX7_count 12 = .ok (.dup, 1) := by decide +kernel
theorem dX7_count_13 : decode cX7_count 13 = .ok (.ldc 105, 2) := by decide +kernel
theorem dX7_count_15 : decode cX7_count 15 = .ok (.invokespecial 81, 3) := by decide +kernel
theorem dX7_count_18 : decode cX7_count 18 = .ok (.athrow, 1) := by decide +kernel
theorem dX7_count_19 : decode cX7_count 19 = .ok (.aload_n 0, 1) := by decide +kernel
theorem dX7_count_20 : decode cX7_count 20 = .ok (.iload_n 1, 1) := by decide +kernel
theorem dX7_count_21 : decode cX7_count 21 = .ok (.invokevirtual 107, 3) := by decide +kernel
theorem dX7_count_24 : decode cX7_count 24 = .ok (.ireturn, 1) := by decide +kernel
theorem dX7_water_0 : decode cX7_water 0 = .ok (.aload_n 0, 1) := by decide +kernel
theorem dX7_water_1 : decode cX7_water 1 = .ok (.invokevirtual 110, 3) := by decide +kernel
theorem dX7_water_4 : decode cX7_water 4 = .ok (.astore_n 3, 1) := by decide +kernel
theorem dX7_water_5 : decode cX7_water 5 = .ok (.aload_n 3, 1) := by decide +kernel
theorem dX7_water_6 : decode cX7_water 6 = .ok (.iload_n 1, 1) := by decide +kernel
theorem dX7_water_7 : decode cX7_water 7 = .ok (.invokevirtual 114, 3) := by decide +kernel
theorem dX7_water_10 : decode cX7_water 10 = .ok (.ifCond .ne 13, 3) := by decide +kernel
theorem dX7_water_13 : decode cX7_water 13 = .ok (.new 77, 3) := by decide +kernel
theorem dX7_water_16 : decode cX7_water 16 = .ok (.dup, 1) := by decide +kernel
theorem dX7_water_17 : decode cX7_water 17 = .ok (.ldc 117, 2) := by decide +kernel
theorem dX7_water_19 : decode cX7_water 19 = .ok (.invokespecial 81, 3) := by decide +kernel
theorem dX7_water_22 : decode cX7_water 22 = .ok (.athrow, 1) := by decide +kernel
theorem dX7_water_23 : decode cX7_water 23 = .ok (.iload_n 2, 1) := by decide +kernel
theorem dX7_water_24 : decode cX7_water 24 = .ok (.tableswitch 54 0 2 #[28, 34, 40], 28) := by decide +kernel
theorem dX7_water_52 : decode cX7_water 52 = .ok (.aload_n 3, 1) := by decide +kernel
theorem dX7_water_53 : decode cX7_water 53 = .ok (.iload_n 1, 1) := by decide +kernel
theorem dX7_water_54 : decode cX7_water 54 = .ok (.invokevirtual 119, 3) := by decide +kernel
theorem dX7_water_57 : decode cX7_water 57 = .ok (.ireturn, 1) := by decide +kernel
theorem dX7_water_58 : decode cX7_water 58 = .ok (.aload_n 3, 1) := by decide +kernel
theorem dX7_water_59 : decode cX7_water 59 = .ok (.iload_n 1, 1) := by decide +kernel
theorem dX7_water_60 : decode cX7_water 60 = .ok (.invokevirtual 122, 3) := by decide +kernel
theorem dX7_water_63 : decode cX7_water 63 = .ok (.ireturn, 1) := by decide +kernel
theorem dX7_water_64 : decode cX7_water 64 = .ok (.aload_n 3, 1) := by decide +kernel
theorem dX7_water_65 : decode cX7_water 65 = .ok (.iload_n 1, 1) := by decide +kernel
theorem dX7_water_66 : decode cX7_water 66 = .ok (.invokevirtual 125, 3) := by decide +kernel
theorem dX7_water_69 : decode cX7_water 69 = .ok (.ifCond .eq 7, 3) := by decide +kernel
theorem dX7_water_72 : decode cX7_water 72 = .ok (.iconst 1, 1) := by decide +kernel
theorem dX7_water_73 : decode cX7_water 73 = .ok (.goto 4, 3) := by decide +kernel
theorem dX7_water_76 : decode cX7_water 76 = .ok (.iconst 0, 1) := by decide +kernel
theorem dX7_water_77 : decode cX7_water 77 = .ok (.ireturn, 1) := by decide +kernel
theorem dX7_water_78 : decode cX7_water 78 = .ok (.new 77, 3) := by decide +kernel
theorem dX7_water_81 : decode cX7_water 81 = .ok (.dup, 1) := by decide +kernel
theorem dX7_water_82 : decode cX7_water 82 = .ok (.ldc 128, 2) := by decide +kernel
theorem dX7_water_84 : decode cX7_water 84 = .ok (.invokespecial 81, 3) := by decide +kernel
theorem dX7_water_87 : decode cX7_water 87 = .ok (.athrow, 1) := by decide +kernel
theorem dX7_next_0 : decode cX7_next 0 = .ok (.iload_n 1, 1) := by decide +kernel
theorem dX7_next_1 : decode cX7_next 1 = .ok (.invokestatic 95, 3) := by decide +kernel
theorem dX7_next_4 : decode cX7_next 4 = .ok (.ifCond .ne 13, 3) := by decide +kernel
theorem dX7_next_7 : decode cX7_next 7 = .ok (.new 41, 3) := by decide +kernel
theorem dX7_next_10 : decode cX7_next 10 = .ok (.dup, 1) := by decide +kernel
theorem dX7_next_11 : decode cX7_next 11 = .ok (.ldc 98, 2) := by decide +kernel
theorem dX7_next_13 : decode cX7_next 13 = .ok (.invokespecial 45, 3) := by decide +kernel
theorem dX7_next_16 : decode cX7_next 16 = .ok (.athrow, 1) := by decide +kernel
theorem dX7_next_17 : decode cX7_next 17 = .ok (.aload_n 0, 1) := by decide +kernel
theorem dX7_next_18 : decode cX7_next 18 = .ok (.invokevirtual 110, 3) := by decide +kernel
theorem dX7_next_21 : decode cX7_next 21 = .ok (.astore_n 3, 1) := by decide +kernel
theorem dX7_next_22 : decode cX7_next 22 = .ok (.iconst 0, 1) := by decide +kernel
theorem dX7_next_23 : decode cX7_next 23 = .ok (.istore 4, 2) := by decide +kernel
theorem dX7_next_25 : decode cX7_next 25 = .ok (.iload 4, 2) := by decide +kernel
theorem dX7_next_27 : decode cX7_next 27 = .ok (.aload_n 3, 1) := by decide +kernel
theorem dX7_next_28 : decode cX7_next 28 = .ok (.getfield 130, 3) := by decide +kernel
theorem dX7_next_31 : decode cX7_next 31 = .ok (.if_icmp .ge 32, 3) := by decide +kernel
theorem dX7_next_34 : decode cX7_next 34 = .ok (.aload_n 3, 1) := by decide +kernel
theorem dX7_next_35 : decode cX7_next 35 = .ok (.iload 4, 2) := by decide +kernel
theorem dX7_next_37 : decode cX7_next 37 = .ok (.invokevirtual 119, 3) := by decide +kernel
theorem dX7_next_40 : decode cX7_next 40 = .ok (.iload_n 1, 1) := by decide +kernel
theorem dX7_next_41 : decode cX7_next 41 = .ok (.if_icmp .lt 16, 3) := by decide +kernel
theorem dX7_next_44 : decode cX7_next 44 = .ok (.aload_n 3, 1) := by decide +kernel
theorem dX7_next_45 : decode cX7_next 45 = .ok (.iload 4, 2) := by decide +kernel
theorem dX7_next_47 : decode cX7_next 47 = .ok (.invokevirtual 125, 3) := by decide +kernel
theorem dX7_next_50 : decode cX7_next 50 = .ok (.iload_n 2, 1) := by decide +kernel
theorem dX7_next_51 : decode cX7_next 51 = .ok (.if_icmp .ne 6, 3) := by decide +kernel
theorem dX7_next_54 : decode cX7_next 54 = .ok (.iload 4, 2) := by decide +kernel
theorem dX7_next_56 : decode cX7_next 56 = .ok (.ireturn, 1) := by decide +kernel
theorem dX7_next_57 : decode cX7_next 57 = .ok (.iinc 4 1, 3) := by decide +kernel
theorem dX7_next_60 : decode cX7_next 60 = .ok (.goto (-35), 3) := by decide +kernel
theorem dX7_next_63 : decode cX7_next 63 = .ok (.iconst (-1), 1) := by decide +kernel
theorem dX7_next_64 : decode cX7_next 64 = .ok (.ireturn, 1) := by decide +kernel
theorem dX7_datum_0 : decode cX7_datum 0 = .ok (.iload_n 1, 1) := by decide +kernel
theorem dX7_datum_1 : decode cX7_datum 1 = .ok (.iconst 0, 1) := by decide +kernel
theorem dX7_datum_2 : decode cX7_datum 2 = .ok (.iconst 4, 1) := by decide +kernel
theorem dX7_datum_3 : decode cX7_datum 3 = .ok (.invokestatic 37, 3) := by decide +kernel
theorem dX7_datum_6 : decode cX7_datum 6 = .ok (.ifCond .ne 13, 3) := by decide +kernel
theorem dX7_datum_9 : decode cX7_datum 9 = .ok (.new 77, 3) := by decide +kernel
theorem dX7_datum_12 : decode cX7_datum 12 = .ok (.dup, 1) := by decide +kernel
theorem dX7_datum_13 : decode cX7_datum 13 = .ok (.ldc 133, 2) := by decide +kernel
theorem dX7_datum_15 : decode cX7_datum 15 = .ok (.invokespecial 81, 3) := by decide +kernel
theorem dX7_datum_18 : decode cX7_datum 18 = .ok (.athrow, 1) := by decide +kernel
theorem dX7_datum_19 : decode cX7_datum 19 = .ok (.aload_n 0, 1) := by decide +kernel
theorem dX7_datum_20 : decode cX7_datum 20 = .ok (.invokevirtual 110, 3) := by decide +kernel
theorem dX7_datum_23 : decode cX7_datum 23 = .ok (.iload_n 1, 1) := by decide +kernel
theorem dX7_datum_24 : decode cX7_datum 24 = .ok (.invokevirtual 135, 3) := by decide +kernel
theorem dX7_datum_27 : decode cX7_datum 27 = .ok (.ireturn, 1) := by decide +kernel
theorem dX7_addPort_0 : decode cX7_addPort 0 = .ok (.aload_n 0, 1) := by decide +kernel
theorem dX7_addPort_1 : decode cX7_addPort 1 = .ok (.getfield 26, 3) := by decide +kernel
theorem dX7_addPort_4 : decode cX7_addPort 4 = .ok (.invokevirtual 55, 3) := by decide +kernel
theorem dX7_addPort_7 : decode cX7_addPort 7 = .ok (.bipush 6, 2) := by decide +kernel
theorem dX7_addPort_9 : decode cX7_addPort 9 = .ok (.if_icmp .lt 13, 3) := by decide +kernel
theorem dX7_addPort_12 : decode cX7_addPort 12 = .ok (.new 59, 3) := by decide +kernel
theorem dX7_addPort_15 : decode cX7_addPort 15 = .ok (.dup, 1) := by decide +kernel
theorem dX7_addPort_16 : decode cX7_addPort 16 = .ok (.ldc 138, 2) := by decide +kernel
theorem dX7_addPort_18 : decode cX7_addPort 18 = .ok (.invokespecial 63, 3) := by decide +kernel
theorem dX7_addPort_21 : decode cX7_addPort 21 = .ok (.athrow, 1) := by decide +kernel
theorem dX7_addPort_22 : decode cX7_addPort 22 = .ok (.aload_n 0, 1) := by decide +kernel
theorem dX7_addPort_23 : decode cX7_addPort 23 = .ok (.getfield 26, 3) := by decide +kernel
theorem dX7_addPort_26 : decode cX7_addPort 26 = .ok (.new 140, 3) := by decide +kernel
theorem dX7_addPort_29 : decode cX7_addPort 29 = .ok (.dup, 1) := by decide +kernel
theorem dX7_addPort_30 : decode cX7_addPort 30 = .ok (.invokespecial 142, 3) := by decide +kernel
theorem dX7_addPort_33 : decode cX7_addPort 33 = .ok (.invokevirtual 69, 3) := by decide +kernel
theorem dX7_addPort_36 : decode cX7_addPort 36 = .ok (.pop, 1) := by decide +kernel
theorem dX7_addPort_37 : decode cX7_addPort 37 = .ok (.aload_n 0, 1) := by decide +kernel
theorem dX7_addPort_38 : decode cX7_addPort 38 = .ok (.getfield 26, 3) := by decide +kernel
theorem dX7_addPort_41 : decode cX7_addPort 41 = .ok (.invokevirtual 55, 3) := by decide +kernel
theorem dX7_addPort_44 : decode cX7_addPort 44 = .ok (.iconst 1, 1) := by decide +kernel
theorem dX7_addPort_45 : decode cX7_addPort 45 = .ok (.isub, 1) := by decide +kernel
theorem dX7_addPort_46 : decode cX7_addPort 46 = .ok (.ireturn, 1) := by decide +kernel
theorem dX7_setPort_0 : decode cX7_setPort 0 = .ok (.aload_n 0, 1) := by decide +kernel
theorem dX7_setPort_1 : decode cX7_setPort 1 = .ok (.iload_n 1, 1) := by decide +kernel
theorem dX7_setPort_2 : decode cX7_setPort 2 = .ok (.invokevirtual 143, 3) := by decide +kernel
theorem dX7_setPort_5 : decode cX7_setPort 5 = .ok (.ifCond .ne 13, 3) := by decide +kernel
theorem dX7_setPort_8 : decode cX7_setPort 8 = .ok (.new 77, 3) := by decide +kernel
theorem dX7_setPort_11 : decode cX7_setPort 11 = .ok (.dup, 1) := by decide +kernel
theorem dX7_setPort_12 : decode cX7_setPort 12 = .ok (.ldc 146, 2) := by decide +kernel
theorem dX7_setPort_14 : decode cX7_setPort 14 = .ok (.invokespecial 81, 3) := by decide +kernel
theorem dX7_setPort_17 : decode cX7_setPort 17 = .ok (.athrow, 1) := by decide +kernel
theorem dX7_setPort_18 : decode cX7_setPort 18 = .ok (.iload_n 3, 1) := by decide +kernel
theorem dX7_setPort_19 : decode cX7_setPort 19 = .ok (.sipush (-300), 3) := by decide +kernel
theorem dX7_setPort_22 : decode cX7_setPort 22 = .ok (.sipush 300, 3) := by decide +kernel
theorem dX7_setPort_25 : decode cX7_setPort 25 = .ok (.invokestatic 37, 3) := by decide +kernel
theorem dX7_setPort_28 : decode cX7_setPort 28 = .ok (.ifCond .ne 13, 3) := by decide +kernel
theorem dX7_setPort_31 : decode cX7_setPort 31 = .ok (.new 41, 3) := by decide +kernel
theorem dX7_setPort_34 : decode cX7_setPort 34 = .ok (.dup, 1) := by decide +kernel
theorem dX7_setPort_35 : decode cX7_setPort 35 = .ok (.ldc 148, 2) := by decide +kernel
theorem dX7_setPort_37 : decode cX7_setPort 37 = .ok (.invokespecial 45, 3) := by decide +kernel
theorem dX7_setPort_40 : decode cX7_setPort 40 = .ok (.athrow, 1) := by decide +kernel
theorem dX7_setPort_41 : decode cX7_setPort 41 = .ok (.iload 4, 2) := by decide +kernel
theorem dX7_setPort_43 : decode cX7_setPort 43 = .ok (.iconst 0, 1) := by decide +kernel
theorem dX7_setPort_44 : decode cX7_setPort 44 = .ok (.sipush 300, 3) := by decide +kernel
theorem dX7_setPort_47 : decode cX7_setPort 47 = .ok (.invokestatic 37, 3) := by decide +kernel
theorem dX7_setPort_50 : decode cX7_setPort 50 = .ok (.ifCond .ne 13, 3) := by decide +kernel
theorem dX7_setPort_53 : decode cX7_setPort 53 = .ok (.new 41, 3) := by decide +kernel
theorem dX7_setPort_56 : decode cX7_setPort 56 = .ok (.dup, 1) := by decide +kernel
theorem dX7_setPort_57 : decode cX7_setPort 57 = .ok (.ldc 150, 2) := by decide +kernel
theorem dX7_setPort_59 : decode cX7_setPort 59 = .ok (.invokespecial 45, 3) := by decide +kernel
theorem dX7_setPort_62 : decode cX7_setPort 62 = .ok (.athrow, 1) := by decide +kernel
theorem dX7_setPort_63 : decode cX7_setPort 63 = .ok (.aload_n 0, 1) := by decide +kernel
theorem dX7_setPort_64 : decode cX7_setPort 64 = .ok (.getfield 26, 3) := by decide +kernel
theorem dX7_setPort_67 : decode cX7_setPort 67 = .ok (.iload_n 1, 1) := by decide +kernel
theorem dX7_setPort_68 : decode cX7_setPort 68 = .ok (.invokevirtual 82, 3) := by decide +kernel
theorem dX7_setPort_71 : decode cX7_setPort 71 = .ok (.checkcast 140, 3) := by decide +kernel
theorem dX7_setPort_74 : decode cX7_setPort 74 = .ok (.iload_n 2, 1) := by decide +kernel
theorem dX7_setPort_75 : decode cX7_setPort 75 = .ok (.invokevirtual 152, 3) := by decide +kernel
theorem dX7_setPort_78 : decode cX7_setPort 78 = .ok (.astore 5, 2) := by decide +kernel
theorem dX7_setPort_80 : decode cX7_setPort 80 = .ok (.aload 5, 2) := by decide +kernel
theorem dX7_setPort_82 : decode cX7_setPort 82 = .ok (.getfield 156, 3) := by decide +kernel
theorem dX7_setPort_85 : decode cX7_setPort 85 = .ok (.istore 6, 2) := by decide +kernel
theorem dX7_setPort_87 : decode cX7_setPort 87 = .ok (.aload 5, 2) := by decide +kernel
theorem dX7_setPort_89 : decode cX7_setPort 89 = .ok (.iload_n 3, 1) := by decide +kernel
theorem dX7_setPort_90 : decode cX7_setPort 90 = .ok (.putfield 161, 3) := by decide +kernel
theorem dX7_setPort_93 : decode cX7_setPort 93 = .ok (.aload 5, 2) := by decide +kernel
theorem dX7_setPort_95 : decode cX7_setPort 95 = .ok (.iload 4, 2) := by decide +kernel
theorem dX7_setPort_97 : decode cX7_setPort 97 = .ok (.putfield 156, 3) := by decide +kernel
theorem dX7_setPort_100 : decode cX7_setPort 100 = .ok (.iload 6, 2) := by decide +kernel
theorem dX7_setPort_102 : decode cX7_setPort 102 = .ok (.ireturn, 1) := by decide +kernel
theorem dX7_setAddition_0 : decode cX7_setAddition 0 = .ok (.aload_n 0, 1) := by decide +kernel
theorem dX7_setAddition_1 : decode cX7_setAddition 1 = .ok (.iload_n 1, 1) := by decide +kernel
theorem dX7_setAddition_2 : decode cX7_setAddition 2 = .ok (.invokevirtual 143, 3) := by decide +kernel
theorem dX7_setAddition_5 : decode cX7_setAddition 5 = .ok (.ifCond .ne 13, 3) := by decide +kernel
theorem dX7_setAddition_8 : decode cX7_setAddition 8 = .ok (.new 77, 3) := by decide +kernel
theorem dX7_setAddition_11 : decode cX7_setAddition 11 = .ok (.dup, 1) := by decide +kernel
theorem dX7_setAddition_12 : decode cX7_setAddition 12 = .ok (.ldc 146, 2) := by decide +kernel
theorem dX7_setAddition_14 : decode cX7_setAddition 14 = .ok (.invokespecial 81, 3) := by decide +kernel
theorem dX7_setAddition_17 : decode cX7_setAddition 17 = .ok (.athrow, 1) := by decide +kernel
theorem dX7_setAddition_18 : decode cX7_setAddition 18 = .ok (.iload_n 2, 1) := by decide +kernel
theorem dX7_setAddition_19 : decode cX7_setAddition 19 = .ok (.sipush (-3000), 3) := by decide +kernel
theorem dX7_setAddition_22 : decode cX7_setAddition 22 = .ok (.sipush 3000, 3) := by decide +kernel
theorem dX7_setAddition_25 : decode cX7_setAddition 25 = .ok (.invokestatic 37, 3) := by decide +kernel
theorem dX7_setAddition_28 : decode cX7_setAddition 28 = .ok (.ifCond .ne 13, 3) := by decide +kernel
theorem dX7_setAddition_31 : decode cX7_setAddition 31 = .ok (.new 41, 3) := by decide +kernel
theorem dX7_setAddition_34 : decode cX7_setAddition 34 = .ok (.dup, 1) := by decide +kernel
theorem dX7_setAddition_35 : decode cX7_setAddition 35 = .ok (.ldc 164, 2) := by decide +kernel
theorem dX7_setAddition_37 : decode cX7_setAddition 37 = .ok (.invokespecial 45, 3) := by decide +kernel
theorem dX7_setAddition_40 : decode cX7_setAddition 40 = .ok (.athrow, 1) := by decide +kernel
theorem dX7_setAddition_41 : decode cX7_setAddition 41 = .ok (.aload_n 0, 1) := by decide +kernel
theorem dX7_setAddition_42 : decode cX7_setAddition 42 = .ok (.getfield 26, 3) := by decide +kernel
theorem dX7_setAddition_45 : decode cX7_setAddition 45 = .ok (.iload_n 1, 1) := by decide +kernel
theorem dX7_setAddition_46 : decode cX7_setAddition 46 = .ok (.invokevirtual 82, 3) := by decide +kernel
theorem dX7_setAddition_49 : decode cX7_setAddition 49 = .ok (.checkcast 140, 3) := by decide +kernel
theorem dX7_setAddition_52 : decode cX7_setAddition 52 = .ok (.astore_n 3, 1) := by decide +kernel
theorem dX7_setAddition_53 : decode cX7_setAddition 53 = .ok (.aload_n 3, 1) := by decide +kernel
theorem dX7_setAddition_54 : decode cX7_setAddition 54 = .ok (.getfield 166, 3) := by decide +kernel
theorem dX7_setAddition_57 : decode cX7_setAddition 57 = .ok (.istore 4, 2) := by decide +kernel
theorem dX7_setAddition_59 : decode cX7_setAddition 59 = .ok (.aload_n 3, 1) := by decide +kernel
theorem dX7_setAddition_60 : decode cX7_setAddition 60 = .ok (.iload_n 2, 1) := by decide +kernel
theorem dX7_setAddition_61 : decode cX7_setAddition 61 = .ok (.putfield 166, 3) := by decide +kernel
theorem dX7_setAddition_64 : decode cX7_setAddition 64 = .ok (.iload 4, 2) := by decide +kernel
theorem dX7_setAddition_66 : decode cX7_setAddition 66 = .ok (.ireturn, 1) := by decide +kernel
theorem dX7_isInOrder_0 : decode cX7_isInOrder 0 = .ok (.aload_n 0, 1) := by decide +kernel
theorem dX7_isInOrder_1 : decode cX7_isInOrder 1 = .ok (.iload_n 1, 1) := by decide +kernel
theorem dX7_isInOrder_2 : decode cX7_isInOrder 2 = .ok (.invokevirtual 143, 3) := by decide +kernel
theorem dX7_isInOrder_5 : decode cX7_isInOrder 5 = .ok (.ifCond .ne 13, 3) := by decide +kernel
theorem dX7_isInOrder_8 : decode cX7_isInOrder 8 = .ok (.new 77, 3) := by decide +kernel
theorem dX7_isInOrder_11 : decode cX7_isInOrder 11 = .ok (.dup, 1) := by decide +kernel
theorem dX7_isInOrder_12 : decode cX7_isInOrder 12 = .ok (.ldc 146, 2) := by decide +kernel
theorem dX7_isInOrder_14 : decode cX7_isInOrder 14 = .ok (.invokespecial 81, 3) := by decide +kernel
theorem dX7_isInOrder_17 : decode cX7_isInOrder 17 = .ok (.athrow, 1) := by decide +kernel
theorem dX7_isInOrder_18 : decode cX7_isInOrder 18 = .ok (.aload_n 0, 1) := by decide +kernel
theorem dX7_isInOrder_19 : decode cX7_isInOrder 19 = .ok (.getfield 26, 3) := by decide +kernel
theorem dX7_isInOrder_22 : decode cX7_isInOrder 22 = .ok (.iload_n 1, 1) := by decide +kernel
theorem dX7_isInOrder_23 : decode cX7_isInOrder 23 = .ok (.invokevirtual 82, 3) := by decide +kernel
theorem dX7_isInOrder_26 : decode cX7_isInOrder 26 = .ok (.checkcast 140, 3) := by decide +kernel
theorem dX7_isInOrder_29 : decode cX7_isInOrder 29 = .ok (.aload_n 0, 1) := by decide +kernel
theorem dX7_isInOrder_30 : decode cX7_isInOrder 30 = .ok (.invokevirtual 110, 3) := by decide +kernel
theorem dX7_isInOrder_33 : decode cX7_isInOrder 33 = .ok (.invokevirtual 169, 3) := by decide +kernel
theorem dX7_isInOrder_36 : decode cX7_isInOrder 36 = .ok (.ireturn, 1) := by decide +kernel
theorem dX7_portWater_0 : decode cX7_portWater 0 = .ok (.aload_n 0, 1) := by decide +kernel
theorem dX7_portWater_1 : decode cX7_portWater 1 = .ok (.iload_n 1, 1) := by decide +kernel
theorem dX7_portWater_2 : decode cX7_portWater 2 = .ok (.invokevirtual 143, 3) := by decide +kernel
theorem dX7_portWater_5 : decode cX7_portWater 5 = .ok (.ifCond .ne 13, 3) := by decide +kernel
theorem dX7_portWater_8 : decode cX7_portWater 8 = .ok (.new 77, 3) := by decide +kernel
theorem dX7_portWater_11 : decode cX7_portWater 11 = .ok (.dup, 1) := by decide +kernel
theorem dX7_portWater_12 : decode cX7_portWater 12 = .ok (.ldc 146, 2) := by decide +kernel
theorem dX7_portWater_14 : decode cX7_portWater 14 = .ok (.invokespecial 81, 3) := by decide +kernel
theorem dX7_portWater_17 : decode cX7_portWater 17 = .ok (.athrow, 1) := by decide +kernel
theorem dX7_portWater_18 : decode cX7_portWater 18 = .ok (.aload_n 0, 1) := by decide +kernel
theorem dX7_portWater_19 : decode cX7_portWater 19 = .ok (.invokevirtual 110, 3) := by decide +kernel
theorem dX7_portWater_22 : decode cX7_portWater 22 = .ok (.astore 4, 2) := by decide +kernel
theorem dX7_portWater_24 : decode cX7_portWater 24 = .ok (.aload 4, 2) := by decide +kernel
theorem dX7_portWater_26 : decode cX7_portWater 26 = .ok (.iload_n 2, 1) := by decide +kernel
theorem dX7_portWater_27 : decode cX7_portWater 27 = .ok (.invokevirtual 114, 3) := by decide +kernel
theorem dX7_portWater_30 : decode cX7_portWater 30 = .ok (.ifCond .ne 13, 3) := by decide +kernel
theorem dX7_portWater_33 : decode cX7_portWater 33 = .ok (.new 77, 3) := by decide +kernel
theorem dX7_portWater_36 : decode cX7_portWater 36 = .ok (.dup, 1) := by decide +kernel
theorem dX7_portWater_37 : decode cX7_portWater 37 = .ok (.ldc 117, 2) := by decide +kernel
theorem dX7_portWater_39 : decode cX7_portWater 39 = .ok (.invokespecial 81, 3) := by decide +kernel
theorem dX7_portWater_42 : decode cX7_portWater 42 = .ok (.athrow, 1) := by decide +kernel
theorem dX7_portWater_43 : decode cX7_portWater 43 = .ok (.aload_n 0, 1) := by decide +kernel
theorem dX7_portWater_44 : decode cX7_portWater 44 = .ok (.getfield 26, 3) := by decide +kernel
theorem dX7_portWater_47 : decode cX7_portWater 47 = .ok (.iload_n 1, 1) := by decide +kernel
theorem dX7_portWater_48 : decode cX7_portWater 48 = .ok (.invokevirtual 82, 3) := by decide +kernel
theorem dX7_portWater_51 : decode cX7_portWater 51 = .ok (.checkcast 140, 3) := by decide +kernel
theorem dX7_portWater_54 : decode cX7_portWater 54 = .ok (.astore 5, 2) := by decide +kernel
theorem dX7_portWater_56 : decode cX7_portWater 56 = .ok (.iload_n 3, 1) := by decide +kernel
theorem dX7_portWater_57 : decode cX7_portWater 57 = .ok (.ifCond .eq 14, 3) := by decide +kernel
theorem dX7_portWater_60 : decode cX7_portWater 60 = .ok (.aload 5, 2) := by decide +kernel
theorem dX7_portWater_62 : decode cX7_portWater 62 = .ok (.aload 4, 2) := by decide +kernel
theorem dX7_portWater_64 : decode cX7_portWater 64 = .ok (.iload_n 2, 1) := by decide +kernel
theorem dX7_portWater_65 : decode cX7_portWater 65 = .ok (.invokevirtual 173, 3) := by decide +kernel
theorem dX7_portWater_68 : decode cX7_portWater 68 = .ok (.goto 11, 3) := by decide +kernel
theorem dX7_portWater_71 : decode cX7_portWater 71 = .ok (.aload 5, 2) := by decide +kernel
theorem dX7_portWater_73 : decode cX7_portWater 73 = .ok (.aload 4, 2) := by decide +kernel
theorem dX7_portWater_75 : decode cX7_portWater 75 = .ok (.iload_n 2, 1) := by decide +kernel
theorem dX7_portWater_76 : decode cX7_portWater 76 = .ok (.invokevirtual 176, 3) := by decide +kernel
theorem dX7_portWater_79 : decode cX7_portWater 79 = .ok (.ireturn, 1) := by decide +kernel
theorem dX7_portHeight_0 : decode cX7_portHeight 0 = .ok (.aload_n 0, 1) := by decide +kernel
theorem dX7_portHeight_1 : decode cX7_portHeight 1 = .ok (.iload_n 1, 1) := by decide +kernel
theorem dX7_portHeight_2 : decode cX7_portHeight 2 = .ok (.invokevirtual 143, 3) := by decide +kernel
theorem dX7_portHeight_5 : decode cX7_portHeight 5 = .ok (.ifCond .ne 13, 3) := by decide +kernel
theorem dX7_portHeight_8 : decode cX7_portHeight 8 = .ok (.new 77, 3) := by decide +kernel
theorem dX7_portHeight_11 : decode cX7_portHeight 11 = .ok (.dup, 1) := by decide +kernel
theorem dX7_portHeight_12 : decode cX7_portHeight 12 = .ok (.ldc 146, 2) := by decide +kernel
theorem dX7_portHeight_14 : decode cX7_portHeight 14 = .ok (.invokespecial 81, 3) := by decide +kernel
theorem dX7_portHeight_17 : decode cX7_portHeight 17 = .ok (.athrow, 1) := by decide +kernel
theorem dX7_portHeight_18 : decode cX7_portHeight 18 = .ok (.iload_n 2, 1) := by decide +kernel
theorem dX7_portHeight_19 : decode cX7_portHeight 19 = .ok (.invokestatic 95, 3) := by decide +kernel
theorem dX7_portHeight_22 : decode cX7_portHeight 22 = .ok (.ifCond .ne 13, 3) := by decide +kernel
theorem dX7_portHeight_25 : decode cX7_portHeight 25 = .ok (.new 41, 3) := by decide +kernel
theorem dX7_portHeight_28 : decode cX7_portHeight 28 = .ok (.dup, 1) := by decide +kernel
theorem dX7_portHeight_29 : decode cX7_portHeight 29 = .ok (.ldc 98, 2) := by decide +kernel
theorem dX7_portHeight_31 : decode cX7_portHeight 31 = .ok (.invokespecial 45, 3) := by decide +kernel
theorem dX7_portHeight_34 : decode cX7_portHeight 34 = .ok (.athrow, 1) := by decide +kernel
theorem dX7_portHeight_35 : decode cX7_portHeight 35 = .ok (.aload_n 0, 1) := by decide +kernel
theorem dX7_portHeight_36 : decode cX7_portHeight 36 = .ok (.invokevirtual 110, 3) := by decide +kernel
theorem dX7_portHeight_39 : decode cX7_portHeight 39 = .ok (.astore_n 3, 1) := by decide +kernel
theorem dX7_portHeight_40 : decode cX7_portHeight 40 = .ok (.aload_n 0, 1) := by decide +kernel
theorem dX7_portHeight_41 : decode cX7_portHeight 41 = .ok (.getfield 26, 3) := by decide +kernel
theorem dX7_portHeight_44 : decode cX7_portHeight 44 = .ok (.iload_n 1, 1) := by decide +kernel
theorem dX7_portHeight_45 : decode cX7_portHeight 45 = .ok (.invokevirtual 82, 3) := by decide +kernel
theorem dX7_portHeight_48 : decode cX7_portHeight 48 = .ok (.checkcast 140, 3) := by decide +kernel
theorem dX7_portHeight_51 : decode cX7_portHeight 51 = .ok (.astore 4, 2) := by decide +kernel
theorem dX7_portHeight_53 : decode cX7_portHeight 53 = .ok (.aload 4, 2) := by decide +kernel
theorem dX7_portHeight_55 : decode cX7_portHeight 55 = .ok (.aload_n 3, 1) := by decide +kernel
theorem dX7_portHeight_56 : decode cX7_portHeight 56 = .ok (.invokevirtual 169, 3) := by decide +kernel
theorem dX7_portHeight_59 : decode cX7_portHeight 59 = .ok (.ifCond .ne 13, 3) := by decide +kernel
theorem dX7_portHeight_62 : decode cX7_portHeight 62 = .ok (.new 59, 3) := by decide +kernel
theorem dX7_portHeight_65 : decode cX7_portHeight 65 = .ok (.dup, 1) := by decide +kernel
theorem dX7_portHeight_66 : decode cX7_portHeight 66 = .ok (.ldc 178, 2) := by decide +kernel
theorem dX7_portHeight_68 : decode cX7_portHeight 68 = .ok (.invokespecial 63, 3) := by decide +kernel
theorem dX7_portHeight_71 : decode cX7_portHeight 71 = .ok (.athrow, 1) := by decide +kernel
theorem dX7_portHeight_72 : decode cX7_portHeight 72 = .ok (.aload 4, 2) := by decide +kernel
theorem dX7_portHeight_74 : decode cX7_portHeight 74 = .ok (.aload_n 3, 1) := by decide +kernel
theorem dX7_portHeight_75 : decode cX7_portHeight 75 = .ok (.iconst (-1), 1) := by decide +kernel
theorem dX7_portHeight_76 : decode cX7_portHeight 76 = .ok (.iload_n 2, 1) := by decide +kernel
theorem dX7_portHeight_77 : decode cX7_portHeight 77 = .ok (.invokevirtual 180, 3) := by decide +kernel
theorem dX7_portHeight_80 : decode cX7_portHeight 80 = .ok (.istore 5, 2) := by decide +kernel
theorem dX7_portHeight_82 : decode cX7_portHeight 82 = .ok (.aload_n 3, 1) := by decide +kernel
theorem dX7_portHeight_83 : decode cX7_portHeight 83 = .ok (.iload 5, 2) := by decide +kernel
theorem dX7_portHeight_85 : decode cX7_portHeight 85 = .ok (.invokevirtual 184, 3) := by decide +kernel
theorem dX7_portHeight_88 : decode cX7_portHeight 88 = .ok (.ifCond .ne 13, 3) := by decide +kernel
theorem dX7_portHeight_91 : decode cX7_portHeight 91 = .ok (.new 59, 3) := by decide +kernel
theorem dX7_portHeight_94 : decode cX7_portHeight 94 = .ok (.dup, 1) := by decide +kernel
theorem dX7_portHeight_95 : decode cX7_portHeight 95 = .ok (.ldc 187, 2) := by decide +kernel
theorem dX7_portHeight_97 : decode cX7_portHeight 97 = .ok (.invokespecial 63, 3) := by decide +kernel
theorem dX7_portHeight_100 : decode cX7_portHeight 100 = .ok (.athrow, 1) := by decide +kernel
theorem dX7_portHeight_101 : decode cX7_portHeight 101 = .ok (.aload 4, 2) := by decide +kernel
theorem dX7_portHeight_103 : decode cX7_portHeight 103 = .ok (.aload_n 3, 1) := by decide +kernel
theorem dX7_portHeight_104 : decode cX7_portHeight 104 = .ok (.iload 5, 2) := by decide +kernel
theorem dX7_portHeight_106 : decode cX7_portHeight 106 = .ok (.iload_n 2, 1) := by decide +kernel
theorem dX7_portHeight_107 : decode cX7_portHeight 107 = .ok (.invokevirtual 189, 3) := by decide +kernel
theorem dX7_portHeight_110 : decode cX7_portHeight 110 = .ok (.ireturn, 1) := by decide +kernel
theorem dX7_windows_0 : decode cX7_windows 0 = .ok (.iload_n 1, 1) := by decide +kernel
theorem dX7_windows_1 : decode cX7_windows 1 = .ok (.iconst (-1), 1) := by decide +kernel
theorem dX7_windows_2 : decode cX7_windows 2 = .ok (.if_icmp .eq 21, 3) := by decide +kernel
theorem dX7_windows_5 : decode cX7_windows 5 = .ok (.aload_n 0, 1) := by decide +kernel
theorem dX7_windows_6 : decode cX7_windows 6 = .ok (.iload_n 1, 1) := by decide +kernel
theorem dX7_windows_7 : decode cX7_windows 7 = .ok (.invokevirtual 143, 3) := by decide +kernel
theorem dX7_windows_10 : decode cX7_windows 10 = .ok (.ifCond .ne 13, 3) := by decide +kernel
theorem dX7_windows_13 : decode cX7_windows 13 = .ok (.new 77, 3) := by decide +kernel
theorem dX7_windows_16 : decode cX7_windows 16 = .ok (.dup, 1) := by decide +kernel
theorem dX7_windows_17 : decode cX7_windows 17 = .ok (.ldc 146, 2) := by decide +kernel
theorem dX7_windows_19 : decode cX7_windows 19 = .ok (.invokespecial 81, 3) := by decide +kernel
theorem dX7_windows_22 : decode cX7_windows 22 = .ok (.athrow, 1) := by decide +kernel
theorem dX7_windows_23 : decode cX7_windows 23 = .ok (.iload 5, 2) := by decide +kernel
theorem dX7_windows_25 : decode cX7_windows 25 = .ok (.iconst 0, 1) := by decide +kernel
theorem dX7_windows_26 : decode cX7_windows 26 = .ok (.iconst 3, 1) := by decide +kernel
theorem dX7_windows_27 : decode cX7_windows 27 = .ok (.invokestatic 37, 3) := by decide +kernel
theorem dX7_windows_30 : decode cX7_windows 30 = .ok (.ifCond .ne 13, 3) := by decide +kernel
theorem dX7_windows_33 : decode cX7_windows 33 = .ok (.new 77, 3) := by decide +kernel
theorem dX7_windows_36 : decode cX7_windows 36 = .ok (.dup, 1) := by decide +kernel
theorem dX7_windows_37 : decode cX7_windows 37 = .ok (.ldc 105, 2) := by decide +kernel
theorem dX7_windows_39 : decode cX7_windows 39 = .ok (.invokespecial 81, 3) := by decide +kernel
theorem dX7_windows_42 : decode cX7_windows 42 = .ok (.athrow, 1) := by decide +kernel
theorem dX7_windows_43 : decode cX7_windows 43 = .ok (.iload_n 3, 1) := by decide +kernel
theorem dX7_windows_44 : decode cX7_windows 44 = .ok (.ifCond .lt 17, 3) := by decide +kernel
theorem dX7_windows_47 : decode cX7_windows 47 = .ok (.iload_n 3, 1) := by decide +kernel
theorem dX7_windows_48 : decode cX7_windows 48 = .ok (.iload 4, 2) := by decide +kernel
theorem dX7_windows_50 : decode cX7_windows 50 = .ok (.if_icmp .gt 11, 3) := by decide +kernel
theorem dX7_windows_53 : decode cX7_windows 53 = .ok (.iload 4, 2) := by decide +kernel
theorem dX7_windows_55 : decode cX7_windows 55 = .ok (.sipush 4320, 3) := by decide +kernel
theorem dX7_windows_58 : decode cX7_windows 58 = .ok (.if_icmp .lt 13, 3) := by decide +kernel
theorem dX7_windows_61 : decode cX7_windows 61 = .ok (.new 41, 3) := by decide +kernel
theorem dX7_windows_64 : decode cX7_windows 64 = .ok (.dup, 1) := by decide +kernel
theorem dX7_windows_65 : decode cX7_windows 65 = .ok (.ldc 192, 2) := by decide +kernel
theorem dX7_windows_67 : decode cX7_windows 67 = .ok (.invokespecial 45, 3) := by decide +kernel
theorem dX7_windows_70 : decode cX7_windows 70 = .ok (.athrow, 1) := by decide +kernel
theorem dX7_windows_71 : decode cX7_windows 71 = .ok (.new 194, 3) := by decide +kernel
theorem dX7_windows_74 : decode cX7_windows 74 = .ok (.dup, 1) := by decide +kernel
theorem dX7_windows_75 : decode cX7_windows 75 = .ok (.invokespecial 196, 3) := by decide +kernel
theorem dX7_windows_78 : decode cX7_windows 78 = .ok (.astore 6, 2) := by decide +kernel
theorem dX7_windows_80 : decode cX7_windows 80 = .ok (.iload_n 1, 1) := by decide +kernel
theorem dX7_windows_81 : decode cX7_windows 81 = .ok (.iconst (-1), 1) := by decide +kernel
theorem dX7_windows_82 : decode cX7_windows 82 = .ok (.if_icmp .ne 16, 3) := by decide +kernel
theorem dX7_windows_85 : decode cX7_windows 85 = .ok (.aload_n 0, 1) := by decide +kernel
theorem dX7_windows_86 : decode cX7_windows 86 = .ok (.aload 6, 2) := by decide +kernel
theorem dX7_windows_88 : decode cX7_windows 88 = .ok (.iload_n 2, 1) := by decide +kernel
theorem dX7_windows_89 : decode cX7_windows 89 = .ok (.iload_n 3, 1) := by decide +kernel
theorem dX7_windows_90 : decode cX7_windows 90 = .ok (.iload 4, 2) := by decide +kernel
theorem dX7_windows_92 : decode cX7_windows 92 = .ok (.invokevirtual 197, 3) := by decide +kernel
theorem dX7_windows_95 : decode cX7_windows 95 = .ok (.goto 24, 3) := by decide +kernel
theorem dX7_windows_98 : decode cX7_windows 98 = .ok (.aload_n 0, 1) := by decide +kernel
theorem dX7_windows_99 : decode cX7_windows 99 = .ok (.aload 6, 2) := by decide +kernel
theorem dX7_windows_101 : decode cX7_windows 101 = .ok (.aload_n 0, 1) := by decide +kernel
theorem dX7_windows_102 : decode cX7_windows 102 = .ok (.getfield 26, 3) := by decide +kernel
theorem dX7_windows_105 : decode cX7_windows 105 = .ok (.iload_n 1, 1) := by decide +kernel
theorem dX7_windows_106 : decode cX7_windows 106 = .ok (.invokevirtual 82, 3) := by decide +kernel
theorem dX7_windows_109 : decode cX7_windows 109 = .ok (.checkcast 140, 3) := by decide +kernel
theorem dX7_windows_112 : decode cX7_windows 112 = .ok (.iload_n 2, 1) := by decide +kernel
theorem dX7_windows_113 : decode cX7_windows 113 = .ok (.iload_n 3, 1) := by decide +kernel
theorem dX7_windows_114 : decode cX7_windows 114 = .ok (.iload 4, 2) := by decide +kernel
theorem dX7_windows_116 : decode cX7_windows 116 = .ok (.invokevirtual 201, 3) := by decide +kernel
theorem dX7_windows_119 : decode cX7_windows 119 = .ok (.aload 6, 2) := by decide +kernel
theorem dX7_windows_121 : decode cX7_windows 121 = .ok (.iload 5, 2) := by decide +kernel
theorem dX7_windows_123 : decode cX7_windows 123 = .ok (.invokevirtual 205, 3) := by decide +kernel
theorem dX7_windows_126 : decode cX7_windows 126 = .ok (.ireturn, 1) := by decide +kernel
theorem dX7_read_0 : decode cX7_read 0 = .ok (.iload_n 1, 1) := by decide +kernel
theorem dX7_read_1 : decode cX7_read 1 = .ok (.invokestatic 95, 3) := by decide +kernel
theorem dX7_read_4 : decode cX7_read 4 = .ok (.ifCond .ne 13, 3) := by decide +kernel
theorem dX7_read_7 : decode cX7_read 7 = .ok (.new 41, 3) := by decide +kernel
theorem dX7_read_10 : decode cX7_read 10 = .ok (.dup, 1) := by decide +kernel
theorem dX7_read_11 : decode cX7_read 11 = .ok (.ldc 98, 2) := by decide +kernel
theorem dX7_read_13 : decode cX7_read 13 = .ok (.invokespecial 45, 3) := by decide +kernel
theorem dX7_read_16 : decode cX7_read 16 = .ok (.athrow, 1) := by decide +kernel
theorem dX7_read_17 : decode cX7_read 17 = .ok (.iload_n 2, 1) := by decide +kernel
theorem dX7_read_18 : decode cX7_read 18 = .ok (.ldc 208, 2) := by decide +kernel
theorem dX7_read_20 : decode cX7_read 20 = .ok (.ldc 209, 2) := by decide +kernel
theorem dX7_read_22 : decode cX7_read 22 = .ok (.invokestatic 37, 3) := by decide +kernel
theorem dX7_read_25 : decode cX7_read 25 = .ok (.ifCond .ne 13, 3) := by decide +kernel
theorem dX7_read_28 : decode cX7_read 28 = .ok (.new 41, 3) := by decide +kernel
theorem dX7_read_31 : decode cX7_read 31 = .ok (.dup, 1) := by decide +kernel
theorem dX7_read_32 : decode cX7_read 32 = .ok (.ldc 210, 2) := by decide +kernel
theorem dX7_read_34 : decode cX7_read 34 = .ok (.invokespecial 45, 3) := by decide +kernel
theorem dX7_read_37 : decode cX7_read 37 = .ok (.athrow, 1) := by decide +kernel
theorem dX7_read_38 : decode cX7_read 38 = .ok (.aload_n 0, 1) := by decide +kernel
theorem dX7_read_39 : decode cX7_read 39 = .ok (.getfield 30, 3) := by decide +kernel
theorem dX7_read_42 : decode cX7_read 42 = .ok (.invokevirtual 55, 3) := by decide +kernel
theorem dX7_read_45 : decode cX7_read 45 = .ok (.bipush 40, 2) := by decide +kernel
theorem dX7_read_47 : decode cX7_read 47 = .ok (.if_icmp .lt 13, 3) := by decide +kernel
theorem dX7_read_50 : decode cX7_read 50 = .ok (.new 59, 3) := by decide +kernel
theorem dX7_read_53 : decode cX7_read 53 = .ok (.dup, 1) := by decide +kernel
theorem dX7_read_54 : decode cX7_read 54 = .ok (.ldc 212, 2) := by decide +kernel
theorem dX7_read_56 : decode cX7_read 56 = .ok (.invokespecial 63, 3) := by decide +kernel
theorem dX7_read_59 : decode cX7_read 59 = .ok (.athrow, 1) := by decide +kernel
theorem dX7_read_60 : decode cX7_read 60 = .ok (.aload_n 0, 1) := by decide +kernel
theorem dX7_read_61 : decode cX7_read 61 = .ok (.getfield 30, 3) := by decide +kernel
theorem dX7_read_64 : decode cX7_read 64 = .ok (.new 214, 3) := by decide +kernel
theorem dX7_read_67 : decode cX7_read 67 = .ok (.dup, 1) := by decide +kernel
theorem dX7_read_68 : decode cX7_read 68 = .ok (.iload_n 1, 1) := by decide +kernel
theorem dX7_read_69 : decode cX7_read 69 = .ok (.iload_n 2, 1) := by decide +kernel
theorem dX7_read_70 : decode cX7_read 70 = .ok (.invokespecial 216, 3) := by decide +kernel
theorem dX7_read_73 : decode cX7_read 73 = .ok (.invokevirtual 69, 3) := by decide +kernel
theorem dX7_read_76 : decode cX7_read 76 = .ok (.pop, 1) := by decide +kernel
theorem dX7_read_77 : decode cX7_read 77 = .ok (.aload_n 0, 1) := by decide +kernel
theorem dX7_read_78 : decode cX7_read 78 = .ok (.getfield 30, 3) := by decide +kernel
theorem dX7_read_81 : decode cX7_read 81 = .ok (.invokevirtual 55, 3) := by decide +kernel
theorem dX7_read_84 : decode cX7_read 84 = .ok (.ireturn, 1) := by decide +kernel
theorem dX7_residual_0 : decode cX7_residual 0 = .ok (.aload_n 0, 1) := by decide +kernel
theorem dX7_residual_1 : decode cX7_residual 1 = .ok (.getfield 30, 3) := by decide +kernel
theorem dX7_residual_4 : decode cX7_residual 4 = .ok (.invokevirtual 55, 3) := by decide +kernel
theorem dX7_residual_7 : decode cX7_residual 7 = .ok (.istore_n 1, 1) := by decide +kernel
theorem dX7_residual_8 : decode cX7_residual 8 = .ok (.iload_n 1, 1) := by decide +kernel
theorem dX7_residual_9 : decode cX7_residual 9 = .ok (.ifCond .ne 7, 3) := by decide +kernel
theorem dX7_residual_12 : decode cX7_residual 12 = .ok (.dconst 0, 1) := by decide +kernel
theorem dX7_residual_13 : decode cX7_residual 13 = .ok (.goto 11, 3) := by decide +kernel
theorem dX7_residual_16 : decode cX7_residual 16 = .ok (.aload_n 0, 1) := by decide +kernel
theorem dX7_residual_17 : decode cX7_residual 17 = .ok (.invokevirtual 219, 3) := by decide +kernel
theorem dX7_residual_20 : decode cX7_residual 20 = .ok (.l2d, 1) := by decide +kernel
theorem dX7_residual_21 : decode cX7_residual 21 = .ok (.iload_n 1, 1) := by decide +kernel
theorem dX7_residual_22 : decode cX7_residual 22 = .ok (.i2d, 1) := by decide +kernel
theorem dX7_residual_23 : decode cX7_residual 23 = .ok (.ddiv, 1) := by decide +kernel
theorem dX7_residual_24 : decode cX7_residual 24 = .ok (.dreturn, 1) := by decide +kernel
theorem dX7_worst_0 : decode cX7_worst 0 = .ok (.iconst (-1), 1) := by decide +kernel
theorem dX7_worst_1 : decode cX7_worst 1 = .ok (.istore_n 1, 1) := by decide +kernel
theorem dX7_worst_2 : decode cX7_worst 2 = .ok (.ldc2_w 223, 3) := by decide +kernel
theorem dX7_worst_5 : decode cX7_worst 5 = .ok (.lstore_n 2, 1) := by decide +kernel
theorem dX7_worst_6 : decode cX7_worst 6 = .ok (.iconst 0, 1) := by decide +kernel
theorem dX7_worst_7 : decode cX7_worst 7 = .ok (.istore 4, 2) := by decide +kernel
theorem dX7_worst_9 : decode cX7_worst 9 = .ok (.iload 4, 2) := by decide +kernel
theorem dX7_worst_11 : decode cX7_worst 11 = .ok (.aload_n 0, 1) := by decide +kernel
theorem dX7_worst_12 : decode cX7_worst 12 = .ok (.getfield 30, 3) := by decide +kernel
theorem dX7_worst_15 : decode cX7_worst 15 = .ok (.invokevirtual 55, 3) := by decide +kernel
theorem dX7_worst_18 : decode cX7_worst 18 = .ok (.if_icmp .ge 33, 3) := by decide +kernel
theorem dX7_worst_21 : decode cX7_worst 21 = .ok (.aload_n 0, 1) := by decide +kernel
theorem dX7_worst_22 : decode cX7_worst 22 = .ok (.iload 4, 2) := by decide +kernel
theorem dX7_worst_24 : decode cX7_worst 24 = .ok (.invokevirtual 225, 3) := by decide +kernel
theorem dX7_worst_27 : decode cX7_worst 27 = .ok (.invokestatic 229, 3) := by decide +kernel
theorem dX7_worst_30 : decode cX7_worst 30 = .ok (.lstore 5, 2) := by decide +kernel
theorem dX7_worst_32 : decode cX7_worst 32 = .ok (.lload 5, 2) := by decide +kernel
theorem dX7_worst_34 : decode cX7_worst 34 = .ok (.lload_n 2, 1) := by decide +kernel
theorem dX7_worst_35 : decode cX7_worst 35 = .ok (.lcmp, 1) := by decide +kernel
theorem dX7_worst_36 : decode cX7_worst 36 = .ok (.ifCond .le 9, 3) := by decide +kernel
theorem dX7_worst_39 : decode cX7_worst 39 = .ok (.lload 5, 2) := by decide +kernel
theorem dX7_worst_41 : decode cX7_worst 41 = .ok (.lstore_n 2, 1) := by decide +kernel
theorem dX7_worst_42 : decode cX7_worst 42 = .ok (.iload 4, 2) := by decide +kernel
theorem dX7_worst_44 : decode cX7_worst 44 = .ok (.istore_n 1, 1) := by decide +kernel
theorem dX7_worst_45 : decode cX7_worst 45 = .ok (.iinc 4 1, 3) := by decide +kernel
theorem dX7_worst_48 : decode cX7_worst 48 = .ok (.goto (-39), 3) := by decide +kernel
theorem dX7_worst_51 : decode cX7_worst 51 = .ok (.iload_n 1, 1) := by decide +kernel
theorem dX7_worst_52 : decode cX7_worst 52 = .ok (.ireturn, 1) := by decide +kernel
theorem dX7_adjust_0 : decode cX7_adjust 0 = .ok (.aload_n 0, 1) := by decide +kernel
theorem dX7_adjust_1 : decode cX7_adjust 1 = .ok (.getfield 30, 3) := by decide +kernel
theorem dX7_adjust_4 : decode cX7_adjust 4 = .ok (.invokevirtual 235, 3) := by decide +kernel
theorem dX7_adjust_7 : decode cX7_adjust 7 = .ok (.ifCond .eq 13, 3) := by decide +kernel
theorem dX7_adjust_10 : decode cX7_adjust 10 = .ok (.new 59, 3) := by decide +kernel
theorem dX7_adjust_13 : decode cX7_adjust 13 = .ok (.dup, 1) := by decide +kernel
theorem dX7_adjust_14 : decode cX7_adjust 14 = .ok (.ldc 239, 2) := by decide +kernel
theorem dX7_adjust_16 : decode cX7_adjust 16 = .ok (.invokespecial 63, 3) := by decide +kernel
theorem dX7_adjust_19 : decode cX7_adjust 19 = .ok (.athrow, 1) := by decide +kernel
theorem dX7_adjust_20 : decode cX7_adjust 20 = .ok (.aload_n 0, 1) := by decide +kernel
theorem dX7_adjust_21 : decode cX7_adjust 21 = .ok (.invokevirtual 219, 3) := by decide +kernel
theorem dX7_adjust_24 : decode cX7_adjust 24 = .ok (.aload_n 0, 1) := by decide +kernel
theorem dX7_adjust_25 : decode cX7_adjust 25 = .ok (.getfield 30, 3) := by decide +kernel
theorem dX7_adjust_28 : decode cX7_adjust 28 = .ok (.invokevirtual 55, 3) := by decide +kernel
theorem dX7_adjust_31 : decode cX7_adjust 31 = .ok (.i2l, 1) := by decide +kernel
theorem dX7_adjust_32 : decode cX7_adjust 32 = .ok (.invokestatic 241, 3) := by decide +kernel
theorem dX7_adjust_35 : decode cX7_adjust 35 = .ok (.l2i, 1) := by decide +kernel
theorem dX7_adjust_36 : decode cX7_adjust 36 = .ok (.istore_n 1, 1) := by decide +kernel
theorem dX7_adjust_37 : decode cX7_adjust 37 = .ok (.aload_n 0, 1) := by decide +kernel
theorem dX7_adjust_38 : decode cX7_adjust 38 = .ok (.getfield 10, 3) := by decide +kernel
theorem dX7_adjust_41 : decode cX7_adjust 41 = .ok (.getfield 92, 3) := by decide +kernel
theorem dX7_adjust_44 : decode cX7_adjust 44 = .ok (.iload_n 1, 1) := by decide +kernel
theorem dX7_adjust_45 : decode cX7_adjust 45 = .ok (.iadd, 1) := by decide +kernel
theorem dX7_adjust_46 : decode cX7_adjust 46 = .ok (.istore_n 2, 1) := by decide +kernel
theorem dX7_adjust_47 : decode cX7_adjust 47 = .ok (.iload_n 2, 1) := by decide +kernel
theorem dX7_adjust_48 : decode cX7_adjust 48 = .ok (.sipush (-10000), 3) := by decide +kernel
end
section
theorem dX7_adjust_51 : decode cX7_adjust 51 = .ok (.sipush 10000, 3) := by decide +kernel
theorem dX7_adjust_54 : decode cX7_adjust 54 = .ok (.invokestatic 37, 3) := by decide +kernel
theorem dX7_adjust_57 : decode cX7_adjust 57 = .ok (.ifCond .ne 13, 3) := by decide +kernel
theorem dX7_adjust_60 : decode cX7_adjust 60 = .ok (.new 59, 3) := by decide +kernel
theorem dX7_adjust_63 : decode cX7_adjust 63 = .ok (.dup, 1) := by decide +kernel
theorem dX7_adjust_64 : decode cX7_adjust 64 = .ok (.ldc 245, 2) := by decide +kernel
theorem dX7_adjust_66 : decode cX7_adjust 66 = .ok (.invokespecial 63, 3) := by decide +kernel
theorem dX7_adjust_69 : decode cX7_adjust 69 = .ok (.athrow, 1) := by decide +kernel
theorem dX7_adjust_70 : decode cX7_adjust 70 = .ok (.aload_n 0, 1) := by decide +kernel
theorem dX7_adjust_71 : decode cX7_adjust 71 = .ok (.getfield 10, 3) := by decide +kernel
theorem dX7_adjust_74 : decode cX7_adjust 74 = .ok (.iload_n 2, 1) := by decide +kernel
theorem dX7_adjust_75 : decode cX7_adjust 75 = .ok (.putfield 92, 3) := by decide +kernel
theorem dX7_adjust_78 : decode cX7_adjust 78 = .ok (.aload_n 0, 1) := by decide +kernel
theorem dX7_adjust_79 : decode cX7_adjust 79 = .ok (.iconst 1, 1) := by decide +kernel
theorem dX7_adjust_80 : decode cX7_adjust 80 = .ok (.putfield 33, 3) := by decide +kernel
theorem dX7_adjust_83 : decode cX7_adjust 83 = .ok (.aload_n 0, 1) := by decide +kernel
theorem dX7_adjust_84 : decode cX7_adjust 84 = .ok (.getfield 30, 3) := by decide +kernel
theorem dX7_adjust_87 : decode cX7_adjust 87 = .ok (.invokevirtual 247, 3) := by decide +kernel
theorem dX7_adjust_90 : decode cX7_adjust 90 = .ok (.iload_n 1, 1) := by decide +kernel
theorem dX7_adjust_91 : decode cX7_adjust 91 = .ok (.ireturn, 1) := by decide +kernel
theorem dX7_digest_0 : decode cX7_digest 0 = .ok (.aload_n 0, 1) := by decide +kernel
theorem dX7_digest_1 : decode cX7_digest 1 = .ok (.invokevirtual 110, 3) := by decide +kernel
theorem dX7_digest_4 : decode cX7_digest 4 = .ok (.astore_n 1, 1) := by decide +kernel
theorem dX7_digest_5 : decode cX7_digest 5 = .ok (.ldc2_w 250, 3) := by decide +kernel
theorem dX7_digest_8 : decode cX7_digest 8 = .ok (.lstore_n 2, 1) := by decide +kernel
theorem dX7_digest_9 : decode cX7_digest 9 = .ok (.iconst 0, 1) := by decide +kernel
theorem dX7_digest_10 : decode cX7_digest 10 = .ok (.istore 4, 2) := by decide +kernel
theorem dX7_digest_12 : decode cX7_digest 12 = .ok (.iload 4, 2) := by decide +kernel
theorem dX7_digest_14 : decode cX7_digest 14 = .ok (.iconst 4, 1) := by decide +kernel
theorem dX7_digest_15 : decode cX7_digest 15 = .ok (.if_icmp .ge 21, 3) := by decide +kernel
theorem dX7_digest_18 : decode cX7_digest 18 = .ok (.lload_n 2, 1) := by decide +kernel
theorem dX7_digest_19 : decode cX7_digest 19 = .ok (.aload_n 0, 1) := by decide +kernel
theorem dX7_digest_20 : decode cX7_digest 20 = .ok (.iload 4, 2) := by decide +kernel
theorem dX7_digest_22 : decode cX7_digest 22 = .ok (.invokevirtual 107, 3) := by decide +kernel
theorem dX7_digest_25 : decode cX7_digest 25 = .ok (.i2l, 1) := by decide +kernel
theorem dX7_digest_26 : decode cX7_digest 26 = .ok (.invokestatic 252, 3) := by decide +kernel
theorem dX7_digest_29 : decode cX7_digest 29 = .ok (.lstore_n 2, 1) := by decide +kernel
theorem dX7_digest_30 : decode cX7_digest 30 = .ok (.iinc 4 1, 3) := by decide +kernel
theorem dX7_digest_33 : decode cX7_digest 33 = .ok (.goto (-21), 3) := by decide +kernel
theorem dX7_digest_36 : decode cX7_digest 36 = .ok (.lload_n 2, 1) := by decide +kernel
theorem dX7_digest_37 : decode cX7_digest 37 = .ok (.aload_n 0, 1) := by decide +kernel
theorem dX7_digest_38 : decode cX7_digest 38 = .ok (.getfield 10, 3) := by decide +kernel
theorem dX7_digest_41 : decode cX7_digest 41 = .ok (.getfield 92, 3) := by decide +kernel
theorem dX7_digest_44 : decode cX7_digest 44 = .ok (.i2l, 1) := by decide +kernel
theorem dX7_digest_45 : decode cX7_digest 45 = .ok (.invokestatic 252, 3) := by decide +kernel
theorem dX7_digest_48 : decode cX7_digest 48 = .ok (.lstore_n 2, 1) := by decide +kernel
theorem dX7_digest_49 : decode cX7_digest 49 = .ok (.lload_n 2, 1) := by decide +kernel
theorem dX7_digest_50 : decode cX7_digest 50 = .ok (.aload_n 1, 1) := by decide +kernel
theorem dX7_digest_51 : decode cX7_digest 51 = .ok (.invokestatic 255, 3) := by decide +kernel
theorem dX7_digest_54 : decode cX7_digest 54 = .ok (.lstore_n 2, 1) := by decide +kernel
theorem dX7_digest_55 : decode cX7_digest 55 = .ok (.iconst 0, 1) := by decide +kernel
theorem dX7_digest_56 : decode cX7_digest 56 = .ok (.istore 4, 2) := by decide +kernel
theorem dX7_digest_58 : decode cX7_digest 58 = .ok (.iload 4, 2) := by decide +kernel
theorem dX7_digest_60 : decode cX7_digest 60 = .ok (.aload_n 0, 1) := by decide +kernel
theorem dX7_digest_61 : decode cX7_digest 61 = .ok (.getfield 26, 3) := by decide +kernel
theorem dX7_digest_64 : decode cX7_digest 64 = .ok (.invokevirtual 55, 3) := by decide +kernel
theorem dX7_digest_67 : decode cX7_digest 67 = .ok (.if_icmp .ge 27, 3) := by decide +kernel
theorem dX7_digest_70 : decode cX7_digest 70 = .ok (.lload_n 2, 1) := by decide +kernel
theorem dX7_digest_71 : decode cX7_digest 71 = .ok (.aload_n 1, 1) := by decide +kernel
theorem dX7_digest_72 : decode cX7_digest 72 = .ok (.aload_n 0, 1) := by decide +kernel
theorem dX7_digest_73 : decode cX7_digest 73 = .ok (.getfield 26, 3) := by decide +kernel
theorem dX7_digest_76 : decode cX7_digest 76 = .ok (.iload 4, 2) := by decide +kernel
theorem dX7_digest_78 : decode cX7_digest 78 = .ok (.invokevirtual 82, 3) := by decide +kernel
theorem dX7_digest_81 : decode cX7_digest 81 = .ok (.checkcast 140, 3) := by decide +kernel
theorem dX7_digest_84 : decode cX7_digest 84 = .ok (.invokestatic 259, 3) := by decide +kernel
theorem dX7_digest_87 : decode cX7_digest 87 = .ok (.lstore_n 2, 1) := by decide +kernel
theorem dX7_digest_88 : decode cX7_digest 88 = .ok (.iinc 4 1, 3) := by decide +kernel
theorem dX7_digest_91 : decode cX7_digest 91 = .ok (.goto (-33), 3) := by decide +kernel
theorem dX7_digest_94 : decode cX7_digest 94 = .ok (.iconst 0, 1) := by decide +kernel
theorem dX7_digest_95 : decode cX7_digest 95 = .ok (.istore 4, 2) := by decide +kernel
theorem dX7_digest_97 : decode cX7_digest 97 = .ok (.iload 4, 2) := by decide +kernel
theorem dX7_digest_99 : decode cX7_digest 99 = .ok (.iconst 5, 1) := by decide +kernel
theorem dX7_digest_100 : decode cX7_digest 100 = .ok (.if_icmp .ge 21, 3) := by decide +kernel
theorem dX7_digest_103 : decode cX7_digest 103 = .ok (.lload_n 2, 1) := by decide +kernel
theorem dX7_digest_104 : decode cX7_digest 104 = .ok (.aload_n 1, 1) := by decide +kernel
theorem dX7_digest_105 : decode cX7_digest 105 = .ok (.iload 4, 2) := by decide +kernel
theorem dX7_digest_107 : decode cX7_digest 107 = .ok (.invokevirtual 135, 3) := by decide +kernel
theorem dX7_digest_110 : decode cX7_digest 110 = .ok (.i2l, 1) := by decide +kernel
theorem dX7_digest_111 : decode cX7_digest 111 = .ok (.invokestatic 252, 3) := by decide +kernel
theorem dX7_digest_114 : decode cX7_digest 114 = .ok (.lstore_n 2, 1) := by decide +kernel
theorem dX7_digest_115 : decode cX7_digest 115 = .ok (.iinc 4 1, 3) := by decide +kernel
theorem dX7_digest_118 : decode cX7_digest 118 = .ok (.goto (-21), 3) := by decide +kernel
theorem dX7_digest_121 : decode cX7_digest 121 = .ok (.lload_n 2, 1) := by decide +kernel
theorem dX7_digest_122 : decode cX7_digest 122 = .ok (.lreturn, 1) := by decide +kernel
theorem dX7_isWithin_0 : decode cX7_isWithin 0 = .ok (.iload_n 0, 1) := by decide +kernel
theorem dX7_isWithin_1 : decode cX7_isWithin 1 = .ok (.iload_n 1, 1) := by decide +kernel
theorem dX7_isWithin_2 : decode cX7_isWithin 2 = .ok (.if_icmp .lt 12, 3) := by decide +kernel
theorem dX7_isWithin_5 : decode cX7_isWithin 5 = .ok (.iload_n 0, 1) := by decide +kernel
theorem dX7_isWithin_6 : decode cX7_isWithin 6 = .ok (.iload_n 2, 1) := by decide +kernel
theorem dX7_isWithin_7 : decode cX7_isWithin 7 = .ok (.if_icmp .gt 7, 3) := by decide +kernel
theorem dX7_isWithin_10 : decode cX7_isWithin 10 = .ok (.iconst 1, 1) := by decide +kernel
theorem dX7_isWithin_11 : decode cX7_isWithin 11 = .ok (.goto 4, 3) := by decide +kernel
theorem dX7_isWithin_14 : decode cX7_isWithin 14 = .ok (.iconst 0, 1) := by decide +kernel
theorem dX7_isWithin_15 : decode cX7_isWithin 15 = .ok (.ireturn, 1) := by decide +kernel
theorem dX7_isMinute_0 : decode cX7_isMinute 0 = .ok (.iload_n 0, 1) := by decide +kernel
theorem dX7_isMinute_1 : decode cX7_isMinute 1 = .ok (.iconst 0, 1) := by decide +kernel
theorem dX7_isMinute_2 : decode cX7_isMinute 2 = .ok (.sipush 4319, 3) := by decide +kernel
theorem dX7_isMinute_5 : decode cX7_isMinute 5 = .ok (.invokestatic 37, 3) := by decide +kernel
theorem dX7_isMinute_8 : decode cX7_isMinute 8 = .ok (.ireturn, 1) := by decide +kernel
theorem dX7_quotient_0 : decode cX7_quotient 0 = .ok (.lload_n 2, 1) := by decide +kernel
theorem dX7_quotient_1 : decode cX7_quotient 1 = .ok (.lconst 0, 1) := by decide +kernel
theorem dX7_quotient_2 : decode cX7_quotient 2 = .ok (.lcmp, 1) := by decide +kernel
theorem dX7_quotient_3 : decode cX7_quotient 3 = .ok (.ifCond .ne 7, 3) := by decide +kernel
theorem dX7_quotient_6 : decode cX7_quotient 6 = .ok (.lconst 0, 1) := by decide +kernel
theorem dX7_quotient_7 : decode cX7_quotient 7 = .ok (.goto 6, 3) := by decide +kernel
theorem dX7_quotient_10 : decode cX7_quotient 10 = .ok (.lload_n 0, 1) := by decide +kernel
theorem dX7_quotient_11 : decode cX7_quotient 11 = .ok (.lload_n 2, 1) := by decide +kernel
theorem dX7_quotient_12 : decode cX7_quotient 12 = .ok (.ldiv, 1) := by decide +kernel
theorem dX7_quotient_13 : decode cX7_quotient 13 = .ok (.lreturn, 1) := by decide +kernel
theorem dX7_hasWave_0 : decode cX7_hasWave 0 = .ok (.iload_n 1, 1) := by decide +kernel
theorem dX7_hasWave_1 : decode cX7_hasWave 1 = .ok (.ifCond .lt 21, 3) := by decide +kernel
theorem dX7_hasWave_4 : decode cX7_hasWave 4 = .ok (.iload_n 1, 1) := by decide +kernel
theorem dX7_hasWave_5 : decode cX7_hasWave 5 = .ok (.aload_n 0, 1) := by decide +kernel
theorem dX7_hasWave_6 : decode cX7_hasWave 6 = .ok (.getfield 10, 3) := by decide +kernel
theorem dX7_hasWave_9 : decode cX7_hasWave 9 = .ok (.getfield 52, 3) := by decide +kernel
theorem dX7_hasWave_12 : decode cX7_hasWave 12 = .ok (.invokevirtual 55, 3) := by decide +kernel
theorem dX7_hasWave_15 : decode cX7_hasWave 15 = .ok (.if_icmp .ge 7, 3) := by decide +kernel
theorem dX7_hasWave_18 : decode cX7_hasWave 18 = .ok (.iconst 1, 1) := by decide +kernel
theorem dX7_hasWave_19 : decode cX7_hasWave 19 = .ok (.goto 4, 3) := by decide +kernel
theorem dX7_hasWave_22 : decode cX7_hasWave 22 = .ok (.iconst 0, 1) := by decide +kernel
theorem dX7_hasWave_23 : decode cX7_hasWave 23 = .ok (.ireturn, 1) := by decide +kernel
theorem dX7_hasPort_0 : decode cX7_hasPort 0 = .ok (.iload_n 1, 1) := by decide +kernel
theorem dX7_hasPort_1 : decode cX7_hasPort 1 = .ok (.ifCond .lt 18, 3) := by decide +kernel
theorem dX7_hasPort_4 : decode cX7_hasPort 4 = .ok (.iload_n 1, 1) := by decide +kernel
theorem dX7_hasPort_5 : decode cX7_hasPort 5 = .ok (.aload_n 0, 1) := by decide +kernel
theorem dX7_hasPort_6 : decode cX7_hasPort 6 = .ok (.getfield 26, 3) := by decide +kernel
theorem dX7_hasPort_9 : decode cX7_hasPort 9 = .ok (.invokevirtual 55, 3) := by decide +kernel
theorem dX7_hasPort_12 : decode cX7_hasPort 12 = .ok (.if_icmp .ge 7, 3) := by decide +kernel
theorem dX7_hasPort_15 : decode cX7_hasPort 15 = .ok (.iconst 1, 1) := by decide +kernel
theorem dX7_hasPort_16 : decode cX7_hasPort 16 = .ok (.goto 4, 3) := by decide +kernel
theorem dX7_hasPort_19 : decode cX7_hasPort 19 = .ok (.iconst 0, 1) := by decide +kernel
theorem dX7_hasPort_20 : decode cX7_hasPort 20 = .ok (.ireturn, 1) := by decide +kernel
theorem dX7_currentTable_0 : decode cX7_currentTable 0 = .ok (.aload_n 0, 1) := by decide +kernel
theorem dX7_currentTable_1 : decode cX7_currentTable 1 = .ok (.getfield 33, 3) := by decide +kernel
theorem dX7_currentTable_4 : decode cX7_currentTable 4 = .ok (.ifCond .eq 19, 3) := by decide +kernel
theorem dX7_currentTable_7 : decode cX7_currentTable 7 = .ok (.aload_n 0, 1) := by decide +kernel
theorem dX7_currentTable_8 : decode cX7_currentTable 8 = .ok (.getfield 19, 3) := by decide +kernel
theorem dX7_currentTable_11 : decode cX7_currentTable 11 = .ok (.aload_n 0, 1) := by decide +kernel
theorem dX7_currentTable_12 : decode cX7_currentTable 12 = .ok (.getfield 10, 3) := by decide +kernel
theorem dX7_currentTable_15 : decode cX7_currentTable 15 = .ok (.invokevirtual 263, 3) := by decide +kernel
theorem dX7_currentTable_18 : decode cX7_currentTable 18 = .ok (.aload_n 0, 1) := by decide +kernel
theorem dX7_currentTable_19 : decode cX7_currentTable 19 = .ok (.iconst 0, 1) := by decide +kernel
theorem dX7_currentTable_20 : decode cX7_currentTable 20 = .ok (.putfield 33, 3) := by decide +kernel
theorem dX7_currentTable_23 : decode cX7_currentTable 23 = .ok (.aload_n 0, 1) := by decide +kernel
theorem dX7_currentTable_24 : decode cX7_currentTable 24 = .ok (.getfield 19, 3) := by decide +kernel
theorem dX7_currentTable_27 : decode cX7_currentTable 27 = .ok (.areturn, 1) := by decide +kernel
theorem dX7_numberOf_0 : decode cX7_numberOf 0 = .ok (.iload_n 1, 1) := by decide +kernel
theorem dX7_numberOf_1 : decode cX7_numberOf 1 = .ok (.tableswitch 54 0 2 #[27, 38, 46], 27) := by decide +kernel
theorem dX7_numberOf_28 : decode cX7_numberOf 28 = .ok (.aload_n 0, 1) := by decide +kernel
theorem dX7_numberOf_29 : decode cX7_numberOf 29 = .ok (.getfield 10, 3) := by decide +kernel
theorem dX7_numberOf_32 : decode cX7_numberOf 32 = .ok (.getfield 52, 3) := by decide +kernel
theorem dX7_numberOf_35 : decode cX7_numberOf 35 = .ok (.invokevirtual 55, 3) := by decide +kernel
theorem dX7_numberOf_38 : decode cX7_numberOf 38 = .ok (.ireturn, 1) := by decide +kernel
theorem dX7_numberOf_39 : decode cX7_numberOf 39 = .ok (.aload_n 0, 1) := by decide +kernel
theorem dX7_numberOf_40 : decode cX7_numberOf 40 = .ok (.invokevirtual 110, 3) := by decide +kernel
theorem dX7_numberOf_43 : decode cX7_numberOf 43 = .ok (.getfield 130, 3) := by decide +kernel
theorem dX7_numberOf_46 : decode cX7_numberOf 46 = .ok (.ireturn, 1) := by decide +kernel
theorem dX7_numberOf_47 : decode cX7_numberOf 47 = .ok (.aload_n 0, 1) := by decide +kernel
theorem dX7_numberOf_48 : decode cX7_numberOf 48 = .ok (.getfield 26, 3) := by decide +kernel
theorem dX7_numberOf_51 : decode cX7_numberOf 51 = .ok (.invokevirtual 55, 3) := by decide +kernel
theorem dX7_numberOf_54 : decode cX7_numberOf 54 = .ok (.ireturn, 1) := by decide +kernel
theorem dX7_numberOf_55 : decode cX7_numberOf 55 = .ok (.aload_n 0, 1) := by decide +kernel
theorem dX7_numberOf_56 : decode cX7_numberOf 56 = .ok (.getfield 30, 3) := by decide +kernel
theorem dX7_numberOf_59 : decode cX7_numberOf 59 = .ok (.invokevirtual 55, 3) := by decide +kernel
theorem dX7_numberOf_62 : decode cX7_numberOf 62 = .ok (.ireturn, 1) := by decide +kernel
theorem dX7_tallyChiefPort_0 : decode cX7_tallyChiefPort 0 = .ok (.aload_n 0, 1) := by decide +kernel
theorem dX7_tallyChiefPort_1 : decode cX7_tallyChiefPort 1 = .ok (.invokevirtual 110, 3) := by decide +kernel
theorem dX7_tallyChiefPort_4 : decode cX7_tallyChiefPort 4 = .ok (.astore 5, 2) := by decide +kernel
theorem dX7_tallyChiefPort_6 : decode cX7_tallyChiefPort 6 = .ok (.iload_n 3, 1) := by decide +kernel
theorem dX7_tallyChiefPort_7 : decode cX7_tallyChiefPort 7 = .ok (.istore 6, 2) := by decide +kernel
theorem dX7_tallyChiefPort_9 : decode cX7_tallyChiefPort 9 = .ok (.iload 6, 2) := by decide +kernel
theorem dX7_tallyChiefPort_11 : decode cX7_tallyChiefPort 11 = .ok (.iload 4, 2) := by decide +kernel
theorem dX7_tallyChiefPort_13 : decode cX7_tallyChiefPort 13 = .ok (.if_icmp .gt 31, 3) := by decide +kernel
theorem dX7_tallyChiefPort_16 : decode cX7_tallyChiefPort 16 = .ok (.aload_n 1, 1) := by decide +kernel
theorem dX7_tallyChiefPort_17 : decode cX7_tallyChiefPort 17 = .ok (.iload 6, 2) := by decide +kernel
theorem dX7_tallyChiefPort_19 : decode cX7_tallyChiefPort 19 = .ok (.aload 5, 2) := by decide +kernel
theorem dX7_tallyChiefPort_21 : decode cX7_tallyChiefPort 21 = .ok (.iload 6, 2) := by decide +kernel
theorem dX7_tallyChiefPort_23 : decode cX7_tallyChiefPort 23 = .ok (.invokevirtual 267, 3) := by decide +kernel
theorem dX7_tallyChiefPort_26 : decode cX7_tallyChiefPort 26 = .ok (.iload_n 2, 1) := by decide +kernel
theorem dX7_tallyChiefPort_27 : decode cX7_tallyChiefPort 27 = .ok (.if_icmp .lt 7, 3) := by decide +kernel
theorem dX7_tallyChiefPort_30 : decode cX7_tallyChiefPort 30 = .ok (.iconst 1, 1) := by decide +kernel
theorem dX7_tallyChiefPort_31 : decode cX7_tallyChiefPort 31 = .ok (.goto 4, 3) := by decide +kernel
theorem dX7_tallyChiefPort_34 : decode cX7_tallyChiefPort 34 = .ok (.iconst 0, 1) := by decide +kernel
theorem dX7_tallyChiefPort_35 : decode cX7_tallyChiefPort 35 = .ok (.invokevirtual 268, 3) := by decide +kernel
theorem dX7_tallyChiefPort_38 : decode cX7_tallyChiefPort 38 = .ok (.iinc 6 1, 3) := by decide +kernel
theorem dX7_tallyChiefPort_41 : decode cX7_tallyChiefPort 41 = .ok (.goto (-32), 3) := by decide +kernel
theorem dX7_tallyChiefPort_44 : decode cX7_tallyChiefPort 44 = .ok (.return_, 1) := by decide +kernel
theorem dX7_tallyPort_0 : decode cX7_tallyPort 0 = .ok (.aload_n 0, 1) := by decide +kernel
theorem dX7_tallyPort_1 : decode cX7_tallyPort 1 = .ok (.invokevirtual 110, 3) := by decide +kernel
theorem dX7_tallyPort_4 : decode cX7_tallyPort 4 = .ok (.astore 6, 2) := by decide +kernel
theorem dX7_tallyPort_6 : decode cX7_tallyPort 6 = .ok (.aload_n 2, 1) := by decide +kernel
theorem dX7_tallyPort_7 : decode cX7_tallyPort 7 = .ok (.aload 6, 2) := by decide +kernel
theorem dX7_tallyPort_9 : decode cX7_tallyPort 9 = .ok (.invokevirtual 169, 3) := by decide +kernel
theorem dX7_tallyPort_12 : decode cX7_tallyPort 12 = .ok (.ifCond .ne 4, 3) := by decide +kernel
theorem dX7_tallyPort_15 : decode cX7_tallyPort 15 = .ok (.return_, 1) := by decide +kernel
theorem dX7_tallyPort_16 : decode cX7_tallyPort 16 = .ok (.iconst (-1), 1) := by decide +kernel
theorem dX7_tallyPort_17 : decode cX7_tallyPort 17 = .ok (.istore 7, 2) := by decide +kernel
theorem dX7_tallyPort_19 : decode cX7_tallyPort 19 = .ok (.iload 4, 2) := by decide +kernel
theorem dX7_tallyPort_21 : decode cX7_tallyPort 21 = .ok (.istore 8, 2) := by decide +kernel
theorem dX7_tallyPort_23 : decode cX7_tallyPort 23 = .ok (.iload 8, 2) := by decide +kernel
theorem dX7_tallyPort_25 : decode cX7_tallyPort 25 = .ok (.iload 5, 2) := by decide +kernel
theorem dX7_tallyPort_27 : decode cX7_tallyPort 27 = .ok (.if_icmp .gt 60, 3) := by decide +kernel
theorem dX7_tallyPort_30 : decode cX7_tallyPort 30 = .ok (.aload_n 2, 1) := by decide +kernel
theorem dX7_tallyPort_31 : decode cX7_tallyPort 31 = .ok (.aload 6, 2) := by decide +kernel
theorem dX7_tallyPort_33 : decode cX7_tallyPort 33 = .ok (.iload 7, 2) := by decide +kernel
theorem dX7_tallyPort_35 : decode cX7_tallyPort 35 = .ok (.iload 8, 2) := by decide +kernel
theorem dX7_tallyPort_37 : decode cX7_tallyPort 37 = .ok (.invokevirtual 180, 3) := by decide +kernel
theorem dX7_tallyPort_40 : decode cX7_tallyPort 40 = .ok (.istore 7, 2) := by decide +kernel
theorem dX7_tallyPort_42 : decode cX7_tallyPort 42 = .ok (.aload 6, 2) := by decide +kernel
theorem dX7_tallyPort_44 : decode cX7_tallyPort 44 = .ok (.iload 7, 2) := by decide +kernel
theorem dX7_tallyPort_46 : decode cX7_tallyPort 46 = .ok (.invokevirtual 184, 3) := by decide +kernel
theorem dX7_tallyPort_49 : decode cX7_tallyPort 49 = .ok (.istore 9, 2) := by decide +kernel
theorem dX7_tallyPort_51 : decode cX7_tallyPort 51 = .ok (.aload_n 1, 1) := by decide +kernel
theorem dX7_tallyPort_52 : decode cX7_tallyPort 52 = .ok (.iload 8, 2) := by decide +kernel
theorem dX7_tallyPort_54 : decode cX7_tallyPort 54 = .ok (.iload 9, 2) := by decide +kernel
theorem dX7_tallyPort_56 : decode cX7_tallyPort 56 = .ok (.ifCond .eq 21, 3) := by decide +kernel
theorem dX7_tallyPort_59 : decode cX7_tallyPort 59 = .ok (.aload_n 2, 1) := by decide +kernel
theorem dX7_tallyPort_60 : decode cX7_tallyPort 60 = .ok (.aload 6, 2) := by decide +kernel
theorem dX7_tallyPort_62 : decode cX7_tallyPort 62 = .ok (.iload 7, 2) := by decide +kernel
theorem dX7_tallyPort_64 : decode cX7_tallyPort 64 = .ok (.iload 8, 2) := by decide +kernel
theorem dX7_tallyPort_66 : decode cX7_tallyPort 66 = .ok (.invokevirtual 189, 3) := by decide +kernel
theorem dX7_tallyPort_69 : decode cX7_tallyPort 69 = .ok (.iload_n 3, 1) := by decide +kernel
theorem dX7_tallyPort_70 : decode cX7_tallyPort 70 = .ok (.if_icmp .lt 7, 3) := by decide +kernel
theorem dX7_tallyPort_73 : decode cX7_tallyPort 73 = .ok (.iconst 1, 1) := by decide +kernel
theorem dX7_tallyPort_74 : decode cX7_tallyPort 74 = .ok (.goto 4, 3) := by decide +kernel
theorem dX7_tallyPort_77 : decode cX7_tallyPort 77 = .ok (.iconst 0, 1) := by decide +kernel
theorem dX7_tallyPort_78 : decode cX7_tallyPort 78 = .ok (.invokevirtual 268, 3) := by decide +kernel
theorem dX7_tallyPort_81 : decode cX7_tallyPort 81 = .ok (.iinc 8 1, 3) := by decide +kernel
theorem dX7_tallyPort_84 : decode cX7_tallyPort 84 = .ok (.goto (-61), 3) := by decide +kernel
theorem dX7_tallyPort_87 : decode cX7_tallyPort 87 = .ok (.return_, 1) := by decide +kernel
theorem dX7_differenceOf_0 : decode cX7_differenceOf 0 = .ok (.iload_n 1, 1) := by decide +kernel
theorem dX7_differenceOf_1 : decode cX7_differenceOf 1 = .ok (.ifCond .lt 14, 3) := by decide +kernel
theorem dX7_differenceOf_4 : decode cX7_differenceOf 4 = .ok (.iload_n 1, 1) := by decide +kernel
theorem dX7_differenceOf_5 : decode cX7_differenceOf 5 = .ok (.aload_n 0, 1) := by decide +kernel
theorem dX7_differenceOf_6 : decode cX7_differenceOf 6 = .ok (.getfield 30, 3) := by decide +kernel
theorem dX7_differenceOf_9 : decode cX7_differenceOf 9 = .ok (.invokevirtual 55, 3) := by decide +kernel
theorem dX7_differenceOf_12 : decode cX7_differenceOf 12 = .ok (.if_icmp .lt 5, 3) := by decide +kernel
theorem dX7_differenceOf_15 : decode cX7_differenceOf 15 = .ok (.lconst 0, 1) := by decide +kernel
theorem dX7_differenceOf_16 : decode cX7_differenceOf 16 = .ok (.lreturn, 1) := by decide +kernel
theorem dX7_differenceOf_17 : decode cX7_differenceOf 17 = .ok (.aload_n 0, 1) := by decide +kernel
theorem dX7_differenceOf_18 : decode cX7_differenceOf 18 = .ok (.getfield 30, 3) := by decide +kernel
theorem dX7_differenceOf_21 : decode cX7_differenceOf 21 = .ok (.iload_n 1, 1) := by decide +kernel
theorem dX7_differenceOf_22 : decode cX7_differenceOf 22 = .ok (.invokevirtual 82, 3) := by decide +kernel
theorem dX7_differenceOf_25 : decode cX7_differenceOf 25 = .ok (.checkcast 214, 3) := by decide +kernel
theorem dX7_differenceOf_28 : decode cX7_differenceOf 28 = .ok (.astore_n 2, 1) := by decide +kernel
theorem dX7_differenceOf_29 : decode cX7_differenceOf 29 = .ok (.aload_n 2, 1) := by decide +kernel
theorem dX7_differenceOf_30 : decode cX7_differenceOf 30 = .ok (.getfield 272, 3) := by decide +kernel
theorem dX7_differenceOf_33 : decode cX7_differenceOf 33 = .ok (.i2l, 1) := by decide +kernel
theorem dX7_differenceOf_34 : decode cX7_differenceOf 34 = .ok (.aload_n 0, 1) := by decide +kernel
theorem dX7_differenceOf_35 : decode cX7_differenceOf 35 = .ok (.getfield 10, 3) := by decide +kernel
theorem dX7_differenceOf_38 : decode cX7_differenceOf 38 = .ok (.aload_n 2, 1) := by decide +kernel
theorem dX7_differenceOf_39 : decode cX7_differenceOf 39 = .ok (.getfield 275, 3) := by decide +kernel
theorem dX7_differenceOf_42 : decode cX7_differenceOf 42 = .ok (.invokevirtual 100, 3) := by decide +kernel
theorem dX7_differenceOf_45 : decode cX7_differenceOf 45 = .ok (.i2l, 1) := by decide +kernel
theorem dX7_differenceOf_46 : decode cX7_differenceOf 46 = .ok (.lsub, 1) := by decide +kernel
theorem dX7_differenceOf_47 : decode cX7_differenceOf 47 = .ok (.lreturn, 1) := by decide +kernel
theorem dX7_sumOfDifferences_0 : decode cX7_sumOfDifferences 0 = .ok (.lconst 0, 1) := by decide +kernel
theorem dX7_sumOfDifferences_1 : decode cX7_sumOfDifferences 1 = .ok (.lstore_n 1, 1) := by decide +kernel
theorem dX7_sumOfDifferences_2 : decode cX7_sumOfDifferences 2 = .ok (.iconst 0, 1) := by decide +kernel
theorem dX7_sumOfDifferences_3 : decode cX7_sumOfDifferences 3 = .ok (.istore_n 3, 1) := by decide +kernel
theorem dX7_sumOfDifferences_4 : decode cX7_sumOfDifferences 4 = .ok (.iload_n 3, 1) := by decide +kernel
theorem dX7_sumOfDifferences_5 : decode cX7_sumOfDifferences 5 = .ok (.aload_n 0, 1) := by decide +kernel
theorem dX7_sumOfDifferences_6 : decode cX7_sumOfDifferences 6 = .ok (.getfield 30, 3) := by decide +kernel
theorem dX7_sumOfDifferences_9 : decode cX7_sumOfDifferences 9 = .ok (.invokevirtual 55, 3) := by decide +kernel
theorem dX7_sumOfDifferences_12 : decode cX7_sumOfDifferences 12 = .ok (.if_icmp .ge 17, 3) := by decide +kernel
theorem dX7_sumOfDifferences_15 : decode cX7_sumOfDifferences 15 = .ok (.lload_n 1, 1) := by decide +kernel
theorem dX7_sumOfDifferences_16 : decode cX7_sumOfDifferences 16 = .ok (.aload_n 0, 1) := by decide +kernel
theorem dX7_sumOfDifferences_17 : decode cX7_sumOfDifferences 17 = .ok (.iload_n 3, 1) := by decide +kernel
theorem dX7_sumOfDifferences_18 : decode cX7_sumOfDifferences 18 = .ok (.invokevirtual 225, 3) := by decide +kernel
theorem dX7_sumOfDifferences_21 : decode cX7_sumOfDifferences 21 = .ok (.ladd, 1) := by decide +kernel
theorem dX7_sumOfDifferences_22 : decode cX7_sumOfDifferences 22 = .ok (.lstore_n 1, 1) := by decide +kernel
theorem dX7_sumOfDifferences_23 : decode cX7_sumOfDifferences 23 = .ok (.iinc 3 1, 3) := by decide +kernel
theorem dX7_sumOfDifferences_26 : decode cX7_sumOfDifferences 26 = .ok (.goto (-22), 3) := by decide +kernel
theorem dX7_sumOfDifferences_29 : decode cX7_sumOfDifferences 29 = .ok (.lload_n 1, 1) := by decide +kernel
theorem dX7_sumOfDifferences_30 : decode cX7_sumOfDifferences 30 = .ok (.lreturn, 1) := by decide +kernel
theorem dX7_mixed_0 : decode cX7_mixed 0 = .ok (.lload_n 0, 1) := by decide +kernel
theorem dX7_mixed_1 : decode cX7_mixed 1 = .ok (.ldc2_w 278, 3) := by decide +kernel
theorem dX7_mixed_4 : decode cX7_mixed 4 = .ok (.lmul, 1) := by decide +kernel
theorem dX7_mixed_5 : decode cX7_mixed 5 = .ok (.lload_n 2, 1) := by decide +kernel
theorem dX7_mixed_6 : decode cX7_mixed 6 = .ok (.ladd, 1) := by decide +kernel
theorem dX7_mixed_7 : decode cX7_mixed 7 = .ok (.lreturn, 1) := by decide +kernel
theorem dX7_mixedWithWaters_0 : decode cX7_mixedWithWaters 0 = .ok (.lload_n 0, 1) := by decide +kernel
theorem dX7_mixedWithWaters_1 : decode cX7_mixedWithWaters 1 = .ok (.lstore_n 3, 1) := by decide +kernel
theorem dX7_mixedWithWaters_2 : decode cX7_mixedWithWaters 2 = .ok (.iconst 0, 1) := by decide +kernel
theorem dX7_mixedWithWaters_3 : decode cX7_mixedWithWaters 3 = .ok (.istore 5, 2) := by decide +kernel
theorem dX7_mixedWithWaters_5 : decode cX7_mixedWithWaters 5 = .ok (.iload 5, 2) := by decide +kernel
theorem dX7_mixedWithWaters_7 : decode cX7_mixedWithWaters 7 = .ok (.aload_n 2, 1) := by decide +kernel
theorem dX7_mixedWithWaters_8 : decode cX7_mixedWithWaters 8 = .ok (.getfield 130, 3) := by decide +kernel
theorem dX7_mixedWithWaters_11 : decode cX7_mixedWithWaters 11 = .ok (.if_icmp .ge 52, 3) := by decide +kernel
theorem dX7_mixedWithWaters_14 : decode cX7_mixedWithWaters 14 = .ok (.lload_n 3, 1) := by decide +kernel
theorem dX7_mixedWithWaters_15 : decode cX7_mixedWithWaters 15 = .ok (.aload_n 2, 1) := by decide +kernel
theorem dX7_mixedWithWaters_16 : decode cX7_mixedWithWaters 16 = .ok (.iload 5, 2) := by decide +kernel
theorem dX7_mixedWithWaters_18 : decode cX7_mixedWithWaters 18 = .ok (.invokevirtual 119, 3) := by decide +kernel
theorem dX7_mixedWithWaters_21 : decode cX7_mixedWithWaters 21 = .ok (.i2l, 1) := by decide +kernel
theorem dX7_mixedWithWaters_22 : decode cX7_mixedWithWaters 22 = .ok (.invokestatic 252, 3) := by decide +kernel
theorem dX7_mixedWithWaters_25 : decode cX7_mixedWithWaters 25 = .ok (.lstore_n 3, 1) := by decide +kernel
theorem dX7_mixedWithWaters_26 : decode cX7_mixedWithWaters 26 = .ok (.lload_n 3, 1) := by decide +kernel
theorem dX7_mixedWithWaters_27 : decode cX7_mixedWithWaters 27 = .ok (.aload_n 2, 1) := by decide +kernel
theorem dX7_mixedWithWaters_28 : decode cX7_mixedWithWaters 28 = .ok (.iload 5, 2) := by decide +kernel
theorem dX7_mixedWithWaters_30 : decode cX7_mixedWithWaters 30 = .ok (.invokevirtual 122, 3) := by decide +kernel
theorem dX7_mixedWithWaters_33 : decode cX7_mixedWithWaters 33 = .ok (.i2l, 1) := by decide +kernel
theorem dX7_mixedWithWaters_34 : decode cX7_mixedWithWaters 34 = .ok (.invokestatic 252, 3) := by decide +kernel
theorem dX7_mixedWithWaters_37 : decode cX7_mixedWithWaters 37 = .ok (.lstore_n 3, 1) := by decide +kernel
theorem dX7_mixedWithWaters_38 : decode cX7_mixedWithWaters 38 = .ok (.lload_n 3, 1) := by decide +kernel
theorem dX7_mixedWithWaters_39 : decode cX7_mixedWithWaters 39 = .ok (.aload_n 2, 1) := by decide +kernel
theorem dX7_mixedWithWaters_40 : decode cX7_mixedWithWaters 40 = .ok (.iload 5, 2) := by decide +kernel
theorem dX7_mixedWithWaters_42 : decode cX7_mixedWithWaters 42 = .ok (.invokevirtual 125, 3) := by decide +kernel
theorem dX7_mixedWithWaters_45 : decode cX7_mixedWithWaters 45 = .ok (.ifCond .eq 7, 3) := by decide +kernel
theorem dX7_mixedWithWaters_48 : decode cX7_mixedWithWaters 48 = .ok (.lconst 1, 1) := by decide +kernel
theorem dX7_mixedWithWaters_49 : decode cX7_mixedWithWaters 49 = .ok (.goto 4, 3) := by decide +kernel
theorem dX7_mixedWithWaters_52 : decode cX7_mixedWithWaters 52 = .ok (.lconst 0, 1) := by decide +kernel
theorem dX7_mixedWithWaters_53 : decode cX7_mixedWithWaters 53 = .ok (.invokestatic 252, 3) := by decide +kernel
theorem dX7_mixedWithWaters_56 : decode cX7_mixedWithWaters 56 = .ok (.lstore_n 3, 1) := by decide +kernel
theorem dX7_mixedWithWaters_57 : decode cX7_mixedWithWaters 57 = .ok (.iinc 5 1, 3) := by decide +kernel
theorem dX7_mixedWithWaters_60 : decode cX7_mixedWithWaters 60 = .ok (.goto (-55), 3) := by decide +kernel
theorem dX7_mixedWithWaters_63 : decode cX7_mixedWithWaters 63 = .ok (.lload_n 3, 1) := by decide +kernel
theorem dX7_mixedWithWaters_64 : decode cX7_mixedWithWaters 64 = .ok (.lreturn, 1) := by decide +kernel
theorem dX7_mixedWithPort_0 : decode cX7_mixedWithPort 0 = .ok (.lload_n 0, 1) := by decide +kernel
theorem dX7_mixedWithPort_1 : decode cX7_mixedWithPort 1 = .ok (.aload_n 3, 1) := by decide +kernel
theorem dX7_mixedWithPort_2 : decode cX7_mixedWithPort 2 = .ok (.aload_n 2, 1) := by decide +kernel
theorem dX7_mixedWithPort_3 : decode cX7_mixedWithPort 3 = .ok (.invokevirtual 169, 3) := by decide +kernel
theorem dX7_mixedWithPort_6 : decode cX7_mixedWithPort 6 = .ok (.ifCond .eq 7, 3) := by decide +kernel
theorem dX7_mixedWithPort_9 : decode cX7_mixedWithPort 9 = .ok (.lconst 1, 1) := by decide +kernel
theorem dX7_mixedWithPort_10 : decode cX7_mixedWithPort 10 = .ok (.goto 4, 3) := by decide +kernel
theorem dX7_mixedWithPort_13 : decode cX7_mixedWithPort 13 = .ok (.lconst 0, 1) := by decide +kernel
theorem dX7_mixedWithPort_14 : decode cX7_mixedWithPort 14 = .ok (.invokestatic 252, 3) := by decide +kernel
theorem dX7_mixedWithPort_17 : decode cX7_mixedWithPort 17 = .ok (.lstore 4, 2) := by decide +kernel
theorem dX7_mixedWithPort_19 : decode cX7_mixedWithPort 19 = .ok (.iconst 0, 1) := by decide +kernel
theorem dX7_mixedWithPort_20 : decode cX7_mixedWithPort 20 = .ok (.istore 6, 2) := by decide +kernel
theorem dX7_mixedWithPort_22 : decode cX7_mixedWithPort 22 = .ok (.iload 6, 2) := by decide +kernel
theorem dX7_mixedWithPort_24 : decode cX7_mixedWithPort 24 = .ok (.aload_n 2, 1) := by decide +kernel
theorem dX7_mixedWithPort_25 : decode cX7_mixedWithPort 25 = .ok (.getfield 130, 3) := by decide +kernel
theorem dX7_mixedWithPort_28 : decode cX7_mixedWithPort 28 = .ok (.if_icmp .ge 39, 3) := by decide +kernel
theorem dX7_mixedWithPort_31 : decode cX7_mixedWithPort 31 = .ok (.lload 4, 2) := by decide +kernel
theorem dX7_mixedWithPort_33 : decode cX7_mixedWithPort 33 = .ok (.aload_n 3, 1) := by decide +kernel
theorem dX7_mixedWithPort_34 : decode cX7_mixedWithPort 34 = .ok (.aload_n 2, 1) := by decide +kernel
theorem dX7_mixedWithPort_35 : decode cX7_mixedWithPort 35 = .ok (.iload 6, 2) := by decide +kernel
theorem dX7_mixedWithPort_37 : decode cX7_mixedWithPort 37 = .ok (.invokevirtual 173, 3) := by decide +kernel
theorem dX7_mixedWithPort_40 : decode cX7_mixedWithPort 40 = .ok (.i2l, 1) := by decide +kernel
theorem dX7_mixedWithPort_41 : decode cX7_mixedWithPort 41 = .ok (.invokestatic 252, 3) := by decide +kernel
theorem dX7_mixedWithPort_44 : decode cX7_mixedWithPort 44 = .ok (.lstore 4, 2) := by decide +kernel
theorem dX7_mixedWithPort_46 : decode cX7_mixedWithPort 46 = .ok (.lload 4, 2) := by decide +kernel
theorem dX7_mixedWithPort_48 : decode cX7_mixedWithPort 48 = .ok (.aload_n 3, 1) := by decide +kernel
theorem dX7_mixedWithPort_49 : decode cX7_mixedWithPort 49 = .ok (.aload_n 2, 1) := by decide +kernel
theorem dX7_mixedWithPort_50 : decode cX7_mixedWithPort 50 = .ok (.iload 6, 2) := by decide +kernel
theorem dX7_mixedWithPort_52 : decode cX7_mixedWithPort 52 = .ok (.invokevirtual 176, 3) := by decide +kernel
theorem dX7_mixedWithPort_55 : decode cX7_mixedWithPort 55 = .ok (.i2l, 1) := by decide +kernel
theorem dX7_mixedWithPort_56 : decode cX7_mixedWithPort 56 = .ok (.invokestatic 252, 3) := by decide +kernel
theorem dX7_mixedWithPort_59 : decode cX7_mixedWithPort 59 = .ok (.lstore 4, 2) := by decide +kernel
theorem dX7_mixedWithPort_61 : decode cX7_mixedWithPort 61 = .ok (.iinc 6 1, 3) := by decide +kernel
theorem dX7_mixedWithPort_64 : decode cX7_mixedWithPort 64 = .ok (.goto (-42), 3) := by decide +kernel
theorem dX7_mixedWithPort_67 : decode cX7_mixedWithPort 67 = .ok (.lload 4, 2) := by decide +kernel
theorem dX7_mixedWithPort_69 : decode cX7_mixedWithPort 69 = .ok (.lreturn, 1) := by decide +kernel
theorem dX8_init_0 : decode cX8_init 0 = .ok (.aload_n 0, 1) := by decide +kernel
theorem dX8_init_1 : decode cX8_init 1 = .ok (.invokespecial 1, 3) := by decide +kernel
theorem dX8_init_4 : decode cX8_init 4 = .ok (.aload_n 0, 1) := by decide +kernel
theorem dX8_init_5 : decode cX8_init 5 = .ok (.bipush 8, 2) := by decide +kernel
theorem dX8_init_7 : decode cX8_init 7 = .ok (.newarray .int, 2) := by decide +kernel
theorem dX8_init_9 : decode cX8_init 9 = .ok (.putfield 9, 3) := by decide +kernel
theorem dX8_init_12 : decode cX8_init 12 = .ok (.aload_n 0, 1) := by decide +kernel
theorem dX8_init_13 : decode cX8_init 13 = .ok (.bipush 8, 2) := by decide +kernel
theorem dX8_init_15 : decode cX8_init 15 = .ok (.newarray .int, 2) := by decide +kernel
theorem dX8_init_17 : decode cX8_init 17 = .ok (.putfield 13, 3) := by decide +kernel
theorem dX8_init_20 : decode cX8_init 20 = .ok (.aload_n 0, 1) := by decide +kernel
theorem dX8_init_21 : decode cX8_init 21 = .ok (.bipush 8, 2) := by decide +kernel
theorem dX8_init_23 : decode cX8_init 23 = .ok (.newarray .int, 2) := by decide +kernel
theorem dX8_init_25 : decode cX8_init 25 = .ok (.putfield 16, 3) := by decide +kernel
theorem dX8_init_28 : decode cX8_init 28 = .ok (.aload_n 0, 1) := by decide +kernel
theorem dX8_init_29 : decode cX8_init 29 = .ok (.bipush 30, 2) := by decide +kernel
theorem dX8_init_31 : decode cX8_init 31 = .ok (.newarray .int, 2) := by decide +kernel
theorem dX8_init_33 : decode cX8_init 33 = .ok (.putfield 19, 3) := by decide +kernel
theorem dX8_init_36 : decode cX8_init 36 = .ok (.aload_n 0, 1) := by decide +kernel
theorem dX8_init_37 : decode cX8_init 37 = .ok (.bipush 40, 2) := by decide +kernel
theorem dX8_init_39 : decode cX8_init 39 = .ok (.newarray .int, 2) := by decide +kernel
theorem dX8_init_41 : decode cX8_init 41 = .ok (.putfield 22, 3) := by decide +kernel
theorem dX8_init_44 : decode cX8_init 44 = .ok (.aload_n 0, 1) := by decide +kernel
theorem dX8_init_45 : decode cX8_init 45 = .ok (.bipush 40, 2) := by decide +kernel
theorem dX8_init_47 : decode cX8_init 47 = .ok (.newarray .int, 2) := by decide +kernel
theorem dX8_init_49 : decode cX8_init 49 = .ok (.putfield 25, 3) := by decide +kernel
theorem dX8_init_52 : decode cX8_init 52 = .ok (.aload_n 0, 1) := by decide +kernel
theorem dX8_init_53 : decode cX8_init 53 = .ok (.sipush 4320, 3) := by decide +kernel
theorem dX8_init_56 : decode cX8_init 56 = .ok (.newarray .long, 2) := by decide +kernel
theorem dX8_init_58 : decode cX8_init 58 = .ok (.putfield 28, 3) := by decide +kernel
theorem dX8_init_61 : decode cX8_init 61 = .ok (.aload_n 0, 1) := by decide +kernel
theorem dX8_init_62 : decode cX8_init 62 = .ok (.sipush 4320, 3) := by decide +kernel
theorem dX8_init_65 : decode cX8_init 65 = .ok (.newarray .int, 2) := by decide +kernel
theorem dX8_init_67 : decode cX8_init 67 = .ok (.putfield 32, 3) := by decide +kernel
theorem dX8_init_70 : decode cX8_init 70 = .ok (.return_, 1) := by decide +kernel
theorem dX8_thrown_0 : decode cX8_thrown 0 = .ok (.aload_n 0, 1) := by decide +kernel
theorem dX8_thrown_1 : decode cX8_thrown 1 = .ok (.getfield 35, 3) := by decide +kernel
theorem dX8_thrown_4 : decode cX8_thrown 4 = .ok (.ireturn, 1) := by decide +kernel
theorem dX8_fail_0 : decode cX8_fail 0 = .ok (.aload_n 0, 1) := by decide +kernel
theorem dX8_fail_1 : decode cX8_fail 1 = .ok (.iload_n 1, 1) := by decide +kernel
theorem dX8_fail_2 : decode cX8_fail 2 = .ok (.putfield 35, 3) := by decide +kernel
theorem dX8_fail_5 : decode cX8_fail 5 = .ok (.iconst 0, 1) := by decide +kernel
theorem dX8_fail_6 : decode cX8_fail 6 = .ok (.ireturn, 1) := by decide +kernel
theorem dX8_isIn_0 : decode cX8_isIn 0 = .ok (.lload_n 0, 1) := by decide +kernel
theorem dX8_isIn_1 : decode cX8_isIn 1 = .ok (.lload_n 2, 1) := by decide +kernel
theorem dX8_isIn_2 : decode cX8_isIn 2 = .ok (.lcmp, 1) := by decide +kernel
theorem dX8_isIn_3 : decode cX8_isIn 3 = .ok (.ifCond .lt 14, 3) := by decide +kernel
theorem dX8_isIn_6 : decode cX8_isIn 6 = .ok (.lload_n 0, 1) := by decide +kernel
theorem dX8_isIn_7 : decode cX8_isIn 7 = .ok (.lload 4, 2) := by decide +kernel
theorem dX8_isIn_9 : decode cX8_isIn 9 = .ok (.lcmp, 1) := by decide +kernel
theorem dX8_isIn_10 : decode cX8_isIn 10 = .ok (.ifCond .gt 7, 3) := by decide +kernel
theorem dX8_isIn_13 : decode cX8_isIn 13 = .ok (.iconst 1, 1) := by decide +kernel
theorem dX8_isIn_14 : decode cX8_isIn 14 = .ok (.goto 4, 3) := by decide +kernel
theorem dX8_isIn_17 : decode cX8_isIn 17 = .ok (.iconst 0, 1) := by decide +kernel
theorem dX8_isIn_18 : decode cX8_isIn 18 = .ok (.ireturn, 1) := by decide +kernel
theorem dX8_isTime_0 : decode cX8_isTime 0 = .ok (.iload_n 0, 1) := by decide +kernel
theorem dX8_isTime_1 : decode cX8_isTime 1 = .ok (.i2l, 1) := by decide +kernel
theorem dX8_isTime_2 : decode cX8_isTime 2 = .ok (.lconst 0, 1) := by decide +kernel
theorem dX8_isTime_3 : decode cX8_isTime 3 = .ok (.ldc2_w 39, 3) := by decide +kernel
theorem dX8_isTime_6 : decode cX8_isTime 6 = .ok (.invokestatic 41, 3) := by decide +kernel
theorem dX8_isTime_9 : decode cX8_isTime 9 = .ok (.ireturn, 1) := by decide +kernel
theorem dX8_isWave_0 : decode cX8_isWave 0 = .ok (.iload_n 1, 1) := by decide +kernel
theorem dX8_isWave_1 : decode cX8_isWave 1 = .ok (.i2l, 1) := by decide +kernel
theorem dX8_isWave_2 : decode cX8_isWave 2 = .ok (.lconst 0, 1) := by decide +kernel
theorem dX8_isWave_3 : decode cX8_isWave 3 = .ok (.aload_n 0, 1) := by decide +kernel
theorem dX8_isWave_4 : decode cX8_isWave 4 = .ok (.getfield 45, 3) := by decide +kernel
theorem dX8_isWave_7 : decode cX8_isWave 7 = .ok (.iconst 1, 1) := by decide +kernel
theorem dX8_isWave_8 : decode cX8_isWave 8 = .ok (.isub, 1) := by decide +kernel
theorem dX8_isWave_9 : decode cX8_isWave 9 = .ok (.i2l, 1) := by decide +kernel
theorem dX8_isWave_10 : decode cX8_isWave 10 = .ok (.invokestatic 41, 3) := by decide +kernel
theorem dX8_isWave_13 : decode cX8_isWave 13 = .ok (.ireturn, 1) := by decide +kernel
theorem dX8_isPort_0 : decode cX8_isPort 0 = .ok (.iload_n 1, 1) := by decide +kernel
theorem dX8_isPort_1 : decode cX8_isPort 1 = .ok (.i2l, 1) := by decide +kernel
theorem dX8_isPort_2 : decode cX8_isPort 2 = .ok (.lconst 0, 1) := by decide +kernel
theorem dX8_isPort_3 : decode cX8_isPort 3 = .ok (.aload_n 0, 1) := by decide +kernel
theorem dX8_isPort_4 : decode cX8_isPort 4 = .ok (.getfield 48, 3) := by decide +kernel
theorem dX8_isPort_7 : decode cX8_isPort 7 = .ok (.iconst 1, 1) := by decide +kernel
theorem dX8_isPort_8 : decode cX8_isPort 8 = .ok (.isub, 1) := by decide +kernel
theorem dX8_isPort_9 : decode cX8_isPort 9 = .ok (.i2l, 1) := by decide +kernel
theorem dX8_isPort_10 : decode cX8_isPort 10 = .ok (.invokestatic 41, 3) := by decide +kernel
theorem dX8_isPort_13 : decode cX8_isPort 13 = .ok (.ireturn, 1) := by decide +kernel
theorem dX8_addWave_0 : decode cX8_addWave 0 = .ok (.aload_n 0, 1) := by decide +kernel
theorem dX8_addWave_1 : decode cX8_addWave 1 = .ok (.iconst 0, 1) := by decide +kernel
theorem dX8_addWave_2 : decode cX8_addWave 2 = .ok (.putfield 35, 3) := by decide +kernel
theorem dX8_addWave_5 : decode cX8_addWave 5 = .ok (.iload_n 1, 1) := by decide +kernel
theorem dX8_addWave_6 : decode cX8_addWave 6 = .ok (.i2l, 1) := by decide +kernel
theorem dX8_addWave_7 : decode cX8_addWave 7 = .ok (.lconst 0, 1) := by decide +kernel
theorem dX8_addWave_8 : decode cX8_addWave 8 = .ok (.ldc2_w 51, 3) := by decide +kernel
theorem dX8_addWave_11 : decode cX8_addWave 11 = .ok (.invokestatic 41, 3) := by decide +kernel
theorem dX8_addWave_14 : decode cX8_addWave 14 = .ok (.ifCond .eq 30, 3) := by decide +kernel
theorem dX8_addWave_17 : decode cX8_addWave 17 = .ok (.iload_n 2, 1) := by decide +kernel
theorem dX8_addWave_18 : decode cX8_addWave 18 = .ok (.i2l, 1) := by decide +kernel
theorem dX8_addWave_19 : decode cX8_addWave 19 = .ok (.ldc2_w 53, 3) := by decide +kernel
theorem dX8_addWave_22 : decode cX8_addWave 22 = .ok (.ldc2_w 55, 3) := by decide +kernel
theorem dX8_addWave_25 : decode cX8_addWave 25 = .ok (.invokestatic 41, 3) := by decide +kernel
theorem dX8_addWave_28 : decode cX8_addWave 28 = .ok (.ifCond .eq 16, 3) := by decide +kernel
theorem dX8_addWave_31 : decode cX8_addWave 31 = .ok (.iload_n 3, 1) := by decide +kernel
theorem dX8_addWave_32 : decode cX8_addWave 32 = .ok (.i2l, 1) := by decide +kernel
theorem dX8_addWave_33 : decode cX8_addWave 33 = .ok (.lconst 0, 1) := by decide +kernel
theorem dX8_addWave_34 : decode cX8_addWave 34 = .ok (.iload_n 2, 1) := by decide +kernel
theorem dX8_addWave_35 : decode cX8_addWave 35 = .ok (.iconst 1, 1) := by decide +kernel
theorem dX8_addWave_36 : decode cX8_addWave 36 = .ok (.isub, 1) := by decide +kernel
theorem dX8_addWave_37 : decode cX8_addWave 37 = .ok (.i2l, 1) := by decide +kernel
theorem dX8_addWave_38 : decode cX8_addWave 38 = .ok (.invokestatic 41, 3) := by decide +kernel
theorem dX8_addWave_41 : decode cX8_addWave 41 = .ok (.ifCond .ne 9, 3) := by decide +kernel
theorem dX8_addWave_44 : decode cX8_addWave 44 = .ok (.aload_n 0, 1) := by decide +kernel
theorem dX8_addWave_45 : decode cX8_addWave 45 = .ok (.iconst 1, 1) := by decide +kernel
theorem dX8_addWave_46 : decode cX8_addWave 46 = .ok (.invokevirtual 57, 3) := by decide +kernel
theorem dX8_addWave_49 : decode cX8_addWave 49 = .ok (.ireturn, 1) := by decide +kernel
theorem dX8_addWave_50 : decode cX8_addWave 50 = .ok (.aload_n 0, 1) := by decide +kernel
theorem dX8_addWave_51 : decode cX8_addWave 51 = .ok (.getfield 45, 3) := by decide +kernel
theorem dX8_addWave_54 : decode cX8_addWave 54 = .ok (.bipush 8, 2) := by decide +kernel
theorem dX8_addWave_56 : decode cX8_addWave 56 = .ok (.if_icmp .ne 9, 3) := by decide +kernel
theorem dX8_addWave_59 : decode cX8_addWave 59 = .ok (.aload_n 0, 1) := by decide +kernel
theorem dX8_addWave_60 : decode cX8_addWave 60 = .ok (.iconst 2, 1) := by decide +kernel
theorem dX8_addWave_61 : decode cX8_addWave 61 = .ok (.invokevirtual 57, 3) := by decide +kernel
theorem dX8_addWave_64 : decode cX8_addWave 64 = .ok (.ireturn, 1) := by decide +kernel
theorem dX8_addWave_65 : decode cX8_addWave 65 = .ok (.aload_n 0, 1) := by decide +kernel
theorem dX8_addWave_66 : decode cX8_addWave 66 = .ok (.getfield 9, 3) := by decide +kernel
theorem dX8_addWave_69 : decode cX8_addWave 69 = .ok (.aload_n 0, 1) := by decide +kernel
theorem dX8_addWave_70 : decode cX8_addWave 70 = .ok (.getfield 45, 3) := by decide +kernel
theorem dX8_addWave_73 : decode cX8_addWave 73 = .ok (.iload_n 1, 1) := by decide +kernel
theorem dX8_addWave_74 : decode cX8_addWave 74 = .ok (.iastore, 1) := by decide +kernel
theorem dX8_addWave_75 : decode cX8_addWave 75 = .ok (.aload_n 0, 1) := by decide +kernel
theorem dX8_addWave_76 : decode cX8_addWave 76 = .ok (.getfield 13, 3) := by decide +kernel
theorem dX8_addWave_79 : decode cX8_addWave 79 = .ok (.aload_n 0, 1) := by decide +kernel
theorem dX8_addWave_80 : decode cX8_addWave 80 = .ok (.getfield 45, 3) := by decide +kernel
theorem dX8_addWave_83 : decode cX8_addWave 83 = .ok (.iload_n 2, 1) := by decide +kernel
theorem dX8_addWave_84 : decode cX8_addWave 84 = .ok (.iastore, 1) := by decide +kernel
theorem dX8_addWave_85 : decode cX8_addWave 85 = .ok (.aload_n 0, 1) := by decide +kernel
theorem dX8_addWave_86 : decode cX8_addWave 86 = .ok (.getfield 16, 3) := by decide +kernel
theorem dX8_addWave_89 : decode cX8_addWave 89 = .ok (.aload_n 0, 1) := by decide +kernel
theorem dX8_addWave_90 : decode cX8_addWave 90 = .ok (.getfield 45, 3) := by decide +kernel
theorem dX8_addWave_93 : decode cX8_addWave 93 = .ok (.iload_n 3, 1) := by decide +kernel
theorem dX8_addWave_94 : decode cX8_addWave 94 = .ok (.iastore, 1) := by decide +kernel
theorem dX8_addWave_95 : decode cX8_addWave 95 = .ok (.aload_n 0, 1) := by decide +kernel
theorem dX8_addWave_96 : decode cX8_addWave 96 = .ok (.dup, 1) := by decide +kernel
theorem dX8_addWave_97 : decode cX8_addWave 97 = .ok (.getfield 45, 3) := by decide +kernel
theorem dX8_addWave_100 : decode cX8_addWave 100 = .ok (.iconst 1, 1) := by decide +kernel
theorem dX8_addWave_101 : decode cX8_addWave 101 = .ok (.iadd, 1) := by decide +kernel
theorem dX8_addWave_102 : decode cX8_addWave 102 = .ok (.putfield 45, 3) := by decide +kernel
theorem dX8_addWave_105 : decode cX8_addWave 105 = .ok (.aload_n 0, 1) := by decide +kernel
theorem dX8_addWave_106 : decode cX8_addWave 106 = .ok (.iconst 0, 1) := by decide +kernel
theorem dX8_addWave_107 : decode cX8_addWave 107 = .ok (.putfield 61, 3) := by decide +kernel
theorem dX8_addWave_110 : decode cX8_addWave 110 = .ok (.aload_n 0, 1) := by decide +kernel
theorem dX8_addWave_111 : decode cX8_addWave 111 = .ok (.getfield 45, 3) := by decide +kernel
theorem dX8_addWave_114 : decode cX8_addWave 114 = .ok (.iconst 1, 1) := by decide +kernel
theorem dX8_addWave_115 : decode cX8_addWave 115 = .ok (.isub, 1) := by decide +kernel
theorem dX8_addWave_116 : decode cX8_addWave 116 = .ok (.ireturn, 1) := by decide +kernel
theorem dX8_setRange_0 : decode cX8_setRange 0 = .ok (.aload_n 0, 1) := by decide +kernel
theorem dX8_setRange_1 : decode cX8_setRange 1 = .ok (.iconst 0, 1) := by decide +kernel
theorem dX8_setRange_2 : decode cX8_setRange 2 = .ok (.putfield 35, 3) := by decide +kernel
theorem dX8_setRange_5 : decode cX8_setRange 5 = .ok (.aload_n 0, 1) := by decide +kernel
theorem dX8_setRange_6 : decode cX8_setRange 6 = .ok (.iload_n 1, 1) := by decide +kernel
theorem dX8_setRange_7 : decode cX8_setRange 7 = .ok (.invokevirtual 65, 3) := by decide +kernel
theorem dX8_setRange_10 : decode cX8_setRange 10 = .ok (.ifCond .ne 9, 3) := by decide +kernel
theorem dX8_setRange_13 : decode cX8_setRange 13 = .ok (.aload_n 0, 1) := by decide +kernel
theorem dX8_setRange_14 : decode cX8_setRange 14 = .ok (.iconst 1, 1) := by decide +kernel
theorem dX8_setRange_15 : decode cX8_setRange 15 = .ok (.invokevirtual 57, 3) := by decide +kernel
theorem dX8_setRange_18 : decode cX8_setRange 18 = .ok (.ireturn, 1) := by decide +kernel
theorem dX8_setRange_19 : decode cX8_setRange 19 = .ok (.iload_n 2, 1) := by decide +kernel
theorem dX8_setRange_20 : decode cX8_setRange 20 = .ok (.i2l, 1) := by decide +kernel
theorem dX8_setRange_21 : decode cX8_setRange 21 = .ok (.lconst 0, 1) := by decide +kernel
theorem dX8_setRange_22 : decode cX8_setRange 22 = .ok (.ldc2_w 51, 3) := by decide +kernel
theorem dX8_setRange_25 : decode cX8_setRange 25 = .ok (.invokestatic 41, 3) := by decide +kernel
theorem dX8_setRange_28 : decode cX8_setRange 28 = .ok (.ifCond .ne 9, 3) := by decide +kernel
theorem dX8_setRange_31 : decode cX8_setRange 31 = .ok (.aload_n 0, 1) := by decide +kernel
theorem dX8_setRange_32 : decode cX8_setRange 32 = .ok (.iconst 2, 1) := by decide +kernel
theorem dX8_setRange_33 : decode cX8_setRange 33 = .ok (.invokevirtual 57, 3) := by decide +kernel
theorem dX8_setRange_36 : decode cX8_setRange 36 = .ok (.ireturn, 1) := by decide +kernel
theorem dX8_setRange_37 : decode cX8_setRange 37 = .ok (.aload_n 0, 1) := by decide +kernel
theorem dX8_setRange_38 : decode cX8_setRange 38 = .ok (.getfield 9, 3) := by decide +kernel
theorem dX8_setRange_41 : decode cX8_setRange 41 = .ok (.iload_n 1, 1) := by decide +kernel
theorem dX8_setRange_42 : decode cX8_setRange 42 = .ok (.iaload, 1) := by decide +kernel
theorem dX8_setRange_43 : decode cX8_setRange 43 = .ok (.istore_n 3, 1) := by decide +kernel
theorem dX8_setRange_44 : decode cX8_setRange 44 = .ok (.aload_n 0, 1) := by decide +kernel
theorem dX8_setRange_45 : decode cX8_setRange 45 = .ok (.getfield 9, 3) := by decide +kernel
theorem dX8_setRange_48 : decode cX8_setRange 48 = .ok (.iload_n 1, 1) := by decide +kernel
theorem dX8_setRange_49 : decode cX8_setRange 49 = .ok (.iload_n 2, 1) := by decide +kernel
theorem dX8_setRange_50 : decode cX8_setRange 50 = .ok (.iastore, 1) := by decide +kernel
theorem dX8_setRange_51 : decode cX8_setRange 51 = .ok (.aload_n 0, 1) := by decide +kernel
theorem dX8_setRange_52 : decode cX8_setRange 52 = .ok (.iconst 0, 1) := by decide +kernel
theorem dX8_setRange_53 : decode cX8_setRange 53 = .ok (.putfield 61, 3) := by decide +kernel
theorem dX8_setRange_56 : decode cX8_setRange 56 = .ok (.iload_n 3, 1) := by decide +kernel
theorem dX8_setRange_57 : decode cX8_setRange 57 = .ok (.ireturn, 1) := by decide +kernel
theorem dX8_setLevel_0 : decode cX8_setLevel 0 = .ok (.aload_n 0, 1) := by decide +kernel
theorem dX8_setLevel_1 : decode cX8_setLevel 1 = .ok (.iconst 0, 1) := by decide +kernel
theorem dX8_setLevel_2 : decode cX8_setLevel 2 = .ok (.putfield 35, 3) := by decide +kernel
theorem dX8_setLevel_5 : decode cX8_setLevel 5 = .ok (.iload_n 1, 1) := by decide +kernel
theorem dX8_setLevel_6 : decode cX8_setLevel 6 = .ok (.i2l, 1) := by decide +kernel
theorem dX8_setLevel_7 : decode cX8_setLevel 7 = .ok (.ldc2_w 69, 3) := by decide +kernel
theorem dX8_setLevel_10 : decode cX8_setLevel 10 = .ok (.ldc2_w 71, 3) := by decide +kernel
theorem dX8_setLevel_13 : decode cX8_setLevel 13 = .ok (.invokestatic 41, 3) := by decide +kernel
theorem dX8_setLevel_16 : decode cX8_setLevel 16 = .ok (.ifCond .ne 9, 3) := by decide +kernel
theorem dX8_setLevel_19 : decode cX8_setLevel 19 = .ok (.aload_n 0, 1) := by decide +kernel
theorem dX8_setLevel_20 : decode cX8_setLevel 20 = .ok (.iconst 1, 1) := by decide +kernel
theorem dX8_setLevel_21 : decode cX8_setLevel 21 = .ok (.invokevirtual 57, 3) := by decide +kernel
end
section
theorem dX8_setLevel_24 : decode cX8_setLevel 24 = .ok (.ireturn, 1) := by decide +kernel
theorem dX8_setLevel_25 : decode cX8_setLevel 25 = .ok (.aload_n 0, 1) := by decide +kernel
theorem dX8_setLevel_26 : decode cX8_setLevel 26 = .ok (.getfield 73, 3) := by decide +kernel
theorem dX8_setLevel_29 : decode cX8_setLevel 29 = .ok (.istore_n 2, 1) := by decide +kernel
theorem dX8_setLevel_30 : decode cX8_setLevel 30 = .ok (.aload_n 0, 1) := by decide +kernel
theorem dX8_setLevel_31 : decode cX8_setLevel 31 = .ok (.iload_n 1, 1) := by decide +kernel
theorem dX8_setLevel_32 : decode cX8_setLevel 32 = .ok (.putfield 73, 3) := by decide +kernel
theorem dX8_setLevel_35 : decode cX8_setLevel 35 = .ok (.aload_n 0, 1) := by decide +kernel
theorem dX8_setLevel_36 : decode cX8_setLevel 36 = .ok (.iconst 0, 1) := by decide +kernel
theorem dX8_setLevel_37 : decode cX8_setLevel 37 = .ok (.putfield 61, 3) := by decide +kernel
theorem dX8_setLevel_40 : decode cX8_setLevel 40 = .ok (.iload_n 2, 1) := by decide +kernel
theorem dX8_setLevel_41 : decode cX8_setLevel 41 = .ok (.ireturn, 1) := by decide +kernel
theorem dX8_waveAt_0 : decode cX8_waveAt 0 = .ok (.aload_n 0, 1) := by decide +kernel
theorem dX8_waveAt_1 : decode cX8_waveAt 1 = .ok (.getfield 13, 3) := by decide +kernel
theorem dX8_waveAt_4 : decode cX8_waveAt 4 = .ok (.iload_n 1, 1) := by decide +kernel
theorem dX8_waveAt_5 : decode cX8_waveAt 5 = .ok (.iaload, 1) := by decide +kernel
theorem dX8_waveAt_6 : decode cX8_waveAt 6 = .ok (.i2l, 1) := by decide +kernel
theorem dX8_waveAt_7 : decode cX8_waveAt 7 = .ok (.lstore_n 3, 1) := by decide +kernel
theorem dX8_waveAt_8 : decode cX8_waveAt 8 = .ok (.ldc2_w 76, 3) := by decide +kernel
theorem dX8_waveAt_11 : decode cX8_waveAt 11 = .ok (.iload_n 2, 1) := by decide +kernel
theorem dX8_waveAt_12 : decode cX8_waveAt 12 = .ok (.aload_n 0, 1) := by decide +kernel
theorem dX8_waveAt_13 : decode cX8_waveAt 13 = .ok (.getfield 16, 3) := by decide +kernel
theorem dX8_waveAt_16 : decode cX8_waveAt 16 = .ok (.iload_n 1, 1) := by decide +kernel
theorem dX8_waveAt_17 : decode cX8_waveAt 17 = .ok (.iaload, 1) := by decide +kernel
theorem dX8_waveAt_18 : decode cX8_waveAt 18 = .ok (.iadd, 1) := by decide +kernel
theorem dX8_waveAt_19 : decode cX8_waveAt 19 = .ok (.i2l, 1) := by decide +kernel
theorem dX8_waveAt_20 : decode cX8_waveAt 20 = .ok (.lload_n 3, 1) := by decide +kernel
theorem dX8_waveAt_21 : decode cX8_waveAt 21 = .ok (.lrem, 1) := by decide +kernel
theorem dX8_waveAt_22 : decode cX8_waveAt 22 = .ok (.lmul, 1) := by decide +kernel
theorem dX8_waveAt_23 : decode cX8_waveAt 23 = .ok (.lstore 5, 2) := by decide +kernel
theorem dX8_waveAt_25 : decode cX8_waveAt 25 = .ok (.lload 5, 2) := by decide +kernel
theorem dX8_waveAt_27 : decode cX8_waveAt 27 = .ok (.lload_n 3, 1) := by decide +kernel
theorem dX8_waveAt_28 : decode cX8_waveAt 28 = .ok (.lcmp, 1) := by decide +kernel
theorem dX8_waveAt_29 : decode cX8_waveAt 29 = .ok (.ifCond .ge 7, 3) := by decide +kernel
theorem dX8_waveAt_32 : decode cX8_waveAt 32 = .ok (.iconst 1, 1) := by decide +kernel
theorem dX8_waveAt_33 : decode cX8_waveAt 33 = .ok (.goto 4, 3) := by decide +kernel
theorem dX8_waveAt_36 : decode cX8_waveAt 36 = .ok (.iconst 0, 1) := by decide +kernel
theorem dX8_waveAt_37 : decode cX8_waveAt 37 = .ok (.istore 7, 2) := by decide +kernel
theorem dX8_waveAt_39 : decode cX8_waveAt 39 = .ok (.iload 7, 2) := by decide +kernel
theorem dX8_waveAt_41 : decode cX8_waveAt 41 = .ok (.ifCond .ne 9, 3) := by decide +kernel
theorem dX8_waveAt_44 : decode cX8_waveAt 44 = .ok (.lload 5, 2) := by decide +kernel
theorem dX8_waveAt_46 : decode cX8_waveAt 46 = .ok (.lload_n 3, 1) := by decide +kernel
theorem dX8_waveAt_47 : decode cX8_waveAt 47 = .ok (.lsub, 1) := by decide +kernel
theorem dX8_waveAt_48 : decode cX8_waveAt 48 = .ok (.lstore 5, 2) := by decide +kernel
theorem dX8_waveAt_50 : decode cX8_waveAt 50 = .ok (.ldc2_w 78, 3) := by decide +kernel
theorem dX8_waveAt_53 : decode cX8_waveAt 53 = .ok (.aload_n 0, 1) := by decide +kernel
theorem dX8_waveAt_54 : decode cX8_waveAt 54 = .ok (.getfield 9, 3) := by decide +kernel
theorem dX8_waveAt_57 : decode cX8_waveAt 57 = .ok (.iload_n 1, 1) := by decide +kernel
theorem dX8_waveAt_58 : decode cX8_waveAt 58 = .ok (.iaload, 1) := by decide +kernel
theorem dX8_waveAt_59 : decode cX8_waveAt 59 = .ok (.i2l, 1) := by decide +kernel
theorem dX8_waveAt_60 : decode cX8_waveAt 60 = .ok (.lmul, 1) := by decide +kernel
theorem dX8_waveAt_61 : decode cX8_waveAt 61 = .ok (.lload 5, 2) := by decide +kernel
theorem dX8_waveAt_63 : decode cX8_waveAt 63 = .ok (.lmul, 1) := by decide +kernel
theorem dX8_waveAt_64 : decode cX8_waveAt 64 = .ok (.lload_n 3, 1) := by decide +kernel
theorem dX8_waveAt_65 : decode cX8_waveAt 65 = .ok (.lload 5, 2) := by decide +kernel
theorem dX8_waveAt_67 : decode cX8_waveAt 67 = .ok (.lsub, 1) := by decide +kernel
theorem dX8_waveAt_68 : decode cX8_waveAt 68 = .ok (.lmul, 1) := by decide +kernel
theorem dX8_waveAt_69 : decode cX8_waveAt 69 = .ok (.lload_n 3, 1) := by decide +kernel
theorem dX8_waveAt_70 : decode cX8_waveAt 70 = .ok (.lload_n 3, 1) := by decide +kernel
theorem dX8_waveAt_71 : decode cX8_waveAt 71 = .ok (.lmul, 1) := by decide +kernel
theorem dX8_waveAt_72 : decode cX8_waveAt 72 = .ok (.ldiv, 1) := by decide +kernel
theorem dX8_waveAt_73 : decode cX8_waveAt 73 = .ok (.lstore 8, 2) := by decide +kernel
theorem dX8_waveAt_75 : decode cX8_waveAt 75 = .ok (.iload 7, 2) := by decide +kernel
theorem dX8_waveAt_77 : decode cX8_waveAt 77 = .ok (.ifCond .eq 8, 3) := by decide +kernel
theorem dX8_waveAt_80 : decode cX8_waveAt 80 = .ok (.lload 8, 2) := by decide +kernel
theorem dX8_waveAt_82 : decode cX8_waveAt 82 = .ok (.goto 6, 3) := by decide +kernel
theorem dX8_waveAt_85 : decode cX8_waveAt 85 = .ok (.lload 8, 2) := by decide +kernel
theorem dX8_waveAt_87 : decode cX8_waveAt 87 = .ok (.lneg, 1) := by decide +kernel
theorem dX8_waveAt_88 : decode cX8_waveAt 88 = .ok (.lreturn, 1) := by decide +kernel
theorem dX8_find_0 : decode cX8_find 0 = .ok (.aload_n 0, 1) := by decide +kernel
theorem dX8_find_1 : decode cX8_find 1 = .ok (.getfield 61, 3) := by decide +kernel
theorem dX8_find_4 : decode cX8_find 4 = .ok (.ifCond .eq 4, 3) := by decide +kernel
theorem dX8_find_7 : decode cX8_find 7 = .ok (.return_, 1) := by decide +kernel
theorem dX8_find_8 : decode cX8_find 8 = .ok (.aload_n 0, 1) := by decide +kernel
theorem dX8_find_9 : decode cX8_find 9 = .ok (.iconst 1, 1) := by decide +kernel
theorem dX8_find_10 : decode cX8_find 10 = .ok (.putfield 61, 3) := by decide +kernel
theorem dX8_find_13 : decode cX8_find 13 = .ok (.iconst 0, 1) := by decide +kernel
theorem dX8_find_14 : decode cX8_find 14 = .ok (.istore_n 1, 1) := by decide +kernel
theorem dX8_find_15 : decode cX8_find 15 = .ok (.iload_n 1, 1) := by decide +kernel
theorem dX8_find_16 : decode cX8_find 16 = .ok (.sipush 4320, 3) := by decide +kernel
theorem dX8_find_19 : decode cX8_find 19 = .ok (.if_icmp .ge 51, 3) := by decide +kernel
theorem dX8_find_22 : decode cX8_find 22 = .ok (.aload_n 0, 1) := by decide +kernel
theorem dX8_find_23 : decode cX8_find 23 = .ok (.getfield 28, 3) := by decide +kernel
theorem dX8_find_26 : decode cX8_find 26 = .ok (.iload_n 1, 1) := by decide +kernel
theorem dX8_find_27 : decode cX8_find 27 = .ok (.aload_n 0, 1) := by decide +kernel
theorem dX8_find_28 : decode cX8_find 28 = .ok (.getfield 73, 3) := by decide +kernel
theorem dX8_find_31 : decode cX8_find 31 = .ok (.i2l, 1) := by decide +kernel
theorem dX8_find_32 : decode cX8_find 32 = .ok (.lastore, 1) := by decide +kernel
theorem dX8_find_33 : decode cX8_find 33 = .ok (.iconst 0, 1) := by decide +kernel
theorem dX8_find_34 : decode cX8_find 34 = .ok (.istore_n 2, 1) := by decide +kernel
theorem dX8_find_35 : decode cX8_find 35 = .ok (.iload_n 2, 1) := by decide +kernel
theorem dX8_find_36 : decode cX8_find 36 = .ok (.aload_n 0, 1) := by decide +kernel
theorem dX8_find_37 : decode cX8_find 37 = .ok (.getfield 45, 3) := by decide +kernel
theorem dX8_find_40 : decode cX8_find 40 = .ok (.if_icmp .ge 24, 3) := by decide +kernel
theorem dX8_find_43 : decode cX8_find 43 = .ok (.aload_n 0, 1) := by decide +kernel
theorem dX8_find_44 : decode cX8_find 44 = .ok (.getfield 28, 3) := by decide +kernel
theorem dX8_find_47 : decode cX8_find 47 = .ok (.iload_n 1, 1) := by decide +kernel
theorem dX8_find_48 : decode cX8_find 48 = .ok (.dup2, 1) := by decide +kernel
theorem dX8_find_49 : decode cX8_find 49 = .ok (.laload, 1) := by decide +kernel
theorem dX8_find_50 : decode cX8_find 50 = .ok (.aload_n 0, 1) := by decide +kernel
theorem dX8_find_51 : decode cX8_find 51 = .ok (.iload_n 2, 1) := by decide +kernel
theorem dX8_find_52 : decode cX8_find 52 = .ok (.iload_n 1, 1) := by decide +kernel
theorem dX8_find_53 : decode cX8_find 53 = .ok (.invokevirtual 80, 3) := by decide +kernel
theorem dX8_find_56 : decode cX8_find 56 = .ok (.ladd, 1) := by decide +kernel
theorem dX8_find_57 : decode cX8_find 57 = .ok (.lastore, 1) := by decide +kernel
theorem dX8_find_58 : decode cX8_find 58 = .ok (.iinc 2 1, 3) := by decide +kernel
theorem dX8_find_61 : decode cX8_find 61 = .ok (.goto (-26), 3) := by decide +kernel
theorem dX8_find_64 : decode cX8_find 64 = .ok (.iinc 1 1, 3) := by decide +kernel
theorem dX8_find_67 : decode cX8_find 67 = .ok (.goto (-52), 3) := by decide +kernel
theorem dX8_find_70 : decode cX8_find 70 = .ok (.aload_n 0, 1) := by decide +kernel
theorem dX8_find_71 : decode cX8_find 71 = .ok (.iconst 0, 1) := by decide +kernel
theorem dX8_find_72 : decode cX8_find 72 = .ok (.putfield 84, 3) := by decide +kernel
theorem dX8_find_75 : decode cX8_find 75 = .ok (.iconst 1, 1) := by decide +kernel
theorem dX8_find_76 : decode cX8_find 76 = .ok (.istore_n 1, 1) := by decide +kernel
theorem dX8_find_77 : decode cX8_find 77 = .ok (.iload_n 1, 1) := by decide +kernel
theorem dX8_find_78 : decode cX8_find 78 = .ok (.sipush 4319, 3) := by decide +kernel
theorem dX8_find_81 : decode cX8_find 81 = .ok (.if_icmp .ge 163, 3) := by decide +kernel
theorem dX8_find_84 : decode cX8_find 84 = .ok (.iload_n 1, 1) := by decide +kernel
theorem dX8_find_85 : decode cX8_find 85 = .ok (.iconst 1, 1) := by decide +kernel
theorem dX8_find_86 : decode cX8_find 86 = .ok (.iadd, 1) := by decide +kernel
theorem dX8_find_87 : decode cX8_find 87 = .ok (.istore_n 2, 1) := by decide +kernel
theorem dX8_find_88 : decode cX8_find 88 = .ok (.iload_n 2, 1) := by decide +kernel
theorem dX8_find_89 : decode cX8_find 89 = .ok (.sipush 4320, 3) := by decide +kernel
theorem dX8_find_92 : decode cX8_find 92 = .ok (.if_icmp .ge 25, 3) := by decide +kernel
theorem dX8_find_95 : decode cX8_find 95 = .ok (.aload_n 0, 1) := by decide +kernel
theorem dX8_find_96 : decode cX8_find 96 = .ok (.getfield 28, 3) := by decide +kernel
theorem dX8_find_99 : decode cX8_find 99 = .ok (.iload_n 2, 1) := by decide +kernel
theorem dX8_find_100 : decode cX8_find 100 = .ok (.laload, 1) := by decide +kernel
theorem dX8_find_101 : decode cX8_find 101 = .ok (.aload_n 0, 1) := by decide +kernel
theorem dX8_find_102 : decode cX8_find 102 = .ok (.getfield 28, 3) := by decide +kernel
theorem dX8_find_105 : decode cX8_find 105 = .ok (.iload_n 1, 1) := by decide +kernel
theorem dX8_find_106 : decode cX8_find 106 = .ok (.laload, 1) := by decide +kernel
theorem dX8_find_107 : decode cX8_find 107 = .ok (.lcmp, 1) := by decide +kernel
theorem dX8_find_108 : decode cX8_find 108 = .ok (.ifCond .ne 9, 3) := by decide +kernel
theorem dX8_find_111 : decode cX8_find 111 = .ok (.iinc 2 1, 3) := by decide +kernel
theorem dX8_find_114 : decode cX8_find 114 = .ok (.goto (-26), 3) := by decide +kernel
theorem dX8_find_117 : decode cX8_find 117 = .ok (.iload_n 2, 1) := by decide +kernel
theorem dX8_find_118 : decode cX8_find 118 = .ok (.sipush 4320, 3) := by decide +kernel
theorem dX8_find_121 : decode cX8_find 121 = .ok (.if_icmp .ne 4, 3) := by decide +kernel
theorem dX8_find_124 : decode cX8_find 124 = .ok (.return_, 1) := by decide +kernel
theorem dX8_find_125 : decode cX8_find 125 = .ok (.aload_n 0, 1) := by decide +kernel
theorem dX8_find_126 : decode cX8_find 126 = .ok (.getfield 28, 3) := by decide +kernel
theorem dX8_find_129 : decode cX8_find 129 = .ok (.iload_n 1, 1) := by decide +kernel
theorem dX8_find_130 : decode cX8_find 130 = .ok (.laload, 1) := by decide +kernel
theorem dX8_find_131 : decode cX8_find 131 = .ok (.aload_n 0, 1) := by decide +kernel
theorem dX8_find_132 : decode cX8_find 132 = .ok (.getfield 28, 3) := by decide +kernel
theorem dX8_find_135 : decode cX8_find 135 = .ok (.iload_n 1, 1) := by decide +kernel
theorem dX8_find_136 : decode cX8_find 136 = .ok (.iconst 1, 1) := by decide +kernel
theorem dX8_find_137 : decode cX8_find 137 = .ok (.isub, 1) := by decide +kernel
theorem dX8_find_138 : decode cX8_find 138 = .ok (.laload, 1) := by decide +kernel
theorem dX8_find_139 : decode cX8_find 139 = .ok (.lcmp, 1) := by decide +kernel
theorem dX8_find_140 : decode cX8_find 140 = .ok (.ifCond .le 23, 3) := by decide +kernel
theorem dX8_find_143 : decode cX8_find 143 = .ok (.aload_n 0, 1) := by decide +kernel
theorem dX8_find_144 : decode cX8_find 144 = .ok (.getfield 28, 3) := by decide +kernel
theorem dX8_find_147 : decode cX8_find 147 = .ok (.iload_n 2, 1) := by decide +kernel
theorem dX8_find_148 : decode cX8_find 148 = .ok (.laload, 1) := by decide +kernel
theorem dX8_find_149 : decode cX8_find 149 = .ok (.aload_n 0, 1) := by decide +kernel
theorem dX8_find_150 : decode cX8_find 150 = .ok (.getfield 28, 3) := by decide +kernel
theorem dX8_find_153 : decode cX8_find 153 = .ok (.iload_n 1, 1) := by decide +kernel
theorem dX8_find_154 : decode cX8_find 154 = .ok (.laload, 1) := by decide +kernel
theorem dX8_find_155 : decode cX8_find 155 = .ok (.lcmp, 1) := by decide +kernel
theorem dX8_find_156 : decode cX8_find 156 = .ok (.ifCond .ge 7, 3) := by decide +kernel
theorem dX8_find_159 : decode cX8_find 159 = .ok (.iconst 1, 1) := by decide +kernel
theorem dX8_find_160 : decode cX8_find 160 = .ok (.goto 4, 3) := by decide +kernel
theorem dX8_find_163 : decode cX8_find 163 = .ok (.iconst 0, 1) := by decide +kernel
theorem dX8_find_164 : decode cX8_find 164 = .ok (.istore_n 3, 1) := by decide +kernel
theorem dX8_find_165 : decode cX8_find 165 = .ok (.aload_n 0, 1) := by decide +kernel
theorem dX8_find_166 : decode cX8_find 166 = .ok (.getfield 28, 3) := by decide +kernel
theorem dX8_find_169 : decode cX8_find 169 = .ok (.iload_n 1, 1) := by decide +kernel
theorem dX8_find_170 : decode cX8_find 170 = .ok (.laload, 1) := by decide +kernel
theorem dX8_find_171 : decode cX8_find 171 = .ok (.aload_n 0, 1) := by decide +kernel
theorem dX8_find_172 : decode cX8_find 172 = .ok (.getfield 28, 3) := by decide +kernel
theorem dX8_find_175 : decode cX8_find 175 = .ok (.iload_n 1, 1) := by decide +kernel
theorem dX8_find_176 : decode cX8_find 176 = .ok (.iconst 1, 1) := by decide +kernel
theorem dX8_find_177 : decode cX8_find 177 = .ok (.isub, 1) := by decide +kernel
theorem dX8_find_178 : decode cX8_find 178 = .ok (.laload, 1) := by decide +kernel
theorem dX8_find_179 : decode cX8_find 179 = .ok (.lcmp, 1) := by decide +kernel
theorem dX8_find_180 : decode cX8_find 180 = .ok (.ifCond .ge 23, 3) := by decide +kernel
theorem dX8_find_183 : decode cX8_find 183 = .ok (.aload_n 0, 1) := by decide +kernel
theorem dX8_find_184 : decode cX8_find 184 = .ok (.getfield 28, 3) := by decide +kernel
theorem dX8_find_187 : decode cX8_find 187 = .ok (.iload_n 2, 1) := by decide +kernel
theorem dX8_find_188 : decode cX8_find 188 = .ok (.laload, 1) := by decide +kernel
theorem dX8_find_189 : decode cX8_find 189 = .ok (.aload_n 0, 1) := by decide +kernel
theorem dX8_find_190 : decode cX8_find 190 = .ok (.getfield 28, 3) := by decide +kernel
theorem dX8_find_193 : decode cX8_find 193 = .ok (.iload_n 1, 1) := by decide +kernel
theorem dX8_find_194 : decode cX8_find 194 = .ok (.laload, 1) := by decide +kernel
theorem dX8_find_195 : decode cX8_find 195 = .ok (.lcmp, 1) := by decide +kernel
theorem dX8_find_196 : decode cX8_find 196 = .ok (.ifCond .le 7, 3) := by decide +kernel
theorem dX8_find_199 : decode cX8_find 199 = .ok (.iconst 1, 1) := by decide +kernel
theorem dX8_find_200 : decode cX8_find 200 = .ok (.goto 4, 3) := by decide +kernel
theorem dX8_find_203 : decode cX8_find 203 = .ok (.iconst 0, 1) := by decide +kernel
theorem dX8_find_204 : decode cX8_find 204 = .ok (.istore 4, 2) := by decide +kernel
theorem dX8_find_206 : decode cX8_find 206 = .ok (.iload_n 3, 1) := by decide +kernel
theorem dX8_find_207 : decode cX8_find 207 = .ok (.ifCond .ne 11, 3) := by decide +kernel
theorem dX8_find_210 : decode cX8_find 210 = .ok (.iload 4, 2) := by decide +kernel
theorem dX8_find_212 : decode cX8_find 212 = .ok (.ifCond .ne 6, 3) := by decide +kernel
theorem dX8_find_215 : decode cX8_find 215 = .ok (.goto 23, 3) := by decide +kernel
theorem dX8_find_218 : decode cX8_find 218 = .ok (.aload_n 0, 1) := by decide +kernel
theorem dX8_find_219 : decode cX8_find 219 = .ok (.getfield 32, 3) := by decide +kernel
theorem dX8_find_222 : decode cX8_find 222 = .ok (.aload_n 0, 1) := by decide +kernel
theorem dX8_find_223 : decode cX8_find 223 = .ok (.getfield 84, 3) := by decide +kernel
theorem dX8_find_226 : decode cX8_find 226 = .ok (.iload_n 1, 1) := by decide +kernel
theorem dX8_find_227 : decode cX8_find 227 = .ok (.iastore, 1) := by decide +kernel
theorem dX8_find_228 : decode cX8_find 228 = .ok (.aload_n 0, 1) := by decide +kernel
theorem dX8_find_229 : decode cX8_find 229 = .ok (.dup, 1) := by decide +kernel
theorem dX8_find_230 : decode cX8_find 230 = .ok (.getfield 84, 3) := by decide +kernel
theorem dX8_find_233 : decode cX8_find 233 = .ok (.iconst 1, 1) := by decide +kernel
theorem dX8_find_234 : decode cX8_find 234 = .ok (.iadd, 1) := by decide +kernel
theorem dX8_find_235 : decode cX8_find 235 = .ok (.putfield 84, 3) := by decide +kernel
theorem dX8_find_238 : decode cX8_find 238 = .ok (.iinc 1 1, 3) := by decide +kernel
theorem dX8_find_241 : decode cX8_find 241 = .ok (.goto (-164), 3) := by decide +kernel
theorem dX8_find_244 : decode cX8_find 244 = .ok (.return_, 1) := by decide +kernel
theorem dX8_isHigh_0 : decode cX8_isHigh 0 = .ok (.aload_n 0, 1) := by decide +kernel
theorem dX8_isHigh_1 : decode cX8_isHigh 1 = .ok (.getfield 28, 3) := by decide +kernel
theorem dX8_isHigh_4 : decode cX8_isHigh 4 = .ok (.aload_n 0, 1) := by decide +kernel
theorem dX8_isHigh_5 : decode cX8_isHigh 5 = .ok (.getfield 32, 3) := by decide +kernel
theorem dX8_isHigh_8 : decode cX8_isHigh 8 = .ok (.iload_n 1, 1) := by decide +kernel
theorem dX8_isHigh_9 : decode cX8_isHigh 9 = .ok (.iaload, 1) := by decide +kernel
theorem dX8_isHigh_10 : decode cX8_isHigh 10 = .ok (.laload, 1) := by decide +kernel
theorem dX8_isHigh_11 : decode cX8_isHigh 11 = .ok (.aload_n 0, 1) := by decide +kernel
theorem dX8_isHigh_12 : decode cX8_isHigh 12 = .ok (.getfield 28, 3) := by decide +kernel
theorem dX8_isHigh_15 : decode cX8_isHigh 15 = .ok (.aload_n 0, 1) := by decide +kernel
theorem dX8_isHigh_16 : decode cX8_isHigh 16 = .ok (.getfield 32, 3) := by decide +kernel
theorem dX8_isHigh_19 : decode cX8_isHigh 19 = .ok (.iload_n 1, 1) := by decide +kernel
theorem dX8_isHigh_20 : decode cX8_isHigh 20 = .ok (.iaload, 1) := by decide +kernel
theorem dX8_isHigh_21 : decode cX8_isHigh 21 = .ok (.iconst 1, 1) := by decide +kernel
theorem dX8_isHigh_22 : decode cX8_isHigh 22 = .ok (.isub, 1) := by decide +kernel
theorem dX8_isHigh_23 : decode cX8_isHigh 23 = .ok (.laload, 1) := by decide +kernel
theorem dX8_isHigh_24 : decode cX8_isHigh 24 = .ok (.lcmp, 1) := by decide +kernel
theorem dX8_isHigh_25 : decode cX8_isHigh 25 = .ok (.ifCond .le 7, 3) := by decide +kernel
theorem dX8_isHigh_28 : decode cX8_isHigh 28 = .ok (.iconst 1, 1) := by decide +kernel
theorem dX8_isHigh_29 : decode cX8_isHigh 29 = .ok (.goto 4, 3) := by decide +kernel
theorem dX8_isHigh_32 : decode cX8_isHigh 32 = .ok (.iconst 0, 1) := by decide +kernel
theorem dX8_isHigh_33 : decode cX8_isHigh 33 = .ok (.ireturn, 1) := by decide +kernel
theorem dX8_height_0 : decode cX8_height 0 = .ok (.aload_n 0, 1) := by decide +kernel
theorem dX8_height_1 : decode cX8_height 1 = .ok (.iconst 0, 1) := by decide +kernel
theorem dX8_height_2 : decode cX8_height 2 = .ok (.putfield 35, 3) := by decide +kernel
theorem dX8_height_5 : decode cX8_height 5 = .ok (.iload_n 1, 1) := by decide +kernel
theorem dX8_height_6 : decode cX8_height 6 = .ok (.invokestatic 87, 3) := by decide +kernel
theorem dX8_height_9 : decode cX8_height 9 = .ok (.ifCond .ne 9, 3) := by decide +kernel
theorem dX8_height_12 : decode cX8_height 12 = .ok (.aload_n 0, 1) := by decide +kernel
theorem dX8_height_13 : decode cX8_height 13 = .ok (.iconst 1, 1) := by decide +kernel
theorem dX8_height_14 : decode cX8_height 14 = .ok (.invokevirtual 57, 3) := by decide +kernel
theorem dX8_height_17 : decode cX8_height 17 = .ok (.ireturn, 1) := by decide +kernel
theorem dX8_height_18 : decode cX8_height 18 = .ok (.aload_n 0, 1) := by decide +kernel
theorem dX8_height_19 : decode cX8_height 19 = .ok (.invokevirtual 90, 3) := by decide +kernel
theorem dX8_height_22 : decode cX8_height 22 = .ok (.aload_n 0, 1) := by decide +kernel
theorem dX8_height_23 : decode cX8_height 23 = .ok (.getfield 28, 3) := by decide +kernel
theorem dX8_height_26 : decode cX8_height 26 = .ok (.iload_n 1, 1) := by decide +kernel
theorem dX8_height_27 : decode cX8_height 27 = .ok (.laload, 1) := by decide +kernel
theorem dX8_height_28 : decode cX8_height 28 = .ok (.l2i, 1) := by decide +kernel
theorem dX8_height_29 : decode cX8_height 29 = .ok (.ireturn, 1) := by decide +kernel
theorem dX8_waveHeight_0 : decode cX8_waveHeight 0 = .ok (.aload_n 0, 1) := by decide +kernel
theorem dX8_waveHeight_1 : decode cX8_waveHeight 1 = .ok (.iconst 0, 1) := by decide +kernel
theorem dX8_waveHeight_2 : decode cX8_waveHeight 2 = .ok (.putfield 35, 3) := by decide +kernel
theorem dX8_waveHeight_5 : decode cX8_waveHeight 5 = .ok (.aload_n 0, 1) := by decide +kernel
theorem dX8_waveHeight_6 : decode cX8_waveHeight 6 = .ok (.iload_n 1, 1) := by decide +kernel
theorem dX8_waveHeight_7 : decode cX8_waveHeight 7 = .ok (.invokevirtual 65, 3) := by decide +kernel
theorem dX8_waveHeight_10 : decode cX8_waveHeight 10 = .ok (.ifCond .ne 9, 3) := by decide +kernel
theorem dX8_waveHeight_13 : decode cX8_waveHeight 13 = .ok (.aload_n 0, 1) := by decide +kernel
theorem dX8_waveHeight_14 : decode cX8_waveHeight 14 = .ok (.iconst 1, 1) := by decide +kernel
theorem dX8_waveHeight_15 : decode cX8_waveHeight 15 = .ok (.invokevirtual 57, 3) := by decide +kernel
theorem dX8_waveHeight_18 : decode cX8_waveHeight 18 = .ok (.ireturn, 1) := by decide +kernel
theorem dX8_waveHeight_19 : decode cX8_waveHeight 19 = .ok (.iload_n 2, 1) := by decide +kernel
theorem dX8_waveHeight_20 : decode cX8_waveHeight 20 = .ok (.invokestatic 87, 3) := by decide +kernel
theorem dX8_waveHeight_23 : decode cX8_waveHeight 23 = .ok (.ifCond .eq 13, 3) := by decide +kernel
theorem dX8_waveHeight_26 : decode cX8_waveHeight 26 = .ok (.aload_n 0, 1) := by decide +kernel
theorem dX8_waveHeight_27 : decode cX8_waveHeight 27 = .ok (.iload_n 1, 1) := by decide +kernel
theorem dX8_waveHeight_28 : decode cX8_waveHeight 28 = .ok (.iload_n 2, 1) := by decide +kernel
theorem dX8_waveHeight_29 : decode cX8_waveHeight 29 = .ok (.invokevirtual 80, 3) := by decide +kernel
theorem dX8_waveHeight_32 : decode cX8_waveHeight 32 = .ok (.l2i, 1) := by decide +kernel
theorem dX8_waveHeight_33 : decode cX8_waveHeight 33 = .ok (.goto 8, 3) := by decide +kernel
theorem dX8_waveHeight_36 : decode cX8_waveHeight 36 = .ok (.aload_n 0, 1) := by decide +kernel
theorem dX8_waveHeight_37 : decode cX8_waveHeight 37 = .ok (.iconst 2, 1) := by decide +kernel
theorem dX8_waveHeight_38 : decode cX8_waveHeight 38 = .ok (.invokevirtual 57, 3) := by decide +kernel
theorem dX8_waveHeight_41 : decode cX8_waveHeight 41 = .ok (.ireturn, 1) := by decide +kernel
theorem dX8_counted_0 : decode cX8_counted 0 = .ok (.aload_n 0, 1) := by decide +kernel
theorem dX8_counted_1 : decode cX8_counted 1 = .ok (.invokevirtual 90, 3) := by decide +kernel
theorem dX8_counted_4 : decode cX8_counted 4 = .ok (.iload_n 1, 1) := by decide +kernel
theorem dX8_counted_5 : decode cX8_counted 5 = .ok (.ifCond .ne 10, 3) := by decide +kernel
theorem dX8_counted_8 : decode cX8_counted 8 = .ok (.aload_n 0, 1) := by decide +kernel
theorem dX8_counted_9 : decode cX8_counted 9 = .ok (.getfield 45, 3) := by decide +kernel
theorem dX8_counted_12 : decode cX8_counted 12 = .ok (.goto 31, 3) := by decide +kernel
theorem dX8_counted_15 : decode cX8_counted 15 = .ok (.iload_n 1, 1) := by decide +kernel
theorem dX8_counted_16 : decode cX8_counted 16 = .ok (.iconst 1, 1) := by decide +kernel
theorem dX8_counted_17 : decode cX8_counted 17 = .ok (.if_icmp .ne 10, 3) := by decide +kernel
theorem dX8_counted_20 : decode cX8_counted 20 = .ok (.aload_n 0, 1) := by decide +kernel
theorem dX8_counted_21 : decode cX8_counted 21 = .ok (.getfield 84, 3) := by decide +kernel
theorem dX8_counted_24 : decode cX8_counted 24 = .ok (.goto 19, 3) := by decide +kernel
theorem dX8_counted_27 : decode cX8_counted 27 = .ok (.iload_n 1, 1) := by decide +kernel
theorem dX8_counted_28 : decode cX8_counted 28 = .ok (.iconst 2, 1) := by decide +kernel
theorem dX8_counted_29 : decode cX8_counted 29 = .ok (.if_icmp .ne 10, 3) := by decide +kernel
theorem dX8_counted_32 : decode cX8_counted 32 = .ok (.aload_n 0, 1) := by decide +kernel
theorem dX8_counted_33 : decode cX8_counted 33 = .ok (.getfield 48, 3) := by decide +kernel
theorem dX8_counted_36 : decode cX8_counted 36 = .ok (.goto 7, 3) := by decide +kernel
theorem dX8_counted_39 : decode cX8_counted 39 = .ok (.aload_n 0, 1) := by decide +kernel
theorem dX8_counted_40 : decode cX8_counted 40 = .ok (.getfield 93, 3) := by decide +kernel
theorem dX8_counted_43 : decode cX8_counted 43 = .ok (.ireturn, 1) := by decide +kernel
theorem dX8_count_0 : decode cX8_count 0 = .ok (.aload_n 0, 1) := by decide +kernel
theorem dX8_count_1 : decode cX8_count 1 = .ok (.iconst 0, 1) := by decide +kernel
theorem dX8_count_2 : decode cX8_count 2 = .ok (.putfield 35, 3) := by decide +kernel
theorem dX8_count_5 : decode cX8_count 5 = .ok (.iload_n 1, 1) := by decide +kernel
theorem dX8_count_6 : decode cX8_count 6 = .ok (.i2l, 1) := by decide +kernel
theorem dX8_count_7 : decode cX8_count 7 = .ok (.lconst 0, 1) := by decide +kernel
theorem dX8_count_8 : decode cX8_count 8 = .ok (.ldc2_w 96, 3) := by decide +kernel
theorem dX8_count_11 : decode cX8_count 11 = .ok (.invokestatic 41, 3) := by decide +kernel
theorem dX8_count_14 : decode cX8_count 14 = .ok (.ifCond .eq 11, 3) := by decide +kernel
theorem dX8_count_17 : decode cX8_count 17 = .ok (.aload_n 0, 1) := by decide +kernel
theorem dX8_count_18 : decode cX8_count 18 = .ok (.iload_n 1, 1) := by decide +kernel
theorem dX8_count_19 : decode cX8_count 19 = .ok (.invokevirtual 98, 3) := by decide +kernel
theorem dX8_count_22 : decode cX8_count 22 = .ok (.goto 8, 3) := by decide +kernel
theorem dX8_count_25 : decode cX8_count 25 = .ok (.aload_n 0, 1) := by decide +kernel
theorem dX8_count_26 : decode cX8_count 26 = .ok (.iconst 1, 1) := by decide +kernel
theorem dX8_count_27 : decode cX8_count 27 = .ok (.invokevirtual 57, 3) := by decide +kernel
theorem dX8_count_30 : decode cX8_count 30 = .ok (.ireturn, 1) := by decide +kernel
theorem dX8_waterTold_0 : decode cX8_waterTold 0 = .ok (.iload_n 2, 1) := by decide +kernel
theorem dX8_waterTold_1 : decode cX8_waterTold 1 = .ok (.ifCond .ne 12, 3) := by decide +kernel
theorem dX8_waterTold_4 : decode cX8_waterTold 4 = .ok (.aload_n 0, 1) := by decide +kernel
theorem dX8_waterTold_5 : decode cX8_waterTold 5 = .ok (.getfield 32, 3) := by decide +kernel
theorem dX8_waterTold_8 : decode cX8_waterTold 8 = .ok (.iload_n 1, 1) := by decide +kernel
theorem dX8_waterTold_9 : decode cX8_waterTold 9 = .ok (.iaload, 1) := by decide +kernel
theorem dX8_waterTold_10 : decode cX8_waterTold 10 = .ok (.goto 36, 3) := by decide +kernel
theorem dX8_waterTold_13 : decode cX8_waterTold 13 = .ok (.iload_n 2, 1) := by decide +kernel
theorem dX8_waterTold_14 : decode cX8_waterTold 14 = .ok (.iconst 1, 1) := by decide +kernel
theorem dX8_waterTold_15 : decode cX8_waterTold 15 = .ok (.if_icmp .ne 18, 3) := by decide +kernel
theorem dX8_waterTold_18 : decode cX8_waterTold 18 = .ok (.aload_n 0, 1) := by decide +kernel
theorem dX8_waterTold_19 : decode cX8_waterTold 19 = .ok (.getfield 28, 3) := by decide +kernel
theorem dX8_waterTold_22 : decode cX8_waterTold 22 = .ok (.aload_n 0, 1) := by decide +kernel
theorem dX8_waterTold_23 : decode cX8_waterTold 23 = .ok (.getfield 32, 3) := by decide +kernel
theorem dX8_waterTold_26 : decode cX8_waterTold 26 = .ok (.iload_n 1, 1) := by decide +kernel
theorem dX8_waterTold_27 : decode cX8_waterTold 27 = .ok (.iaload, 1) := by decide +kernel
theorem dX8_waterTold_28 : decode cX8_waterTold 28 = .ok (.laload, 1) := by decide +kernel
theorem dX8_waterTold_29 : decode cX8_waterTold 29 = .ok (.l2i, 1) := by decide +kernel
theorem dX8_waterTold_30 : decode cX8_waterTold 30 = .ok (.goto 16, 3) := by decide +kernel
theorem dX8_waterTold_33 : decode cX8_waterTold 33 = .ok (.aload_n 0, 1) := by decide +kernel
theorem dX8_waterTold_34 : decode cX8_waterTold 34 = .ok (.iload_n 1, 1) := by decide +kernel
theorem dX8_waterTold_35 : decode cX8_waterTold 35 = .ok (.invokevirtual 101, 3) := by decide +kernel
theorem dX8_waterTold_38 : decode cX8_waterTold 38 = .ok (.ifCond .eq 7, 3) := by decide +kernel
theorem dX8_waterTold_41 : decode cX8_waterTold 41 = .ok (.iconst 1, 1) := by decide +kernel
theorem dX8_waterTold_42 : decode cX8_waterTold 42 = .ok (.goto 4, 3) := by decide +kernel
theorem dX8_waterTold_45 : decode cX8_waterTold 45 = .ok (.iconst 0, 1) := by decide +kernel
theorem dX8_waterTold_46 : decode cX8_waterTold 46 = .ok (.ireturn, 1) := by decide +kernel
theorem dX8_water_0 : decode cX8_water 0 = .ok (.aload_n 0, 1) := by decide +kernel
theorem dX8_water_1 : decode cX8_water 1 = .ok (.iconst 0, 1) := by decide +kernel
theorem dX8_water_2 : decode cX8_water 2 = .ok (.putfield 35, 3) := by decide +kernel
theorem dX8_water_5 : decode cX8_water 5 = .ok (.aload_n 0, 1) := by decide +kernel
theorem dX8_water_6 : decode cX8_water 6 = .ok (.invokevirtual 90, 3) := by decide +kernel
theorem dX8_water_9 : decode cX8_water 9 = .ok (.iload_n 1, 1) := by decide +kernel
theorem dX8_water_10 : decode cX8_water 10 = .ok (.i2l, 1) := by decide +kernel
theorem dX8_water_11 : decode cX8_water 11 = .ok (.lconst 0, 1) := by decide +kernel
theorem dX8_water_12 : decode cX8_water 12 = .ok (.aload_n 0, 1) := by decide +kernel
theorem dX8_water_13 : decode cX8_water 13 = .ok (.getfield 84, 3) := by decide +kernel
theorem dX8_water_16 : decode cX8_water 16 = .ok (.iconst 1, 1) := by decide +kernel
theorem dX8_water_17 : decode cX8_water 17 = .ok (.isub, 1) := by decide +kernel
theorem dX8_water_18 : decode cX8_water 18 = .ok (.i2l, 1) := by decide +kernel
theorem dX8_water_19 : decode cX8_water 19 = .ok (.invokestatic 41, 3) := by decide +kernel
theorem dX8_water_22 : decode cX8_water 22 = .ok (.ifCond .eq 24, 3) := by decide +kernel
theorem dX8_water_25 : decode cX8_water 25 = .ok (.iload_n 2, 1) := by decide +kernel
theorem dX8_water_26 : decode cX8_water 26 = .ok (.i2l, 1) := by decide +kernel
theorem dX8_water_27 : decode cX8_water 27 = .ok (.lconst 0, 1) := by decide +kernel
theorem dX8_water_28 : decode cX8_water 28 = .ok (.ldc2_w 76, 3) := by decide +kernel
theorem dX8_water_31 : decode cX8_water 31 = .ok (.invokestatic 41, 3) := by decide +kernel
theorem dX8_water_34 : decode cX8_water 34 = .ok (.ifCond .eq 12, 3) := by decide +kernel
theorem dX8_water_37 : decode cX8_water 37 = .ok (.aload_n 0, 1) := by decide +kernel
theorem dX8_water_38 : decode cX8_water 38 = .ok (.iload_n 1, 1) := by decide +kernel
theorem dX8_water_39 : decode cX8_water 39 = .ok (.iload_n 2, 1) := by decide +kernel
theorem dX8_water_40 : decode cX8_water 40 = .ok (.invokevirtual 104, 3) := by decide +kernel
theorem dX8_water_43 : decode cX8_water 43 = .ok (.goto 8, 3) := by decide +kernel
theorem dX8_water_46 : decode cX8_water 46 = .ok (.aload_n 0, 1) := by decide +kernel
theorem dX8_water_47 : decode cX8_water 47 = .ok (.iconst 1, 1) := by decide +kernel
theorem dX8_water_48 : decode cX8_water 48 = .ok (.invokevirtual 57, 3) := by decide +kernel
theorem dX8_water_51 : decode cX8_water 51 = .ok (.ireturn, 1) := by decide +kernel
theorem dX8_next_0 : decode cX8_next 0 = .ok (.aload_n 0, 1) := by decide +kernel
theorem dX8_next_1 : decode cX8_next 1 = .ok (.iconst 0, 1) := by decide +kernel
theorem dX8_next_2 : decode cX8_next 2 = .ok (.putfield 35, 3) := by decide +kernel
theorem dX8_next_5 : decode cX8_next 5 = .ok (.iload_n 1, 1) := by decide +kernel
theorem dX8_next_6 : decode cX8_next 6 = .ok (.invokestatic 87, 3) := by decide +kernel
theorem dX8_next_9 : decode cX8_next 9 = .ok (.ifCond .ne 9, 3) := by decide +kernel
theorem dX8_next_12 : decode cX8_next 12 = .ok (.aload_n 0, 1) := by decide +kernel
theorem dX8_next_13 : decode cX8_next 13 = .ok (.iconst 1, 1) := by decide +kernel
theorem dX8_next_14 : decode cX8_next 14 = .ok (.invokevirtual 57, 3) := by decide +kernel
theorem dX8_next_17 : decode cX8_next 17 = .ok (.ireturn, 1) := by decide +kernel
theorem dX8_next_18 : decode cX8_next 18 = .ok (.aload_n 0, 1) := by decide +kernel
theorem dX8_next_19 : decode cX8_next 19 = .ok (.invokevirtual 90, 3) := by decide +kernel
theorem dX8_next_22 : decode cX8_next 22 = .ok (.iconst 0, 1) := by decide +kernel
theorem dX8_next_23 : decode cX8_next 23 = .ok (.istore_n 3, 1) := by decide +kernel
theorem dX8_next_24 : decode cX8_next 24 = .ok (.iload_n 3, 1) := by decide +kernel
theorem dX8_next_25 : decode cX8_next 25 = .ok (.aload_n 0, 1) := by decide +kernel
theorem dX8_next_26 : decode cX8_next 26 = .ok (.getfield 84, 3) := by decide +kernel
theorem dX8_next_29 : decode cX8_next 29 = .ok (.if_icmp .ge 30, 3) := by decide +kernel
theorem dX8_next_32 : decode cX8_next 32 = .ok (.aload_n 0, 1) := by decide +kernel
theorem dX8_next_33 : decode cX8_next 33 = .ok (.getfield 32, 3) := by decide +kernel
theorem dX8_next_36 : decode cX8_next 36 = .ok (.iload_n 3, 1) := by decide +kernel
theorem dX8_next_37 : decode cX8_next 37 = .ok (.iaload, 1) := by decide +kernel
theorem dX8_next_38 : decode cX8_next 38 = .ok (.iload_n 1, 1) := by decide +kernel
theorem dX8_next_39 : decode cX8_next 39 = .ok (.if_icmp .lt 14, 3) := by decide +kernel
theorem dX8_next_42 : decode cX8_next 42 = .ok (.aload_n 0, 1) := by decide +kernel
theorem dX8_next_43 : decode cX8_next 43 = .ok (.iload_n 3, 1) := by decide +kernel
theorem dX8_next_44 : decode cX8_next 44 = .ok (.invokevirtual 101, 3) := by decide +kernel
theorem dX8_next_47 : decode cX8_next 47 = .ok (.iload_n 2, 1) := by decide +kernel
theorem dX8_next_48 : decode cX8_next 48 = .ok (.if_icmp .ne 5, 3) := by decide +kernel
theorem dX8_next_51 : decode cX8_next 51 = .ok (.iload_n 3, 1) := by decide +kernel
theorem dX8_next_52 : decode cX8_next 52 = .ok (.ireturn, 1) := by decide +kernel
theorem dX8_next_53 : decode cX8_next 53 = .ok (.iinc 3 1, 3) := by decide +kernel
theorem dX8_next_56 : decode cX8_next 56 = .ok (.goto (-32), 3) := by decide +kernel
theorem dX8_next_59 : decode cX8_next 59 = .ok (.iconst (-1), 1) := by decide +kernel
theorem dX8_next_60 : decode cX8_next 60 = .ok (.ireturn, 1) := by decide +kernel
theorem dX8_extreme_0 : decode cX8_extreme 0 = .ok (.iload_n 1, 1) := by decide +kernel
theorem dX8_extreme_1 : decode cX8_extreme 1 = .ok (.i2l, 1) := by decide +kernel
theorem dX8_extreme_2 : decode cX8_extreme 2 = .ok (.aload_n 0, 1) := by decide +kernel
theorem dX8_extreme_3 : decode cX8_extreme 3 = .ok (.getfield 28, 3) := by decide +kernel
theorem dX8_extreme_6 : decode cX8_extreme 6 = .ok (.iconst 0, 1) := by decide +kernel
theorem dX8_extreme_7 : decode cX8_extreme 7 = .ok (.laload, 1) := by decide +kernel
theorem dX8_extreme_8 : decode cX8_extreme 8 = .ok (.lmul, 1) := by decide +kernel
theorem dX8_extreme_9 : decode cX8_extreme 9 = .ok (.lstore_n 2, 1) := by decide +kernel
theorem dX8_extreme_10 : decode cX8_extreme 10 = .ok (.iconst 1, 1) := by decide +kernel
theorem dX8_extreme_11 : decode cX8_extreme 11 = .ok (.istore 4, 2) := by decide +kernel
theorem dX8_extreme_13 : decode cX8_extreme 13 = .ok (.iload 4, 2) := by decide +kernel
theorem dX8_extreme_15 : decode cX8_extreme 15 = .ok (.sipush 4320, 3) := by decide +kernel
theorem dX8_extreme_18 : decode cX8_extreme 18 = .ok (.if_icmp .ge 24, 3) := by decide +kernel
theorem dX8_extreme_21 : decode cX8_extreme 21 = .ok (.lload_n 2, 1) := by decide +kernel
theorem dX8_extreme_22 : decode cX8_extreme 22 = .ok (.iload_n 1, 1) := by decide +kernel
theorem dX8_extreme_23 : decode cX8_extreme 23 = .ok (.i2l, 1) := by decide +kernel
theorem dX8_extreme_24 : decode cX8_extreme 24 = .ok (.aload_n 0, 1) := by decide +kernel
theorem dX8_extreme_25 : decode cX8_extreme 25 = .ok (.getfield 28, 3) := by decide +kernel
theorem dX8_extreme_28 : decode cX8_extreme 28 = .ok (.iload 4, 2) := by decide +kernel
theorem dX8_extreme_30 : decode cX8_extreme 30 = .ok (.laload, 1) := by decide +kernel
theorem dX8_extreme_31 : decode cX8_extreme 31 = .ok (.lmul, 1) := by decide +kernel
theorem dX8_extreme_32 : decode cX8_extreme 32 = .ok (.invokestatic 108, 3) := by decide +kernel
theorem dX8_extreme_35 : decode cX8_extreme 35 = .ok (.lstore_n 2, 1) := by decide +kernel
theorem dX8_extreme_36 : decode cX8_extreme 36 = .ok (.iinc 4 1, 3) := by decide +kernel
theorem dX8_extreme_39 : decode cX8_extreme 39 = .ok (.goto (-26), 3) := by decide +kernel
theorem dX8_extreme_42 : decode cX8_extreme 42 = .ok (.iload_n 1, 1) := by decide +kernel
theorem dX8_extreme_43 : decode cX8_extreme 43 = .ok (.i2l, 1) := by decide +kernel
theorem dX8_extreme_44 : decode cX8_extreme 44 = .ok (.lload_n 2, 1) := by decide +kernel
theorem dX8_extreme_45 : decode cX8_extreme 45 = .ok (.lmul, 1) := by decide +kernel
theorem dX8_extreme_46 : decode cX8_extreme 46 = .ok (.lreturn, 1) := by decide +kernel
theorem dX8_mean_0 : decode cX8_mean 0 = .ok (.lconst 0, 1) := by decide +kernel
theorem dX8_mean_1 : decode cX8_mean 1 = .ok (.lstore_n 2, 1) := by decide +kernel
theorem dX8_mean_2 : decode cX8_mean 2 = .ok (.iconst 0, 1) := by decide +kernel
theorem dX8_mean_3 : decode cX8_mean 3 = .ok (.istore 4, 2) := by decide +kernel
theorem dX8_mean_5 : decode cX8_mean 5 = .ok (.iconst 0, 1) := by decide +kernel
theorem dX8_mean_6 : decode cX8_mean 6 = .ok (.istore 5, 2) := by decide +kernel
theorem dX8_mean_8 : decode cX8_mean 8 = .ok (.iload 5, 2) := by decide +kernel
theorem dX8_mean_10 : decode cX8_mean 10 = .ok (.aload_n 0, 1) := by decide +kernel
theorem dX8_mean_11 : decode cX8_mean 11 = .ok (.getfield 84, 3) := by decide +kernel
theorem dX8_mean_14 : decode cX8_mean 14 = .ok (.if_icmp .ge 40, 3) := by decide +kernel
theorem dX8_mean_17 : decode cX8_mean 17 = .ok (.aload_n 0, 1) := by decide +kernel
theorem dX8_mean_18 : decode cX8_mean 18 = .ok (.iload 5, 2) := by decide +kernel
theorem dX8_mean_20 : decode cX8_mean 20 = .ok (.invokevirtual 101, 3) := by decide +kernel
theorem dX8_mean_23 : decode cX8_mean 23 = .ok (.iload_n 1, 1) := by decide +kernel
theorem dX8_mean_24 : decode cX8_mean 24 = .ok (.if_icmp .eq 6, 3) := by decide +kernel
theorem dX8_mean_27 : decode cX8_mean 27 = .ok (.goto 21, 3) := by decide +kernel
theorem dX8_mean_30 : decode cX8_mean 30 = .ok (.lload_n 2, 1) := by decide +kernel
theorem dX8_mean_31 : decode cX8_mean 31 = .ok (.aload_n 0, 1) := by decide +kernel
theorem dX8_mean_32 : decode cX8_mean 32 = .ok (.getfield 28, 3) := by decide +kernel
theorem dX8_mean_35 : decode cX8_mean 35 = .ok (.aload_n 0, 1) := by decide +kernel
theorem dX8_mean_36 : decode cX8_mean 36 = .ok (.getfield 32, 3) := by decide +kernel
theorem dX8_mean_39 : decode cX8_mean 39 = .ok (.iload 5, 2) := by decide +kernel
theorem dX8_mean_41 : decode cX8_mean 41 = .ok (.iaload, 1) := by decide +kernel
theorem dX8_mean_42 : decode cX8_mean 42 = .ok (.laload, 1) := by decide +kernel
theorem dX8_mean_43 : decode cX8_mean 43 = .ok (.ladd, 1) := by decide +kernel
theorem dX8_mean_44 : decode cX8_mean 44 = .ok (.lstore_n 2, 1) := by decide +kernel
theorem dX8_mean_45 : decode cX8_mean 45 = .ok (.iinc 4 1, 3) := by decide +kernel
theorem dX8_mean_48 : decode cX8_mean 48 = .ok (.iinc 5 1, 3) := by decide +kernel
theorem dX8_mean_51 : decode cX8_mean 51 = .ok (.goto (-43), 3) := by decide +kernel
theorem dX8_mean_54 : decode cX8_mean 54 = .ok (.iload 4, 2) := by decide +kernel
theorem dX8_mean_56 : decode cX8_mean 56 = .ok (.ifCond .ne 7, 3) := by decide +kernel
theorem dX8_mean_59 : decode cX8_mean 59 = .ok (.lconst 0, 1) := by decide +kernel
theorem dX8_mean_60 : decode cX8_mean 60 = .ok (.goto 8, 3) := by decide +kernel
theorem dX8_mean_63 : decode cX8_mean 63 = .ok (.lload_n 2, 1) := by decide +kernel
theorem dX8_mean_64 : decode cX8_mean 64 = .ok (.iload 4, 2) := by decide +kernel
theorem dX8_mean_66 : decode cX8_mean 66 = .ok (.i2l, 1) := by decide +kernel
theorem dX8_mean_67 : decode cX8_mean 67 = .ok (.ldiv, 1) := by decide +kernel
theorem dX8_mean_68 : decode cX8_mean 68 = .ok (.lreturn, 1) := by decide +kernel
theorem dX8_greatestRange_0 : decode cX8_greatestRange 0 = .ok (.lconst 0, 1) := by decide +kernel
theorem dX8_greatestRange_1 : decode cX8_greatestRange 1 = .ok (.lstore_n 1, 1) := by decide +kernel
theorem dX8_greatestRange_2 : decode cX8_greatestRange 2 = .ok (.iconst 1, 1) := by decide +kernel
theorem dX8_greatestRange_3 : decode cX8_greatestRange 3 = .ok (.istore_n 3, 1) := by decide +kernel
theorem dX8_greatestRange_4 : decode cX8_greatestRange 4 = .ok (.iload_n 3, 1) := by decide +kernel
theorem dX8_greatestRange_5 : decode cX8_greatestRange 5 = .ok (.aload_n 0, 1) := by decide +kernel
theorem dX8_greatestRange_6 : decode cX8_greatestRange 6 = .ok (.getfield 84, 3) := by decide +kernel
theorem dX8_greatestRange_9 : decode cX8_greatestRange 9 = .ok (.if_icmp .ge 42, 3) := by decide +kernel
theorem dX8_greatestRange_12 : decode cX8_greatestRange 12 = .ok (.lload_n 1, 1) := by decide +kernel
theorem dX8_greatestRange_13 : decode cX8_greatestRange 13 = .ok (.aload_n 0, 1) := by decide +kernel
theorem dX8_greatestRange_14 : decode cX8_greatestRange 14 = .ok (.getfield 28, 3) := by decide +kernel
theorem dX8_greatestRange_17 : decode cX8_greatestRange 17 = .ok (.aload_n 0, 1) := by decide +kernel
theorem dX8_greatestRange_18 : decode cX8_greatestRange 18 = .ok (.getfield 32, 3) := by decide +kernel
theorem dX8_greatestRange_21 : decode cX8_greatestRange 21 = .ok (.iload_n 3, 1) := by decide +kernel
theorem dX8_greatestRange_22 : decode cX8_greatestRange 22 = .ok (.iaload, 1) := by decide +kernel
theorem dX8_greatestRange_23 : decode cX8_greatestRange 23 = .ok (.laload, 1) := by decide +kernel
theorem dX8_greatestRange_24 : decode cX8_greatestRange 24 = .ok (.aload_n 0, 1) := by decide +kernel
theorem dX8_greatestRange_25 : decode cX8_greatestRange 25 = .ok (.getfield 28, 3) := by decide +kernel
theorem dX8_greatestRange_28 : decode cX8_greatestRange 28 = .ok (.aload_n 0, 1) := by decide +kernel
theorem dX8_greatestRange_29 : decode cX8_greatestRange 29 = .ok (.getfield 32, 3) := by decide +kernel
theorem dX8_greatestRange_32 : decode cX8_greatestRange 32 = .ok (.iload_n 3, 1) := by decide +kernel
theorem dX8_greatestRange_33 : decode cX8_greatestRange 33 = .ok (.iconst 1, 1) := by decide +kernel
theorem dX8_greatestRange_34 : decode cX8_greatestRange 34 = .ok (.isub, 1) := by decide +kernel
theorem dX8_greatestRange_35 : decode cX8_greatestRange 35 = .ok (.iaload, 1) := by decide +kernel
theorem dX8_greatestRange_36 : decode cX8_greatestRange 36 = .ok (.laload, 1) := by decide +kernel
theorem dX8_greatestRange_37 : decode cX8_greatestRange 37 = .ok (.lsub, 1) := by decide +kernel
theorem dX8_greatestRange_38 : decode cX8_greatestRange 38 = .ok (.invokestatic 114, 3) := by decide +kernel
theorem dX8_greatestRange_41 : decode cX8_greatestRange 41 = .ok (.invokestatic 108, 3) := by decide +kernel
theorem dX8_greatestRange_44 : decode cX8_greatestRange 44 = .ok (.lstore_n 1, 1) := by decide +kernel
theorem dX8_greatestRange_45 : decode cX8_greatestRange 45 = .ok (.iinc 3 1, 3) := by decide +kernel
theorem dX8_greatestRange_48 : decode cX8_greatestRange 48 = .ok (.goto (-44), 3) := by decide +kernel
theorem dX8_greatestRange_51 : decode cX8_greatestRange 51 = .ok (.lload_n 1, 1) := by decide +kernel
theorem dX8_greatestRange_52 : decode cX8_greatestRange 52 = .ok (.lreturn, 1) := by decide +kernel
theorem dX8_datumOf_0 : decode cX8_datumOf 0 = .ok (.aload_n 0, 1) := by decide +kernel
theorem dX8_datumOf_1 : decode cX8_datumOf 1 = .ok (.invokevirtual 90, 3) := by decide +kernel
theorem dX8_datumOf_4 : decode cX8_datumOf 4 = .ok (.iload_n 1, 1) := by decide +kernel
theorem dX8_datumOf_5 : decode cX8_datumOf 5 = .ok (.tableswitch 59 0 3 #[31, 38, 45, 52], 31) := by decide +kernel
theorem dX8_datumOf_36 : decode cX8_datumOf 36 = .ok (.aload_n 0, 1) := by decide +kernel
theorem dX8_datumOf_37 : decode cX8_datumOf 37 = .ok (.iconst 1, 1) := by decide +kernel
theorem dX8_datumOf_38 : decode cX8_datumOf 38 = .ok (.invokevirtual 118, 3) := by decide +kernel
theorem dX8_datumOf_41 : decode cX8_datumOf 41 = .ok (.l2i, 1) := by decide +kernel
theorem dX8_datumOf_42 : decode cX8_datumOf 42 = .ok (.ireturn, 1) := by decide +kernel
theorem dX8_datumOf_43 : decode cX8_datumOf 43 = .ok (.aload_n 0, 1) := by decide +kernel
theorem dX8_datumOf_44 : decode cX8_datumOf 44 = .ok (.iconst (-1), 1) := by decide +kernel
theorem dX8_datumOf_45 : decode cX8_datumOf 45 = .ok (.invokevirtual 118, 3) := by decide +kernel
theorem dX8_datumOf_48 : decode cX8_datumOf 48 = .ok (.l2i, 1) := by decide +kernel
theorem dX8_datumOf_49 : decode cX8_datumOf 49 = .ok (.ireturn, 1) := by decide +kernel
theorem dX8_datumOf_50 : decode cX8_datumOf 50 = .ok (.aload_n 0, 1) := by decide +kernel
theorem dX8_datumOf_51 : decode cX8_datumOf 51 = .ok (.iconst 1, 1) := by decide +kernel
theorem dX8_datumOf_52 : decode cX8_datumOf 52 = .ok (.invokevirtual 122, 3) := by decide +kernel
theorem dX8_datumOf_55 : decode cX8_datumOf 55 = .ok (.l2i, 1) := by decide +kernel
theorem dX8_datumOf_56 : decode cX8_datumOf 56 = .ok (.ireturn, 1) := by decide +kernel
theorem dX8_datumOf_57 : decode cX8_datumOf 57 = .ok (.aload_n 0, 1) := by decide +kernel
theorem dX8_datumOf_58 : decode cX8_datumOf 58 = .ok (.iconst 0, 1) := by decide +kernel
theorem dX8_datumOf_59 : decode cX8_datumOf 59 = .ok (.invokevirtual 122, 3) := by decide +kernel
theorem dX8_datumOf_62 : decode cX8_datumOf 62 = .ok (.l2i, 1) := by decide +kernel
theorem dX8_datumOf_63 : decode cX8_datumOf 63 = .ok (.ireturn, 1) := by decide +kernel
theorem dX8_datumOf_64 : decode cX8_datumOf 64 = .ok (.aload_n 0, 1) := by decide +kernel
theorem dX8_datumOf_65 : decode cX8_datumOf 65 = .ok (.invokevirtual 126, 3) := by decide +kernel
theorem dX8_datumOf_68 : decode cX8_datumOf 68 = .ok (.l2i, 1) := by decide +kernel
theorem dX8_datumOf_69 : decode cX8_datumOf 69 = .ok (.ireturn, 1) := by decide +kernel
theorem dX8_datum_0 : decode cX8_datum 0 = .ok (.aload_n 0, 1) := by decide +kernel
theorem dX8_datum_1 : decode cX8_datum 1 = .ok (.iconst 0, 1) := by decide +kernel
theorem dX8_datum_2 : decode cX8_datum 2 = .ok (.putfield 35, 3) := by decide +kernel
theorem dX8_datum_5 : decode cX8_datum 5 = .ok (.iload_n 1, 1) := by decide +kernel
theorem dX8_datum_6 : decode cX8_datum 6 = .ok (.i2l, 1) := by decide +kernel
theorem dX8_datum_7 : decode cX8_datum 7 = .ok (.lconst 0, 1) := by decide +kernel
theorem dX8_datum_8 : decode cX8_datum 8 = .ok (.ldc2_w 78, 3) := by decide +kernel
theorem dX8_datum_11 : decode cX8_datum 11 = .ok (.invokestatic 41, 3) := by decide +kernel
theorem dX8_datum_14 : decode cX8_datum 14 = .ok (.ifCond .eq 11, 3) := by decide +kernel
theorem dX8_datum_17 : decode cX8_datum 17 = .ok (.aload_n 0, 1) := by decide +kernel
theorem dX8_datum_18 : decode cX8_datum 18 = .ok (.iload_n 1, 1) := by decide +kernel
theorem dX8_datum_19 : decode cX8_datum 19 = .ok (.invokevirtual 130, 3) := by decide +kernel
theorem dX8_datum_22 : decode cX8_datum 22 = .ok (.goto 8, 3) := by decide +kernel
theorem dX8_datum_25 : decode cX8_datum 25 = .ok (.aload_n 0, 1) := by decide +kernel
end
section
theorem dX8_datum_26 : decode cX8_datum 26 = .ok (.iconst 1, 1) := by decide +kernel
theorem dX8_datum_27 : decode cX8_datum 27 = .ok (.invokevirtual 57, 3) := by decide +kernel
theorem dX8_datum_30 : decode cX8_datum 30 = .ok (.ireturn, 1) := by decide +kernel
theorem dX8_addPort_0 : decode cX8_addPort 0 = .ok (.aload_n 0, 1) := by decide +kernel
theorem dX8_addPort_1 : decode cX8_addPort 1 = .ok (.iconst 0, 1) := by decide +kernel
theorem dX8_addPort_2 : decode cX8_addPort 2 = .ok (.putfield 35, 3) := by decide +kernel
theorem dX8_addPort_5 : decode cX8_addPort 5 = .ok (.aload_n 0, 1) := by decide +kernel
theorem dX8_addPort_6 : decode cX8_addPort 6 = .ok (.getfield 48, 3) := by decide +kernel
theorem dX8_addPort_9 : decode cX8_addPort 9 = .ok (.bipush 6, 2) := by decide +kernel
theorem dX8_addPort_11 : decode cX8_addPort 11 = .ok (.if_icmp .ne 9, 3) := by decide +kernel
theorem dX8_addPort_14 : decode cX8_addPort 14 = .ok (.aload_n 0, 1) := by decide +kernel
theorem dX8_addPort_15 : decode cX8_addPort 15 = .ok (.iconst 1, 1) := by decide +kernel
theorem dX8_addPort_16 : decode cX8_addPort 16 = .ok (.invokevirtual 57, 3) := by decide +kernel
theorem dX8_addPort_19 : decode cX8_addPort 19 = .ok (.ireturn, 1) := by decide +kernel
theorem dX8_addPort_20 : decode cX8_addPort 20 = .ok (.aload_n 0, 1) := by decide +kernel
theorem dX8_addPort_21 : decode cX8_addPort 21 = .ok (.getfield 19, 3) := by decide +kernel
theorem dX8_addPort_24 : decode cX8_addPort 24 = .ok (.iconst 5, 1) := by decide +kernel
theorem dX8_addPort_25 : decode cX8_addPort 25 = .ok (.aload_n 0, 1) := by decide +kernel
theorem dX8_addPort_26 : decode cX8_addPort 26 = .ok (.getfield 48, 3) := by decide +kernel
theorem dX8_addPort_29 : decode cX8_addPort 29 = .ok (.imul, 1) := by decide +kernel
theorem dX8_addPort_30 : decode cX8_addPort 30 = .ok (.iconst 1, 1) := by decide +kernel
theorem dX8_addPort_31 : decode cX8_addPort 31 = .ok (.iadd, 1) := by decide +kernel
theorem dX8_addPort_32 : decode cX8_addPort 32 = .ok (.bipush 100, 2) := by decide +kernel
theorem dX8_addPort_34 : decode cX8_addPort 34 = .ok (.iastore, 1) := by decide +kernel
theorem dX8_addPort_35 : decode cX8_addPort 35 = .ok (.aload_n 0, 1) := by decide +kernel
theorem dX8_addPort_36 : decode cX8_addPort 36 = .ok (.getfield 19, 3) := by decide +kernel
theorem dX8_addPort_39 : decode cX8_addPort 39 = .ok (.iconst 5, 1) := by decide +kernel
theorem dX8_addPort_40 : decode cX8_addPort 40 = .ok (.aload_n 0, 1) := by decide +kernel
theorem dX8_addPort_41 : decode cX8_addPort 41 = .ok (.getfield 48, 3) := by decide +kernel
theorem dX8_addPort_44 : decode cX8_addPort 44 = .ok (.imul, 1) := by decide +kernel
theorem dX8_addPort_45 : decode cX8_addPort 45 = .ok (.iconst 3, 1) := by decide +kernel
theorem dX8_addPort_46 : decode cX8_addPort 46 = .ok (.iadd, 1) := by decide +kernel
theorem dX8_addPort_47 : decode cX8_addPort 47 = .ok (.bipush 100, 2) := by decide +kernel
theorem dX8_addPort_49 : decode cX8_addPort 49 = .ok (.iastore, 1) := by decide +kernel
theorem dX8_addPort_50 : decode cX8_addPort 50 = .ok (.aload_n 0, 1) := by decide +kernel
theorem dX8_addPort_51 : decode cX8_addPort 51 = .ok (.dup, 1) := by decide +kernel
theorem dX8_addPort_52 : decode cX8_addPort 52 = .ok (.getfield 48, 3) := by decide +kernel
theorem dX8_addPort_55 : decode cX8_addPort 55 = .ok (.iconst 1, 1) := by decide +kernel
theorem dX8_addPort_56 : decode cX8_addPort 56 = .ok (.iadd, 1) := by decide +kernel
theorem dX8_addPort_57 : decode cX8_addPort 57 = .ok (.putfield 48, 3) := by decide +kernel
theorem dX8_addPort_60 : decode cX8_addPort 60 = .ok (.aload_n 0, 1) := by decide +kernel
theorem dX8_addPort_61 : decode cX8_addPort 61 = .ok (.getfield 48, 3) := by decide +kernel
theorem dX8_addPort_64 : decode cX8_addPort 64 = .ok (.iconst 1, 1) := by decide +kernel
theorem dX8_addPort_65 : decode cX8_addPort 65 = .ok (.isub, 1) := by decide +kernel
theorem dX8_addPort_66 : decode cX8_addPort 66 = .ok (.ireturn, 1) := by decide +kernel
theorem dX8_setPort_0 : decode cX8_setPort 0 = .ok (.aload_n 0, 1) := by decide +kernel
theorem dX8_setPort_1 : decode cX8_setPort 1 = .ok (.iconst 0, 1) := by decide +kernel
theorem dX8_setPort_2 : decode cX8_setPort 2 = .ok (.putfield 35, 3) := by decide +kernel
theorem dX8_setPort_5 : decode cX8_setPort 5 = .ok (.aload_n 0, 1) := by decide +kernel
theorem dX8_setPort_6 : decode cX8_setPort 6 = .ok (.iload_n 1, 1) := by decide +kernel
theorem dX8_setPort_7 : decode cX8_setPort 7 = .ok (.invokevirtual 133, 3) := by decide +kernel
theorem dX8_setPort_10 : decode cX8_setPort 10 = .ok (.ifCond .ne 9, 3) := by decide +kernel
theorem dX8_setPort_13 : decode cX8_setPort 13 = .ok (.aload_n 0, 1) := by decide +kernel
theorem dX8_setPort_14 : decode cX8_setPort 14 = .ok (.iconst 1, 1) := by decide +kernel
theorem dX8_setPort_15 : decode cX8_setPort 15 = .ok (.invokevirtual 57, 3) := by decide +kernel
theorem dX8_setPort_18 : decode cX8_setPort 18 = .ok (.ireturn, 1) := by decide +kernel
theorem dX8_setPort_19 : decode cX8_setPort 19 = .ok (.iload_n 3, 1) := by decide +kernel
theorem dX8_setPort_20 : decode cX8_setPort 20 = .ok (.i2l, 1) := by decide +kernel
theorem dX8_setPort_21 : decode cX8_setPort 21 = .ok (.ldc2_w 136, 3) := by decide +kernel
theorem dX8_setPort_24 : decode cX8_setPort 24 = .ok (.ldc2_w 138, 3) := by decide +kernel
theorem dX8_setPort_27 : decode cX8_setPort 27 = .ok (.invokestatic 41, 3) := by decide +kernel
theorem dX8_setPort_30 : decode cX8_setPort 30 = .ok (.ifCond .eq 16, 3) := by decide +kernel
theorem dX8_setPort_33 : decode cX8_setPort 33 = .ok (.iload 4, 2) := by decide +kernel
theorem dX8_setPort_35 : decode cX8_setPort 35 = .ok (.i2l, 1) := by decide +kernel
theorem dX8_setPort_36 : decode cX8_setPort 36 = .ok (.lconst 0, 1) := by decide +kernel
theorem dX8_setPort_37 : decode cX8_setPort 37 = .ok (.ldc2_w 138, 3) := by decide +kernel
theorem dX8_setPort_40 : decode cX8_setPort 40 = .ok (.invokestatic 41, 3) := by decide +kernel
theorem dX8_setPort_43 : decode cX8_setPort 43 = .ok (.ifCond .ne 9, 3) := by decide +kernel
theorem dX8_setPort_46 : decode cX8_setPort 46 = .ok (.aload_n 0, 1) := by decide +kernel
theorem dX8_setPort_47 : decode cX8_setPort 47 = .ok (.iconst 2, 1) := by decide +kernel
theorem dX8_setPort_48 : decode cX8_setPort 48 = .ok (.invokevirtual 57, 3) := by decide +kernel
theorem dX8_setPort_51 : decode cX8_setPort 51 = .ok (.ireturn, 1) := by decide +kernel
theorem dX8_setPort_52 : decode cX8_setPort 52 = .ok (.iconst 5, 1) := by decide +kernel
theorem dX8_setPort_53 : decode cX8_setPort 53 = .ok (.iload_n 1, 1) := by decide +kernel
theorem dX8_setPort_54 : decode cX8_setPort 54 = .ok (.imul, 1) := by decide +kernel
theorem dX8_setPort_55 : decode cX8_setPort 55 = .ok (.iload_n 2, 1) := by decide +kernel
theorem dX8_setPort_56 : decode cX8_setPort 56 = .ok (.ifCond .eq 7, 3) := by decide +kernel
theorem dX8_setPort_59 : decode cX8_setPort 59 = .ok (.iconst 2, 1) := by decide +kernel
theorem dX8_setPort_60 : decode cX8_setPort 60 = .ok (.goto 4, 3) := by decide +kernel
theorem dX8_setPort_63 : decode cX8_setPort 63 = .ok (.iconst 0, 1) := by decide +kernel
theorem dX8_setPort_64 : decode cX8_setPort 64 = .ok (.iadd, 1) := by decide +kernel
theorem dX8_setPort_65 : decode cX8_setPort 65 = .ok (.istore 5, 2) := by decide +kernel
theorem dX8_setPort_67 : decode cX8_setPort 67 = .ok (.aload_n 0, 1) := by decide +kernel
theorem dX8_setPort_68 : decode cX8_setPort 68 = .ok (.getfield 19, 3) := by decide +kernel
theorem dX8_setPort_71 : decode cX8_setPort 71 = .ok (.iload 5, 2) := by decide +kernel
theorem dX8_setPort_73 : decode cX8_setPort 73 = .ok (.iconst 1, 1) := by decide +kernel
theorem dX8_setPort_74 : decode cX8_setPort 74 = .ok (.iadd, 1) := by decide +kernel
theorem dX8_setPort_75 : decode cX8_setPort 75 = .ok (.iaload, 1) := by decide +kernel
theorem dX8_setPort_76 : decode cX8_setPort 76 = .ok (.istore 6, 2) := by decide +kernel
theorem dX8_setPort_78 : decode cX8_setPort 78 = .ok (.aload_n 0, 1) := by decide +kernel
theorem dX8_setPort_79 : decode cX8_setPort 79 = .ok (.getfield 19, 3) := by decide +kernel
theorem dX8_setPort_82 : decode cX8_setPort 82 = .ok (.iload 5, 2) := by decide +kernel
theorem dX8_setPort_84 : decode cX8_setPort 84 = .ok (.iload_n 3, 1) := by decide +kernel
theorem dX8_setPort_85 : decode cX8_setPort 85 = .ok (.iastore, 1) := by decide +kernel
theorem dX8_setPort_86 : decode cX8_setPort 86 = .ok (.aload_n 0, 1) := by decide +kernel
theorem dX8_setPort_87 : decode cX8_setPort 87 = .ok (.getfield 19, 3) := by decide +kernel
theorem dX8_setPort_90 : decode cX8_setPort 90 = .ok (.iload 5, 2) := by decide +kernel
theorem dX8_setPort_92 : decode cX8_setPort 92 = .ok (.iconst 1, 1) := by decide +kernel
theorem dX8_setPort_93 : decode cX8_setPort 93 = .ok (.iadd, 1) := by decide +kernel
theorem dX8_setPort_94 : decode cX8_setPort 94 = .ok (.iload 4, 2) := by decide +kernel
theorem dX8_setPort_96 : decode cX8_setPort 96 = .ok (.iastore, 1) := by decide +kernel
theorem dX8_setPort_97 : decode cX8_setPort 97 = .ok (.iload 6, 2) := by decide +kernel
theorem dX8_setPort_99 : decode cX8_setPort 99 = .ok (.ireturn, 1) := by decide +kernel
theorem dX8_setAddition_0 : decode cX8_setAddition 0 = .ok (.aload_n 0, 1) := by decide +kernel
theorem dX8_setAddition_1 : decode cX8_setAddition 1 = .ok (.iconst 0, 1) := by decide +kernel
theorem dX8_setAddition_2 : decode cX8_setAddition 2 = .ok (.putfield 35, 3) := by decide +kernel
theorem dX8_setAddition_5 : decode cX8_setAddition 5 = .ok (.aload_n 0, 1) := by decide +kernel
theorem dX8_setAddition_6 : decode cX8_setAddition 6 = .ok (.iload_n 1, 1) := by decide +kernel
theorem dX8_setAddition_7 : decode cX8_setAddition 7 = .ok (.invokevirtual 133, 3) := by decide +kernel
theorem dX8_setAddition_10 : decode cX8_setAddition 10 = .ok (.ifCond .ne 9, 3) := by decide +kernel
theorem dX8_setAddition_13 : decode cX8_setAddition 13 = .ok (.aload_n 0, 1) := by decide +kernel
theorem dX8_setAddition_14 : decode cX8_setAddition 14 = .ok (.iconst 1, 1) := by decide +kernel
theorem dX8_setAddition_15 : decode cX8_setAddition 15 = .ok (.invokevirtual 57, 3) := by decide +kernel
theorem dX8_setAddition_18 : decode cX8_setAddition 18 = .ok (.ireturn, 1) := by decide +kernel
theorem dX8_setAddition_19 : decode cX8_setAddition 19 = .ok (.iload_n 2, 1) := by decide +kernel
theorem dX8_setAddition_20 : decode cX8_setAddition 20 = .ok (.i2l, 1) := by decide +kernel
theorem dX8_setAddition_21 : decode cX8_setAddition 21 = .ok (.ldc2_w 140, 3) := by decide +kernel
theorem dX8_setAddition_24 : decode cX8_setAddition 24 = .ok (.ldc2_w 142, 3) := by decide +kernel
theorem dX8_setAddition_27 : decode cX8_setAddition 27 = .ok (.invokestatic 41, 3) := by decide +kernel
theorem dX8_setAddition_30 : decode cX8_setAddition 30 = .ok (.ifCond .ne 9, 3) := by decide +kernel
theorem dX8_setAddition_33 : decode cX8_setAddition 33 = .ok (.aload_n 0, 1) := by decide +kernel
theorem dX8_setAddition_34 : decode cX8_setAddition 34 = .ok (.iconst 2, 1) := by decide +kernel
theorem dX8_setAddition_35 : decode cX8_setAddition 35 = .ok (.invokevirtual 57, 3) := by decide +kernel
theorem dX8_setAddition_38 : decode cX8_setAddition 38 = .ok (.ireturn, 1) := by decide +kernel
theorem dX8_setAddition_39 : decode cX8_setAddition 39 = .ok (.aload_n 0, 1) := by decide +kernel
theorem dX8_setAddition_40 : decode cX8_setAddition 40 = .ok (.getfield 19, 3) := by decide +kernel
theorem dX8_setAddition_43 : decode cX8_setAddition 43 = .ok (.iconst 5, 1) := by decide +kernel
theorem dX8_setAddition_44 : decode cX8_setAddition 44 = .ok (.iload_n 1, 1) := by decide +kernel
theorem dX8_setAddition_45 : decode cX8_setAddition 45 = .ok (.imul, 1) := by decide +kernel
theorem dX8_setAddition_46 : decode cX8_setAddition 46 = .ok (.iconst 4, 1) := by decide +kernel
theorem dX8_setAddition_47 : decode cX8_setAddition 47 = .ok (.iadd, 1) := by decide +kernel
theorem dX8_setAddition_48 : decode cX8_setAddition 48 = .ok (.iaload, 1) := by decide +kernel
theorem dX8_setAddition_49 : decode cX8_setAddition 49 = .ok (.istore_n 3, 1) := by decide +kernel
theorem dX8_setAddition_50 : decode cX8_setAddition 50 = .ok (.aload_n 0, 1) := by decide +kernel
theorem dX8_setAddition_51 : decode cX8_setAddition 51 = .ok (.getfield 19, 3) := by decide +kernel
theorem dX8_setAddition_54 : decode cX8_setAddition 54 = .ok (.iconst 5, 1) := by decide +kernel
theorem dX8_setAddition_55 : decode cX8_setAddition 55 = .ok (.iload_n 1, 1) := by decide +kernel
theorem dX8_setAddition_56 : decode cX8_setAddition 56 = .ok (.imul, 1) := by decide +kernel
theorem dX8_setAddition_57 : decode cX8_setAddition 57 = .ok (.iconst 4, 1) := by decide +kernel
theorem dX8_setAddition_58 : decode cX8_setAddition 58 = .ok (.iadd, 1) := by decide +kernel
theorem dX8_setAddition_59 : decode cX8_setAddition 59 = .ok (.iload_n 2, 1) := by decide +kernel
theorem dX8_setAddition_60 : decode cX8_setAddition 60 = .ok (.iastore, 1) := by decide +kernel
theorem dX8_setAddition_61 : decode cX8_setAddition 61 = .ok (.iload_n 3, 1) := by decide +kernel
theorem dX8_setAddition_62 : decode cX8_setAddition 62 = .ok (.ireturn, 1) := by decide +kernel
theorem dX8_timeAt_0 : decode cX8_timeAt 0 = .ok (.aload_n 0, 1) := by decide +kernel
theorem dX8_timeAt_1 : decode cX8_timeAt 1 = .ok (.getfield 32, 3) := by decide +kernel
theorem dX8_timeAt_4 : decode cX8_timeAt 4 = .ok (.iload_n 2, 1) := by decide +kernel
theorem dX8_timeAt_5 : decode cX8_timeAt 5 = .ok (.iaload, 1) := by decide +kernel
theorem dX8_timeAt_6 : decode cX8_timeAt 6 = .ok (.aload_n 0, 1) := by decide +kernel
theorem dX8_timeAt_7 : decode cX8_timeAt 7 = .ok (.getfield 19, 3) := by decide +kernel
theorem dX8_timeAt_10 : decode cX8_timeAt 10 = .ok (.iconst 5, 1) := by decide +kernel
theorem dX8_timeAt_11 : decode cX8_timeAt 11 = .ok (.iload_n 1, 1) := by decide +kernel
theorem dX8_timeAt_12 : decode cX8_timeAt 12 = .ok (.imul, 1) := by decide +kernel
theorem dX8_timeAt_13 : decode cX8_timeAt 13 = .ok (.aload_n 0, 1) := by decide +kernel
theorem dX8_timeAt_14 : decode cX8_timeAt 14 = .ok (.iload_n 2, 1) := by decide +kernel
theorem dX8_timeAt_15 : decode cX8_timeAt 15 = .ok (.invokevirtual 101, 3) := by decide +kernel
theorem dX8_timeAt_18 : decode cX8_timeAt 18 = .ok (.ifCond .eq 7, 3) := by decide +kernel
theorem dX8_timeAt_21 : decode cX8_timeAt 21 = .ok (.iconst 2, 1) := by decide +kernel
theorem dX8_timeAt_22 : decode cX8_timeAt 22 = .ok (.goto 4, 3) := by decide +kernel
theorem dX8_timeAt_25 : decode cX8_timeAt 25 = .ok (.iconst 0, 1) := by decide +kernel
theorem dX8_timeAt_26 : decode cX8_timeAt 26 = .ok (.iadd, 1) := by decide +kernel
theorem dX8_timeAt_27 : decode cX8_timeAt 27 = .ok (.iaload, 1) := by decide +kernel
theorem dX8_timeAt_28 : decode cX8_timeAt 28 = .ok (.iadd, 1) := by decide +kernel
theorem dX8_timeAt_29 : decode cX8_timeAt 29 = .ok (.ireturn, 1) := by decide +kernel
theorem dX8_heightAt_0 : decode cX8_heightAt 0 = .ok (.aload_n 0, 1) := by decide +kernel
theorem dX8_heightAt_1 : decode cX8_heightAt 1 = .ok (.getfield 28, 3) := by decide +kernel
theorem dX8_heightAt_4 : decode cX8_heightAt 4 = .ok (.aload_n 0, 1) := by decide +kernel
theorem dX8_heightAt_5 : decode cX8_heightAt 5 = .ok (.getfield 32, 3) := by decide +kernel
theorem dX8_heightAt_8 : decode cX8_heightAt 8 = .ok (.iload_n 2, 1) := by decide +kernel
theorem dX8_heightAt_9 : decode cX8_heightAt 9 = .ok (.iaload, 1) := by decide +kernel
theorem dX8_heightAt_10 : decode cX8_heightAt 10 = .ok (.laload, 1) := by decide +kernel
theorem dX8_heightAt_11 : decode cX8_heightAt 11 = .ok (.aload_n 0, 1) := by decide +kernel
theorem dX8_heightAt_12 : decode cX8_heightAt 12 = .ok (.getfield 19, 3) := by decide +kernel
theorem dX8_heightAt_15 : decode cX8_heightAt 15 = .ok (.iconst 5, 1) := by decide +kernel
theorem dX8_heightAt_16 : decode cX8_heightAt 16 = .ok (.iload_n 1, 1) := by decide +kernel
theorem dX8_heightAt_17 : decode cX8_heightAt 17 = .ok (.imul, 1) := by decide +kernel
theorem dX8_heightAt_18 : decode cX8_heightAt 18 = .ok (.aload_n 0, 1) := by decide +kernel
theorem dX8_heightAt_19 : decode cX8_heightAt 19 = .ok (.iload_n 2, 1) := by decide +kernel
theorem dX8_heightAt_20 : decode cX8_heightAt 20 = .ok (.invokevirtual 101, 3) := by decide +kernel
theorem dX8_heightAt_23 : decode cX8_heightAt 23 = .ok (.ifCond .eq 7, 3) := by decide +kernel
theorem dX8_heightAt_26 : decode cX8_heightAt 26 = .ok (.iconst 3, 1) := by decide +kernel
theorem dX8_heightAt_27 : decode cX8_heightAt 27 = .ok (.goto 4, 3) := by decide +kernel
theorem dX8_heightAt_30 : decode cX8_heightAt 30 = .ok (.iconst 1, 1) := by decide +kernel
theorem dX8_heightAt_31 : decode cX8_heightAt 31 = .ok (.iadd, 1) := by decide +kernel
theorem dX8_heightAt_32 : decode cX8_heightAt 32 = .ok (.iaload, 1) := by decide +kernel
theorem dX8_heightAt_33 : decode cX8_heightAt 33 = .ok (.i2l, 1) := by decide +kernel
theorem dX8_heightAt_34 : decode cX8_heightAt 34 = .ok (.lmul, 1) := by decide +kernel
theorem dX8_heightAt_35 : decode cX8_heightAt 35 = .ok (.ldc2_w 144, 3) := by decide +kernel
theorem dX8_heightAt_38 : decode cX8_heightAt 38 = .ok (.ldiv, 1) := by decide +kernel
theorem dX8_heightAt_39 : decode cX8_heightAt 39 = .ok (.aload_n 0, 1) := by decide +kernel
theorem dX8_heightAt_40 : decode cX8_heightAt 40 = .ok (.getfield 19, 3) := by decide +kernel
theorem dX8_heightAt_43 : decode cX8_heightAt 43 = .ok (.iconst 5, 1) := by decide +kernel
theorem dX8_heightAt_44 : decode cX8_heightAt 44 = .ok (.iload_n 1, 1) := by decide +kernel
theorem dX8_heightAt_45 : decode cX8_heightAt 45 = .ok (.imul, 1) := by decide +kernel
theorem dX8_heightAt_46 : decode cX8_heightAt 46 = .ok (.iconst 4, 1) := by decide +kernel
theorem dX8_heightAt_47 : decode cX8_heightAt 47 = .ok (.iadd, 1) := by decide +kernel
theorem dX8_heightAt_48 : decode cX8_heightAt 48 = .ok (.iaload, 1) := by decide +kernel
theorem dX8_heightAt_49 : decode cX8_heightAt 49 = .ok (.i2l, 1) := by decide +kernel
theorem dX8_heightAt_50 : decode cX8_heightAt 50 = .ok (.ladd, 1) := by decide +kernel
theorem dX8_heightAt_51 : decode cX8_heightAt 51 = .ok (.lreturn, 1) := by decide +kernel
theorem dX8_isOrdered_0 : decode cX8_isOrdered 0 = .ok (.aload_n 0, 1) := by decide +kernel
theorem dX8_isOrdered_1 : decode cX8_isOrdered 1 = .ok (.invokevirtual 90, 3) := by decide +kernel
theorem dX8_isOrdered_4 : decode cX8_isOrdered 4 = .ok (.iconst 1, 1) := by decide +kernel
theorem dX8_isOrdered_5 : decode cX8_isOrdered 5 = .ok (.istore_n 2, 1) := by decide +kernel
theorem dX8_isOrdered_6 : decode cX8_isOrdered 6 = .ok (.iconst 1, 1) := by decide +kernel
theorem dX8_isOrdered_7 : decode cX8_isOrdered 7 = .ok (.istore_n 3, 1) := by decide +kernel
theorem dX8_isOrdered_8 : decode cX8_isOrdered 8 = .ok (.iload_n 3, 1) := by decide +kernel
theorem dX8_isOrdered_9 : decode cX8_isOrdered 9 = .ok (.aload_n 0, 1) := by decide +kernel
theorem dX8_isOrdered_10 : decode cX8_isOrdered 10 = .ok (.getfield 84, 3) := by decide +kernel
theorem dX8_isOrdered_13 : decode cX8_isOrdered 13 = .ok (.if_icmp .ge 36, 3) := by decide +kernel
theorem dX8_isOrdered_16 : decode cX8_isOrdered 16 = .ok (.iload_n 2, 1) := by decide +kernel
theorem dX8_isOrdered_17 : decode cX8_isOrdered 17 = .ok (.ifCond .eq 24, 3) := by decide +kernel
theorem dX8_isOrdered_20 : decode cX8_isOrdered 20 = .ok (.aload_n 0, 1) := by decide +kernel
theorem dX8_isOrdered_21 : decode cX8_isOrdered 21 = .ok (.iload_n 1, 1) := by decide +kernel
theorem dX8_isOrdered_22 : decode cX8_isOrdered 22 = .ok (.iload_n 3, 1) := by decide +kernel
theorem dX8_isOrdered_23 : decode cX8_isOrdered 23 = .ok (.invokevirtual 146, 3) := by decide +kernel
theorem dX8_isOrdered_26 : decode cX8_isOrdered 26 = .ok (.aload_n 0, 1) := by decide +kernel
theorem dX8_isOrdered_27 : decode cX8_isOrdered 27 = .ok (.iload_n 1, 1) := by decide +kernel
theorem dX8_isOrdered_28 : decode cX8_isOrdered 28 = .ok (.iload_n 3, 1) := by decide +kernel
theorem dX8_isOrdered_29 : decode cX8_isOrdered 29 = .ok (.iconst 1, 1) := by decide +kernel
theorem dX8_isOrdered_30 : decode cX8_isOrdered 30 = .ok (.isub, 1) := by decide +kernel
theorem dX8_isOrdered_31 : decode cX8_isOrdered 31 = .ok (.invokevirtual 146, 3) := by decide +kernel
theorem dX8_isOrdered_34 : decode cX8_isOrdered 34 = .ok (.if_icmp .le 7, 3) := by decide +kernel
theorem dX8_isOrdered_37 : decode cX8_isOrdered 37 = .ok (.iconst 1, 1) := by decide +kernel
theorem dX8_isOrdered_38 : decode cX8_isOrdered 38 = .ok (.goto 4, 3) := by decide +kernel
theorem dX8_isOrdered_41 : decode cX8_isOrdered 41 = .ok (.iconst 0, 1) := by decide +kernel
theorem dX8_isOrdered_42 : decode cX8_isOrdered 42 = .ok (.istore_n 2, 1) := by decide +kernel
theorem dX8_isOrdered_43 : decode cX8_isOrdered 43 = .ok (.iinc 3 1, 3) := by decide +kernel
theorem dX8_isOrdered_46 : decode cX8_isOrdered 46 = .ok (.goto (-38), 3) := by decide +kernel
theorem dX8_isOrdered_49 : decode cX8_isOrdered 49 = .ok (.iload_n 2, 1) := by decide +kernel
theorem dX8_isOrdered_50 : decode cX8_isOrdered 50 = .ok (.ireturn, 1) := by decide +kernel
theorem dX8_isInOrder_0 : decode cX8_isInOrder 0 = .ok (.aload_n 0, 1) := by decide +kernel
theorem dX8_isInOrder_1 : decode cX8_isInOrder 1 = .ok (.aload_n 0, 1) := by decide +kernel
theorem dX8_isInOrder_2 : decode cX8_isInOrder 2 = .ok (.iload_n 1, 1) := by decide +kernel
theorem dX8_isInOrder_3 : decode cX8_isInOrder 3 = .ok (.invokevirtual 133, 3) := by decide +kernel
theorem dX8_isInOrder_6 : decode cX8_isInOrder 6 = .ok (.ifCond .eq 7, 3) := by decide +kernel
theorem dX8_isInOrder_9 : decode cX8_isInOrder 9 = .ok (.iconst 0, 1) := by decide +kernel
theorem dX8_isInOrder_10 : decode cX8_isInOrder 10 = .ok (.goto 4, 3) := by decide +kernel
theorem dX8_isInOrder_13 : decode cX8_isInOrder 13 = .ok (.iconst 1, 1) := by decide +kernel
theorem dX8_isInOrder_14 : decode cX8_isInOrder 14 = .ok (.putfield 35, 3) := by decide +kernel
theorem dX8_isInOrder_17 : decode cX8_isInOrder 17 = .ok (.aload_n 0, 1) := by decide +kernel
theorem dX8_isInOrder_18 : decode cX8_isInOrder 18 = .ok (.getfield 35, 3) := by decide +kernel
theorem dX8_isInOrder_21 : decode cX8_isInOrder 21 = .ok (.ifCond .ne 15, 3) := by decide +kernel
theorem dX8_isInOrder_24 : decode cX8_isInOrder 24 = .ok (.aload_n 0, 1) := by decide +kernel
theorem dX8_isInOrder_25 : decode cX8_isInOrder 25 = .ok (.iload_n 1, 1) := by decide +kernel
theorem dX8_isInOrder_26 : decode cX8_isInOrder 26 = .ok (.invokevirtual 149, 3) := by decide +kernel
theorem dX8_isInOrder_29 : decode cX8_isInOrder 29 = .ok (.ifCond .eq 7, 3) := by decide +kernel
theorem dX8_isInOrder_32 : decode cX8_isInOrder 32 = .ok (.iconst 1, 1) := by decide +kernel
theorem dX8_isInOrder_33 : decode cX8_isInOrder 33 = .ok (.goto 4, 3) := by decide +kernel
theorem dX8_isInOrder_36 : decode cX8_isInOrder 36 = .ok (.iconst 0, 1) := by decide +kernel
theorem dX8_isInOrder_37 : decode cX8_isInOrder 37 = .ok (.ireturn, 1) := by decide +kernel
theorem dX8_portWater_0 : decode cX8_portWater 0 = .ok (.aload_n 0, 1) := by decide +kernel
theorem dX8_portWater_1 : decode cX8_portWater 1 = .ok (.iconst 0, 1) := by decide +kernel
theorem dX8_portWater_2 : decode cX8_portWater 2 = .ok (.putfield 35, 3) := by decide +kernel
theorem dX8_portWater_5 : decode cX8_portWater 5 = .ok (.aload_n 0, 1) := by decide +kernel
theorem dX8_portWater_6 : decode cX8_portWater 6 = .ok (.invokevirtual 90, 3) := by decide +kernel
theorem dX8_portWater_9 : decode cX8_portWater 9 = .ok (.aload_n 0, 1) := by decide +kernel
theorem dX8_portWater_10 : decode cX8_portWater 10 = .ok (.iload_n 1, 1) := by decide +kernel
theorem dX8_portWater_11 : decode cX8_portWater 11 = .ok (.invokevirtual 133, 3) := by decide +kernel
theorem dX8_portWater_14 : decode cX8_portWater 14 = .ok (.ifCond .eq 19, 3) := by decide +kernel
theorem dX8_portWater_17 : decode cX8_portWater 17 = .ok (.iload_n 2, 1) := by decide +kernel
theorem dX8_portWater_18 : decode cX8_portWater 18 = .ok (.i2l, 1) := by decide +kernel
theorem dX8_portWater_19 : decode cX8_portWater 19 = .ok (.lconst 0, 1) := by decide +kernel
theorem dX8_portWater_20 : decode cX8_portWater 20 = .ok (.aload_n 0, 1) := by decide +kernel
theorem dX8_portWater_21 : decode cX8_portWater 21 = .ok (.getfield 84, 3) := by decide +kernel
theorem dX8_portWater_24 : decode cX8_portWater 24 = .ok (.iconst 1, 1) := by decide +kernel
theorem dX8_portWater_25 : decode cX8_portWater 25 = .ok (.isub, 1) := by decide +kernel
theorem dX8_portWater_26 : decode cX8_portWater 26 = .ok (.i2l, 1) := by decide +kernel
theorem dX8_portWater_27 : decode cX8_portWater 27 = .ok (.invokestatic 41, 3) := by decide +kernel
theorem dX8_portWater_30 : decode cX8_portWater 30 = .ok (.ifCond .ne 9, 3) := by decide +kernel
theorem dX8_portWater_33 : decode cX8_portWater 33 = .ok (.aload_n 0, 1) := by decide +kernel
theorem dX8_portWater_34 : decode cX8_portWater 34 = .ok (.iconst 1, 1) := by decide +kernel
theorem dX8_portWater_35 : decode cX8_portWater 35 = .ok (.invokevirtual 57, 3) := by decide +kernel
theorem dX8_portWater_38 : decode cX8_portWater 38 = .ok (.ireturn, 1) := by decide +kernel
theorem dX8_portWater_39 : decode cX8_portWater 39 = .ok (.iload_n 3, 1) := by decide +kernel
theorem dX8_portWater_40 : decode cX8_portWater 40 = .ok (.ifCond .eq 12, 3) := by decide +kernel
theorem dX8_portWater_43 : decode cX8_portWater 43 = .ok (.aload_n 0, 1) := by decide +kernel
theorem dX8_portWater_44 : decode cX8_portWater 44 = .ok (.iload_n 1, 1) := by decide +kernel
theorem dX8_portWater_45 : decode cX8_portWater 45 = .ok (.iload_n 2, 1) := by decide +kernel
theorem dX8_portWater_46 : decode cX8_portWater 46 = .ok (.invokevirtual 146, 3) := by decide +kernel
theorem dX8_portWater_49 : decode cX8_portWater 49 = .ok (.goto 10, 3) := by decide +kernel
theorem dX8_portWater_52 : decode cX8_portWater 52 = .ok (.aload_n 0, 1) := by decide +kernel
theorem dX8_portWater_53 : decode cX8_portWater 53 = .ok (.iload_n 1, 1) := by decide +kernel
theorem dX8_portWater_54 : decode cX8_portWater 54 = .ok (.iload_n 2, 1) := by decide +kernel
theorem dX8_portWater_55 : decode cX8_portWater 55 = .ok (.invokevirtual 152, 3) := by decide +kernel
theorem dX8_portWater_58 : decode cX8_portWater 58 = .ok (.l2i, 1) := by decide +kernel
theorem dX8_portWater_59 : decode cX8_portWater 59 = .ok (.ireturn, 1) := by decide +kernel
theorem dX8_waterAhead_0 : decode cX8_waterAhead 0 = .ok (.aload_n 0, 1) := by decide +kernel
theorem dX8_waterAhead_1 : decode cX8_waterAhead 1 = .ok (.iload_n 1, 1) := by decide +kernel
theorem dX8_waterAhead_2 : decode cX8_waterAhead 2 = .ok (.invokevirtual 149, 3) := by decide +kernel
theorem dX8_waterAhead_5 : decode cX8_waterAhead 5 = .ok (.ifCond .ne 5, 3) := by decide +kernel
theorem dX8_waterAhead_8 : decode cX8_waterAhead 8 = .ok (.iconst (-1), 1) := by decide +kernel
theorem dX8_waterAhead_9 : decode cX8_waterAhead 9 = .ok (.ireturn, 1) := by decide +kernel
theorem dX8_waterAhead_10 : decode cX8_waterAhead 10 = .ok (.iconst (-1), 1) := by decide +kernel
theorem dX8_waterAhead_11 : decode cX8_waterAhead 11 = .ok (.istore_n 3, 1) := by decide +kernel
theorem dX8_waterAhead_12 : decode cX8_waterAhead 12 = .ok (.iload_n 3, 1) := by decide +kernel
theorem dX8_waterAhead_13 : decode cX8_waterAhead 13 = .ok (.iconst 1, 1) := by decide +kernel
theorem dX8_waterAhead_14 : decode cX8_waterAhead 14 = .ok (.iadd, 1) := by decide +kernel
theorem dX8_waterAhead_15 : decode cX8_waterAhead 15 = .ok (.aload_n 0, 1) := by decide +kernel
theorem dX8_waterAhead_16 : decode cX8_waterAhead 16 = .ok (.getfield 84, 3) := by decide +kernel
theorem dX8_waterAhead_19 : decode cX8_waterAhead 19 = .ok (.if_icmp .ge 21, 3) := by decide +kernel
theorem dX8_waterAhead_22 : decode cX8_waterAhead 22 = .ok (.aload_n 0, 1) := by decide +kernel
theorem dX8_waterAhead_23 : decode cX8_waterAhead 23 = .ok (.iload_n 1, 1) := by decide +kernel
theorem dX8_waterAhead_24 : decode cX8_waterAhead 24 = .ok (.iload_n 3, 1) := by decide +kernel
theorem dX8_waterAhead_25 : decode cX8_waterAhead 25 = .ok (.iconst 1, 1) := by decide +kernel
theorem dX8_waterAhead_26 : decode cX8_waterAhead 26 = .ok (.iadd, 1) := by decide +kernel
theorem dX8_waterAhead_27 : decode cX8_waterAhead 27 = .ok (.invokevirtual 146, 3) := by decide +kernel
theorem dX8_waterAhead_30 : decode cX8_waterAhead 30 = .ok (.iload_n 2, 1) := by decide +kernel
theorem dX8_waterAhead_31 : decode cX8_waterAhead 31 = .ok (.if_icmp .gt 9, 3) := by decide +kernel
theorem dX8_waterAhead_34 : decode cX8_waterAhead 34 = .ok (.iinc 3 1, 3) := by decide +kernel
theorem dX8_waterAhead_37 : decode cX8_waterAhead 37 = .ok (.goto (-25), 3) := by decide +kernel
theorem dX8_waterAhead_40 : decode cX8_waterAhead 40 = .ok (.iload_n 3, 1) := by decide +kernel
theorem dX8_waterAhead_41 : decode cX8_waterAhead 41 = .ok (.iconst 1, 1) := by decide +kernel
theorem dX8_waterAhead_42 : decode cX8_waterAhead 42 = .ok (.iadd, 1) := by decide +kernel
theorem dX8_waterAhead_43 : decode cX8_waterAhead 43 = .ok (.aload_n 0, 1) := by decide +kernel
theorem dX8_waterAhead_44 : decode cX8_waterAhead 44 = .ok (.getfield 84, 3) := by decide +kernel
theorem dX8_waterAhead_47 : decode cX8_waterAhead 47 = .ok (.if_icmp .ge 7, 3) := by decide +kernel
theorem dX8_waterAhead_50 : decode cX8_waterAhead 50 = .ok (.iload_n 3, 1) := by decide +kernel
theorem dX8_waterAhead_51 : decode cX8_waterAhead 51 = .ok (.goto 4, 3) := by decide +kernel
theorem dX8_waterAhead_54 : decode cX8_waterAhead 54 = .ok (.iconst (-1), 1) := by decide +kernel
theorem dX8_waterAhead_55 : decode cX8_waterAhead 55 = .ok (.ireturn, 1) := by decide +kernel
theorem dX8_between_0 : decode cX8_between 0 = .ok (.aload_n 0, 1) := by decide +kernel
theorem dX8_between_1 : decode cX8_between 1 = .ok (.iload_n 1, 1) := by decide +kernel
theorem dX8_between_2 : decode cX8_between 2 = .ok (.iload_n 2, 1) := by decide +kernel
theorem dX8_between_3 : decode cX8_between 3 = .ok (.iconst 1, 1) := by decide +kernel
theorem dX8_between_4 : decode cX8_between 4 = .ok (.iadd, 1) := by decide +kernel
theorem dX8_between_5 : decode cX8_between 5 = .ok (.invokevirtual 146, 3) := by decide +kernel
theorem dX8_between_8 : decode cX8_between 8 = .ok (.aload_n 0, 1) := by decide +kernel
theorem dX8_between_9 : decode cX8_between 9 = .ok (.iload_n 1, 1) := by decide +kernel
theorem dX8_between_10 : decode cX8_between 10 = .ok (.iload_n 2, 1) := by decide +kernel
theorem dX8_between_11 : decode cX8_between 11 = .ok (.invokevirtual 146, 3) := by decide +kernel
theorem dX8_between_14 : decode cX8_between 14 = .ok (.isub, 1) := by decide +kernel
theorem dX8_between_15 : decode cX8_between 15 = .ok (.i2l, 1) := by decide +kernel
theorem dX8_between_16 : decode cX8_between 16 = .ok (.lstore 4, 2) := by decide +kernel
theorem dX8_between_18 : decode cX8_between 18 = .ok (.iload_n 3, 1) := by decide +kernel
theorem dX8_between_19 : decode cX8_between 19 = .ok (.aload_n 0, 1) := by decide +kernel
theorem dX8_between_20 : decode cX8_between 20 = .ok (.iload_n 1, 1) := by decide +kernel
theorem dX8_between_21 : decode cX8_between 21 = .ok (.iload_n 2, 1) := by decide +kernel
theorem dX8_between_22 : decode cX8_between 22 = .ok (.invokevirtual 146, 3) := by decide +kernel
theorem dX8_between_25 : decode cX8_between 25 = .ok (.isub, 1) := by decide +kernel
theorem dX8_between_26 : decode cX8_between 26 = .ok (.i2l, 1) := by decide +kernel
theorem dX8_between_27 : decode cX8_between 27 = .ok (.lstore 6, 2) := by decide +kernel
theorem dX8_between_29 : decode cX8_between 29 = .ok (.ldc2_w 155, 3) := by decide +kernel
theorem dX8_between_32 : decode cX8_between 32 = .ok (.lload 6, 2) := by decide +kernel
theorem dX8_between_34 : decode cX8_between 34 = .ok (.lmul, 1) := by decide +kernel
theorem dX8_between_35 : decode cX8_between 35 = .ok (.lload 4, 2) := by decide +kernel
theorem dX8_between_37 : decode cX8_between 37 = .ok (.ldiv, 1) := by decide +kernel
theorem dX8_between_38 : decode cX8_between 38 = .ok (.l2i, 1) := by decide +kernel
theorem dX8_between_39 : decode cX8_between 39 = .ok (.istore 8, 2) := by decide +kernel
theorem dX8_between_41 : decode cX8_between 41 = .ok (.aload_n 0, 1) := by decide +kernel
theorem dX8_between_42 : decode cX8_between 42 = .ok (.iload_n 1, 1) := by decide +kernel
theorem dX8_between_43 : decode cX8_between 43 = .ok (.iload_n 2, 1) := by decide +kernel
theorem dX8_between_44 : decode cX8_between 44 = .ok (.invokevirtual 152, 3) := by decide +kernel
theorem dX8_between_47 : decode cX8_between 47 = .ok (.aload_n 0, 1) := by decide +kernel
theorem dX8_between_48 : decode cX8_between 48 = .ok (.iload_n 1, 1) := by decide +kernel
theorem dX8_between_49 : decode cX8_between 49 = .ok (.iload_n 2, 1) := by decide +kernel
theorem dX8_between_50 : decode cX8_between 50 = .ok (.iconst 1, 1) := by decide +kernel
theorem dX8_between_51 : decode cX8_between 51 = .ok (.iadd, 1) := by decide +kernel
theorem dX8_between_52 : decode cX8_between 52 = .ok (.invokevirtual 152, 3) := by decide +kernel
theorem dX8_between_55 : decode cX8_between 55 = .ok (.aload_n 0, 1) := by decide +kernel
theorem dX8_between_56 : decode cX8_between 56 = .ok (.iload_n 1, 1) := by decide +kernel
theorem dX8_between_57 : decode cX8_between 57 = .ok (.iload_n 2, 1) := by decide +kernel
theorem dX8_between_58 : decode cX8_between 58 = .ok (.invokevirtual 152, 3) := by decide +kernel
theorem dX8_between_61 : decode cX8_between 61 = .ok (.lsub, 1) := by decide +kernel
theorem dX8_between_62 : decode cX8_between 62 = .ok (.getstatic 157, 3) := by decide +kernel
theorem dX8_between_65 : decode cX8_between 65 = .ok (.iload 8, 2) := by decide +kernel
theorem dX8_between_67 : decode cX8_between 67 = .ok (.iaload, 1) := by decide +kernel
theorem dX8_between_68 : decode cX8_between 68 = .ok (.i2l, 1) := by decide +kernel
theorem dX8_between_69 : decode cX8_between 69 = .ok (.lload 4, 2) := by decide +kernel
theorem dX8_between_71 : decode cX8_between 71 = .ok (.lmul, 1) := by decide +kernel
theorem dX8_between_72 : decode cX8_between 72 = .ok (.getstatic 160, 3) := by decide +kernel
theorem dX8_between_75 : decode cX8_between 75 = .ok (.iload 8, 2) := by decide +kernel
theorem dX8_between_77 : decode cX8_between 77 = .ok (.iaload, 1) := by decide +kernel
theorem dX8_between_78 : decode cX8_between 78 = .ok (.i2l, 1) := by decide +kernel
theorem dX8_between_79 : decode cX8_between 79 = .ok (.ldc2_w 155, 3) := by decide +kernel
theorem dX8_between_82 : decode cX8_between 82 = .ok (.lload 6, 2) := by decide +kernel
theorem dX8_between_84 : decode cX8_between 84 = .ok (.lmul, 1) := by decide +kernel
theorem dX8_between_85 : decode cX8_between 85 = .ok (.iload 8, 2) := by decide +kernel
theorem dX8_between_87 : decode cX8_between 87 = .ok (.i2l, 1) := by decide +kernel
theorem dX8_between_88 : decode cX8_between 88 = .ok (.lload 4, 2) := by decide +kernel
theorem dX8_between_90 : decode cX8_between 90 = .ok (.lmul, 1) := by decide +kernel
theorem dX8_between_91 : decode cX8_between 91 = .ok (.lsub, 1) := by decide +kernel
theorem dX8_between_92 : decode cX8_between 92 = .ok (.lmul, 1) := by decide +kernel
theorem dX8_between_93 : decode cX8_between 93 = .ok (.ladd, 1) := by decide +kernel
theorem dX8_between_94 : decode cX8_between 94 = .ok (.lmul, 1) := by decide +kernel
theorem dX8_between_95 : decode cX8_between 95 = .ok (.ldc2_w 163, 3) := by decide +kernel
theorem dX8_between_98 : decode cX8_between 98 = .ok (.lload 4, 2) := by decide +kernel
theorem dX8_between_100 : decode cX8_between 100 = .ok (.lmul, 1) := by decide +kernel
theorem dX8_between_101 : decode cX8_between 101 = .ok (.ldiv, 1) := by decide +kernel
theorem dX8_between_102 : decode cX8_between 102 = .ok (.ladd, 1) := by decide +kernel
theorem dX8_between_103 : decode cX8_between 103 = .ok (.lreturn, 1) := by decide +kernel
theorem dX8_portHeight_0 : decode cX8_portHeight 0 = .ok (.aload_n 0, 1) := by decide +kernel
theorem dX8_portHeight_1 : decode cX8_portHeight 1 = .ok (.iconst 0, 1) := by decide +kernel
theorem dX8_portHeight_2 : decode cX8_portHeight 2 = .ok (.putfield 35, 3) := by decide +kernel
theorem dX8_portHeight_5 : decode cX8_portHeight 5 = .ok (.aload_n 0, 1) := by decide +kernel
theorem dX8_portHeight_6 : decode cX8_portHeight 6 = .ok (.iload_n 1, 1) := by decide +kernel
theorem dX8_portHeight_7 : decode cX8_portHeight 7 = .ok (.invokevirtual 133, 3) := by decide +kernel
theorem dX8_portHeight_10 : decode cX8_portHeight 10 = .ok (.ifCond .ne 9, 3) := by decide +kernel
theorem dX8_portHeight_13 : decode cX8_portHeight 13 = .ok (.aload_n 0, 1) := by decide +kernel
theorem dX8_portHeight_14 : decode cX8_portHeight 14 = .ok (.iconst 1, 1) := by decide +kernel
theorem dX8_portHeight_15 : decode cX8_portHeight 15 = .ok (.invokevirtual 57, 3) := by decide +kernel
theorem dX8_portHeight_18 : decode cX8_portHeight 18 = .ok (.ireturn, 1) := by decide +kernel
theorem dX8_portHeight_19 : decode cX8_portHeight 19 = .ok (.iload_n 2, 1) := by decide +kernel
theorem dX8_portHeight_20 : decode cX8_portHeight 20 = .ok (.invokestatic 87, 3) := by decide +kernel
theorem dX8_portHeight_23 : decode cX8_portHeight 23 = .ok (.ifCond .ne 9, 3) := by decide +kernel
theorem dX8_portHeight_26 : decode cX8_portHeight 26 = .ok (.aload_n 0, 1) := by decide +kernel
theorem dX8_portHeight_27 : decode cX8_portHeight 27 = .ok (.iconst 2, 1) := by decide +kernel
theorem dX8_portHeight_28 : decode cX8_portHeight 28 = .ok (.invokevirtual 57, 3) := by decide +kernel
theorem dX8_portHeight_31 : decode cX8_portHeight 31 = .ok (.ireturn, 1) := by decide +kernel
theorem dX8_portHeight_32 : decode cX8_portHeight 32 = .ok (.aload_n 0, 1) := by decide +kernel
theorem dX8_portHeight_33 : decode cX8_portHeight 33 = .ok (.iload_n 1, 1) := by decide +kernel
theorem dX8_portHeight_34 : decode cX8_portHeight 34 = .ok (.iload_n 2, 1) := by decide +kernel
theorem dX8_portHeight_35 : decode cX8_portHeight 35 = .ok (.invokevirtual 165, 3) := by decide +kernel
theorem dX8_portHeight_38 : decode cX8_portHeight 38 = .ok (.istore_n 3, 1) := by decide +kernel
theorem dX8_portHeight_39 : decode cX8_portHeight 39 = .ok (.iload_n 3, 1) := by decide +kernel
theorem dX8_portHeight_40 : decode cX8_portHeight 40 = .ok (.iconst (-1), 1) := by decide +kernel
theorem dX8_portHeight_41 : decode cX8_portHeight 41 = .ok (.if_icmp .ne 11, 3) := by decide +kernel
theorem dX8_portHeight_44 : decode cX8_portHeight 44 = .ok (.aload_n 0, 1) := by decide +kernel
theorem dX8_portHeight_45 : decode cX8_portHeight 45 = .ok (.iconst 3, 1) := by decide +kernel
theorem dX8_portHeight_46 : decode cX8_portHeight 46 = .ok (.invokevirtual 57, 3) := by decide +kernel
theorem dX8_portHeight_49 : decode cX8_portHeight 49 = .ok (.goto 11, 3) := by decide +kernel
theorem dX8_portHeight_52 : decode cX8_portHeight 52 = .ok (.aload_n 0, 1) := by decide +kernel
theorem dX8_portHeight_53 : decode cX8_portHeight 53 = .ok (.iload_n 1, 1) := by decide +kernel
theorem dX8_portHeight_54 : decode cX8_portHeight 54 = .ok (.iload_n 3, 1) := by decide +kernel
theorem dX8_portHeight_55 : decode cX8_portHeight 55 = .ok (.iload_n 2, 1) := by decide +kernel
theorem dX8_portHeight_56 : decode cX8_portHeight 56 = .ok (.invokevirtual 168, 3) := by decide +kernel
theorem dX8_portHeight_59 : decode cX8_portHeight 59 = .ok (.l2i, 1) := by decide +kernel
theorem dX8_portHeight_60 : decode cX8_portHeight 60 = .ok (.ireturn, 1) := by decide +kernel
theorem dX8_windows_0 : decode cX8_windows 0 = .ok (.aload_n 0, 1) := by decide +kernel
theorem dX8_windows_1 : decode cX8_windows 1 = .ok (.iconst 0, 1) := by decide +kernel
theorem dX8_windows_2 : decode cX8_windows 2 = .ok (.putfield 35, 3) := by decide +kernel
theorem dX8_windows_5 : decode cX8_windows 5 = .ok (.iload_n 1, 1) := by decide +kernel
theorem dX8_windows_6 : decode cX8_windows 6 = .ok (.iconst (-1), 1) := by decide +kernel
theorem dX8_windows_7 : decode cX8_windows 7 = .ok (.if_icmp .eq 11, 3) := by decide +kernel
theorem dX8_windows_10 : decode cX8_windows 10 = .ok (.aload_n 0, 1) := by decide +kernel
theorem dX8_windows_11 : decode cX8_windows 11 = .ok (.iload_n 1, 1) := by decide +kernel
theorem dX8_windows_12 : decode cX8_windows 12 = .ok (.invokevirtual 133, 3) := by decide +kernel
theorem dX8_windows_15 : decode cX8_windows 15 = .ok (.ifCond .eq 16, 3) := by decide +kernel
theorem dX8_windows_18 : decode cX8_windows 18 = .ok (.iload 5, 2) := by decide +kernel
theorem dX8_windows_20 : decode cX8_windows 20 = .ok (.i2l, 1) := by decide +kernel
theorem dX8_windows_21 : decode cX8_windows 21 = .ok (.lconst 0, 1) := by decide +kernel
theorem dX8_windows_22 : decode cX8_windows 22 = .ok (.ldc2_w 96, 3) := by decide +kernel
theorem dX8_windows_25 : decode cX8_windows 25 = .ok (.invokestatic 41, 3) := by decide +kernel
theorem dX8_windows_28 : decode cX8_windows 28 = .ok (.ifCond .ne 9, 3) := by decide +kernel
theorem dX8_windows_31 : decode cX8_windows 31 = .ok (.aload_n 0, 1) := by decide +kernel
theorem dX8_windows_32 : decode cX8_windows 32 = .ok (.iconst 1, 1) := by decide +kernel
theorem dX8_windows_33 : decode cX8_windows 33 = .ok (.invokevirtual 57, 3) := by decide +kernel
theorem dX8_windows_36 : decode cX8_windows 36 = .ok (.ireturn, 1) := by decide +kernel
theorem dX8_windows_37 : decode cX8_windows 37 = .ok (.iload_n 3, 1) := by decide +kernel
theorem dX8_windows_38 : decode cX8_windows 38 = .ok (.ifCond .lt 17, 3) := by decide +kernel
theorem dX8_windows_41 : decode cX8_windows 41 = .ok (.iload_n 3, 1) := by decide +kernel
theorem dX8_windows_42 : decode cX8_windows 42 = .ok (.iload 4, 2) := by decide +kernel
theorem dX8_windows_44 : decode cX8_windows 44 = .ok (.if_icmp .gt 11, 3) := by decide +kernel
theorem dX8_windows_47 : decode cX8_windows 47 = .ok (.iload 4, 2) := by decide +kernel
theorem dX8_windows_49 : decode cX8_windows 49 = .ok (.sipush 4320, 3) := by decide +kernel
theorem dX8_windows_52 : decode cX8_windows 52 = .ok (.if_icmp .lt 9, 3) := by decide +kernel
theorem dX8_windows_55 : decode cX8_windows 55 = .ok (.aload_n 0, 1) := by decide +kernel
theorem dX8_windows_56 : decode cX8_windows 56 = .ok (.iconst 2, 1) := by decide +kernel
theorem dX8_windows_57 : decode cX8_windows 57 = .ok (.invokevirtual 57, 3) := by decide +kernel
theorem dX8_windows_60 : decode cX8_windows 60 = .ok (.ireturn, 1) := by decide +kernel
theorem dX8_windows_61 : decode cX8_windows 61 = .ok (.aload_n 0, 1) := by decide +kernel
theorem dX8_windows_62 : decode cX8_windows 62 = .ok (.invokevirtual 90, 3) := by decide +kernel
theorem dX8_windows_65 : decode cX8_windows 65 = .ok (.iload_n 1, 1) := by decide +kernel
theorem dX8_windows_66 : decode cX8_windows 66 = .ok (.iconst (-1), 1) := by decide +kernel
theorem dX8_windows_67 : decode cX8_windows 67 = .ok (.if_icmp .eq 11, 3) := by decide +kernel
theorem dX8_windows_70 : decode cX8_windows 70 = .ok (.aload_n 0, 1) := by decide +kernel
theorem dX8_windows_71 : decode cX8_windows 71 = .ok (.iload_n 1, 1) := by decide +kernel
theorem dX8_windows_72 : decode cX8_windows 72 = .ok (.invokevirtual 149, 3) := by decide +kernel
theorem dX8_windows_75 : decode cX8_windows 75 = .ok (.ifCond .eq 7, 3) := by decide +kernel
theorem dX8_windows_78 : decode cX8_windows 78 = .ok (.iconst 1, 1) := by decide +kernel
theorem dX8_windows_79 : decode cX8_windows 79 = .ok (.goto 4, 3) := by decide +kernel
theorem dX8_windows_82 : decode cX8_windows 82 = .ok (.iconst 0, 1) := by decide +kernel
theorem dX8_windows_83 : decode cX8_windows 83 = .ok (.istore 6, 2) := by decide +kernel
theorem dX8_windows_85 : decode cX8_windows 85 = .ok (.iconst 4, 1) := by decide +kernel
theorem dX8_windows_86 : decode cX8_windows 86 = .ok (.newarray .int, 2) := by decide +kernel
theorem dX8_windows_88 : decode cX8_windows 88 = .ok (.dup, 1) := by decide +kernel
theorem dX8_windows_89 : decode cX8_windows 89 = .ok (.iconst 0, 1) := by decide +kernel
theorem dX8_windows_90 : decode cX8_windows 90 = .ok (.iconst 0, 1) := by decide +kernel
theorem dX8_windows_91 : decode cX8_windows 91 = .ok (.iastore, 1) := by decide +kernel
theorem dX8_windows_92 : decode cX8_windows 92 = .ok (.dup, 1) := by decide +kernel
theorem dX8_windows_93 : decode cX8_windows 93 = .ok (.iconst 1, 1) := by decide +kernel
theorem dX8_windows_94 : decode cX8_windows 94 = .ok (.iconst 0, 1) := by decide +kernel
theorem dX8_windows_95 : decode cX8_windows 95 = .ok (.iastore, 1) := by decide +kernel
theorem dX8_windows_96 : decode cX8_windows 96 = .ok (.dup, 1) := by decide +kernel
theorem dX8_windows_97 : decode cX8_windows 97 = .ok (.iconst 2, 1) := by decide +kernel
theorem dX8_windows_98 : decode cX8_windows 98 = .ok (.iconst (-1), 1) := by decide +kernel
theorem dX8_windows_99 : decode cX8_windows 99 = .ok (.iastore, 1) := by decide +kernel
theorem dX8_windows_100 : decode cX8_windows 100 = .ok (.dup, 1) := by decide +kernel
theorem dX8_windows_101 : decode cX8_windows 101 = .ok (.iconst 3, 1) := by decide +kernel
theorem dX8_windows_102 : decode cX8_windows 102 = .ok (.iconst 0, 1) := by decide +kernel
theorem dX8_windows_103 : decode cX8_windows 103 = .ok (.iastore, 1) := by decide +kernel
theorem dX8_windows_104 : decode cX8_windows 104 = .ok (.astore 7, 2) := by decide +kernel
theorem dX8_windows_106 : decode cX8_windows 106 = .ok (.iconst 0, 1) := by decide +kernel
theorem dX8_windows_107 : decode cX8_windows 107 = .ok (.istore 8, 2) := by decide +kernel
theorem dX8_windows_109 : decode cX8_windows 109 = .ok (.iconst (-1), 1) := by decide +kernel
theorem dX8_windows_110 : decode cX8_windows 110 = .ok (.istore 9, 2) := by decide +kernel
theorem dX8_windows_112 : decode cX8_windows 112 = .ok (.iload_n 3, 1) := by decide +kernel
theorem dX8_windows_113 : decode cX8_windows 113 = .ok (.istore 10, 2) := by decide +kernel
theorem dX8_windows_115 : decode cX8_windows 115 = .ok (.iload 10, 2) := by decide +kernel
theorem dX8_windows_117 : decode cX8_windows 117 = .ok (.iload 4, 2) := by decide +kernel
theorem dX8_windows_119 : decode cX8_windows 119 = .ok (.if_icmp .gt 186, 3) := by decide +kernel
theorem dX8_windows_122 : decode cX8_windows 122 = .ok (.iload_n 1, 1) := by decide +kernel
theorem dX8_windows_123 : decode cX8_windows 123 = .ok (.iconst (-1), 1) := by decide +kernel
theorem dX8_windows_124 : decode cX8_windows 124 = .ok (.if_icmp .ne 20, 3) := by decide +kernel
theorem dX8_windows_127 : decode cX8_windows 127 = .ok (.aload_n 0, 1) := by decide +kernel
theorem dX8_windows_128 : decode cX8_windows 128 = .ok (.getfield 28, 3) := by decide +kernel
theorem dX8_windows_131 : decode cX8_windows 131 = .ok (.iload 10, 2) := by decide +kernel
theorem dX8_windows_133 : decode cX8_windows 133 = .ok (.laload, 1) := by decide +kernel
theorem dX8_windows_134 : decode cX8_windows 134 = .ok (.iload_n 2, 1) := by decide +kernel
theorem dX8_windows_135 : decode cX8_windows 135 = .ok (.i2l, 1) := by decide +kernel
theorem dX8_windows_136 : decode cX8_windows 136 = .ok (.lcmp, 1) := by decide +kernel
theorem dX8_windows_137 : decode cX8_windows 137 = .ok (.ifCond .lt 7, 3) := by decide +kernel
theorem dX8_windows_140 : decode cX8_windows 140 = .ok (.iconst 1, 1) := by decide +kernel
theorem dX8_windows_141 : decode cX8_windows 141 = .ok (.goto 4, 3) := by decide +kernel
theorem dX8_windows_144 : decode cX8_windows 144 = .ok (.iconst 0, 1) := by decide +kernel
theorem dX8_windows_145 : decode cX8_windows 145 = .ok (.istore 11, 2) := by decide +kernel
theorem dX8_windows_147 : decode cX8_windows 147 = .ok (.iload_n 1, 1) := by decide +kernel
theorem dX8_windows_148 : decode cX8_windows 148 = .ok (.iconst (-1), 1) := by decide +kernel
theorem dX8_windows_149 : decode cX8_windows 149 = .ok (.if_icmp .eq 78, 3) := by decide +kernel
theorem dX8_windows_152 : decode cX8_windows 152 = .ok (.iload 6, 2) := by decide +kernel
theorem dX8_windows_154 : decode cX8_windows 154 = .ok (.ifCond .eq 73, 3) := by decide +kernel
theorem dX8_windows_157 : decode cX8_windows 157 = .ok (.iload 9, 2) := by decide +kernel
theorem dX8_windows_159 : decode cX8_windows 159 = .ok (.iconst 1, 1) := by decide +kernel
theorem dX8_windows_160 : decode cX8_windows 160 = .ok (.iadd, 1) := by decide +kernel
theorem dX8_windows_161 : decode cX8_windows 161 = .ok (.aload_n 0, 1) := by decide +kernel
theorem dX8_windows_162 : decode cX8_windows 162 = .ok (.getfield 84, 3) := by decide +kernel
theorem dX8_windows_165 : decode cX8_windows 165 = .ok (.if_icmp .ge 23, 3) := by decide +kernel
theorem dX8_windows_168 : decode cX8_windows 168 = .ok (.aload_n 0, 1) := by decide +kernel
theorem dX8_windows_169 : decode cX8_windows 169 = .ok (.iload_n 1, 1) := by decide +kernel
theorem dX8_windows_170 : decode cX8_windows 170 = .ok (.iload 9, 2) := by decide +kernel
theorem dX8_windows_172 : decode cX8_windows 172 = .ok (.iconst 1, 1) := by decide +kernel
theorem dX8_windows_173 : decode cX8_windows 173 = .ok (.iadd, 1) := by decide +kernel
theorem dX8_windows_174 : decode cX8_windows 174 = .ok (.invokevirtual 146, 3) := by decide +kernel
theorem dX8_windows_177 : decode cX8_windows 177 = .ok (.iload 10, 2) := by decide +kernel
theorem dX8_windows_179 : decode cX8_windows 179 = .ok (.if_icmp .gt 9, 3) := by decide +kernel
theorem dX8_windows_182 : decode cX8_windows 182 = .ok (.iinc 9 1, 3) := by decide +kernel
theorem dX8_windows_185 : decode cX8_windows 185 = .ok (.goto (-28), 3) := by decide +kernel
theorem dX8_windows_188 : decode cX8_windows 188 = .ok (.iload 9, 2) := by decide +kernel
theorem dX8_windows_190 : decode cX8_windows 190 = .ok (.iconst (-1), 1) := by decide +kernel
theorem dX8_windows_191 : decode cX8_windows 191 = .ok (.if_icmp .eq 33, 3) := by decide +kernel
theorem dX8_windows_194 : decode cX8_windows 194 = .ok (.iload 9, 2) := by decide +kernel
theorem dX8_windows_196 : decode cX8_windows 196 = .ok (.iconst 1, 1) := by decide +kernel
theorem dX8_windows_197 : decode cX8_windows 197 = .ok (.iadd, 1) := by decide +kernel
theorem dX8_windows_198 : decode cX8_windows 198 = .ok (.aload_n 0, 1) := by decide +kernel
theorem dX8_windows_199 : decode cX8_windows 199 = .ok (.getfield 84, 3) := by decide +kernel
theorem dX8_windows_202 : decode cX8_windows 202 = .ok (.if_icmp .ge 22, 3) := by decide +kernel
theorem dX8_windows_205 : decode cX8_windows 205 = .ok (.aload_n 0, 1) := by decide +kernel
theorem dX8_windows_206 : decode cX8_windows 206 = .ok (.iload_n 1, 1) := by decide +kernel
theorem dX8_windows_207 : decode cX8_windows 207 = .ok (.iload 9, 2) := by decide +kernel
theorem dX8_windows_209 : decode cX8_windows 209 = .ok (.iload 10, 2) := by decide +kernel
end
section
theorem dX8_windows_211 : decode cX8_windows 211 = .ok (.invokevirtual 168, 3) := by decide +kernel
theorem dX8_windows_214 : decode cX8_windows 214 = .ok (.iload_n 2, 1) := by decide +kernel
theorem dX8_windows_215 : decode cX8_windows 215 = .ok (.i2l, 1) := by decide +kernel
theorem dX8_windows_216 : decode cX8_windows 216 = .ok (.lcmp, 1) := by decide +kernel
theorem dX8_windows_217 : decode cX8_windows 217 = .ok (.ifCond .lt 7, 3) := by decide +kernel
theorem dX8_windows_220 : decode cX8_windows 220 = .ok (.iconst 1, 1) := by decide +kernel
theorem dX8_windows_221 : decode cX8_windows 221 = .ok (.goto 4, 3) := by decide +kernel
theorem dX8_windows_224 : decode cX8_windows 224 = .ok (.iconst 0, 1) := by decide +kernel
theorem dX8_windows_225 : decode cX8_windows 225 = .ok (.istore 11, 2) := by decide +kernel
theorem dX8_windows_227 : decode cX8_windows 227 = .ok (.iload 11, 2) := by decide +kernel
theorem dX8_windows_229 : decode cX8_windows 229 = .ok (.ifCond .eq 10, 3) := by decide +kernel
theorem dX8_windows_232 : decode cX8_windows 232 = .ok (.iload 8, 2) := by decide +kernel
theorem dX8_windows_234 : decode cX8_windows 234 = .ok (.iconst 1, 1) := by decide +kernel
theorem dX8_windows_235 : decode cX8_windows 235 = .ok (.iadd, 1) := by decide +kernel
theorem dX8_windows_236 : decode cX8_windows 236 = .ok (.goto 4, 3) := by decide +kernel
theorem dX8_windows_239 : decode cX8_windows 239 = .ok (.iconst 0, 1) := by decide +kernel
theorem dX8_windows_240 : decode cX8_windows 240 = .ok (.istore 8, 2) := by decide +kernel
theorem dX8_windows_242 : decode cX8_windows 242 = .ok (.iload 11, 2) := by decide +kernel
theorem dX8_windows_244 : decode cX8_windows 244 = .ok (.ifCond .ne 6, 3) := by decide +kernel
theorem dX8_windows_247 : decode cX8_windows 247 = .ok (.goto 52, 3) := by decide +kernel
theorem dX8_windows_250 : decode cX8_windows 250 = .ok (.aload 7, 2) := by decide +kernel
theorem dX8_windows_252 : decode cX8_windows 252 = .ok (.iconst 1, 1) := by decide +kernel
theorem dX8_windows_253 : decode cX8_windows 253 = .ok (.dup2, 1) := by decide +kernel
theorem dX8_windows_254 : decode cX8_windows 254 = .ok (.iaload, 1) := by decide +kernel
theorem dX8_windows_255 : decode cX8_windows 255 = .ok (.iconst 1, 1) := by decide +kernel
theorem dX8_windows_256 : decode cX8_windows 256 = .ok (.iadd, 1) := by decide +kernel
theorem dX8_windows_257 : decode cX8_windows 257 = .ok (.iastore, 1) := by decide +kernel
theorem dX8_windows_258 : decode cX8_windows 258 = .ok (.iload 8, 2) := by decide +kernel
theorem dX8_windows_260 : decode cX8_windows 260 = .ok (.iconst 1, 1) := by decide +kernel
theorem dX8_windows_261 : decode cX8_windows 261 = .ok (.if_icmp .ne 11, 3) := by decide +kernel
theorem dX8_windows_264 : decode cX8_windows 264 = .ok (.aload 7, 2) := by decide +kernel
theorem dX8_windows_266 : decode cX8_windows 266 = .ok (.iconst 0, 1) := by decide +kernel
theorem dX8_windows_267 : decode cX8_windows 267 = .ok (.dup2, 1) := by decide +kernel
theorem dX8_windows_268 : decode cX8_windows 268 = .ok (.iaload, 1) := by decide +kernel
theorem dX8_windows_269 : decode cX8_windows 269 = .ok (.iconst 1, 1) := by decide +kernel
theorem dX8_windows_270 : decode cX8_windows 270 = .ok (.iadd, 1) := by decide +kernel
theorem dX8_windows_271 : decode cX8_windows 271 = .ok (.iastore, 1) := by decide +kernel
theorem dX8_windows_272 : decode cX8_windows 272 = .ok (.aload 7, 2) := by decide +kernel
theorem dX8_windows_274 : decode cX8_windows 274 = .ok (.iconst 2, 1) := by decide +kernel
theorem dX8_windows_275 : decode cX8_windows 275 = .ok (.iaload, 1) := by decide +kernel
theorem dX8_windows_276 : decode cX8_windows 276 = .ok (.iconst (-1), 1) := by decide +kernel
theorem dX8_windows_277 : decode cX8_windows 277 = .ok (.if_icmp .ne 9, 3) := by decide +kernel
theorem dX8_windows_280 : decode cX8_windows 280 = .ok (.aload 7, 2) := by decide +kernel
theorem dX8_windows_282 : decode cX8_windows 282 = .ok (.iconst 2, 1) := by decide +kernel
theorem dX8_windows_283 : decode cX8_windows 283 = .ok (.iload 10, 2) := by decide +kernel
theorem dX8_windows_285 : decode cX8_windows 285 = .ok (.iastore, 1) := by decide +kernel
theorem dX8_windows_286 : decode cX8_windows 286 = .ok (.aload 7, 2) := by decide +kernel
theorem dX8_windows_288 : decode cX8_windows 288 = .ok (.iconst 3, 1) := by decide +kernel
theorem dX8_windows_289 : decode cX8_windows 289 = .ok (.aload 7, 2) := by decide +kernel
theorem dX8_windows_291 : decode cX8_windows 291 = .ok (.iconst 3, 1) := by decide +kernel
theorem dX8_windows_292 : decode cX8_windows 292 = .ok (.iaload, 1) := by decide +kernel
theorem dX8_windows_293 : decode cX8_windows 293 = .ok (.iload 8, 2) := by decide +kernel
theorem dX8_windows_295 : decode cX8_windows 295 = .ok (.invokestatic 172, 3) := by decide +kernel
theorem dX8_windows_298 : decode cX8_windows 298 = .ok (.iastore, 1) := by decide +kernel
theorem dX8_windows_299 : decode cX8_windows 299 = .ok (.iinc 10 1, 3) := by decide +kernel
theorem dX8_windows_302 : decode cX8_windows 302 = .ok (.goto (-187), 3) := by decide +kernel
theorem dX8_windows_305 : decode cX8_windows 305 = .ok (.aload 7, 2) := by decide +kernel
theorem dX8_windows_307 : decode cX8_windows 307 = .ok (.iload 5, 2) := by decide +kernel
theorem dX8_windows_309 : decode cX8_windows 309 = .ok (.iaload, 1) := by decide +kernel
theorem dX8_windows_310 : decode cX8_windows 310 = .ok (.ireturn, 1) := by decide +kernel
theorem dX8_read_0 : decode cX8_read 0 = .ok (.aload_n 0, 1) := by decide +kernel
theorem dX8_read_1 : decode cX8_read 1 = .ok (.iconst 0, 1) := by decide +kernel
theorem dX8_read_2 : decode cX8_read 2 = .ok (.putfield 35, 3) := by decide +kernel
theorem dX8_read_5 : decode cX8_read 5 = .ok (.iload_n 1, 1) := by decide +kernel
theorem dX8_read_6 : decode cX8_read 6 = .ok (.invokestatic 87, 3) := by decide +kernel
theorem dX8_read_9 : decode cX8_read 9 = .ok (.ifCond .eq 17, 3) := by decide +kernel
theorem dX8_read_12 : decode cX8_read 12 = .ok (.iload_n 2, 1) := by decide +kernel
theorem dX8_read_13 : decode cX8_read 13 = .ok (.i2l, 1) := by decide +kernel
theorem dX8_read_14 : decode cX8_read 14 = .ok (.ldc2_w 174, 3) := by decide +kernel
theorem dX8_read_17 : decode cX8_read 17 = .ok (.ldc2_w 176, 3) := by decide +kernel
theorem dX8_read_20 : decode cX8_read 20 = .ok (.invokestatic 41, 3) := by decide +kernel
theorem dX8_read_23 : decode cX8_read 23 = .ok (.ifCond .ne 9, 3) := by decide +kernel
theorem dX8_read_26 : decode cX8_read 26 = .ok (.aload_n 0, 1) := by decide +kernel
theorem dX8_read_27 : decode cX8_read 27 = .ok (.iconst 1, 1) := by decide +kernel
theorem dX8_read_28 : decode cX8_read 28 = .ok (.invokevirtual 57, 3) := by decide +kernel
theorem dX8_read_31 : decode cX8_read 31 = .ok (.ireturn, 1) := by decide +kernel
theorem dX8_read_32 : decode cX8_read 32 = .ok (.aload_n 0, 1) := by decide +kernel
theorem dX8_read_33 : decode cX8_read 33 = .ok (.getfield 93, 3) := by decide +kernel
theorem dX8_read_36 : decode cX8_read 36 = .ok (.bipush 40, 2) := by decide +kernel
theorem dX8_read_38 : decode cX8_read 38 = .ok (.if_icmp .ne 9, 3) := by decide +kernel
theorem dX8_read_41 : decode cX8_read 41 = .ok (.aload_n 0, 1) := by decide +kernel
theorem dX8_read_42 : decode cX8_read 42 = .ok (.iconst 2, 1) := by decide +kernel
theorem dX8_read_43 : decode cX8_read 43 = .ok (.invokevirtual 57, 3) := by decide +kernel
theorem dX8_read_46 : decode cX8_read 46 = .ok (.ireturn, 1) := by decide +kernel
theorem dX8_read_47 : decode cX8_read 47 = .ok (.aload_n 0, 1) := by decide +kernel
theorem dX8_read_48 : decode cX8_read 48 = .ok (.getfield 22, 3) := by decide +kernel
theorem dX8_read_51 : decode cX8_read 51 = .ok (.aload_n 0, 1) := by decide +kernel
theorem dX8_read_52 : decode cX8_read 52 = .ok (.getfield 93, 3) := by decide +kernel
theorem dX8_read_55 : decode cX8_read 55 = .ok (.iload_n 1, 1) := by decide +kernel
theorem dX8_read_56 : decode cX8_read 56 = .ok (.iastore, 1) := by decide +kernel
theorem dX8_read_57 : decode cX8_read 57 = .ok (.aload_n 0, 1) := by decide +kernel
theorem dX8_read_58 : decode cX8_read 58 = .ok (.getfield 25, 3) := by decide +kernel
theorem dX8_read_61 : decode cX8_read 61 = .ok (.aload_n 0, 1) := by decide +kernel
theorem dX8_read_62 : decode cX8_read 62 = .ok (.getfield 93, 3) := by decide +kernel
theorem dX8_read_65 : decode cX8_read 65 = .ok (.iload_n 2, 1) := by decide +kernel
theorem dX8_read_66 : decode cX8_read 66 = .ok (.iastore, 1) := by decide +kernel
theorem dX8_read_67 : decode cX8_read 67 = .ok (.aload_n 0, 1) := by decide +kernel
theorem dX8_read_68 : decode cX8_read 68 = .ok (.dup, 1) := by decide +kernel
theorem dX8_read_69 : decode cX8_read 69 = .ok (.getfield 93, 3) := by decide +kernel
theorem dX8_read_72 : decode cX8_read 72 = .ok (.iconst 1, 1) := by decide +kernel
theorem dX8_read_73 : decode cX8_read 73 = .ok (.iadd, 1) := by decide +kernel
theorem dX8_read_74 : decode cX8_read 74 = .ok (.putfield 93, 3) := by decide +kernel
theorem dX8_read_77 : decode cX8_read 77 = .ok (.aload_n 0, 1) := by decide +kernel
theorem dX8_read_78 : decode cX8_read 78 = .ok (.getfield 93, 3) := by decide +kernel
theorem dX8_read_81 : decode cX8_read 81 = .ok (.ireturn, 1) := by decide +kernel
theorem dX8_off_0 : decode cX8_off 0 = .ok (.aload_n 0, 1) := by decide +kernel
theorem dX8_off_1 : decode cX8_off 1 = .ok (.getfield 25, 3) := by decide +kernel
theorem dX8_off_4 : decode cX8_off 4 = .ok (.iload_n 1, 1) := by decide +kernel
theorem dX8_off_5 : decode cX8_off 5 = .ok (.iaload, 1) := by decide +kernel
theorem dX8_off_6 : decode cX8_off 6 = .ok (.i2l, 1) := by decide +kernel
theorem dX8_off_7 : decode cX8_off 7 = .ok (.aload_n 0, 1) := by decide +kernel
theorem dX8_off_8 : decode cX8_off 8 = .ok (.getfield 28, 3) := by decide +kernel
theorem dX8_off_11 : decode cX8_off 11 = .ok (.aload_n 0, 1) := by decide +kernel
theorem dX8_off_12 : decode cX8_off 12 = .ok (.getfield 22, 3) := by decide +kernel
theorem dX8_off_15 : decode cX8_off 15 = .ok (.iload_n 1, 1) := by decide +kernel
theorem dX8_off_16 : decode cX8_off 16 = .ok (.iaload, 1) := by decide +kernel
theorem dX8_off_17 : decode cX8_off 17 = .ok (.laload, 1) := by decide +kernel
theorem dX8_off_18 : decode cX8_off 18 = .ok (.lsub, 1) := by decide +kernel
theorem dX8_off_19 : decode cX8_off 19 = .ok (.lreturn, 1) := by decide +kernel
theorem dX8_sumOff_0 : decode cX8_sumOff 0 = .ok (.aload_n 0, 1) := by decide +kernel
theorem dX8_sumOff_1 : decode cX8_sumOff 1 = .ok (.invokevirtual 90, 3) := by decide +kernel
theorem dX8_sumOff_4 : decode cX8_sumOff 4 = .ok (.lconst 0, 1) := by decide +kernel
theorem dX8_sumOff_5 : decode cX8_sumOff 5 = .ok (.lstore_n 1, 1) := by decide +kernel
theorem dX8_sumOff_6 : decode cX8_sumOff 6 = .ok (.iconst 0, 1) := by decide +kernel
theorem dX8_sumOff_7 : decode cX8_sumOff 7 = .ok (.istore_n 3, 1) := by decide +kernel
theorem dX8_sumOff_8 : decode cX8_sumOff 8 = .ok (.iload_n 3, 1) := by decide +kernel
theorem dX8_sumOff_9 : decode cX8_sumOff 9 = .ok (.aload_n 0, 1) := by decide +kernel
theorem dX8_sumOff_10 : decode cX8_sumOff 10 = .ok (.getfield 93, 3) := by decide +kernel
theorem dX8_sumOff_13 : decode cX8_sumOff 13 = .ok (.if_icmp .ge 17, 3) := by decide +kernel
theorem dX8_sumOff_16 : decode cX8_sumOff 16 = .ok (.lload_n 1, 1) := by decide +kernel
theorem dX8_sumOff_17 : decode cX8_sumOff 17 = .ok (.aload_n 0, 1) := by decide +kernel
theorem dX8_sumOff_18 : decode cX8_sumOff 18 = .ok (.iload_n 3, 1) := by decide +kernel
theorem dX8_sumOff_19 : decode cX8_sumOff 19 = .ok (.invokevirtual 178, 3) := by decide +kernel
theorem dX8_sumOff_22 : decode cX8_sumOff 22 = .ok (.ladd, 1) := by decide +kernel
theorem dX8_sumOff_23 : decode cX8_sumOff 23 = .ok (.lstore_n 1, 1) := by decide +kernel
theorem dX8_sumOff_24 : decode cX8_sumOff 24 = .ok (.iinc 3 1, 3) := by decide +kernel
theorem dX8_sumOff_27 : decode cX8_sumOff 27 = .ok (.goto (-19), 3) := by decide +kernel
theorem dX8_sumOff_30 : decode cX8_sumOff 30 = .ok (.lload_n 1, 1) := by decide +kernel
theorem dX8_sumOff_31 : decode cX8_sumOff 31 = .ok (.lreturn, 1) := by decide +kernel
theorem dX8_residual_0 : decode cX8_residual 0 = .ok (.aload_n 0, 1) := by decide +kernel
theorem dX8_residual_1 : decode cX8_residual 1 = .ok (.iconst 0, 1) := by decide +kernel
theorem dX8_residual_2 : decode cX8_residual 2 = .ok (.putfield 35, 3) := by decide +kernel
theorem dX8_residual_5 : decode cX8_residual 5 = .ok (.aload_n 0, 1) := by decide +kernel
theorem dX8_residual_6 : decode cX8_residual 6 = .ok (.getfield 93, 3) := by decide +kernel
theorem dX8_residual_9 : decode cX8_residual 9 = .ok (.ifCond .ne 7, 3) := by decide +kernel
theorem dX8_residual_12 : decode cX8_residual 12 = .ok (.dconst 0, 1) := by decide +kernel
theorem dX8_residual_13 : decode cX8_residual 13 = .ok (.goto 14, 3) := by decide +kernel
theorem dX8_residual_16 : decode cX8_residual 16 = .ok (.aload_n 0, 1) := by decide +kernel
theorem dX8_residual_17 : decode cX8_residual 17 = .ok (.invokevirtual 181, 3) := by decide +kernel
theorem dX8_residual_20 : decode cX8_residual 20 = .ok (.l2d, 1) := by decide +kernel
theorem dX8_residual_21 : decode cX8_residual 21 = .ok (.aload_n 0, 1) := by decide +kernel
theorem dX8_residual_22 : decode cX8_residual 22 = .ok (.getfield 93, 3) := by decide +kernel
theorem dX8_residual_25 : decode cX8_residual 25 = .ok (.i2d, 1) := by decide +kernel
theorem dX8_residual_26 : decode cX8_residual 26 = .ok (.ddiv, 1) := by decide +kernel
theorem dX8_residual_27 : decode cX8_residual 27 = .ok (.dreturn, 1) := by decide +kernel
theorem dX8_worst_0 : decode cX8_worst 0 = .ok (.aload_n 0, 1) := by decide +kernel
theorem dX8_worst_1 : decode cX8_worst 1 = .ok (.iconst 0, 1) := by decide +kernel
theorem dX8_worst_2 : decode cX8_worst 2 = .ok (.putfield 35, 3) := by decide +kernel
theorem dX8_worst_5 : decode cX8_worst 5 = .ok (.aload_n 0, 1) := by decide +kernel
theorem dX8_worst_6 : decode cX8_worst 6 = .ok (.invokevirtual 90, 3) := by decide +kernel
theorem dX8_worst_9 : decode cX8_worst 9 = .ok (.iconst (-1), 1) := by decide +kernel
theorem dX8_worst_10 : decode cX8_worst 10 = .ok (.istore_n 1, 1) := by decide +kernel
theorem dX8_worst_11 : decode cX8_worst 11 = .ok (.iconst 0, 1) := by decide +kernel
theorem dX8_worst_12 : decode cX8_worst 12 = .ok (.istore_n 2, 1) := by decide +kernel
theorem dX8_worst_13 : decode cX8_worst 13 = .ok (.iload_n 2, 1) := by decide +kernel
theorem dX8_worst_14 : decode cX8_worst 14 = .ok (.aload_n 0, 1) := by decide +kernel
theorem dX8_worst_15 : decode cX8_worst 15 = .ok (.getfield 93, 3) := by decide +kernel
theorem dX8_worst_18 : decode cX8_worst 18 = .ok (.if_icmp .ge 36, 3) := by decide +kernel
theorem dX8_worst_21 : decode cX8_worst 21 = .ok (.iload_n 1, 1) := by decide +kernel
theorem dX8_worst_22 : decode cX8_worst 22 = .ok (.iconst (-1), 1) := by decide +kernel
theorem dX8_worst_23 : decode cX8_worst 23 = .ok (.if_icmp .eq 23, 3) := by decide +kernel
theorem dX8_worst_26 : decode cX8_worst 26 = .ok (.aload_n 0, 1) := by decide +kernel
theorem dX8_worst_27 : decode cX8_worst 27 = .ok (.iload_n 2, 1) := by decide +kernel
theorem dX8_worst_28 : decode cX8_worst 28 = .ok (.invokevirtual 178, 3) := by decide +kernel
theorem dX8_worst_31 : decode cX8_worst 31 = .ok (.invokestatic 114, 3) := by decide +kernel
theorem dX8_worst_34 : decode cX8_worst 34 = .ok (.aload_n 0, 1) := by decide +kernel
theorem dX8_worst_35 : decode cX8_worst 35 = .ok (.iload_n 1, 1) := by decide +kernel
theorem dX8_worst_36 : decode cX8_worst 36 = .ok (.invokevirtual 178, 3) := by decide +kernel
theorem dX8_worst_39 : decode cX8_worst 39 = .ok (.invokestatic 114, 3) := by decide +kernel
theorem dX8_worst_42 : decode cX8_worst 42 = .ok (.lcmp, 1) := by decide +kernel
theorem dX8_worst_43 : decode cX8_worst 43 = .ok (.ifCond .le 5, 3) := by decide +kernel
theorem dX8_worst_46 : decode cX8_worst 46 = .ok (.iload_n 2, 1) := by decide +kernel
theorem dX8_worst_47 : decode cX8_worst 47 = .ok (.istore_n 1, 1) := by decide +kernel
theorem dX8_worst_48 : decode cX8_worst 48 = .ok (.iinc 2 1, 3) := by decide +kernel
theorem dX8_worst_51 : decode cX8_worst 51 = .ok (.goto (-38), 3) := by decide +kernel
theorem dX8_worst_54 : decode cX8_worst 54 = .ok (.iload_n 1, 1) := by decide +kernel
theorem dX8_worst_55 : decode cX8_worst 55 = .ok (.ireturn, 1) := by decide +kernel
theorem dX8_adjust_0 : decode cX8_adjust 0 = .ok (.aload_n 0, 1) := by decide +kernel
theorem dX8_adjust_1 : decode cX8_adjust 1 = .ok (.iconst 0, 1) := by decide +kernel
theorem dX8_adjust_2 : decode cX8_adjust 2 = .ok (.putfield 35, 3) := by decide +kernel
theorem dX8_adjust_5 : decode cX8_adjust 5 = .ok (.aload_n 0, 1) := by decide +kernel
theorem dX8_adjust_6 : decode cX8_adjust 6 = .ok (.getfield 93, 3) := by decide +kernel
theorem dX8_adjust_9 : decode cX8_adjust 9 = .ok (.ifCond .ne 9, 3) := by decide +kernel
theorem dX8_adjust_12 : decode cX8_adjust 12 = .ok (.aload_n 0, 1) := by decide +kernel
theorem dX8_adjust_13 : decode cX8_adjust 13 = .ok (.iconst 1, 1) := by decide +kernel
theorem dX8_adjust_14 : decode cX8_adjust 14 = .ok (.invokevirtual 57, 3) := by decide +kernel
theorem dX8_adjust_17 : decode cX8_adjust 17 = .ok (.ireturn, 1) := by decide +kernel
theorem dX8_adjust_18 : decode cX8_adjust 18 = .ok (.aload_n 0, 1) := by decide +kernel
theorem dX8_adjust_19 : decode cX8_adjust 19 = .ok (.invokevirtual 181, 3) := by decide +kernel
theorem dX8_adjust_22 : decode cX8_adjust 22 = .ok (.aload_n 0, 1) := by decide +kernel
theorem dX8_adjust_23 : decode cX8_adjust 23 = .ok (.getfield 93, 3) := by decide +kernel
theorem dX8_adjust_26 : decode cX8_adjust 26 = .ok (.i2l, 1) := by decide +kernel
theorem dX8_adjust_27 : decode cX8_adjust 27 = .ok (.ldiv, 1) := by decide +kernel
theorem dX8_adjust_28 : decode cX8_adjust 28 = .ok (.lstore_n 1, 1) := by decide +kernel
theorem dX8_adjust_29 : decode cX8_adjust 29 = .ok (.aload_n 0, 1) := by decide +kernel
theorem dX8_adjust_30 : decode cX8_adjust 30 = .ok (.getfield 73, 3) := by decide +kernel
theorem dX8_adjust_33 : decode cX8_adjust 33 = .ok (.i2l, 1) := by decide +kernel
theorem dX8_adjust_34 : decode cX8_adjust 34 = .ok (.lload_n 1, 1) := by decide +kernel
theorem dX8_adjust_35 : decode cX8_adjust 35 = .ok (.ladd, 1) := by decide +kernel
theorem dX8_adjust_36 : decode cX8_adjust 36 = .ok (.ldc2_w 69, 3) := by decide +kernel
theorem dX8_adjust_39 : decode cX8_adjust 39 = .ok (.ldc2_w 71, 3) := by decide +kernel
theorem dX8_adjust_42 : decode cX8_adjust 42 = .ok (.invokestatic 41, 3) := by decide +kernel
theorem dX8_adjust_45 : decode cX8_adjust 45 = .ok (.ifCond .ne 9, 3) := by decide +kernel
theorem dX8_adjust_48 : decode cX8_adjust 48 = .ok (.aload_n 0, 1) := by decide +kernel
theorem dX8_adjust_49 : decode cX8_adjust 49 = .ok (.iconst 1, 1) := by decide +kernel
theorem dX8_adjust_50 : decode cX8_adjust 50 = .ok (.invokevirtual 57, 3) := by decide +kernel
theorem dX8_adjust_53 : decode cX8_adjust 53 = .ok (.ireturn, 1) := by decide +kernel
theorem dX8_adjust_54 : decode cX8_adjust 54 = .ok (.aload_n 0, 1) := by decide +kernel
theorem dX8_adjust_55 : decode cX8_adjust 55 = .ok (.dup, 1) := by decide +kernel
theorem dX8_adjust_56 : decode cX8_adjust 56 = .ok (.getfield 73, 3) := by decide +kernel
theorem dX8_adjust_59 : decode cX8_adjust 59 = .ok (.lload_n 1, 1) := by decide +kernel
theorem dX8_adjust_60 : decode cX8_adjust 60 = .ok (.l2i, 1) := by decide +kernel
theorem dX8_adjust_61 : decode cX8_adjust 61 = .ok (.iadd, 1) := by decide +kernel
theorem dX8_adjust_62 : decode cX8_adjust 62 = .ok (.putfield 73, 3) := by decide +kernel
theorem dX8_adjust_65 : decode cX8_adjust 65 = .ok (.aload_n 0, 1) := by decide +kernel
theorem dX8_adjust_66 : decode cX8_adjust 66 = .ok (.iconst 0, 1) := by decide +kernel
theorem dX8_adjust_67 : decode cX8_adjust 67 = .ok (.putfield 93, 3) := by decide +kernel
theorem dX8_adjust_70 : decode cX8_adjust 70 = .ok (.aload_n 0, 1) := by decide +kernel
theorem dX8_adjust_71 : decode cX8_adjust 71 = .ok (.iconst 0, 1) := by decide +kernel
theorem dX8_adjust_72 : decode cX8_adjust 72 = .ok (.putfield 61, 3) := by decide +kernel
theorem dX8_adjust_75 : decode cX8_adjust 75 = .ok (.lload_n 1, 1) := by decide +kernel
theorem dX8_adjust_76 : decode cX8_adjust 76 = .ok (.l2i, 1) := by decide +kernel
theorem dX8_adjust_77 : decode cX8_adjust 77 = .ok (.ireturn, 1) := by decide +kernel
theorem dX8_digest_0 : decode cX8_digest 0 = .ok (.aload_n 0, 1) := by decide +kernel
theorem dX8_digest_1 : decode cX8_digest 1 = .ok (.iconst 0, 1) := by decide +kernel
theorem dX8_digest_2 : decode cX8_digest 2 = .ok (.putfield 35, 3) := by decide +kernel
theorem dX8_digest_5 : decode cX8_digest 5 = .ok (.ldc2_w 184, 3) := by decide +kernel
theorem dX8_digest_8 : decode cX8_digest 8 = .ok (.lstore_n 1, 1) := by decide +kernel
theorem dX8_digest_9 : decode cX8_digest 9 = .ok (.iconst 0, 1) := by decide +kernel
theorem dX8_digest_10 : decode cX8_digest 10 = .ok (.istore_n 3, 1) := by decide +kernel
theorem dX8_digest_11 : decode cX8_digest 11 = .ok (.iload_n 3, 1) := by decide +kernel
theorem dX8_digest_12 : decode cX8_digest 12 = .ok (.iconst 4, 1) := by decide +kernel
theorem dX8_digest_13 : decode cX8_digest 13 = .ok (.if_icmp .ge 22, 3) := by decide +kernel
theorem dX8_digest_16 : decode cX8_digest 16 = .ok (.lload_n 1, 1) := by decide +kernel
theorem dX8_digest_17 : decode cX8_digest 17 = .ok (.ldc2_w 186, 3) := by decide +kernel
theorem dX8_digest_20 : decode cX8_digest 20 = .ok (.lmul, 1) := by decide +kernel
theorem dX8_digest_21 : decode cX8_digest 21 = .ok (.aload_n 0, 1) := by decide +kernel
theorem dX8_digest_22 : decode cX8_digest 22 = .ok (.iload_n 3, 1) := by decide +kernel
theorem dX8_digest_23 : decode cX8_digest 23 = .ok (.invokevirtual 98, 3) := by decide +kernel
theorem dX8_digest_26 : decode cX8_digest 26 = .ok (.i2l, 1) := by decide +kernel
theorem dX8_digest_27 : decode cX8_digest 27 = .ok (.ladd, 1) := by decide +kernel
theorem dX8_digest_28 : decode cX8_digest 28 = .ok (.lstore_n 1, 1) := by decide +kernel
theorem dX8_digest_29 : decode cX8_digest 29 = .ok (.iinc 3 1, 3) := by decide +kernel
theorem dX8_digest_32 : decode cX8_digest 32 = .ok (.goto (-21), 3) := by decide +kernel
theorem dX8_digest_35 : decode cX8_digest 35 = .ok (.lload_n 1, 1) := by decide +kernel
theorem dX8_digest_36 : decode cX8_digest 36 = .ok (.ldc2_w 186, 3) := by decide +kernel
theorem dX8_digest_39 : decode cX8_digest 39 = .ok (.lmul, 1) := by decide +kernel
theorem dX8_digest_40 : decode cX8_digest 40 = .ok (.aload_n 0, 1) := by decide +kernel
theorem dX8_digest_41 : decode cX8_digest 41 = .ok (.getfield 73, 3) := by decide +kernel
theorem dX8_digest_44 : decode cX8_digest 44 = .ok (.i2l, 1) := by decide +kernel
theorem dX8_digest_45 : decode cX8_digest 45 = .ok (.ladd, 1) := by decide +kernel
theorem dX8_digest_46 : decode cX8_digest 46 = .ok (.lstore_n 1, 1) := by decide +kernel
theorem dX8_digest_47 : decode cX8_digest 47 = .ok (.iconst 0, 1) := by decide +kernel
theorem dX8_digest_48 : decode cX8_digest 48 = .ok (.istore_n 3, 1) := by decide +kernel
theorem dX8_digest_49 : decode cX8_digest 49 = .ok (.iload_n 3, 1) := by decide +kernel
theorem dX8_digest_50 : decode cX8_digest 50 = .ok (.aload_n 0, 1) := by decide +kernel
theorem dX8_digest_51 : decode cX8_digest 51 = .ok (.getfield 84, 3) := by decide +kernel
theorem dX8_digest_54 : decode cX8_digest 54 = .ok (.if_icmp .ge 39, 3) := by decide +kernel
theorem dX8_digest_57 : decode cX8_digest 57 = .ok (.iconst 0, 1) := by decide +kernel
theorem dX8_digest_58 : decode cX8_digest 58 = .ok (.istore 4, 2) := by decide +kernel
theorem dX8_digest_60 : decode cX8_digest 60 = .ok (.iload 4, 2) := by decide +kernel
theorem dX8_digest_62 : decode cX8_digest 62 = .ok (.iconst 3, 1) := by decide +kernel
theorem dX8_digest_63 : decode cX8_digest 63 = .ok (.if_icmp .ge 24, 3) := by decide +kernel
theorem dX8_digest_66 : decode cX8_digest 66 = .ok (.lload_n 1, 1) := by decide +kernel
theorem dX8_digest_67 : decode cX8_digest 67 = .ok (.ldc2_w 186, 3) := by decide +kernel
theorem dX8_digest_70 : decode cX8_digest 70 = .ok (.lmul, 1) := by decide +kernel
theorem dX8_digest_71 : decode cX8_digest 71 = .ok (.aload_n 0, 1) := by decide +kernel
theorem dX8_digest_72 : decode cX8_digest 72 = .ok (.iload_n 3, 1) := by decide +kernel
theorem dX8_digest_73 : decode cX8_digest 73 = .ok (.iload 4, 2) := by decide +kernel
theorem dX8_digest_75 : decode cX8_digest 75 = .ok (.invokevirtual 104, 3) := by decide +kernel
theorem dX8_digest_78 : decode cX8_digest 78 = .ok (.i2l, 1) := by decide +kernel
theorem dX8_digest_79 : decode cX8_digest 79 = .ok (.ladd, 1) := by decide +kernel
theorem dX8_digest_80 : decode cX8_digest 80 = .ok (.lstore_n 1, 1) := by decide +kernel
theorem dX8_digest_81 : decode cX8_digest 81 = .ok (.iinc 4 1, 3) := by decide +kernel
theorem dX8_digest_84 : decode cX8_digest 84 = .ok (.goto (-24), 3) := by decide +kernel
theorem dX8_digest_87 : decode cX8_digest 87 = .ok (.iinc 3 1, 3) := by decide +kernel
theorem dX8_digest_90 : decode cX8_digest 90 = .ok (.goto (-41), 3) := by decide +kernel
theorem dX8_digest_93 : decode cX8_digest 93 = .ok (.iconst 0, 1) := by decide +kernel
theorem dX8_digest_94 : decode cX8_digest 94 = .ok (.istore_n 3, 1) := by decide +kernel
theorem dX8_digest_95 : decode cX8_digest 95 = .ok (.iload_n 3, 1) := by decide +kernel
theorem dX8_digest_96 : decode cX8_digest 96 = .ok (.aload_n 0, 1) := by decide +kernel
theorem dX8_digest_97 : decode cX8_digest 97 = .ok (.getfield 48, 3) := by decide +kernel
theorem dX8_digest_100 : decode cX8_digest 100 = .ok (.if_icmp .ge 74, 3) := by decide +kernel
theorem dX8_digest_103 : decode cX8_digest 103 = .ok (.lload_n 1, 1) := by decide +kernel
theorem dX8_digest_104 : decode cX8_digest 104 = .ok (.ldc2_w 186, 3) := by decide +kernel
theorem dX8_digest_107 : decode cX8_digest 107 = .ok (.lmul, 1) := by decide +kernel
theorem dX8_digest_108 : decode cX8_digest 108 = .ok (.aload_n 0, 1) := by decide +kernel
theorem dX8_digest_109 : decode cX8_digest 109 = .ok (.iload_n 3, 1) := by decide +kernel
theorem dX8_digest_110 : decode cX8_digest 110 = .ok (.invokevirtual 149, 3) := by decide +kernel
theorem dX8_digest_113 : decode cX8_digest 113 = .ok (.ifCond .eq 7, 3) := by decide +kernel
theorem dX8_digest_116 : decode cX8_digest 116 = .ok (.lconst 1, 1) := by decide +kernel
theorem dX8_digest_117 : decode cX8_digest 117 = .ok (.goto 4, 3) := by decide +kernel
theorem dX8_digest_120 : decode cX8_digest 120 = .ok (.lconst 0, 1) := by decide +kernel
theorem dX8_digest_121 : decode cX8_digest 121 = .ok (.ladd, 1) := by decide +kernel
theorem dX8_digest_122 : decode cX8_digest 122 = .ok (.lstore_n 1, 1) := by decide +kernel
theorem dX8_digest_123 : decode cX8_digest 123 = .ok (.iconst 0, 1) := by decide +kernel
theorem dX8_digest_124 : decode cX8_digest 124 = .ok (.istore 4, 2) := by decide +kernel
theorem dX8_digest_126 : decode cX8_digest 126 = .ok (.iload 4, 2) := by decide +kernel
theorem dX8_digest_128 : decode cX8_digest 128 = .ok (.aload_n 0, 1) := by decide +kernel
theorem dX8_digest_129 : decode cX8_digest 129 = .ok (.getfield 84, 3) := by decide +kernel
theorem dX8_digest_132 : decode cX8_digest 132 = .ok (.if_icmp .ge 36, 3) := by decide +kernel
theorem dX8_digest_135 : decode cX8_digest 135 = .ok (.lload_n 1, 1) := by decide +kernel
theorem dX8_digest_136 : decode cX8_digest 136 = .ok (.ldc2_w 186, 3) := by decide +kernel
theorem dX8_digest_139 : decode cX8_digest 139 = .ok (.lmul, 1) := by decide +kernel
theorem dX8_digest_140 : decode cX8_digest 140 = .ok (.aload_n 0, 1) := by decide +kernel
theorem dX8_digest_141 : decode cX8_digest 141 = .ok (.iload_n 3, 1) := by decide +kernel
theorem dX8_digest_142 : decode cX8_digest 142 = .ok (.iload 4, 2) := by decide +kernel
theorem dX8_digest_144 : decode cX8_digest 144 = .ok (.invokevirtual 146, 3) := by decide +kernel
theorem dX8_digest_147 : decode cX8_digest 147 = .ok (.i2l, 1) := by decide +kernel
theorem dX8_digest_148 : decode cX8_digest 148 = .ok (.ladd, 1) := by decide +kernel
theorem dX8_digest_149 : decode cX8_digest 149 = .ok (.ldc2_w 186, 3) := by decide +kernel
theorem dX8_digest_152 : decode cX8_digest 152 = .ok (.lmul, 1) := by decide +kernel
theorem dX8_digest_153 : decode cX8_digest 153 = .ok (.aload_n 0, 1) := by decide +kernel
theorem dX8_digest_154 : decode cX8_digest 154 = .ok (.iload_n 3, 1) := by decide +kernel
theorem dX8_digest_155 : decode cX8_digest 155 = .ok (.iload 4, 2) := by decide +kernel
theorem dX8_digest_157 : decode cX8_digest 157 = .ok (.invokevirtual 152, 3) := by decide +kernel
theorem dX8_digest_160 : decode cX8_digest 160 = .ok (.ladd, 1) := by decide +kernel
theorem dX8_digest_161 : decode cX8_digest 161 = .ok (.lstore_n 1, 1) := by decide +kernel
theorem dX8_digest_162 : decode cX8_digest 162 = .ok (.iinc 4 1, 3) := by decide +kernel
theorem dX8_digest_165 : decode cX8_digest 165 = .ok (.goto (-39), 3) := by decide +kernel
theorem dX8_digest_168 : decode cX8_digest 168 = .ok (.iinc 3 1, 3) := by decide +kernel
theorem dX8_digest_171 : decode cX8_digest 171 = .ok (.goto (-76), 3) := by decide +kernel
theorem dX8_digest_174 : decode cX8_digest 174 = .ok (.iconst 0, 1) := by decide +kernel
theorem dX8_digest_175 : decode cX8_digest 175 = .ok (.istore_n 3, 1) := by decide +kernel
theorem dX8_digest_176 : decode cX8_digest 176 = .ok (.iload_n 3, 1) := by decide +kernel
theorem dX8_digest_177 : decode cX8_digest 177 = .ok (.iconst 5, 1) := by decide +kernel
theorem dX8_digest_178 : decode cX8_digest 178 = .ok (.if_icmp .ge 22, 3) := by decide +kernel
theorem dX8_digest_181 : decode cX8_digest 181 = .ok (.lload_n 1, 1) := by decide +kernel
theorem dX8_digest_182 : decode cX8_digest 182 = .ok (.ldc2_w 186, 3) := by decide +kernel
theorem dX8_digest_185 : decode cX8_digest 185 = .ok (.lmul, 1) := by decide +kernel
theorem dX8_digest_186 : decode cX8_digest 186 = .ok (.aload_n 0, 1) := by decide +kernel
theorem dX8_digest_187 : decode cX8_digest 187 = .ok (.iload_n 3, 1) := by decide +kernel
theorem dX8_digest_188 : decode cX8_digest 188 = .ok (.invokevirtual 130, 3) := by decide +kernel
theorem dX8_digest_191 : decode cX8_digest 191 = .ok (.i2l, 1) := by decide +kernel
theorem dX8_digest_192 : decode cX8_digest 192 = .ok (.ladd, 1) := by decide +kernel
theorem dX8_digest_193 : decode cX8_digest 193 = .ok (.lstore_n 1, 1) := by decide +kernel
theorem dX8_digest_194 : decode cX8_digest 194 = .ok (.iinc 3 1, 3) := by decide +kernel
theorem dX8_digest_197 : decode cX8_digest 197 = .ok (.goto (-21), 3) := by decide +kernel
theorem dX8_digest_200 : decode cX8_digest 200 = .ok (.lload_n 1, 1) := by decide +kernel
theorem dX8_digest_201 : decode cX8_digest 201 = .ok (.lreturn, 1) := by decide +kernel
theorem dL_addWave_0 : decode cL_addWave 0 = .ok (.aload 4, 2) := by decide +kernel
theorem dL_addWave_2 : decode cL_addWave 2 = .ok (.iconst 0, 1) := by decide +kernel
theorem dL_addWave_3 : decode cL_addWave 3 = .ok (.aload_n 0, 1) := by decide +kernel
theorem dL_addWave_4 : decode cL_addWave 4 = .ok (.iload_n 1, 1) := by decide +kernel
theorem dL_addWave_5 : decode cL_addWave 5 = .ok (.iload_n 2, 1) := by decide +kernel
theorem dL_addWave_6 : decode cL_addWave 6 = .ok (.iload_n 3, 1) := by decide +kernel
theorem dL_addWave_7 : decode cL_addWave 7 = .ok (.invokevirtual 7, 3) := by decide +kernel
theorem dL_addWave_10 : decode cL_addWave 10 = .ok (.i2l, 1) := by decide +kernel
theorem dL_addWave_11 : decode cL_addWave 11 = .ok (.lastore, 1) := by decide +kernel
theorem dL_addWave_12 : decode cL_addWave 12 = .ok (.goto 11, 3) := by decide +kernel
theorem dL_addWave_15 : decode cL_addWave 15 = .ok (.astore 5, 2) := by decide +kernel
theorem dL_addWave_17 : decode cL_addWave 17 = .ok (.iconst 1, 1) := by decide +kernel
theorem dL_addWave_18 : decode cL_addWave 18 = .ok (.ireturn, 1) := by decide +kernel
theorem dL_addWave_19 : decode cL_addWave 19 = .ok (.astore 5, 2) := by decide +kernel
theorem dL_addWave_21 : decode cL_addWave 21 = .ok (.iconst 2, 1) := by decide +kernel
theorem dL_addWave_22 : decode cL_addWave 22 = .ok (.ireturn, 1) := by decide +kernel
theorem dL_addWave_23 : decode cL_addWave 23 = .ok (.iconst 0, 1) := by decide +kernel
theorem dL_addWave_24 : decode cL_addWave 24 = .ok (.ireturn, 1) := by decide +kernel
theorem dL_setRange_0 : decode cL_setRange 0 = .ok (.aload_n 3, 1) := by decide +kernel
theorem dL_setRange_1 : decode cL_setRange 1 = .ok (.iconst 0, 1) := by decide +kernel
theorem dL_setRange_2 : decode cL_setRange 2 = .ok (.aload_n 0, 1) := by decide +kernel
theorem dL_setRange_3 : decode cL_setRange 3 = .ok (.iload_n 1, 1) := by decide +kernel
theorem dL_setRange_4 : decode cL_setRange 4 = .ok (.iload_n 2, 1) := by decide +kernel
theorem dL_setRange_5 : decode cL_setRange 5 = .ok (.invokevirtual 17, 3) := by decide +kernel
theorem dL_setRange_8 : decode cL_setRange 8 = .ok (.i2l, 1) := by decide +kernel
theorem dL_setRange_9 : decode cL_setRange 9 = .ok (.lastore, 1) := by decide +kernel
theorem dL_setRange_10 : decode cL_setRange 10 = .ok (.goto 11, 3) := by decide +kernel
theorem dL_setRange_13 : decode cL_setRange 13 = .ok (.astore 4, 2) := by decide +kernel
theorem dL_setRange_15 : decode cL_setRange 15 = .ok (.iconst 1, 1) := by decide +kernel
theorem dL_setRange_16 : decode cL_setRange 16 = .ok (.ireturn, 1) := by decide +kernel
theorem dL_setRange_17 : decode cL_setRange 17 = .ok (.astore 4, 2) := by decide +kernel
theorem dL_setRange_19 : decode cL_setRange 19 = .ok (.iconst 2, 1) := by decide +kernel
theorem dL_setRange_20 : decode cL_setRange 20 = .ok (.ireturn, 1) := by decide +kernel
theorem dL_setRange_21 : decode cL_setRange 21 = .ok (.iconst 0, 1) := by decide +kernel
theorem dL_setRange_22 : decode cL_setRange 22 = .ok (.ireturn, 1) := by decide +kernel
theorem dL_setLevel_0 : decode cL_setLevel 0 = .ok (.aload_n 2, 1) := by decide +kernel
theorem dL_setLevel_1 : decode cL_setLevel 1 = .ok (.iconst 0, 1) := by decide +kernel
theorem dL_setLevel_2 : decode cL_setLevel 2 = .ok (.aload_n 0, 1) := by decide +kernel
theorem dL_setLevel_3 : decode cL_setLevel 3 = .ok (.iload_n 1, 1) := by decide +kernel
theorem dL_setLevel_4 : decode cL_setLevel 4 = .ok (.invokevirtual 23, 3) := by decide +kernel
theorem dL_setLevel_7 : decode cL_setLevel 7 = .ok (.i2l, 1) := by decide +kernel
theorem dL_setLevel_8 : decode cL_setLevel 8 = .ok (.lastore, 1) := by decide +kernel
theorem dL_setLevel_9 : decode cL_setLevel 9 = .ok (.goto 6, 3) := by decide +kernel
theorem dL_setLevel_12 : decode cL_setLevel 12 = .ok (.astore_n 3, 1) := by decide +kernel
theorem dL_setLevel_13 : decode cL_setLevel 13 = .ok (.iconst 1, 1) := by decide +kernel
theorem dL_setLevel_14 : decode cL_setLevel 14 = .ok (.ireturn, 1) := by decide +kernel
theorem dL_setLevel_15 : decode cL_setLevel 15 = .ok (.iconst 0, 1) := by decide +kernel
theorem dL_setLevel_16 : decode cL_setLevel 16 = .ok (.ireturn, 1) := by decide +kernel
theorem dL_height_0 : decode cL_height 0 = .ok (.aload_n 2, 1) := by decide +kernel
theorem dL_height_1 : decode cL_height 1 = .ok (.iconst 0, 1) := by decide +kernel
theorem dL_height_2 : decode cL_height 2 = .ok (.aload_n 0, 1) := by decide +kernel
theorem dL_height_3 : decode cL_height 3 = .ok (.iload_n 1, 1) := by decide +kernel
theorem dL_height_4 : decode cL_height 4 = .ok (.invokevirtual 27, 3) := by decide +kernel
theorem dL_height_7 : decode cL_height 7 = .ok (.i2l, 1) := by decide +kernel
theorem dL_height_8 : decode cL_height 8 = .ok (.lastore, 1) := by decide +kernel
theorem dL_height_9 : decode cL_height 9 = .ok (.goto 6, 3) := by decide +kernel
theorem dL_height_12 : decode cL_height 12 = .ok (.astore_n 3, 1) := by decide +kernel
theorem dL_height_13 : decode cL_height 13 = .ok (.iconst 1, 1) := by decide +kernel
theorem dL_height_14 : decode cL_height 14 = .ok (.ireturn, 1) := by decide +kernel
theorem dL_height_15 : decode cL_height 15 = .ok (.iconst 0, 1) := by decide +kernel
theorem dL_height_16 : decode cL_height 16 = .ok (.ireturn, 1) := by decide +kernel
theorem dL_waveHeight_0 : decode cL_waveHeight 0 = .ok (.aload_n 3, 1) := by decide +kernel
theorem dL_waveHeight_1 : decode cL_waveHeight 1 = .ok (.iconst 0, 1) := by decide +kernel
theorem dL_waveHeight_2 : decode cL_waveHeight 2 = .ok (.aload_n 0, 1) := by decide +kernel
theorem dL_waveHeight_3 : decode cL_waveHeight 3 = .ok (.iload_n 1, 1) := by decide +kernel
theorem dL_waveHeight_4 : decode cL_waveHeight 4 = .ok (.iload_n 2, 1) := by decide +kernel
theorem dL_waveHeight_5 : decode cL_waveHeight 5 = .ok (.invokevirtual 30, 3) := by decide +kernel
theorem dL_waveHeight_8 : decode cL_waveHeight 8 = .ok (.i2l, 1) := by decide +kernel
theorem dL_waveHeight_9 : decode cL_waveHeight 9 = .ok (.lastore, 1) := by decide +kernel
theorem dL_waveHeight_10 : decode cL_waveHeight 10 = .ok (.goto 11, 3) := by decide +kernel
theorem dL_waveHeight_13 : decode cL_waveHeight 13 = .ok (.astore 4, 2) := by decide +kernel
theorem dL_waveHeight_15 : decode cL_waveHeight 15 = .ok (.iconst 1, 1) := by decide +kernel
theorem dL_waveHeight_16 : decode cL_waveHeight 16 = .ok (.ireturn, 1) := by decide +kernel
theorem dL_waveHeight_17 : decode cL_waveHeight 17 = .ok (.astore 4, 2) := by decide +kernel
theorem dL_waveHeight_19 : decode cL_waveHeight 19 = .ok (.iconst 2, 1) := by decide +kernel
theorem dL_waveHeight_20 : decode cL_waveHeight 20 = .ok (.ireturn, 1) := by decide +kernel
theorem dL_waveHeight_21 : decode cL_waveHeight 21 = .ok (.iconst 0, 1) := by decide +kernel
theorem dL_waveHeight_22 : decode cL_waveHeight 22 = .ok (.ireturn, 1) := by decide +kernel
theorem dL_count_0 : decode cL_count 0 = .ok (.aload_n 2, 1) := by decide +kernel
theorem dL_count_1 : decode cL_count 1 = .ok (.iconst 0, 1) := by decide +kernel
theorem dL_count_2 : decode cL_count 2 = .ok (.aload_n 0, 1) := by decide +kernel
theorem dL_count_3 : decode cL_count 3 = .ok (.iload_n 1, 1) := by decide +kernel
theorem dL_count_4 : decode cL_count 4 = .ok (.invokevirtual 33, 3) := by decide +kernel
theorem dL_count_7 : decode cL_count 7 = .ok (.i2l, 1) := by decide +kernel
theorem dL_count_8 : decode cL_count 8 = .ok (.lastore, 1) := by decide +kernel
theorem dL_count_9 : decode cL_count 9 = .ok (.goto 6, 3) := by decide +kernel
theorem dL_count_12 : decode cL_count 12 = .ok (.astore_n 3, 1) := by decide +kernel
theorem dL_count_13 : decode cL_count 13 = .ok (.iconst 1, 1) := by decide +kernel
theorem dL_count_14 : decode cL_count 14 = .ok (.ireturn, 1) := by decide +kernel
theorem dL_count_15 : decode cL_count 15 = .ok (.iconst 0, 1) := by decide +kernel
theorem dL_count_16 : decode cL_count 16 = .ok (.ireturn, 1) := by decide +kernel
theorem dL_water_0 : decode cL_water 0 = .ok (.aload_n 3, 1) := by decide +kernel
theorem dL_water_1 : decode cL_water 1 = .ok (.iconst 0, 1) := by decide +kernel
theorem dL_water_2 : decode cL_water 2 = .ok (.aload_n 0, 1) := by decide +kernel
theorem dL_water_3 : decode cL_water 3 = .ok (.iload_n 1, 1) := by decide +kernel
theorem dL_water_4 : decode cL_water 4 = .ok (.iload_n 2, 1) := by decide +kernel
theorem dL_water_5 : decode cL_water 5 = .ok (.invokevirtual 36, 3) := by decide +kernel
theorem dL_water_8 : decode cL_water 8 = .ok (.i2l, 1) := by decide +kernel
theorem dL_water_9 : decode cL_water 9 = .ok (.lastore, 1) := by decide +kernel
theorem dL_water_10 : decode cL_water 10 = .ok (.goto 7, 3) := by decide +kernel
theorem dL_water_13 : decode cL_water 13 = .ok (.astore 4, 2) := by decide +kernel
theorem dL_water_15 : decode cL_water 15 = .ok (.iconst 1, 1) := by decide +kernel
theorem dL_water_16 : decode cL_water 16 = .ok (.ireturn, 1) := by decide +kernel
theorem dL_water_17 : decode cL_water 17 = .ok (.iconst 0, 1) := by decide +kernel
theorem dL_water_18 : decode cL_water 18 = .ok (.ireturn, 1) := by decide +kernel
theorem dL_next_0 : decode cL_next 0 = .ok (.aload_n 3, 1) := by decide +kernel
theorem dL_next_1 : decode cL_next 1 = .ok (.iconst 0, 1) := by decide +kernel
theorem dL_next_2 : decode cL_next 2 = .ok (.aload_n 0, 1) := by decide +kernel
theorem dL_next_3 : decode cL_next 3 = .ok (.iload_n 1, 1) := by decide +kernel
theorem dL_next_4 : decode cL_next 4 = .ok (.iload_n 2, 1) := by decide +kernel
theorem dL_next_5 : decode cL_next 5 = .ok (.invokevirtual 39, 3) := by decide +kernel
theorem dL_next_8 : decode cL_next 8 = .ok (.i2l, 1) := by decide +kernel
theorem dL_next_9 : decode cL_next 9 = .ok (.lastore, 1) := by decide +kernel
theorem dL_next_10 : decode cL_next 10 = .ok (.goto 7, 3) := by decide +kernel
theorem dL_next_13 : decode cL_next 13 = .ok (.astore 4, 2) := by decide +kernel
theorem dL_next_15 : decode cL_next 15 = .ok (.iconst 1, 1) := by decide +kernel
theorem dL_next_16 : decode cL_next 16 = .ok (.ireturn, 1) := by decide +kernel
theorem dL_next_17 : decode cL_next 17 = .ok (.iconst 0, 1) := by decide +kernel
theorem dL_next_18 : decode cL_next 18 = .ok (.ireturn, 1) := by decide +kernel
theorem dL_datum_0 : decode cL_datum 0 = .ok (.aload_n 2, 1) := by decide +kernel
theorem dL_datum_1 : decode cL_datum 1 = .ok (.iconst 0, 1) := by decide +kernel
theorem dL_datum_2 : decode cL_datum 2 = .ok (.aload_n 0, 1) := by decide +kernel
theorem dL_datum_3 : decode cL_datum 3 = .ok (.iload_n 1, 1) := by decide +kernel
theorem dL_datum_4 : decode cL_datum 4 = .ok (.invokevirtual 43, 3) := by decide +kernel
theorem dL_datum_7 : decode cL_datum 7 = .ok (.i2l, 1) := by decide +kernel
theorem dL_datum_8 : decode cL_datum 8 = .ok (.lastore, 1) := by decide +kernel
theorem dL_datum_9 : decode cL_datum 9 = .ok (.goto 6, 3) := by decide +kernel
theorem dL_datum_12 : decode cL_datum 12 = .ok (.astore_n 3, 1) := by decide +kernel
theorem dL_datum_13 : decode cL_datum 13 = .ok (.iconst 1, 1) := by decide +kernel
theorem dL_datum_14 : decode cL_datum 14 = .ok (.ireturn, 1) := by decide +kernel
theorem dL_datum_15 : decode cL_datum 15 = .ok (.iconst 0, 1) := by decide +kernel
theorem dL_datum_16 : decode cL_datum 16 = .ok (.ireturn, 1) := by decide +kernel
theorem dL_addPort_0 : decode cL_addPort 0 = .ok (.aload_n 1, 1) := by decide +kernel
theorem dL_addPort_1 : decode cL_addPort 1 = .ok (.iconst 0, 1) := by decide +kernel
theorem dL_addPort_2 : decode cL_addPort 2 = .ok (.aload_n 0, 1) := by decide +kernel
theorem dL_addPort_3 : decode cL_addPort 3 = .ok (.invokevirtual 46, 3) := by decide +kernel
theorem dL_addPort_6 : decode cL_addPort 6 = .ok (.i2l, 1) := by decide +kernel
theorem dL_addPort_7 : decode cL_addPort 7 = .ok (.lastore, 1) := by decide +kernel
theorem dL_addPort_8 : decode cL_addPort 8 = .ok (.goto 6, 3) := by decide +kernel
theorem dL_addPort_11 : decode cL_addPort 11 = .ok (.astore_n 2, 1) := by decide +kernel
theorem dL_addPort_12 : decode cL_addPort 12 = .ok (.iconst 1, 1) := by decide +kernel
theorem dL_addPort_13 : decode cL_addPort 13 = .ok (.ireturn, 1) := by decide +kernel
theorem dL_addPort_14 : decode cL_addPort 14 = .ok (.iconst 0, 1) := by decide +kernel
theorem dL_addPort_15 : decode cL_addPort 15 = .ok (.ireturn, 1) := by decide +kernel
theorem dL_setPort_0 : decode cL_setPort 0 = .ok (.aload 5, 2) := by decide +kernel
theorem dL_setPort_2 : decode cL_setPort 2 = .ok (.iconst 0, 1) := by decide +kernel
theorem dL_setPort_3 : decode cL_setPort 3 = .ok (.aload_n 0, 1) := by decide +kernel
theorem dL_setPort_4 : decode cL_setPort 4 = .ok (.iload_n 1, 1) := by decide +kernel
theorem dL_setPort_5 : decode cL_setPort 5 = .ok (.iload_n 2, 1) := by decide +kernel
theorem dL_setPort_6 : decode cL_setPort 6 = .ok (.iload_n 3, 1) := by decide +kernel
theorem dL_setPort_7 : decode cL_setPort 7 = .ok (.iload 4, 2) := by decide +kernel
theorem dL_setPort_9 : decode cL_setPort 9 = .ok (.invokevirtual 50, 3) := by decide +kernel
theorem dL_setPort_12 : decode cL_setPort 12 = .ok (.i2l, 1) := by decide +kernel
theorem dL_setPort_13 : decode cL_setPort 13 = .ok (.lastore, 1) := by decide +kernel
theorem dL_setPort_14 : decode cL_setPort 14 = .ok (.goto 11, 3) := by decide +kernel
theorem dL_setPort_17 : decode cL_setPort 17 = .ok (.astore 6, 2) := by decide +kernel
theorem dL_setPort_19 : decode cL_setPort 19 = .ok (.iconst 1, 1) := by decide +kernel
theorem dL_setPort_20 : decode cL_setPort 20 = .ok (.ireturn, 1) := by decide +kernel
theorem dL_setPort_21 : decode cL_setPort 21 = .ok (.astore 6, 2) := by decide +kernel
theorem dL_setPort_23 : decode cL_setPort 23 = .ok (.iconst 2, 1) := by decide +kernel
theorem dL_setPort_24 : decode cL_setPort 24 = .ok (.ireturn, 1) := by decide +kernel
theorem dL_setPort_25 : decode cL_setPort 25 = .ok (.iconst 0, 1) := by decide +kernel
theorem dL_setPort_26 : decode cL_setPort 26 = .ok (.ireturn, 1) := by decide +kernel
theorem dL_setAddition_0 : decode cL_setAddition 0 = .ok (.aload_n 3, 1) := by decide +kernel
theorem dL_setAddition_1 : decode cL_setAddition 1 = .ok (.iconst 0, 1) := by decide +kernel
theorem dL_setAddition_2 : decode cL_setAddition 2 = .ok (.aload_n 0, 1) := by decide +kernel
theorem dL_setAddition_3 : decode cL_setAddition 3 = .ok (.iload_n 1, 1) := by decide +kernel
theorem dL_setAddition_4 : decode cL_setAddition 4 = .ok (.iload_n 2, 1) := by decide +kernel
theorem dL_setAddition_5 : decode cL_setAddition 5 = .ok (.invokevirtual 54, 3) := by decide +kernel
theorem dL_setAddition_8 : decode cL_setAddition 8 = .ok (.i2l, 1) := by decide +kernel
theorem dL_setAddition_9 : decode cL_setAddition 9 = .ok (.lastore, 1) := by decide +kernel
theorem dL_setAddition_10 : decode cL_setAddition 10 = .ok (.goto 11, 3) := by decide +kernel
theorem dL_setAddition_13 : decode cL_setAddition 13 = .ok (.astore 4, 2) := by decide +kernel
theorem dL_setAddition_15 : decode cL_setAddition 15 = .ok (.iconst 1, 1) := by decide +kernel
theorem dL_setAddition_16 : decode cL_setAddition 16 = .ok (.ireturn, 1) := by decide +kernel
theorem dL_setAddition_17 : decode cL_setAddition 17 = .ok (.astore 4, 2) := by decide +kernel
theorem dL_setAddition_19 : decode cL_setAddition 19 = .ok (.iconst 2, 1) := by decide +kernel
theorem dL_setAddition_20 : decode cL_setAddition 20 = .ok (.ireturn, 1) := by decide +kernel
theorem dL_setAddition_21 : decode cL_setAddition 21 = .ok (.iconst 0, 1) := by decide +kernel
theorem dL_setAddition_22 : decode cL_setAddition 22 = .ok (.ireturn, 1) := by decide +kernel
theorem dL_isInOrder_0 : decode cL_isInOrder 0 = .ok (.aload_n 2, 1) := by decide +kernel
theorem dL_isInOrder_1 : decode cL_isInOrder 1 = .ok (.iconst 0, 1) := by decide +kernel
theorem dL_isInOrder_2 : decode cL_isInOrder 2 = .ok (.aload_n 0, 1) := by decide +kernel
theorem dL_isInOrder_3 : decode cL_isInOrder 3 = .ok (.iload_n 1, 1) := by decide +kernel
theorem dL_isInOrder_4 : decode cL_isInOrder 4 = .ok (.invokevirtual 57, 3) := by decide +kernel
theorem dL_isInOrder_7 : decode cL_isInOrder 7 = .ok (.ifCond .eq 7, 3) := by decide +kernel
theorem dL_isInOrder_10 : decode cL_isInOrder 10 = .ok (.lconst 1, 1) := by decide +kernel
theorem dL_isInOrder_11 : decode cL_isInOrder 11 = .ok (.goto 4, 3) := by decide +kernel
theorem dL_isInOrder_14 : decode cL_isInOrder 14 = .ok (.lconst 0, 1) := by decide +kernel
theorem dL_isInOrder_15 : decode cL_isInOrder 15 = .ok (.lastore, 1) := by decide +kernel
theorem dL_isInOrder_16 : decode cL_isInOrder 16 = .ok (.goto 6, 3) := by decide +kernel
theorem dL_isInOrder_19 : decode cL_isInOrder 19 = .ok (.astore_n 3, 1) := by decide +kernel
theorem dL_isInOrder_20 : decode cL_isInOrder 20 = .ok (.iconst 1, 1) := by decide +kernel
theorem dL_isInOrder_21 : decode cL_isInOrder 21 = .ok (.ireturn, 1) := by decide +kernel
theorem dL_isInOrder_22 : decode cL_isInOrder 22 = .ok (.iconst 0, 1) := by decide +kernel
theorem dL_isInOrder_23 : decode cL_isInOrder 23 = .ok (.ireturn, 1) := by decide +kernel
theorem dL_portWater_0 : decode cL_portWater 0 = .ok (.aload 4, 2) := by decide +kernel
theorem dL_portWater_2 : decode cL_portWater 2 = .ok (.iconst 0, 1) := by decide +kernel
theorem dL_portWater_3 : decode cL_portWater 3 = .ok (.aload_n 0, 1) := by decide +kernel
theorem dL_portWater_4 : decode cL_portWater 4 = .ok (.iload_n 1, 1) := by decide +kernel
end
section
theorem dL_portWater_5 : decode cL_portWater 5 = .ok (.iload_n 2, 1) := by decide +kernel
theorem dL_portWater_6 : decode cL_portWater 6 = .ok (.iload_n 3, 1) := by decide +kernel
theorem dL_portWater_7 : decode cL_portWater 7 = .ok (.invokevirtual 61, 3) := by decide +kernel
theorem dL_portWater_10 : decode cL_portWater 10 = .ok (.i2l, 1) := by decide +kernel
theorem dL_portWater_11 : decode cL_portWater 11 = .ok (.lastore, 1) := by decide +kernel
theorem dL_portWater_12 : decode cL_portWater 12 = .ok (.goto 7, 3) := by decide +kernel
theorem dL_portWater_15 : decode cL_portWater 15 = .ok (.astore 5, 2) := by decide +kernel
theorem dL_portWater_17 : decode cL_portWater 17 = .ok (.iconst 1, 1) := by decide +kernel
theorem dL_portWater_18 : decode cL_portWater 18 = .ok (.ireturn, 1) := by decide +kernel
theorem dL_portWater_19 : decode cL_portWater 19 = .ok (.iconst 0, 1) := by decide +kernel
theorem dL_portWater_20 : decode cL_portWater 20 = .ok (.ireturn, 1) := by decide +kernel
theorem dL_portHeight_0 : decode cL_portHeight 0 = .ok (.aload_n 3, 1) := by decide +kernel
theorem dL_portHeight_1 : decode cL_portHeight 1 = .ok (.iconst 0, 1) := by decide +kernel
theorem dL_portHeight_2 : decode cL_portHeight 2 = .ok (.aload_n 0, 1) := by decide +kernel
theorem dL_portHeight_3 : decode cL_portHeight 3 = .ok (.iload_n 1, 1) := by decide +kernel
theorem dL_portHeight_4 : decode cL_portHeight 4 = .ok (.iload_n 2, 1) := by decide +kernel
theorem dL_portHeight_5 : decode cL_portHeight 5 = .ok (.invokevirtual 65, 3) := by decide +kernel
theorem dL_portHeight_8 : decode cL_portHeight 8 = .ok (.i2l, 1) := by decide +kernel
theorem dL_portHeight_9 : decode cL_portHeight 9 = .ok (.lastore, 1) := by decide +kernel
theorem dL_portHeight_10 : decode cL_portHeight 10 = .ok (.goto 15, 3) := by decide +kernel
theorem dL_portHeight_13 : decode cL_portHeight 13 = .ok (.astore 4, 2) := by decide +kernel
theorem dL_portHeight_15 : decode cL_portHeight 15 = .ok (.iconst 1, 1) := by decide +kernel
theorem dL_portHeight_16 : decode cL_portHeight 16 = .ok (.ireturn, 1) := by decide +kernel
theorem dL_portHeight_17 : decode cL_portHeight 17 = .ok (.astore 4, 2) := by decide +kernel
theorem dL_portHeight_19 : decode cL_portHeight 19 = .ok (.iconst 2, 1) := by decide +kernel
theorem dL_portHeight_20 : decode cL_portHeight 20 = .ok (.ireturn, 1) := by decide +kernel
theorem dL_portHeight_21 : decode cL_portHeight 21 = .ok (.astore 4, 2) := by decide +kernel
theorem dL_portHeight_23 : decode cL_portHeight 23 = .ok (.iconst 3, 1) := by decide +kernel
theorem dL_portHeight_24 : decode cL_portHeight 24 = .ok (.ireturn, 1) := by decide +kernel
theorem dL_portHeight_25 : decode cL_portHeight 25 = .ok (.iconst 0, 1) := by decide +kernel
theorem dL_portHeight_26 : decode cL_portHeight 26 = .ok (.ireturn, 1) := by decide +kernel
theorem dL_windows_0 : decode cL_windows 0 = .ok (.aload 6, 2) := by decide +kernel
theorem dL_windows_2 : decode cL_windows 2 = .ok (.iconst 0, 1) := by decide +kernel
theorem dL_windows_3 : decode cL_windows 3 = .ok (.aload_n 0, 1) := by decide +kernel
theorem dL_windows_4 : decode cL_windows 4 = .ok (.iload_n 1, 1) := by decide +kernel
theorem dL_windows_5 : decode cL_windows 5 = .ok (.iload_n 2, 1) := by decide +kernel
theorem dL_windows_6 : decode cL_windows 6 = .ok (.iload_n 3, 1) := by decide +kernel
theorem dL_windows_7 : decode cL_windows 7 = .ok (.iload 4, 2) := by decide +kernel
theorem dL_windows_9 : decode cL_windows 9 = .ok (.iload 5, 2) := by decide +kernel
theorem dL_windows_11 : decode cL_windows 11 = .ok (.invokevirtual 68, 3) := by decide +kernel
theorem dL_windows_14 : decode cL_windows 14 = .ok (.i2l, 1) := by decide +kernel
theorem dL_windows_15 : decode cL_windows 15 = .ok (.lastore, 1) := by decide +kernel
theorem dL_windows_16 : decode cL_windows 16 = .ok (.goto 11, 3) := by decide +kernel
theorem dL_windows_19 : decode cL_windows 19 = .ok (.astore 7, 2) := by decide +kernel
theorem dL_windows_21 : decode cL_windows 21 = .ok (.iconst 1, 1) := by decide +kernel
theorem dL_windows_22 : decode cL_windows 22 = .ok (.ireturn, 1) := by decide +kernel
theorem dL_windows_23 : decode cL_windows 23 = .ok (.astore 7, 2) := by decide +kernel
theorem dL_windows_25 : decode cL_windows 25 = .ok (.iconst 2, 1) := by decide +kernel
theorem dL_windows_26 : decode cL_windows 26 = .ok (.ireturn, 1) := by decide +kernel
theorem dL_windows_27 : decode cL_windows 27 = .ok (.iconst 0, 1) := by decide +kernel
theorem dL_windows_28 : decode cL_windows 28 = .ok (.ireturn, 1) := by decide +kernel
theorem dL_read_0 : decode cL_read 0 = .ok (.aload_n 3, 1) := by decide +kernel
theorem dL_read_1 : decode cL_read 1 = .ok (.iconst 0, 1) := by decide +kernel
theorem dL_read_2 : decode cL_read 2 = .ok (.aload_n 0, 1) := by decide +kernel
theorem dL_read_3 : decode cL_read 3 = .ok (.iload_n 1, 1) := by decide +kernel
theorem dL_read_4 : decode cL_read 4 = .ok (.iload_n 2, 1) := by decide +kernel
theorem dL_read_5 : decode cL_read 5 = .ok (.invokevirtual 72, 3) := by decide +kernel
theorem dL_read_8 : decode cL_read 8 = .ok (.i2l, 1) := by decide +kernel
theorem dL_read_9 : decode cL_read 9 = .ok (.lastore, 1) := by decide +kernel
theorem dL_read_10 : decode cL_read 10 = .ok (.goto 11, 3) := by decide +kernel
theorem dL_read_13 : decode cL_read 13 = .ok (.astore 4, 2) := by decide +kernel
theorem dL_read_15 : decode cL_read 15 = .ok (.iconst 1, 1) := by decide +kernel
theorem dL_read_16 : decode cL_read 16 = .ok (.ireturn, 1) := by decide +kernel
theorem dL_read_17 : decode cL_read 17 = .ok (.astore 4, 2) := by decide +kernel
theorem dL_read_19 : decode cL_read 19 = .ok (.iconst 2, 1) := by decide +kernel
theorem dL_read_20 : decode cL_read 20 = .ok (.ireturn, 1) := by decide +kernel
theorem dL_read_21 : decode cL_read 21 = .ok (.iconst 0, 1) := by decide +kernel
theorem dL_read_22 : decode cL_read 22 = .ok (.ireturn, 1) := by decide +kernel
theorem dL_adjust_0 : decode cL_adjust 0 = .ok (.aload_n 1, 1) := by decide +kernel
theorem dL_adjust_1 : decode cL_adjust 1 = .ok (.iconst 0, 1) := by decide +kernel
theorem dL_adjust_2 : decode cL_adjust 2 = .ok (.aload_n 0, 1) := by decide +kernel
theorem dL_adjust_3 : decode cL_adjust 3 = .ok (.invokevirtual 75, 3) := by decide +kernel
theorem dL_adjust_6 : decode cL_adjust 6 = .ok (.i2l, 1) := by decide +kernel
theorem dL_adjust_7 : decode cL_adjust 7 = .ok (.lastore, 1) := by decide +kernel
theorem dL_adjust_8 : decode cL_adjust 8 = .ok (.goto 6, 3) := by decide +kernel
theorem dL_adjust_11 : decode cL_adjust 11 = .ok (.astore_n 2, 1) := by decide +kernel
theorem dL_adjust_12 : decode cL_adjust 12 = .ok (.iconst 1, 1) := by decide +kernel
theorem dL_adjust_13 : decode cL_adjust 13 = .ok (.ireturn, 1) := by decide +kernel
theorem dL_adjust_14 : decode cL_adjust 14 = .ok (.iconst 0, 1) := by decide +kernel
theorem dL_adjust_15 : decode cL_adjust 15 = .ok (.ireturn, 1) := by decide +kernel
theorem dL_law_0 : decode cL_law 0 = .ok (.new 8, 3) := by decide +kernel
theorem dL_law_3 : decode cL_law 3 = .ok (.dup, 1) := by decide +kernel
theorem dL_law_4 : decode cL_law 4 = .ok (.invokespecial 78, 3) := by decide +kernel
theorem dL_law_7 : decode cL_law 7 = .ok (.astore_n 1, 1) := by decide +kernel
theorem dL_law_8 : decode cL_law 8 = .ok (.new 79, 3) := by decide +kernel
theorem dL_law_11 : decode cL_law 11 = .ok (.dup, 1) := by decide +kernel
theorem dL_law_12 : decode cL_law 12 = .ok (.invokespecial 81, 3) := by decide +kernel
theorem dL_law_15 : decode cL_law 15 = .ok (.astore_n 2, 1) := by decide +kernel
theorem dL_law_16 : decode cL_law 16 = .ok (.iconst 1, 1) := by decide +kernel
theorem dL_law_17 : decode cL_law 17 = .ok (.newarray .long, 2) := by decide +kernel
theorem dL_law_19 : decode cL_law 19 = .ok (.astore_n 3, 1) := by decide +kernel
theorem dL_law_20 : decode cL_law 20 = .ok (.iconst 0, 1) := by decide +kernel
theorem dL_law_21 : decode cL_law 21 = .ok (.istore 4, 2) := by decide +kernel
theorem dL_law_23 : decode cL_law 23 = .ok (.iload 4, 2) := by decide +kernel
theorem dL_law_25 : decode cL_law 25 = .ok (.aload_n 0, 1) := by decide +kernel
theorem dL_law_26 : decode cL_law 26 = .ok (.arraylength, 1) := by decide +kernel
theorem dL_law_27 : decode cL_law 27 = .ok (.bipush 6, 2) := by decide +kernel
theorem dL_law_29 : decode cL_law 29 = .ok (.isub, 1) := by decide +kernel
theorem dL_law_30 : decode cL_law 30 = .ok (.if_icmp .gt 1439, 3) := by decide +kernel
theorem dL_law_33 : decode cL_law 33 = .ok (.aload_n 0, 1) := by decide +kernel
theorem dL_law_34 : decode cL_law 34 = .ok (.iload 4, 2) := by decide +kernel
theorem dL_law_36 : decode cL_law 36 = .ok (.iaload, 1) := by decide +kernel
theorem dL_law_37 : decode cL_law 37 = .ok (.bipush 31, 2) := by decide +kernel
theorem dL_law_39 : decode cL_law 39 = .ok (.iand, 1) := by decide +kernel
theorem dL_law_40 : decode cL_law 40 = .ok (.tableswitch 1423 0 20 #[100, 180, 248, 304, 360, 428, 484, 552, 636, 692, 736, 844, 912, 975, 1071, 1139, 1243, 1311, 1352, 1365, 1409], 100) := by decide +kernel
theorem dL_law_140 : decode cL_law 140 = .ok (.aload_n 1, 1) := by decide +kernel
theorem dL_law_141 : decode cL_law 141 = .ok (.aload_n 0, 1) := by decide +kernel
theorem dL_law_142 : decode cL_law 142 = .ok (.iload 4, 2) := by decide +kernel
theorem dL_law_144 : decode cL_law 144 = .ok (.iconst 1, 1) := by decide +kernel
theorem dL_law_145 : decode cL_law 145 = .ok (.iadd, 1) := by decide +kernel
theorem dL_law_146 : decode cL_law 146 = .ok (.iaload, 1) := by decide +kernel
theorem dL_law_147 : decode cL_law 147 = .ok (.aload_n 0, 1) := by decide +kernel
theorem dL_law_148 : decode cL_law 148 = .ok (.iload 4, 2) := by decide +kernel
theorem dL_law_150 : decode cL_law 150 = .ok (.iconst 2, 1) := by decide +kernel
theorem dL_law_151 : decode cL_law 151 = .ok (.iadd, 1) := by decide +kernel
theorem dL_law_152 : decode cL_law 152 = .ok (.iaload, 1) := by decide +kernel
theorem dL_law_153 : decode cL_law 153 = .ok (.aload_n 0, 1) := by decide +kernel
theorem dL_law_154 : decode cL_law 154 = .ok (.iload 4, 2) := by decide +kernel
theorem dL_law_156 : decode cL_law 156 = .ok (.iconst 3, 1) := by decide +kernel
theorem dL_law_157 : decode cL_law 157 = .ok (.iadd, 1) := by decide +kernel
theorem dL_law_158 : decode cL_law 158 = .ok (.iaload, 1) := by decide +kernel
theorem dL_law_159 : decode cL_law 159 = .ok (.aload_n 3, 1) := by decide +kernel
theorem dL_law_160 : decode cL_law 160 = .ok (.invokestatic 82, 3) := by decide +kernel
theorem dL_law_163 : decode cL_law 163 = .ok (.istore 5, 2) := by decide +kernel
theorem dL_law_165 : decode cL_law 165 = .ok (.aload_n 2, 1) := by decide +kernel
theorem dL_law_166 : decode cL_law 166 = .ok (.aload_n 0, 1) := by decide +kernel
theorem dL_law_167 : decode cL_law 167 = .ok (.iload 4, 2) := by decide +kernel
theorem dL_law_169 : decode cL_law 169 = .ok (.iconst 1, 1) := by decide +kernel
theorem dL_law_170 : decode cL_law 170 = .ok (.iadd, 1) := by decide +kernel
theorem dL_law_171 : decode cL_law 171 = .ok (.iaload, 1) := by decide +kernel
theorem dL_law_172 : decode cL_law 172 = .ok (.aload_n 0, 1) := by decide +kernel
theorem dL_law_173 : decode cL_law 173 = .ok (.iload 4, 2) := by decide +kernel
theorem dL_law_175 : decode cL_law 175 = .ok (.iconst 2, 1) := by decide +kernel
theorem dL_law_176 : decode cL_law 176 = .ok (.iadd, 1) := by decide +kernel
theorem dL_law_177 : decode cL_law 177 = .ok (.iaload, 1) := by decide +kernel
theorem dL_law_178 : decode cL_law 178 = .ok (.aload_n 0, 1) := by decide +kernel
theorem dL_law_179 : decode cL_law 179 = .ok (.iload 4, 2) := by decide +kernel
theorem dL_law_181 : decode cL_law 181 = .ok (.iconst 3, 1) := by decide +kernel
theorem dL_law_182 : decode cL_law 182 = .ok (.iadd, 1) := by decide +kernel
theorem dL_law_183 : decode cL_law 183 = .ok (.iaload, 1) := by decide +kernel
theorem dL_law_184 : decode cL_law 184 = .ok (.invokevirtual 87, 3) := by decide +kernel
theorem dL_law_187 : decode cL_law 187 = .ok (.istore 6, 2) := by decide +kernel
theorem dL_law_189 : decode cL_law 189 = .ok (.aload_n 2, 1) := by decide +kernel
theorem dL_law_190 : decode cL_law 190 = .ok (.invokevirtual 88, 3) := by decide +kernel
theorem dL_law_193 : decode cL_law 193 = .ok (.iload 5, 2) := by decide +kernel
theorem dL_law_195 : decode cL_law 195 = .ok (.if_icmp .eq 5, 3) := by decide +kernel
theorem dL_law_198 : decode cL_law 198 = .ok (.iconst 0, 1) := by decide +kernel
theorem dL_law_199 : decode cL_law 199 = .ok (.ireturn, 1) := by decide +kernel
theorem dL_law_200 : decode cL_law 200 = .ok (.iload 5, 2) := by decide +kernel
theorem dL_law_202 : decode cL_law 202 = .ok (.ifCond .ne 15, 3) := by decide +kernel
theorem dL_law_205 : decode cL_law 205 = .ok (.aload_n 3, 1) := by decide +kernel
theorem dL_law_206 : decode cL_law 206 = .ok (.iconst 0, 1) := by decide +kernel
theorem dL_law_207 : decode cL_law 207 = .ok (.laload, 1) := by decide +kernel
theorem dL_law_208 : decode cL_law 208 = .ok (.iload 6, 2) := by decide +kernel
theorem dL_law_210 : decode cL_law 210 = .ok (.i2l, 1) := by decide +kernel
theorem dL_law_211 : decode cL_law 211 = .ok (.lcmp, 1) := by decide +kernel
theorem dL_law_212 : decode cL_law 212 = .ok (.ifCond .eq 5, 3) := by decide +kernel
theorem dL_law_215 : decode cL_law 215 = .ok (.iconst 0, 1) := by decide +kernel
theorem dL_law_216 : decode cL_law 216 = .ok (.ireturn, 1) := by decide +kernel
theorem dL_law_217 : decode cL_law 217 = .ok (.goto 1246, 3) := by decide +kernel
theorem dL_law_220 : decode cL_law 220 = .ok (.aload_n 1, 1) := by decide +kernel
theorem dL_law_221 : decode cL_law 221 = .ok (.aload_n 0, 1) := by decide +kernel
theorem dL_law_222 : decode cL_law 222 = .ok (.iload 4, 2) := by decide +kernel
theorem dL_law_224 : decode cL_law 224 = .ok (.iconst 1, 1) := by decide +kernel
theorem dL_law_225 : decode cL_law 225 = .ok (.iadd, 1) := by decide +kernel
theorem dL_law_226 : decode cL_law 226 = .ok (.iaload, 1) := by decide +kernel
theorem dL_law_227 : decode cL_law 227 = .ok (.aload_n 0, 1) := by decide +kernel
theorem dL_law_228 : decode cL_law 228 = .ok (.iload 4, 2) := by decide +kernel
theorem dL_law_230 : decode cL_law 230 = .ok (.iconst 2, 1) := by decide +kernel
theorem dL_law_231 : decode cL_law 231 = .ok (.iadd, 1) := by decide +kernel
theorem dL_law_232 : decode cL_law 232 = .ok (.iaload, 1) := by decide +kernel
theorem dL_law_233 : decode cL_law 233 = .ok (.aload_n 3, 1) := by decide +kernel
theorem dL_law_234 : decode cL_law 234 = .ok (.invokestatic 91, 3) := by decide +kernel
theorem dL_law_237 : decode cL_law 237 = .ok (.istore 5, 2) := by decide +kernel
theorem dL_law_239 : decode cL_law 239 = .ok (.aload_n 2, 1) := by decide +kernel
theorem dL_law_240 : decode cL_law 240 = .ok (.aload_n 0, 1) := by decide +kernel
theorem dL_law_241 : decode cL_law 241 = .ok (.iload 4, 2) := by decide +kernel
theorem dL_law_243 : decode cL_law 243 = .ok (.iconst 1, 1) := by decide +kernel
theorem dL_law_244 : decode cL_law 244 = .ok (.iadd, 1) := by decide +kernel
theorem dL_law_245 : decode cL_law 245 = .ok (.iaload, 1) := by decide +kernel
theorem dL_law_246 : decode cL_law 246 = .ok (.aload_n 0, 1) := by decide +kernel
theorem dL_law_247 : decode cL_law 247 = .ok (.iload 4, 2) := by decide +kernel
theorem dL_law_249 : decode cL_law 249 = .ok (.iconst 2, 1) := by decide +kernel
theorem dL_law_250 : decode cL_law 250 = .ok (.iadd, 1) := by decide +kernel
theorem dL_law_251 : decode cL_law 251 = .ok (.iaload, 1) := by decide +kernel
theorem dL_law_252 : decode cL_law 252 = .ok (.invokevirtual 94, 3) := by decide +kernel
theorem dL_law_255 : decode cL_law 255 = .ok (.istore 6, 2) := by decide +kernel
theorem dL_law_257 : decode cL_law 257 = .ok (.aload_n 2, 1) := by decide +kernel
theorem dL_law_258 : decode cL_law 258 = .ok (.invokevirtual 88, 3) := by decide +kernel
theorem dL_law_261 : decode cL_law 261 = .ok (.iload 5, 2) := by decide +kernel
theorem dL_law_263 : decode cL_law 263 = .ok (.if_icmp .eq 5, 3) := by decide +kernel
theorem dL_law_266 : decode cL_law 266 = .ok (.iconst 0, 1) := by decide +kernel
theorem dL_law_267 : decode cL_law 267 = .ok (.ireturn, 1) := by decide +kernel
theorem dL_law_268 : decode cL_law 268 = .ok (.iload 5, 2) := by decide +kernel
theorem dL_law_270 : decode cL_law 270 = .ok (.ifCond .ne 15, 3) := by decide +kernel
theorem dL_law_273 : decode cL_law 273 = .ok (.aload_n 3, 1) := by decide +kernel
theorem dL_law_274 : decode cL_law 274 = .ok (.iconst 0, 1) := by decide +kernel
theorem dL_law_275 : decode cL_law 275 = .ok (.laload, 1) := by decide +kernel
theorem dL_law_276 : decode cL_law 276 = .ok (.iload 6, 2) := by decide +kernel
theorem dL_law_278 : decode cL_law 278 = .ok (.i2l, 1) := by decide +kernel
theorem dL_law_279 : decode cL_law 279 = .ok (.lcmp, 1) := by decide +kernel
theorem dL_law_280 : decode cL_law 280 = .ok (.ifCond .eq 5, 3) := by decide +kernel
theorem dL_law_283 : decode cL_law 283 = .ok (.iconst 0, 1) := by decide +kernel
theorem dL_law_284 : decode cL_law 284 = .ok (.ireturn, 1) := by decide +kernel
theorem dL_law_285 : decode cL_law 285 = .ok (.goto 1178, 3) := by decide +kernel
theorem dL_law_288 : decode cL_law 288 = .ok (.aload_n 1, 1) := by decide +kernel
theorem dL_law_289 : decode cL_law 289 = .ok (.aload_n 0, 1) := by decide +kernel
theorem dL_law_290 : decode cL_law 290 = .ok (.iload 4, 2) := by decide +kernel
theorem dL_law_292 : decode cL_law 292 = .ok (.iconst 1, 1) := by decide +kernel
theorem dL_law_293 : decode cL_law 293 = .ok (.iadd, 1) := by decide +kernel
theorem dL_law_294 : decode cL_law 294 = .ok (.iaload, 1) := by decide +kernel
theorem dL_law_295 : decode cL_law 295 = .ok (.aload_n 3, 1) := by decide +kernel
theorem dL_law_296 : decode cL_law 296 = .ok (.invokestatic 95, 3) := by decide +kernel
theorem dL_law_299 : decode cL_law 299 = .ok (.istore 5, 2) := by decide +kernel
theorem dL_law_301 : decode cL_law 301 = .ok (.aload_n 2, 1) := by decide +kernel
theorem dL_law_302 : decode cL_law 302 = .ok (.aload_n 0, 1) := by decide +kernel
theorem dL_law_303 : decode cL_law 303 = .ok (.iload 4, 2) := by decide +kernel
theorem dL_law_305 : decode cL_law 305 = .ok (.iconst 1, 1) := by decide +kernel
theorem dL_law_306 : decode cL_law 306 = .ok (.iadd, 1) := by decide +kernel
theorem dL_law_307 : decode cL_law 307 = .ok (.iaload, 1) := by decide +kernel
theorem dL_law_308 : decode cL_law 308 = .ok (.invokevirtual 98, 3) := by decide +kernel
theorem dL_law_311 : decode cL_law 311 = .ok (.istore 6, 2) := by decide +kernel
theorem dL_law_313 : decode cL_law 313 = .ok (.aload_n 2, 1) := by decide +kernel
theorem dL_law_314 : decode cL_law 314 = .ok (.invokevirtual 88, 3) := by decide +kernel
theorem dL_law_317 : decode cL_law 317 = .ok (.iload 5, 2) := by decide +kernel
theorem dL_law_319 : decode cL_law 319 = .ok (.if_icmp .eq 5, 3) := by decide +kernel
theorem dL_law_322 : decode cL_law 322 = .ok (.iconst 0, 1) := by decide +kernel
theorem dL_law_323 : decode cL_law 323 = .ok (.ireturn, 1) := by decide +kernel
theorem dL_law_324 : decode cL_law 324 = .ok (.iload 5, 2) := by decide +kernel
theorem dL_law_326 : decode cL_law 326 = .ok (.ifCond .ne 15, 3) := by decide +kernel
theorem dL_law_329 : decode cL_law 329 = .ok (.aload_n 3, 1) := by decide +kernel
theorem dL_law_330 : decode cL_law 330 = .ok (.iconst 0, 1) := by decide +kernel
theorem dL_law_331 : decode cL_law 331 = .ok (.laload, 1) := by decide +kernel
theorem dL_law_332 : decode cL_law 332 = .ok (.iload 6, 2) := by decide +kernel
theorem dL_law_334 : decode cL_law 334 = .ok (.i2l, 1) := by decide +kernel
theorem dL_law_335 : decode cL_law 335 = .ok (.lcmp, 1) := by decide +kernel
theorem dL_law_336 : decode cL_law 336 = .ok (.ifCond .eq 5, 3) := by decide +kernel
theorem dL_law_339 : decode cL_law 339 = .ok (.iconst 0, 1) := by decide +kernel
theorem dL_law_340 : decode cL_law 340 = .ok (.ireturn, 1) := by decide +kernel
theorem dL_law_341 : decode cL_law 341 = .ok (.goto 1122, 3) := by decide +kernel
theorem dL_law_344 : decode cL_law 344 = .ok (.aload_n 1, 1) := by decide +kernel
theorem dL_law_345 : decode cL_law 345 = .ok (.aload_n 0, 1) := by decide +kernel
theorem dL_law_346 : decode cL_law 346 = .ok (.iload 4, 2) := by decide +kernel
theorem dL_law_348 : decode cL_law 348 = .ok (.iconst 1, 1) := by decide +kernel
theorem dL_law_349 : decode cL_law 349 = .ok (.iadd, 1) := by decide +kernel
theorem dL_law_350 : decode cL_law 350 = .ok (.iaload, 1) := by decide +kernel
theorem dL_law_351 : decode cL_law 351 = .ok (.aload_n 3, 1) := by decide +kernel
theorem dL_law_352 : decode cL_law 352 = .ok (.invokestatic 99, 3) := by decide +kernel
theorem dL_law_355 : decode cL_law 355 = .ok (.istore 5, 2) := by decide +kernel
theorem dL_law_357 : decode cL_law 357 = .ok (.aload_n 2, 1) := by decide +kernel
theorem dL_law_358 : decode cL_law 358 = .ok (.aload_n 0, 1) := by decide +kernel
theorem dL_law_359 : decode cL_law 359 = .ok (.iload 4, 2) := by decide +kernel
theorem dL_law_361 : decode cL_law 361 = .ok (.iconst 1, 1) := by decide +kernel
theorem dL_law_362 : decode cL_law 362 = .ok (.iadd, 1) := by decide +kernel
theorem dL_law_363 : decode cL_law 363 = .ok (.iaload, 1) := by decide +kernel
theorem dL_law_364 : decode cL_law 364 = .ok (.invokevirtual 101, 3) := by decide +kernel
theorem dL_law_367 : decode cL_law 367 = .ok (.istore 6, 2) := by decide +kernel
theorem dL_law_369 : decode cL_law 369 = .ok (.aload_n 2, 1) := by decide +kernel
theorem dL_law_370 : decode cL_law 370 = .ok (.invokevirtual 88, 3) := by decide +kernel
theorem dL_law_373 : decode cL_law 373 = .ok (.iload 5, 2) := by decide +kernel
theorem dL_law_375 : decode cL_law 375 = .ok (.if_icmp .eq 5, 3) := by decide +kernel
theorem dL_law_378 : decode cL_law 378 = .ok (.iconst 0, 1) := by decide +kernel
theorem dL_law_379 : decode cL_law 379 = .ok (.ireturn, 1) := by decide +kernel
theorem dL_law_380 : decode cL_law 380 = .ok (.iload 5, 2) := by decide +kernel
theorem dL_law_382 : decode cL_law 382 = .ok (.ifCond .ne 15, 3) := by decide +kernel
theorem dL_law_385 : decode cL_law 385 = .ok (.aload_n 3, 1) := by decide +kernel
theorem dL_law_386 : decode cL_law 386 = .ok (.iconst 0, 1) := by decide +kernel
theorem dL_law_387 : decode cL_law 387 = .ok (.laload, 1) := by decide +kernel
theorem dL_law_388 : decode cL_law 388 = .ok (.iload 6, 2) := by decide +kernel
theorem dL_law_390 : decode cL_law 390 = .ok (.i2l, 1) := by decide +kernel
theorem dL_law_391 : decode cL_law 391 = .ok (.lcmp, 1) := by decide +kernel
theorem dL_law_392 : decode cL_law 392 = .ok (.ifCond .eq 5, 3) := by decide +kernel
theorem dL_law_395 : decode cL_law 395 = .ok (.iconst 0, 1) := by decide +kernel
theorem dL_law_396 : decode cL_law 396 = .ok (.ireturn, 1) := by decide +kernel
theorem dL_law_397 : decode cL_law 397 = .ok (.goto 1066, 3) := by decide +kernel
theorem dL_law_400 : decode cL_law 400 = .ok (.aload_n 1, 1) := by decide +kernel
theorem dL_law_401 : decode cL_law 401 = .ok (.aload_n 0, 1) := by decide +kernel
theorem dL_law_402 : decode cL_law 402 = .ok (.iload 4, 2) := by decide +kernel
theorem dL_law_404 : decode cL_law 404 = .ok (.iconst 1, 1) := by decide +kernel
theorem dL_law_405 : decode cL_law 405 = .ok (.iadd, 1) := by decide +kernel
theorem dL_law_406 : decode cL_law 406 = .ok (.iaload, 1) := by decide +kernel
theorem dL_law_407 : decode cL_law 407 = .ok (.aload_n 0, 1) := by decide +kernel
theorem dL_law_408 : decode cL_law 408 = .ok (.iload 4, 2) := by decide +kernel
theorem dL_law_410 : decode cL_law 410 = .ok (.iconst 2, 1) := by decide +kernel
theorem dL_law_411 : decode cL_law 411 = .ok (.iadd, 1) := by decide +kernel
theorem dL_law_412 : decode cL_law 412 = .ok (.iaload, 1) := by decide +kernel
theorem dL_law_413 : decode cL_law 413 = .ok (.aload_n 3, 1) := by decide +kernel
theorem dL_law_414 : decode cL_law 414 = .ok (.invokestatic 102, 3) := by decide +kernel
theorem dL_law_417 : decode cL_law 417 = .ok (.istore 5, 2) := by decide +kernel
theorem dL_law_419 : decode cL_law 419 = .ok (.aload_n 2, 1) := by decide +kernel
theorem dL_law_420 : decode cL_law 420 = .ok (.aload_n 0, 1) := by decide +kernel
theorem dL_law_421 : decode cL_law 421 = .ok (.iload 4, 2) := by decide +kernel
theorem dL_law_423 : decode cL_law 423 = .ok (.iconst 1, 1) := by decide +kernel
theorem dL_law_424 : decode cL_law 424 = .ok (.iadd, 1) := by decide +kernel
theorem dL_law_425 : decode cL_law 425 = .ok (.iaload, 1) := by decide +kernel
theorem dL_law_426 : decode cL_law 426 = .ok (.aload_n 0, 1) := by decide +kernel
theorem dL_law_427 : decode cL_law 427 = .ok (.iload 4, 2) := by decide +kernel
theorem dL_law_429 : decode cL_law 429 = .ok (.iconst 2, 1) := by decide +kernel
theorem dL_law_430 : decode cL_law 430 = .ok (.iadd, 1) := by decide +kernel
theorem dL_law_431 : decode cL_law 431 = .ok (.iaload, 1) := by decide +kernel
theorem dL_law_432 : decode cL_law 432 = .ok (.invokevirtual 104, 3) := by decide +kernel
theorem dL_law_435 : decode cL_law 435 = .ok (.istore 6, 2) := by decide +kernel
theorem dL_law_437 : decode cL_law 437 = .ok (.aload_n 2, 1) := by decide +kernel
theorem dL_law_438 : decode cL_law 438 = .ok (.invokevirtual 88, 3) := by decide +kernel
theorem dL_law_441 : decode cL_law 441 = .ok (.iload 5, 2) := by decide +kernel
theorem dL_law_443 : decode cL_law 443 = .ok (.if_icmp .eq 5, 3) := by decide +kernel
theorem dL_law_446 : decode cL_law 446 = .ok (.iconst 0, 1) := by decide +kernel
theorem dL_law_447 : decode cL_law 447 = .ok (.ireturn, 1) := by decide +kernel
theorem dL_law_448 : decode cL_law 448 = .ok (.iload 5, 2) := by decide +kernel
theorem dL_law_450 : decode cL_law 450 = .ok (.ifCond .ne 15, 3) := by decide +kernel
theorem dL_law_453 : decode cL_law 453 = .ok (.aload_n 3, 1) := by decide +kernel
theorem dL_law_454 : decode cL_law 454 = .ok (.iconst 0, 1) := by decide +kernel
theorem dL_law_455 : decode cL_law 455 = .ok (.laload, 1) := by decide +kernel
theorem dL_law_456 : decode cL_law 456 = .ok (.iload 6, 2) := by decide +kernel
theorem dL_law_458 : decode cL_law 458 = .ok (.i2l, 1) := by decide +kernel
theorem dL_law_459 : decode cL_law 459 = .ok (.lcmp, 1) := by decide +kernel
theorem dL_law_460 : decode cL_law 460 = .ok (.ifCond .eq 5, 3) := by decide +kernel
theorem dL_law_463 : decode cL_law 463 = .ok (.iconst 0, 1) := by decide +kernel
theorem dL_law_464 : decode cL_law 464 = .ok (.ireturn, 1) := by decide +kernel
theorem dL_law_465 : decode cL_law 465 = .ok (.goto 998, 3) := by decide +kernel
theorem dL_law_468 : decode cL_law 468 = .ok (.aload_n 1, 1) := by decide +kernel
theorem dL_law_469 : decode cL_law 469 = .ok (.aload_n 0, 1) := by decide +kernel
theorem dL_law_470 : decode cL_law 470 = .ok (.iload 4, 2) := by decide +kernel
theorem dL_law_472 : decode cL_law 472 = .ok (.iconst 1, 1) := by decide +kernel
theorem dL_law_473 : decode cL_law 473 = .ok (.iadd, 1) := by decide +kernel
theorem dL_law_474 : decode cL_law 474 = .ok (.iaload, 1) := by decide +kernel
theorem dL_law_475 : decode cL_law 475 = .ok (.aload_n 3, 1) := by decide +kernel
theorem dL_law_476 : decode cL_law 476 = .ok (.invokestatic 105, 3) := by decide +kernel
theorem dL_law_479 : decode cL_law 479 = .ok (.istore 5, 2) := by decide +kernel
theorem dL_law_481 : decode cL_law 481 = .ok (.aload_n 2, 1) := by decide +kernel
theorem dL_law_482 : decode cL_law 482 = .ok (.aload_n 0, 1) := by decide +kernel
theorem dL_law_483 : decode cL_law 483 = .ok (.iload 4, 2) := by decide +kernel
theorem dL_law_485 : decode cL_law 485 = .ok (.iconst 1, 1) := by decide +kernel
theorem dL_law_486 : decode cL_law 486 = .ok (.iadd, 1) := by decide +kernel
theorem dL_law_487 : decode cL_law 487 = .ok (.iaload, 1) := by decide +kernel
theorem dL_law_488 : decode cL_law 488 = .ok (.invokevirtual 107, 3) := by decide +kernel
theorem dL_law_491 : decode cL_law 491 = .ok (.istore 6, 2) := by decide +kernel
theorem dL_law_493 : decode cL_law 493 = .ok (.aload_n 2, 1) := by decide +kernel
theorem dL_law_494 : decode cL_law 494 = .ok (.invokevirtual 88, 3) := by decide +kernel
theorem dL_law_497 : decode cL_law 497 = .ok (.iload 5, 2) := by decide +kernel
theorem dL_law_499 : decode cL_law 499 = .ok (.if_icmp .eq 5, 3) := by decide +kernel
theorem dL_law_502 : decode cL_law 502 = .ok (.iconst 0, 1) := by decide +kernel
theorem dL_law_503 : decode cL_law 503 = .ok (.ireturn, 1) := by decide +kernel
theorem dL_law_504 : decode cL_law 504 = .ok (.iload 5, 2) := by decide +kernel
theorem dL_law_506 : decode cL_law 506 = .ok (.ifCond .ne 15, 3) := by decide +kernel
theorem dL_law_509 : decode cL_law 509 = .ok (.aload_n 3, 1) := by decide +kernel
theorem dL_law_510 : decode cL_law 510 = .ok (.iconst 0, 1) := by decide +kernel
theorem dL_law_511 : decode cL_law 511 = .ok (.laload, 1) := by decide +kernel
theorem dL_law_512 : decode cL_law 512 = .ok (.iload 6, 2) := by decide +kernel
theorem dL_law_514 : decode cL_law 514 = .ok (.i2l, 1) := by decide +kernel
theorem dL_law_515 : decode cL_law 515 = .ok (.lcmp, 1) := by decide +kernel
theorem dL_law_516 : decode cL_law 516 = .ok (.ifCond .eq 5, 3) := by decide +kernel
theorem dL_law_519 : decode cL_law 519 = .ok (.iconst 0, 1) := by decide +kernel
theorem dL_law_520 : decode cL_law 520 = .ok (.ireturn, 1) := by decide +kernel
theorem dL_law_521 : decode cL_law 521 = .ok (.goto 942, 3) := by decide +kernel
theorem dL_law_524 : decode cL_law 524 = .ok (.aload_n 1, 1) := by decide +kernel
theorem dL_law_525 : decode cL_law 525 = .ok (.aload_n 0, 1) := by decide +kernel
theorem dL_law_526 : decode cL_law 526 = .ok (.iload 4, 2) := by decide +kernel
theorem dL_law_528 : decode cL_law 528 = .ok (.iconst 1, 1) := by decide +kernel
theorem dL_law_529 : decode cL_law 529 = .ok (.iadd, 1) := by decide +kernel
theorem dL_law_530 : decode cL_law 530 = .ok (.iaload, 1) := by decide +kernel
theorem dL_law_531 : decode cL_law 531 = .ok (.aload_n 0, 1) := by decide +kernel
theorem dL_law_532 : decode cL_law 532 = .ok (.iload 4, 2) := by decide +kernel
theorem dL_law_534 : decode cL_law 534 = .ok (.iconst 2, 1) := by decide +kernel
theorem dL_law_535 : decode cL_law 535 = .ok (.iadd, 1) := by decide +kernel
theorem dL_law_536 : decode cL_law 536 = .ok (.iaload, 1) := by decide +kernel
theorem dL_law_537 : decode cL_law 537 = .ok (.aload_n 3, 1) := by decide +kernel
theorem dL_law_538 : decode cL_law 538 = .ok (.invokestatic 108, 3) := by decide +kernel
theorem dL_law_541 : decode cL_law 541 = .ok (.istore 5, 2) := by decide +kernel
theorem dL_law_543 : decode cL_law 543 = .ok (.aload_n 2, 1) := by decide +kernel
theorem dL_law_544 : decode cL_law 544 = .ok (.aload_n 0, 1) := by decide +kernel
theorem dL_law_545 : decode cL_law 545 = .ok (.iload 4, 2) := by decide +kernel
theorem dL_law_547 : decode cL_law 547 = .ok (.iconst 1, 1) := by decide +kernel
theorem dL_law_548 : decode cL_law 548 = .ok (.iadd, 1) := by decide +kernel
theorem dL_law_549 : decode cL_law 549 = .ok (.iaload, 1) := by decide +kernel
theorem dL_law_550 : decode cL_law 550 = .ok (.aload_n 0, 1) := by decide +kernel
theorem dL_law_551 : decode cL_law 551 = .ok (.iload 4, 2) := by decide +kernel
theorem dL_law_553 : decode cL_law 553 = .ok (.iconst 2, 1) := by decide +kernel
theorem dL_law_554 : decode cL_law 554 = .ok (.iadd, 1) := by decide +kernel
theorem dL_law_555 : decode cL_law 555 = .ok (.iaload, 1) := by decide +kernel
theorem dL_law_556 : decode cL_law 556 = .ok (.invokevirtual 110, 3) := by decide +kernel
theorem dL_law_559 : decode cL_law 559 = .ok (.istore 6, 2) := by decide +kernel
theorem dL_law_561 : decode cL_law 561 = .ok (.aload_n 2, 1) := by decide +kernel
theorem dL_law_562 : decode cL_law 562 = .ok (.invokevirtual 88, 3) := by decide +kernel
theorem dL_law_565 : decode cL_law 565 = .ok (.iload 5, 2) := by decide +kernel
theorem dL_law_567 : decode cL_law 567 = .ok (.if_icmp .eq 5, 3) := by decide +kernel
theorem dL_law_570 : decode cL_law 570 = .ok (.iconst 0, 1) := by decide +kernel
theorem dL_law_571 : decode cL_law 571 = .ok (.ireturn, 1) := by decide +kernel
theorem dL_law_572 : decode cL_law 572 = .ok (.iload 5, 2) := by decide +kernel
theorem dL_law_574 : decode cL_law 574 = .ok (.ifCond .ne 15, 3) := by decide +kernel
theorem dL_law_577 : decode cL_law 577 = .ok (.aload_n 3, 1) := by decide +kernel
theorem dL_law_578 : decode cL_law 578 = .ok (.iconst 0, 1) := by decide +kernel
theorem dL_law_579 : decode cL_law 579 = .ok (.laload, 1) := by decide +kernel
theorem dL_law_580 : decode cL_law 580 = .ok (.iload 6, 2) := by decide +kernel
theorem dL_law_582 : decode cL_law 582 = .ok (.i2l, 1) := by decide +kernel
theorem dL_law_583 : decode cL_law 583 = .ok (.lcmp, 1) := by decide +kernel
theorem dL_law_584 : decode cL_law 584 = .ok (.ifCond .eq 5, 3) := by decide +kernel
theorem dL_law_587 : decode cL_law 587 = .ok (.iconst 0, 1) := by decide +kernel
theorem dL_law_588 : decode cL_law 588 = .ok (.ireturn, 1) := by decide +kernel
theorem dL_law_589 : decode cL_law 589 = .ok (.goto 874, 3) := by decide +kernel
theorem dL_law_592 : decode cL_law 592 = .ok (.aload_n 1, 1) := by decide +kernel
theorem dL_law_593 : decode cL_law 593 = .ok (.aload_n 0, 1) := by decide +kernel
theorem dL_law_594 : decode cL_law 594 = .ok (.iload 4, 2) := by decide +kernel
theorem dL_law_596 : decode cL_law 596 = .ok (.iconst 1, 1) := by decide +kernel
theorem dL_law_597 : decode cL_law 597 = .ok (.iadd, 1) := by decide +kernel
theorem dL_law_598 : decode cL_law 598 = .ok (.iaload, 1) := by decide +kernel
theorem dL_law_599 : decode cL_law 599 = .ok (.aload_n 0, 1) := by decide +kernel
theorem dL_law_600 : decode cL_law 600 = .ok (.iload 4, 2) := by decide +kernel
theorem dL_law_602 : decode cL_law 602 = .ok (.iconst 2, 1) := by decide +kernel
theorem dL_law_603 : decode cL_law 603 = .ok (.iadd, 1) := by decide +kernel
theorem dL_law_604 : decode cL_law 604 = .ok (.iaload, 1) := by decide +kernel
theorem dL_law_605 : decode cL_law 605 = .ok (.ifCond .eq 7, 3) := by decide +kernel
theorem dL_law_608 : decode cL_law 608 = .ok (.iconst 1, 1) := by decide +kernel
theorem dL_law_609 : decode cL_law 609 = .ok (.goto 4, 3) := by decide +kernel
theorem dL_law_612 : decode cL_law 612 = .ok (.iconst 0, 1) := by decide +kernel
theorem dL_law_613 : decode cL_law 613 = .ok (.aload_n 3, 1) := by decide +kernel
theorem dL_law_614 : decode cL_law 614 = .ok (.invokestatic 111, 3) := by decide +kernel
theorem dL_law_617 : decode cL_law 617 = .ok (.istore 5, 2) := by decide +kernel
theorem dL_law_619 : decode cL_law 619 = .ok (.aload_n 2, 1) := by decide +kernel
theorem dL_law_620 : decode cL_law 620 = .ok (.aload_n 0, 1) := by decide +kernel
theorem dL_law_621 : decode cL_law 621 = .ok (.iload 4, 2) := by decide +kernel
theorem dL_law_623 : decode cL_law 623 = .ok (.iconst 1, 1) := by decide +kernel
theorem dL_law_624 : decode cL_law 624 = .ok (.iadd, 1) := by decide +kernel
theorem dL_law_625 : decode cL_law 625 = .ok (.iaload, 1) := by decide +kernel
theorem dL_law_626 : decode cL_law 626 = .ok (.aload_n 0, 1) := by decide +kernel
theorem dL_law_627 : decode cL_law 627 = .ok (.iload 4, 2) := by decide +kernel
theorem dL_law_629 : decode cL_law 629 = .ok (.iconst 2, 1) := by decide +kernel
theorem dL_law_630 : decode cL_law 630 = .ok (.iadd, 1) := by decide +kernel
theorem dL_law_631 : decode cL_law 631 = .ok (.iaload, 1) := by decide +kernel
theorem dL_law_632 : decode cL_law 632 = .ok (.ifCond .eq 7, 3) := by decide +kernel
theorem dL_law_635 : decode cL_law 635 = .ok (.iconst 1, 1) := by decide +kernel
theorem dL_law_636 : decode cL_law 636 = .ok (.goto 4, 3) := by decide +kernel
theorem dL_law_639 : decode cL_law 639 = .ok (.iconst 0, 1) := by decide +kernel
theorem dL_law_640 : decode cL_law 640 = .ok (.invokevirtual 114, 3) := by decide +kernel
theorem dL_law_643 : decode cL_law 643 = .ok (.istore 6, 2) := by decide +kernel
theorem dL_law_645 : decode cL_law 645 = .ok (.aload_n 2, 1) := by decide +kernel
theorem dL_law_646 : decode cL_law 646 = .ok (.invokevirtual 88, 3) := by decide +kernel
theorem dL_law_649 : decode cL_law 649 = .ok (.iload 5, 2) := by decide +kernel
theorem dL_law_651 : decode cL_law 651 = .ok (.if_icmp .eq 5, 3) := by decide +kernel
theorem dL_law_654 : decode cL_law 654 = .ok (.iconst 0, 1) := by decide +kernel
theorem dL_law_655 : decode cL_law 655 = .ok (.ireturn, 1) := by decide +kernel
theorem dL_law_656 : decode cL_law 656 = .ok (.iload 5, 2) := by decide +kernel
theorem dL_law_658 : decode cL_law 658 = .ok (.ifCond .ne 15, 3) := by decide +kernel
theorem dL_law_661 : decode cL_law 661 = .ok (.aload_n 3, 1) := by decide +kernel
theorem dL_law_662 : decode cL_law 662 = .ok (.iconst 0, 1) := by decide +kernel
theorem dL_law_663 : decode cL_law 663 = .ok (.laload, 1) := by decide +kernel
theorem dL_law_664 : decode cL_law 664 = .ok (.iload 6, 2) := by decide +kernel
theorem dL_law_666 : decode cL_law 666 = .ok (.i2l, 1) := by decide +kernel
theorem dL_law_667 : decode cL_law 667 = .ok (.lcmp, 1) := by decide +kernel
theorem dL_law_668 : decode cL_law 668 = .ok (.ifCond .eq 5, 3) := by decide +kernel
theorem dL_law_671 : decode cL_law 671 = .ok (.iconst 0, 1) := by decide +kernel
theorem dL_law_672 : decode cL_law 672 = .ok (.ireturn, 1) := by decide +kernel
theorem dL_law_673 : decode cL_law 673 = .ok (.goto 790, 3) := by decide +kernel
theorem dL_law_676 : decode cL_law 676 = .ok (.aload_n 1, 1) := by decide +kernel
theorem dL_law_677 : decode cL_law 677 = .ok (.aload_n 0, 1) := by decide +kernel
theorem dL_law_678 : decode cL_law 678 = .ok (.iload 4, 2) := by decide +kernel
theorem dL_law_680 : decode cL_law 680 = .ok (.iconst 1, 1) := by decide +kernel
theorem dL_law_681 : decode cL_law 681 = .ok (.iadd, 1) := by decide +kernel
theorem dL_law_682 : decode cL_law 682 = .ok (.iaload, 1) := by decide +kernel
theorem dL_law_683 : decode cL_law 683 = .ok (.aload_n 3, 1) := by decide +kernel
theorem dL_law_684 : decode cL_law 684 = .ok (.invokestatic 115, 3) := by decide +kernel
theorem dL_law_687 : decode cL_law 687 = .ok (.istore 5, 2) := by decide +kernel
theorem dL_law_689 : decode cL_law 689 = .ok (.aload_n 2, 1) := by decide +kernel
theorem dL_law_690 : decode cL_law 690 = .ok (.aload_n 0, 1) := by decide +kernel
theorem dL_law_691 : decode cL_law 691 = .ok (.iload 4, 2) := by decide +kernel
theorem dL_law_693 : decode cL_law 693 = .ok (.iconst 1, 1) := by decide +kernel
theorem dL_law_694 : decode cL_law 694 = .ok (.iadd, 1) := by decide +kernel
theorem dL_law_695 : decode cL_law 695 = .ok (.iaload, 1) := by decide +kernel
theorem dL_law_696 : decode cL_law 696 = .ok (.invokevirtual 117, 3) := by decide +kernel
theorem dL_law_699 : decode cL_law 699 = .ok (.istore 6, 2) := by decide +kernel
theorem dL_law_701 : decode cL_law 701 = .ok (.aload_n 2, 1) := by decide +kernel
theorem dL_law_702 : decode cL_law 702 = .ok (.invokevirtual 88, 3) := by decide +kernel
theorem dL_law_705 : decode cL_law 705 = .ok (.iload 5, 2) := by decide +kernel
theorem dL_law_707 : decode cL_law 707 = .ok (.if_icmp .eq 5, 3) := by decide +kernel
theorem dL_law_710 : decode cL_law 710 = .ok (.iconst 0, 1) := by decide +kernel
theorem dL_law_711 : decode cL_law 711 = .ok (.ireturn, 1) := by decide +kernel
theorem dL_law_712 : decode cL_law 712 = .ok (.iload 5, 2) := by decide +kernel
theorem dL_law_714 : decode cL_law 714 = .ok (.ifCond .ne 15, 3) := by decide +kernel
theorem dL_law_717 : decode cL_law 717 = .ok (.aload_n 3, 1) := by decide +kernel
theorem dL_law_718 : decode cL_law 718 = .ok (.iconst 0, 1) := by decide +kernel
theorem dL_law_719 : decode cL_law 719 = .ok (.laload, 1) := by decide +kernel
theorem dL_law_720 : decode cL_law 720 = .ok (.iload 6, 2) := by decide +kernel
theorem dL_law_722 : decode cL_law 722 = .ok (.i2l, 1) := by decide +kernel
theorem dL_law_723 : decode cL_law 723 = .ok (.lcmp, 1) := by decide +kernel
theorem dL_law_724 : decode cL_law 724 = .ok (.ifCond .eq 5, 3) := by decide +kernel
theorem dL_law_727 : decode cL_law 727 = .ok (.iconst 0, 1) := by decide +kernel
theorem dL_law_728 : decode cL_law 728 = .ok (.ireturn, 1) := by decide +kernel
theorem dL_law_729 : decode cL_law 729 = .ok (.goto 734, 3) := by decide +kernel
theorem dL_law_732 : decode cL_law 732 = .ok (.aload_n 1, 1) := by decide +kernel
theorem dL_law_733 : decode cL_law 733 = .ok (.aload_n 3, 1) := by decide +kernel
theorem dL_law_734 : decode cL_law 734 = .ok (.invokestatic 118, 3) := by decide +kernel
theorem dL_law_737 : decode cL_law 737 = .ok (.istore 5, 2) := by decide +kernel
theorem dL_law_739 : decode cL_law 739 = .ok (.aload_n 2, 1) := by decide +kernel
theorem dL_law_740 : decode cL_law 740 = .ok (.invokevirtual 121, 3) := by decide +kernel
theorem dL_law_743 : decode cL_law 743 = .ok (.istore 6, 2) := by decide +kernel
theorem dL_law_745 : decode cL_law 745 = .ok (.aload_n 2, 1) := by decide +kernel
theorem dL_law_746 : decode cL_law 746 = .ok (.invokevirtual 88, 3) := by decide +kernel
theorem dL_law_749 : decode cL_law 749 = .ok (.iload 5, 2) := by decide +kernel
theorem dL_law_751 : decode cL_law 751 = .ok (.if_icmp .eq 5, 3) := by decide +kernel
theorem dL_law_754 : decode cL_law 754 = .ok (.iconst 0, 1) := by decide +kernel
theorem dL_law_755 : decode cL_law 755 = .ok (.ireturn, 1) := by decide +kernel
theorem dL_law_756 : decode cL_law 756 = .ok (.iload 5, 2) := by decide +kernel
theorem dL_law_758 : decode cL_law 758 = .ok (.ifCond .ne 15, 3) := by decide +kernel
theorem dL_law_761 : decode cL_law 761 = .ok (.aload_n 3, 1) := by decide +kernel
theorem dL_law_762 : decode cL_law 762 = .ok (.iconst 0, 1) := by decide +kernel
theorem dL_law_763 : decode cL_law 763 = .ok (.laload, 1) := by decide +kernel
theorem dL_law_764 : decode cL_law 764 = .ok (.iload 6, 2) := by decide +kernel
theorem dL_law_766 : decode cL_law 766 = .ok (.i2l, 1) := by decide +kernel
theorem dL_law_767 : decode cL_law 767 = .ok (.lcmp, 1) := by decide +kernel
theorem dL_law_768 : decode cL_law 768 = .ok (.ifCond .eq 5, 3) := by decide +kernel
theorem dL_law_771 : decode cL_law 771 = .ok (.iconst 0, 1) := by decide +kernel
theorem dL_law_772 : decode cL_law 772 = .ok (.ireturn, 1) := by decide +kernel
theorem dL_law_773 : decode cL_law 773 = .ok (.goto 690, 3) := by decide +kernel
theorem dL_law_776 : decode cL_law 776 = .ok (.aload_n 1, 1) := by decide +kernel
theorem dL_law_777 : decode cL_law 777 = .ok (.aload_n 0, 1) := by decide +kernel
theorem dL_law_778 : decode cL_law 778 = .ok (.iload 4, 2) := by decide +kernel
theorem dL_law_780 : decode cL_law 780 = .ok (.iconst 1, 1) := by decide +kernel
theorem dL_law_781 : decode cL_law 781 = .ok (.iadd, 1) := by decide +kernel
theorem dL_law_782 : decode cL_law 782 = .ok (.iaload, 1) := by decide +kernel
theorem dL_law_783 : decode cL_law 783 = .ok (.aload_n 0, 1) := by decide +kernel
theorem dL_law_784 : decode cL_law 784 = .ok (.iload 4, 2) := by decide +kernel
theorem dL_law_786 : decode cL_law 786 = .ok (.iconst 2, 1) := by decide +kernel
theorem dL_law_787 : decode cL_law 787 = .ok (.iadd, 1) := by decide +kernel
theorem dL_law_788 : decode cL_law 788 = .ok (.iaload, 1) := by decide +kernel
theorem dL_law_789 : decode cL_law 789 = .ok (.ifCond .eq 7, 3) := by decide +kernel
theorem dL_law_792 : decode cL_law 792 = .ok (.iconst 1, 1) := by decide +kernel
theorem dL_law_793 : decode cL_law 793 = .ok (.goto 4, 3) := by decide +kernel
theorem dL_law_796 : decode cL_law 796 = .ok (.iconst 0, 1) := by decide +kernel
theorem dL_law_797 : decode cL_law 797 = .ok (.aload_n 0, 1) := by decide +kernel
theorem dL_law_798 : decode cL_law 798 = .ok (.iload 4, 2) := by decide +kernel
theorem dL_law_800 : decode cL_law 800 = .ok (.iconst 3, 1) := by decide +kernel
theorem dL_law_801 : decode cL_law 801 = .ok (.iadd, 1) := by decide +kernel
theorem dL_law_802 : decode cL_law 802 = .ok (.iaload, 1) := by decide +kernel
theorem dL_law_803 : decode cL_law 803 = .ok (.aload_n 0, 1) := by decide +kernel
theorem dL_law_804 : decode cL_law 804 = .ok (.iload 4, 2) := by decide +kernel
theorem dL_law_806 : decode cL_law 806 = .ok (.iconst 4, 1) := by decide +kernel
theorem dL_law_807 : decode cL_law 807 = .ok (.iadd, 1) := by decide +kernel
theorem dL_law_808 : decode cL_law 808 = .ok (.iaload, 1) := by decide +kernel
theorem dL_law_809 : decode cL_law 809 = .ok (.aload_n 3, 1) := by decide +kernel
theorem dL_law_810 : decode cL_law 810 = .ok (.invokestatic 122, 3) := by decide +kernel
theorem dL_law_813 : decode cL_law 813 = .ok (.istore 5, 2) := by decide +kernel
theorem dL_law_815 : decode cL_law 815 = .ok (.aload_n 2, 1) := by decide +kernel
theorem dL_law_816 : decode cL_law 816 = .ok (.aload_n 0, 1) := by decide +kernel
theorem dL_law_817 : decode cL_law 817 = .ok (.iload 4, 2) := by decide +kernel
theorem dL_law_819 : decode cL_law 819 = .ok (.iconst 1, 1) := by decide +kernel
theorem dL_law_820 : decode cL_law 820 = .ok (.iadd, 1) := by decide +kernel
theorem dL_law_821 : decode cL_law 821 = .ok (.iaload, 1) := by decide +kernel
theorem dL_law_822 : decode cL_law 822 = .ok (.aload_n 0, 1) := by decide +kernel
theorem dL_law_823 : decode cL_law 823 = .ok (.iload 4, 2) := by decide +kernel
theorem dL_law_825 : decode cL_law 825 = .ok (.iconst 2, 1) := by decide +kernel
end
section
theorem dL_law_826 : decode cL_law 826 = .ok (.iadd, 1) := by decide +kernel
theorem dL_law_827 : decode cL_law 827 = .ok (.iaload, 1) := by decide +kernel
theorem dL_law_828 : decode cL_law 828 = .ok (.ifCond .eq 7, 3) := by decide +kernel
theorem dL_law_831 : decode cL_law 831 = .ok (.iconst 1, 1) := by decide +kernel
theorem dL_law_832 : decode cL_law 832 = .ok (.goto 4, 3) := by decide +kernel
theorem dL_law_835 : decode cL_law 835 = .ok (.iconst 0, 1) := by decide +kernel
theorem dL_law_836 : decode cL_law 836 = .ok (.aload_n 0, 1) := by decide +kernel
theorem dL_law_837 : decode cL_law 837 = .ok (.iload 4, 2) := by decide +kernel
theorem dL_law_839 : decode cL_law 839 = .ok (.iconst 3, 1) := by decide +kernel
theorem dL_law_840 : decode cL_law 840 = .ok (.iadd, 1) := by decide +kernel
theorem dL_law_841 : decode cL_law 841 = .ok (.iaload, 1) := by decide +kernel
theorem dL_law_842 : decode cL_law 842 = .ok (.aload_n 0, 1) := by decide +kernel
theorem dL_law_843 : decode cL_law 843 = .ok (.iload 4, 2) := by decide +kernel
theorem dL_law_845 : decode cL_law 845 = .ok (.iconst 4, 1) := by decide +kernel
theorem dL_law_846 : decode cL_law 846 = .ok (.iadd, 1) := by decide +kernel
theorem dL_law_847 : decode cL_law 847 = .ok (.iaload, 1) := by decide +kernel
theorem dL_law_848 : decode cL_law 848 = .ok (.invokevirtual 125, 3) := by decide +kernel
theorem dL_law_851 : decode cL_law 851 = .ok (.istore 6, 2) := by decide +kernel
theorem dL_law_853 : decode cL_law 853 = .ok (.aload_n 2, 1) := by decide +kernel
theorem dL_law_854 : decode cL_law 854 = .ok (.invokevirtual 88, 3) := by decide +kernel
theorem dL_law_857 : decode cL_law 857 = .ok (.iload 5, 2) := by decide +kernel
theorem dL_law_859 : decode cL_law 859 = .ok (.if_icmp .eq 5, 3) := by decide +kernel
theorem dL_law_862 : decode cL_law 862 = .ok (.iconst 0, 1) := by decide +kernel
theorem dL_law_863 : decode cL_law 863 = .ok (.ireturn, 1) := by decide +kernel
theorem dL_law_864 : decode cL_law 864 = .ok (.iload 5, 2) := by decide +kernel
theorem dL_law_866 : decode cL_law 866 = .ok (.ifCond .ne 15, 3) := by decide +kernel
theorem dL_law_869 : decode cL_law 869 = .ok (.aload_n 3, 1) := by decide +kernel
theorem dL_law_870 : decode cL_law 870 = .ok (.iconst 0, 1) := by decide +kernel
theorem dL_law_871 : decode cL_law 871 = .ok (.laload, 1) := by decide +kernel
theorem dL_law_872 : decode cL_law 872 = .ok (.iload 6, 2) := by decide +kernel
theorem dL_law_874 : decode cL_law 874 = .ok (.i2l, 1) := by decide +kernel
theorem dL_law_875 : decode cL_law 875 = .ok (.lcmp, 1) := by decide +kernel
theorem dL_law_876 : decode cL_law 876 = .ok (.ifCond .eq 5, 3) := by decide +kernel
theorem dL_law_879 : decode cL_law 879 = .ok (.iconst 0, 1) := by decide +kernel
theorem dL_law_880 : decode cL_law 880 = .ok (.ireturn, 1) := by decide +kernel
theorem dL_law_881 : decode cL_law 881 = .ok (.goto 582, 3) := by decide +kernel
theorem dL_law_884 : decode cL_law 884 = .ok (.aload_n 1, 1) := by decide +kernel
theorem dL_law_885 : decode cL_law 885 = .ok (.aload_n 0, 1) := by decide +kernel
theorem dL_law_886 : decode cL_law 886 = .ok (.iload 4, 2) := by decide +kernel
theorem dL_law_888 : decode cL_law 888 = .ok (.iconst 1, 1) := by decide +kernel
theorem dL_law_889 : decode cL_law 889 = .ok (.iadd, 1) := by decide +kernel
theorem dL_law_890 : decode cL_law 890 = .ok (.iaload, 1) := by decide +kernel
theorem dL_law_891 : decode cL_law 891 = .ok (.aload_n 0, 1) := by decide +kernel
theorem dL_law_892 : decode cL_law 892 = .ok (.iload 4, 2) := by decide +kernel
theorem dL_law_894 : decode cL_law 894 = .ok (.iconst 2, 1) := by decide +kernel
theorem dL_law_895 : decode cL_law 895 = .ok (.iadd, 1) := by decide +kernel
theorem dL_law_896 : decode cL_law 896 = .ok (.iaload, 1) := by decide +kernel
theorem dL_law_897 : decode cL_law 897 = .ok (.aload_n 3, 1) := by decide +kernel
theorem dL_law_898 : decode cL_law 898 = .ok (.invokestatic 126, 3) := by decide +kernel
theorem dL_law_901 : decode cL_law 901 = .ok (.istore 5, 2) := by decide +kernel
theorem dL_law_903 : decode cL_law 903 = .ok (.aload_n 2, 1) := by decide +kernel
theorem dL_law_904 : decode cL_law 904 = .ok (.aload_n 0, 1) := by decide +kernel
theorem dL_law_905 : decode cL_law 905 = .ok (.iload 4, 2) := by decide +kernel
theorem dL_law_907 : decode cL_law 907 = .ok (.iconst 1, 1) := by decide +kernel
theorem dL_law_908 : decode cL_law 908 = .ok (.iadd, 1) := by decide +kernel
theorem dL_law_909 : decode cL_law 909 = .ok (.iaload, 1) := by decide +kernel
theorem dL_law_910 : decode cL_law 910 = .ok (.aload_n 0, 1) := by decide +kernel
theorem dL_law_911 : decode cL_law 911 = .ok (.iload 4, 2) := by decide +kernel
theorem dL_law_913 : decode cL_law 913 = .ok (.iconst 2, 1) := by decide +kernel
theorem dL_law_914 : decode cL_law 914 = .ok (.iadd, 1) := by decide +kernel
theorem dL_law_915 : decode cL_law 915 = .ok (.iaload, 1) := by decide +kernel
theorem dL_law_916 : decode cL_law 916 = .ok (.invokevirtual 128, 3) := by decide +kernel
theorem dL_law_919 : decode cL_law 919 = .ok (.istore 6, 2) := by decide +kernel
theorem dL_law_921 : decode cL_law 921 = .ok (.aload_n 2, 1) := by decide +kernel
theorem dL_law_922 : decode cL_law 922 = .ok (.invokevirtual 88, 3) := by decide +kernel
theorem dL_law_925 : decode cL_law 925 = .ok (.iload 5, 2) := by decide +kernel
theorem dL_law_927 : decode cL_law 927 = .ok (.if_icmp .eq 5, 3) := by decide +kernel
theorem dL_law_930 : decode cL_law 930 = .ok (.iconst 0, 1) := by decide +kernel
theorem dL_law_931 : decode cL_law 931 = .ok (.ireturn, 1) := by decide +kernel
theorem dL_law_932 : decode cL_law 932 = .ok (.iload 5, 2) := by decide +kernel
theorem dL_law_934 : decode cL_law 934 = .ok (.ifCond .ne 15, 3) := by decide +kernel
theorem dL_law_937 : decode cL_law 937 = .ok (.aload_n 3, 1) := by decide +kernel
theorem dL_law_938 : decode cL_law 938 = .ok (.iconst 0, 1) := by decide +kernel
theorem dL_law_939 : decode cL_law 939 = .ok (.laload, 1) := by decide +kernel
theorem dL_law_940 : decode cL_law 940 = .ok (.iload 6, 2) := by decide +kernel
theorem dL_law_942 : decode cL_law 942 = .ok (.i2l, 1) := by decide +kernel
theorem dL_law_943 : decode cL_law 943 = .ok (.lcmp, 1) := by decide +kernel
theorem dL_law_944 : decode cL_law 944 = .ok (.ifCond .eq 5, 3) := by decide +kernel
theorem dL_law_947 : decode cL_law 947 = .ok (.iconst 0, 1) := by decide +kernel
theorem dL_law_948 : decode cL_law 948 = .ok (.ireturn, 1) := by decide +kernel
theorem dL_law_949 : decode cL_law 949 = .ok (.goto 514, 3) := by decide +kernel
theorem dL_law_952 : decode cL_law 952 = .ok (.aload_n 1, 1) := by decide +kernel
theorem dL_law_953 : decode cL_law 953 = .ok (.aload_n 0, 1) := by decide +kernel
theorem dL_law_954 : decode cL_law 954 = .ok (.iload 4, 2) := by decide +kernel
theorem dL_law_956 : decode cL_law 956 = .ok (.iconst 1, 1) := by decide +kernel
theorem dL_law_957 : decode cL_law 957 = .ok (.iadd, 1) := by decide +kernel
theorem dL_law_958 : decode cL_law 958 = .ok (.iaload, 1) := by decide +kernel
theorem dL_law_959 : decode cL_law 959 = .ok (.aload_n 3, 1) := by decide +kernel
theorem dL_law_960 : decode cL_law 960 = .ok (.invokestatic 129, 3) := by decide +kernel
theorem dL_law_963 : decode cL_law 963 = .ok (.istore 5, 2) := by decide +kernel
theorem dL_law_965 : decode cL_law 965 = .ok (.aload_n 2, 1) := by decide +kernel
theorem dL_law_966 : decode cL_law 966 = .ok (.aload_n 0, 1) := by decide +kernel
theorem dL_law_967 : decode cL_law 967 = .ok (.iload 4, 2) := by decide +kernel
theorem dL_law_969 : decode cL_law 969 = .ok (.iconst 1, 1) := by decide +kernel
theorem dL_law_970 : decode cL_law 970 = .ok (.iadd, 1) := by decide +kernel
theorem dL_law_971 : decode cL_law 971 = .ok (.iaload, 1) := by decide +kernel
theorem dL_law_972 : decode cL_law 972 = .ok (.invokevirtual 131, 3) := by decide +kernel
theorem dL_law_975 : decode cL_law 975 = .ok (.istore 6, 2) := by decide +kernel
theorem dL_law_977 : decode cL_law 977 = .ok (.aload_n 2, 1) := by decide +kernel
theorem dL_law_978 : decode cL_law 978 = .ok (.invokevirtual 88, 3) := by decide +kernel
theorem dL_law_981 : decode cL_law 981 = .ok (.iload 5, 2) := by decide +kernel
theorem dL_law_983 : decode cL_law 983 = .ok (.if_icmp .eq 5, 3) := by decide +kernel
theorem dL_law_986 : decode cL_law 986 = .ok (.iconst 0, 1) := by decide +kernel
theorem dL_law_987 : decode cL_law 987 = .ok (.ireturn, 1) := by decide +kernel
theorem dL_law_988 : decode cL_law 988 = .ok (.iload 5, 2) := by decide +kernel
theorem dL_law_990 : decode cL_law 990 = .ok (.ifCond .ne 22, 3) := by decide +kernel
theorem dL_law_993 : decode cL_law 993 = .ok (.aload_n 3, 1) := by decide +kernel
theorem dL_law_994 : decode cL_law 994 = .ok (.iconst 0, 1) := by decide +kernel
theorem dL_law_995 : decode cL_law 995 = .ok (.laload, 1) := by decide +kernel
theorem dL_law_996 : decode cL_law 996 = .ok (.iload 6, 2) := by decide +kernel
theorem dL_law_998 : decode cL_law 998 = .ok (.ifCond .eq 7, 3) := by decide +kernel
theorem dL_law_1001 : decode cL_law 1001 = .ok (.lconst 1, 1) := by decide +kernel
theorem dL_law_1002 : decode cL_law 1002 = .ok (.goto 4, 3) := by decide +kernel
theorem dL_law_1005 : decode cL_law 1005 = .ok (.lconst 0, 1) := by decide +kernel
theorem dL_law_1006 : decode cL_law 1006 = .ok (.lcmp, 1) := by decide +kernel
theorem dL_law_1007 : decode cL_law 1007 = .ok (.ifCond .eq 5, 3) := by decide +kernel
theorem dL_law_1010 : decode cL_law 1010 = .ok (.iconst 0, 1) := by decide +kernel
theorem dL_law_1011 : decode cL_law 1011 = .ok (.ireturn, 1) := by decide +kernel
theorem dL_law_1012 : decode cL_law 1012 = .ok (.goto 451, 3) := by decide +kernel
theorem dL_law_1015 : decode cL_law 1015 = .ok (.aload_n 1, 1) := by decide +kernel
theorem dL_law_1016 : decode cL_law 1016 = .ok (.aload_n 0, 1) := by decide +kernel
theorem dL_law_1017 : decode cL_law 1017 = .ok (.iload 4, 2) := by decide +kernel
theorem dL_law_1019 : decode cL_law 1019 = .ok (.iconst 1, 1) := by decide +kernel
theorem dL_law_1020 : decode cL_law 1020 = .ok (.iadd, 1) := by decide +kernel
theorem dL_law_1021 : decode cL_law 1021 = .ok (.iaload, 1) := by decide +kernel
theorem dL_law_1022 : decode cL_law 1022 = .ok (.aload_n 0, 1) := by decide +kernel
theorem dL_law_1023 : decode cL_law 1023 = .ok (.iload 4, 2) := by decide +kernel
theorem dL_law_1025 : decode cL_law 1025 = .ok (.iconst 2, 1) := by decide +kernel
theorem dL_law_1026 : decode cL_law 1026 = .ok (.iadd, 1) := by decide +kernel
theorem dL_law_1027 : decode cL_law 1027 = .ok (.iaload, 1) := by decide +kernel
theorem dL_law_1028 : decode cL_law 1028 = .ok (.aload_n 0, 1) := by decide +kernel
theorem dL_law_1029 : decode cL_law 1029 = .ok (.iload 4, 2) := by decide +kernel
theorem dL_law_1031 : decode cL_law 1031 = .ok (.iconst 3, 1) := by decide +kernel
theorem dL_law_1032 : decode cL_law 1032 = .ok (.iadd, 1) := by decide +kernel
theorem dL_law_1033 : decode cL_law 1033 = .ok (.iaload, 1) := by decide +kernel
theorem dL_law_1034 : decode cL_law 1034 = .ok (.ifCond .eq 7, 3) := by decide +kernel
theorem dL_law_1037 : decode cL_law 1037 = .ok (.iconst 1, 1) := by decide +kernel
theorem dL_law_1038 : decode cL_law 1038 = .ok (.goto 4, 3) := by decide +kernel
theorem dL_law_1041 : decode cL_law 1041 = .ok (.iconst 0, 1) := by decide +kernel
theorem dL_law_1042 : decode cL_law 1042 = .ok (.aload_n 3, 1) := by decide +kernel
theorem dL_law_1043 : decode cL_law 1043 = .ok (.invokestatic 132, 3) := by decide +kernel
theorem dL_law_1046 : decode cL_law 1046 = .ok (.istore 5, 2) := by decide +kernel
theorem dL_law_1048 : decode cL_law 1048 = .ok (.aload_n 2, 1) := by decide +kernel
theorem dL_law_1049 : decode cL_law 1049 = .ok (.aload_n 0, 1) := by decide +kernel
theorem dL_law_1050 : decode cL_law 1050 = .ok (.iload 4, 2) := by decide +kernel
theorem dL_law_1052 : decode cL_law 1052 = .ok (.iconst 1, 1) := by decide +kernel
theorem dL_law_1053 : decode cL_law 1053 = .ok (.iadd, 1) := by decide +kernel
theorem dL_law_1054 : decode cL_law 1054 = .ok (.iaload, 1) := by decide +kernel
theorem dL_law_1055 : decode cL_law 1055 = .ok (.aload_n 0, 1) := by decide +kernel
theorem dL_law_1056 : decode cL_law 1056 = .ok (.iload 4, 2) := by decide +kernel
theorem dL_law_1058 : decode cL_law 1058 = .ok (.iconst 2, 1) := by decide +kernel
theorem dL_law_1059 : decode cL_law 1059 = .ok (.iadd, 1) := by decide +kernel
theorem dL_law_1060 : decode cL_law 1060 = .ok (.iaload, 1) := by decide +kernel
theorem dL_law_1061 : decode cL_law 1061 = .ok (.aload_n 0, 1) := by decide +kernel
theorem dL_law_1062 : decode cL_law 1062 = .ok (.iload 4, 2) := by decide +kernel
theorem dL_law_1064 : decode cL_law 1064 = .ok (.iconst 3, 1) := by decide +kernel
theorem dL_law_1065 : decode cL_law 1065 = .ok (.iadd, 1) := by decide +kernel
theorem dL_law_1066 : decode cL_law 1066 = .ok (.iaload, 1) := by decide +kernel
theorem dL_law_1067 : decode cL_law 1067 = .ok (.ifCond .eq 7, 3) := by decide +kernel
theorem dL_law_1070 : decode cL_law 1070 = .ok (.iconst 1, 1) := by decide +kernel
theorem dL_law_1071 : decode cL_law 1071 = .ok (.goto 4, 3) := by decide +kernel
theorem dL_law_1074 : decode cL_law 1074 = .ok (.iconst 0, 1) := by decide +kernel
theorem dL_law_1075 : decode cL_law 1075 = .ok (.invokevirtual 135, 3) := by decide +kernel
theorem dL_law_1078 : decode cL_law 1078 = .ok (.istore 6, 2) := by decide +kernel
theorem dL_law_1080 : decode cL_law 1080 = .ok (.aload_n 2, 1) := by decide +kernel
theorem dL_law_1081 : decode cL_law 1081 = .ok (.invokevirtual 88, 3) := by decide +kernel
theorem dL_law_1084 : decode cL_law 1084 = .ok (.iload 5, 2) := by decide +kernel
theorem dL_law_1086 : decode cL_law 1086 = .ok (.if_icmp .eq 5, 3) := by decide +kernel
theorem dL_law_1089 : decode cL_law 1089 = .ok (.iconst 0, 1) := by decide +kernel
theorem dL_law_1090 : decode cL_law 1090 = .ok (.ireturn, 1) := by decide +kernel
theorem dL_law_1091 : decode cL_law 1091 = .ok (.iload 5, 2) := by decide +kernel
theorem dL_law_1093 : decode cL_law 1093 = .ok (.ifCond .ne 15, 3) := by decide +kernel
theorem dL_law_1096 : decode cL_law 1096 = .ok (.aload_n 3, 1) := by decide +kernel
theorem dL_law_1097 : decode cL_law 1097 = .ok (.iconst 0, 1) := by decide +kernel
theorem dL_law_1098 : decode cL_law 1098 = .ok (.laload, 1) := by decide +kernel
theorem dL_law_1099 : decode cL_law 1099 = .ok (.iload 6, 2) := by decide +kernel
theorem dL_law_1101 : decode cL_law 1101 = .ok (.i2l, 1) := by decide +kernel
theorem dL_law_1102 : decode cL_law 1102 = .ok (.lcmp, 1) := by decide +kernel
theorem dL_law_1103 : decode cL_law 1103 = .ok (.ifCond .eq 5, 3) := by decide +kernel
theorem dL_law_1106 : decode cL_law 1106 = .ok (.iconst 0, 1) := by decide +kernel
theorem dL_law_1107 : decode cL_law 1107 = .ok (.ireturn, 1) := by decide +kernel
theorem dL_law_1108 : decode cL_law 1108 = .ok (.goto 355, 3) := by decide +kernel
theorem dL_law_1111 : decode cL_law 1111 = .ok (.aload_n 1, 1) := by decide +kernel
theorem dL_law_1112 : decode cL_law 1112 = .ok (.aload_n 0, 1) := by decide +kernel
theorem dL_law_1113 : decode cL_law 1113 = .ok (.iload 4, 2) := by decide +kernel
theorem dL_law_1115 : decode cL_law 1115 = .ok (.iconst 1, 1) := by decide +kernel
theorem dL_law_1116 : decode cL_law 1116 = .ok (.iadd, 1) := by decide +kernel
theorem dL_law_1117 : decode cL_law 1117 = .ok (.iaload, 1) := by decide +kernel
theorem dL_law_1118 : decode cL_law 1118 = .ok (.aload_n 0, 1) := by decide +kernel
theorem dL_law_1119 : decode cL_law 1119 = .ok (.iload 4, 2) := by decide +kernel
theorem dL_law_1121 : decode cL_law 1121 = .ok (.iconst 2, 1) := by decide +kernel
theorem dL_law_1122 : decode cL_law 1122 = .ok (.iadd, 1) := by decide +kernel
theorem dL_law_1123 : decode cL_law 1123 = .ok (.iaload, 1) := by decide +kernel
theorem dL_law_1124 : decode cL_law 1124 = .ok (.aload_n 3, 1) := by decide +kernel
theorem dL_law_1125 : decode cL_law 1125 = .ok (.invokestatic 136, 3) := by decide +kernel
theorem dL_law_1128 : decode cL_law 1128 = .ok (.istore 5, 2) := by decide +kernel
theorem dL_law_1130 : decode cL_law 1130 = .ok (.aload_n 2, 1) := by decide +kernel
theorem dL_law_1131 : decode cL_law 1131 = .ok (.aload_n 0, 1) := by decide +kernel
theorem dL_law_1132 : decode cL_law 1132 = .ok (.iload 4, 2) := by decide +kernel
theorem dL_law_1134 : decode cL_law 1134 = .ok (.iconst 1, 1) := by decide +kernel
theorem dL_law_1135 : decode cL_law 1135 = .ok (.iadd, 1) := by decide +kernel
theorem dL_law_1136 : decode cL_law 1136 = .ok (.iaload, 1) := by decide +kernel
theorem dL_law_1137 : decode cL_law 1137 = .ok (.aload_n 0, 1) := by decide +kernel
theorem dL_law_1138 : decode cL_law 1138 = .ok (.iload 4, 2) := by decide +kernel
theorem dL_law_1140 : decode cL_law 1140 = .ok (.iconst 2, 1) := by decide +kernel
theorem dL_law_1141 : decode cL_law 1141 = .ok (.iadd, 1) := by decide +kernel
theorem dL_law_1142 : decode cL_law 1142 = .ok (.iaload, 1) := by decide +kernel
theorem dL_law_1143 : decode cL_law 1143 = .ok (.invokevirtual 138, 3) := by decide +kernel
theorem dL_law_1146 : decode cL_law 1146 = .ok (.istore 6, 2) := by decide +kernel
theorem dL_law_1148 : decode cL_law 1148 = .ok (.aload_n 2, 1) := by decide +kernel
theorem dL_law_1149 : decode cL_law 1149 = .ok (.invokevirtual 88, 3) := by decide +kernel
theorem dL_law_1152 : decode cL_law 1152 = .ok (.iload 5, 2) := by decide +kernel
theorem dL_law_1154 : decode cL_law 1154 = .ok (.if_icmp .eq 5, 3) := by decide +kernel
theorem dL_law_1157 : decode cL_law 1157 = .ok (.iconst 0, 1) := by decide +kernel
theorem dL_law_1158 : decode cL_law 1158 = .ok (.ireturn, 1) := by decide +kernel
theorem dL_law_1159 : decode cL_law 1159 = .ok (.iload 5, 2) := by decide +kernel
theorem dL_law_1161 : decode cL_law 1161 = .ok (.ifCond .ne 15, 3) := by decide +kernel
theorem dL_law_1164 : decode cL_law 1164 = .ok (.aload_n 3, 1) := by decide +kernel
theorem dL_law_1165 : decode cL_law 1165 = .ok (.iconst 0, 1) := by decide +kernel
theorem dL_law_1166 : decode cL_law 1166 = .ok (.laload, 1) := by decide +kernel
theorem dL_law_1167 : decode cL_law 1167 = .ok (.iload 6, 2) := by decide +kernel
theorem dL_law_1169 : decode cL_law 1169 = .ok (.i2l, 1) := by decide +kernel
theorem dL_law_1170 : decode cL_law 1170 = .ok (.lcmp, 1) := by decide +kernel
theorem dL_law_1171 : decode cL_law 1171 = .ok (.ifCond .eq 5, 3) := by decide +kernel
theorem dL_law_1174 : decode cL_law 1174 = .ok (.iconst 0, 1) := by decide +kernel
theorem dL_law_1175 : decode cL_law 1175 = .ok (.ireturn, 1) := by decide +kernel
theorem dL_law_1176 : decode cL_law 1176 = .ok (.goto 287, 3) := by decide +kernel
theorem dL_law_1179 : decode cL_law 1179 = .ok (.aload_n 1, 1) := by decide +kernel
theorem dL_law_1180 : decode cL_law 1180 = .ok (.aload_n 0, 1) := by decide +kernel
theorem dL_law_1181 : decode cL_law 1181 = .ok (.iload 4, 2) := by decide +kernel
theorem dL_law_1183 : decode cL_law 1183 = .ok (.iconst 1, 1) := by decide +kernel
theorem dL_law_1184 : decode cL_law 1184 = .ok (.iadd, 1) := by decide +kernel
theorem dL_law_1185 : decode cL_law 1185 = .ok (.iaload, 1) := by decide +kernel
theorem dL_law_1186 : decode cL_law 1186 = .ok (.aload_n 0, 1) := by decide +kernel
theorem dL_law_1187 : decode cL_law 1187 = .ok (.iload 4, 2) := by decide +kernel
theorem dL_law_1189 : decode cL_law 1189 = .ok (.iconst 2, 1) := by decide +kernel
theorem dL_law_1190 : decode cL_law 1190 = .ok (.iadd, 1) := by decide +kernel
theorem dL_law_1191 : decode cL_law 1191 = .ok (.iaload, 1) := by decide +kernel
theorem dL_law_1192 : decode cL_law 1192 = .ok (.aload_n 0, 1) := by decide +kernel
theorem dL_law_1193 : decode cL_law 1193 = .ok (.iload 4, 2) := by decide +kernel
theorem dL_law_1195 : decode cL_law 1195 = .ok (.iconst 3, 1) := by decide +kernel
theorem dL_law_1196 : decode cL_law 1196 = .ok (.iadd, 1) := by decide +kernel
theorem dL_law_1197 : decode cL_law 1197 = .ok (.iaload, 1) := by decide +kernel
theorem dL_law_1198 : decode cL_law 1198 = .ok (.aload_n 0, 1) := by decide +kernel
theorem dL_law_1199 : decode cL_law 1199 = .ok (.iload 4, 2) := by decide +kernel
theorem dL_law_1201 : decode cL_law 1201 = .ok (.iconst 4, 1) := by decide +kernel
theorem dL_law_1202 : decode cL_law 1202 = .ok (.iadd, 1) := by decide +kernel
theorem dL_law_1203 : decode cL_law 1203 = .ok (.iaload, 1) := by decide +kernel
theorem dL_law_1204 : decode cL_law 1204 = .ok (.aload_n 0, 1) := by decide +kernel
theorem dL_law_1205 : decode cL_law 1205 = .ok (.iload 4, 2) := by decide +kernel
theorem dL_law_1207 : decode cL_law 1207 = .ok (.iconst 5, 1) := by decide +kernel
theorem dL_law_1208 : decode cL_law 1208 = .ok (.iadd, 1) := by decide +kernel
theorem dL_law_1209 : decode cL_law 1209 = .ok (.iaload, 1) := by decide +kernel
theorem dL_law_1210 : decode cL_law 1210 = .ok (.aload_n 3, 1) := by decide +kernel
theorem dL_law_1211 : decode cL_law 1211 = .ok (.invokestatic 139, 3) := by decide +kernel
theorem dL_law_1214 : decode cL_law 1214 = .ok (.istore 5, 2) := by decide +kernel
theorem dL_law_1216 : decode cL_law 1216 = .ok (.aload_n 2, 1) := by decide +kernel
theorem dL_law_1217 : decode cL_law 1217 = .ok (.aload_n 0, 1) := by decide +kernel
theorem dL_law_1218 : decode cL_law 1218 = .ok (.iload 4, 2) := by decide +kernel
theorem dL_law_1220 : decode cL_law 1220 = .ok (.iconst 1, 1) := by decide +kernel
theorem dL_law_1221 : decode cL_law 1221 = .ok (.iadd, 1) := by decide +kernel
theorem dL_law_1222 : decode cL_law 1222 = .ok (.iaload, 1) := by decide +kernel
theorem dL_law_1223 : decode cL_law 1223 = .ok (.aload_n 0, 1) := by decide +kernel
theorem dL_law_1224 : decode cL_law 1224 = .ok (.iload 4, 2) := by decide +kernel
theorem dL_law_1226 : decode cL_law 1226 = .ok (.iconst 2, 1) := by decide +kernel
theorem dL_law_1227 : decode cL_law 1227 = .ok (.iadd, 1) := by decide +kernel
theorem dL_law_1228 : decode cL_law 1228 = .ok (.iaload, 1) := by decide +kernel
theorem dL_law_1229 : decode cL_law 1229 = .ok (.aload_n 0, 1) := by decide +kernel
theorem dL_law_1230 : decode cL_law 1230 = .ok (.iload 4, 2) := by decide +kernel
theorem dL_law_1232 : decode cL_law 1232 = .ok (.iconst 3, 1) := by decide +kernel
theorem dL_law_1233 : decode cL_law 1233 = .ok (.iadd, 1) := by decide +kernel
theorem dL_law_1234 : decode cL_law 1234 = .ok (.iaload, 1) := by decide +kernel
theorem dL_law_1235 : decode cL_law 1235 = .ok (.aload_n 0, 1) := by decide +kernel
theorem dL_law_1236 : decode cL_law 1236 = .ok (.iload 4, 2) := by decide +kernel
theorem dL_law_1238 : decode cL_law 1238 = .ok (.iconst 4, 1) := by decide +kernel
theorem dL_law_1239 : decode cL_law 1239 = .ok (.iadd, 1) := by decide +kernel
theorem dL_law_1240 : decode cL_law 1240 = .ok (.iaload, 1) := by decide +kernel
theorem dL_law_1241 : decode cL_law 1241 = .ok (.aload_n 0, 1) := by decide +kernel
theorem dL_law_1242 : decode cL_law 1242 = .ok (.iload 4, 2) := by decide +kernel
theorem dL_law_1244 : decode cL_law 1244 = .ok (.iconst 5, 1) := by decide +kernel
theorem dL_law_1245 : decode cL_law 1245 = .ok (.iadd, 1) := by decide +kernel
theorem dL_law_1246 : decode cL_law 1246 = .ok (.iaload, 1) := by decide +kernel
theorem dL_law_1247 : decode cL_law 1247 = .ok (.invokevirtual 142, 3) := by decide +kernel
theorem dL_law_1250 : decode cL_law 1250 = .ok (.istore 6, 2) := by decide +kernel
theorem dL_law_1252 : decode cL_law 1252 = .ok (.aload_n 2, 1) := by decide +kernel
theorem dL_law_1253 : decode cL_law 1253 = .ok (.invokevirtual 88, 3) := by decide +kernel
theorem dL_law_1256 : decode cL_law 1256 = .ok (.iload 5, 2) := by decide +kernel
theorem dL_law_1258 : decode cL_law 1258 = .ok (.if_icmp .eq 5, 3) := by decide +kernel
theorem dL_law_1261 : decode cL_law 1261 = .ok (.iconst 0, 1) := by decide +kernel
theorem dL_law_1262 : decode cL_law 1262 = .ok (.ireturn, 1) := by decide +kernel
theorem dL_law_1263 : decode cL_law 1263 = .ok (.iload 5, 2) := by decide +kernel
theorem dL_law_1265 : decode cL_law 1265 = .ok (.ifCond .ne 15, 3) := by decide +kernel
theorem dL_law_1268 : decode cL_law 1268 = .ok (.aload_n 3, 1) := by decide +kernel
theorem dL_law_1269 : decode cL_law 1269 = .ok (.iconst 0, 1) := by decide +kernel
theorem dL_law_1270 : decode cL_law 1270 = .ok (.laload, 1) := by decide +kernel
theorem dL_law_1271 : decode cL_law 1271 = .ok (.iload 6, 2) := by decide +kernel
theorem dL_law_1273 : decode cL_law 1273 = .ok (.i2l, 1) := by decide +kernel
theorem dL_law_1274 : decode cL_law 1274 = .ok (.lcmp, 1) := by decide +kernel
theorem dL_law_1275 : decode cL_law 1275 = .ok (.ifCond .eq 5, 3) := by decide +kernel
theorem dL_law_1278 : decode cL_law 1278 = .ok (.iconst 0, 1) := by decide +kernel
theorem dL_law_1279 : decode cL_law 1279 = .ok (.ireturn, 1) := by decide +kernel
theorem dL_law_1280 : decode cL_law 1280 = .ok (.goto 183, 3) := by decide +kernel
theorem dL_law_1283 : decode cL_law 1283 = .ok (.aload_n 1, 1) := by decide +kernel
theorem dL_law_1284 : decode cL_law 1284 = .ok (.aload_n 0, 1) := by decide +kernel
theorem dL_law_1285 : decode cL_law 1285 = .ok (.iload 4, 2) := by decide +kernel
theorem dL_law_1287 : decode cL_law 1287 = .ok (.iconst 1, 1) := by decide +kernel
theorem dL_law_1288 : decode cL_law 1288 = .ok (.iadd, 1) := by decide +kernel
theorem dL_law_1289 : decode cL_law 1289 = .ok (.iaload, 1) := by decide +kernel
theorem dL_law_1290 : decode cL_law 1290 = .ok (.aload_n 0, 1) := by decide +kernel
theorem dL_law_1291 : decode cL_law 1291 = .ok (.iload 4, 2) := by decide +kernel
theorem dL_law_1293 : decode cL_law 1293 = .ok (.iconst 2, 1) := by decide +kernel
theorem dL_law_1294 : decode cL_law 1294 = .ok (.iadd, 1) := by decide +kernel
theorem dL_law_1295 : decode cL_law 1295 = .ok (.iaload, 1) := by decide +kernel
theorem dL_law_1296 : decode cL_law 1296 = .ok (.aload_n 3, 1) := by decide +kernel
theorem dL_law_1297 : decode cL_law 1297 = .ok (.invokestatic 143, 3) := by decide +kernel
theorem dL_law_1300 : decode cL_law 1300 = .ok (.istore 5, 2) := by decide +kernel
theorem dL_law_1302 : decode cL_law 1302 = .ok (.aload_n 2, 1) := by decide +kernel
theorem dL_law_1303 : decode cL_law 1303 = .ok (.aload_n 0, 1) := by decide +kernel
theorem dL_law_1304 : decode cL_law 1304 = .ok (.iload 4, 2) := by decide +kernel
theorem dL_law_1306 : decode cL_law 1306 = .ok (.iconst 1, 1) := by decide +kernel
theorem dL_law_1307 : decode cL_law 1307 = .ok (.iadd, 1) := by decide +kernel
theorem dL_law_1308 : decode cL_law 1308 = .ok (.iaload, 1) := by decide +kernel
theorem dL_law_1309 : decode cL_law 1309 = .ok (.aload_n 0, 1) := by decide +kernel
theorem dL_law_1310 : decode cL_law 1310 = .ok (.iload 4, 2) := by decide +kernel
theorem dL_law_1312 : decode cL_law 1312 = .ok (.iconst 2, 1) := by decide +kernel
theorem dL_law_1313 : decode cL_law 1313 = .ok (.iadd, 1) := by decide +kernel
theorem dL_law_1314 : decode cL_law 1314 = .ok (.iaload, 1) := by decide +kernel
theorem dL_law_1315 : decode cL_law 1315 = .ok (.invokevirtual 145, 3) := by decide +kernel
theorem dL_law_1318 : decode cL_law 1318 = .ok (.istore 6, 2) := by decide +kernel
theorem dL_law_1320 : decode cL_law 1320 = .ok (.aload_n 2, 1) := by decide +kernel
theorem dL_law_1321 : decode cL_law 1321 = .ok (.invokevirtual 88, 3) := by decide +kernel
theorem dL_law_1324 : decode cL_law 1324 = .ok (.iload 5, 2) := by decide +kernel
theorem dL_law_1326 : decode cL_law 1326 = .ok (.if_icmp .eq 5, 3) := by decide +kernel
theorem dL_law_1329 : decode cL_law 1329 = .ok (.iconst 0, 1) := by decide +kernel
theorem dL_law_1330 : decode cL_law 1330 = .ok (.ireturn, 1) := by decide +kernel
theorem dL_law_1331 : decode cL_law 1331 = .ok (.iload 5, 2) := by decide +kernel
theorem dL_law_1333 : decode cL_law 1333 = .ok (.ifCond .ne 15, 3) := by decide +kernel
theorem dL_law_1336 : decode cL_law 1336 = .ok (.aload_n 3, 1) := by decide +kernel
theorem dL_law_1337 : decode cL_law 1337 = .ok (.iconst 0, 1) := by decide +kernel
theorem dL_law_1338 : decode cL_law 1338 = .ok (.laload, 1) := by decide +kernel
theorem dL_law_1339 : decode cL_law 1339 = .ok (.iload 6, 2) := by decide +kernel
theorem dL_law_1341 : decode cL_law 1341 = .ok (.i2l, 1) := by decide +kernel
theorem dL_law_1342 : decode cL_law 1342 = .ok (.lcmp, 1) := by decide +kernel
theorem dL_law_1343 : decode cL_law 1343 = .ok (.ifCond .eq 5, 3) := by decide +kernel
theorem dL_law_1346 : decode cL_law 1346 = .ok (.iconst 0, 1) := by decide +kernel
theorem dL_law_1347 : decode cL_law 1347 = .ok (.ireturn, 1) := by decide +kernel
theorem dL_law_1348 : decode cL_law 1348 = .ok (.goto 115, 3) := by decide +kernel
theorem dL_law_1351 : decode cL_law 1351 = .ok (.aload_n 1, 1) := by decide +kernel
theorem dL_law_1352 : decode cL_law 1352 = .ok (.invokevirtual 146, 3) := by decide +kernel
theorem dL_law_1355 : decode cL_law 1355 = .ok (.dstore 5, 2) := by decide +kernel
theorem dL_law_1357 : decode cL_law 1357 = .ok (.aload_n 2, 1) := by decide +kernel
theorem dL_law_1358 : decode cL_law 1358 = .ok (.invokevirtual 150, 3) := by decide +kernel
theorem dL_law_1361 : decode cL_law 1361 = .ok (.dstore 7, 2) := by decide +kernel
theorem dL_law_1363 : decode cL_law 1363 = .ok (.dload 5, 2) := by decide +kernel
theorem dL_law_1365 : decode cL_law 1365 = .ok (.dload 7, 2) := by decide +kernel
theorem dL_law_1367 : decode cL_law 1367 = .ok (.dcmp .l, 1) := by decide +kernel
theorem dL_law_1368 : decode cL_law 1368 = .ok (.ifCond .eq 21, 3) := by decide +kernel
theorem dL_law_1371 : decode cL_law 1371 = .ok (.dload 5, 2) := by decide +kernel
theorem dL_law_1373 : decode cL_law 1373 = .ok (.dload 5, 2) := by decide +kernel
theorem dL_law_1375 : decode cL_law 1375 = .ok (.dcmp .l, 1) := by decide +kernel
theorem dL_law_1376 : decode cL_law 1376 = .ok (.ifCond .eq 11, 3) := by decide +kernel
theorem dL_law_1379 : decode cL_law 1379 = .ok (.dload 7, 2) := by decide +kernel
theorem dL_law_1381 : decode cL_law 1381 = .ok (.dload 7, 2) := by decide +kernel
theorem dL_law_1383 : decode cL_law 1383 = .ok (.dcmp .l, 1) := by decide +kernel
theorem dL_law_1384 : decode cL_law 1384 = .ok (.ifCond .ne 5, 3) := by decide +kernel
theorem dL_law_1387 : decode cL_law 1387 = .ok (.iconst 0, 1) := by decide +kernel
theorem dL_law_1388 : decode cL_law 1388 = .ok (.ireturn, 1) := by decide +kernel
theorem dL_law_1389 : decode cL_law 1389 = .ok (.goto 74, 3) := by decide +kernel
theorem dL_law_1392 : decode cL_law 1392 = .ok (.aload_n 1, 1) := by decide +kernel
theorem dL_law_1393 : decode cL_law 1393 = .ok (.invokevirtual 151, 3) := by decide +kernel
theorem dL_law_1396 : decode cL_law 1396 = .ok (.aload_n 2, 1) := by decide +kernel
theorem dL_law_1397 : decode cL_law 1397 = .ok (.invokevirtual 154, 3) := by decide +kernel
theorem dL_law_1400 : decode cL_law 1400 = .ok (.if_icmp .eq 63, 3) := by decide +kernel
theorem dL_law_1403 : decode cL_law 1403 = .ok (.iconst 0, 1) := by decide +kernel
theorem dL_law_1404 : decode cL_law 1404 = .ok (.ireturn, 1) := by decide +kernel
theorem dL_law_1405 : decode cL_law 1405 = .ok (.aload_n 1, 1) := by decide +kernel
theorem dL_law_1406 : decode cL_law 1406 = .ok (.aload_n 3, 1) := by decide +kernel
theorem dL_law_1407 : decode cL_law 1407 = .ok (.invokestatic 155, 3) := by decide +kernel
theorem dL_law_1410 : decode cL_law 1410 = .ok (.istore 5, 2) := by decide +kernel
theorem dL_law_1412 : decode cL_law 1412 = .ok (.aload_n 2, 1) := by decide +kernel
theorem dL_law_1413 : decode cL_law 1413 = .ok (.invokevirtual 157, 3) := by decide +kernel
theorem dL_law_1416 : decode cL_law 1416 = .ok (.istore 6, 2) := by decide +kernel
theorem dL_law_1418 : decode cL_law 1418 = .ok (.aload_n 2, 1) := by decide +kernel
theorem dL_law_1419 : decode cL_law 1419 = .ok (.invokevirtual 88, 3) := by decide +kernel
theorem dL_law_1422 : decode cL_law 1422 = .ok (.iload 5, 2) := by decide +kernel
theorem dL_law_1424 : decode cL_law 1424 = .ok (.if_icmp .eq 5, 3) := by decide +kernel
theorem dL_law_1427 : decode cL_law 1427 = .ok (.iconst 0, 1) := by decide +kernel
theorem dL_law_1428 : decode cL_law 1428 = .ok (.ireturn, 1) := by decide +kernel
theorem dL_law_1429 : decode cL_law 1429 = .ok (.iload 5, 2) := by decide +kernel
theorem dL_law_1431 : decode cL_law 1431 = .ok (.ifCond .ne 15, 3) := by decide +kernel
theorem dL_law_1434 : decode cL_law 1434 = .ok (.aload_n 3, 1) := by decide +kernel
theorem dL_law_1435 : decode cL_law 1435 = .ok (.iconst 0, 1) := by decide +kernel
theorem dL_law_1436 : decode cL_law 1436 = .ok (.laload, 1) := by decide +kernel
theorem dL_law_1437 : decode cL_law 1437 = .ok (.iload 6, 2) := by decide +kernel
theorem dL_law_1439 : decode cL_law 1439 = .ok (.i2l, 1) := by decide +kernel
theorem dL_law_1440 : decode cL_law 1440 = .ok (.lcmp, 1) := by decide +kernel
theorem dL_law_1441 : decode cL_law 1441 = .ok (.ifCond .eq 5, 3) := by decide +kernel
theorem dL_law_1444 : decode cL_law 1444 = .ok (.iconst 0, 1) := by decide +kernel
theorem dL_law_1445 : decode cL_law 1445 = .ok (.ireturn, 1) := by decide +kernel
theorem dL_law_1446 : decode cL_law 1446 = .ok (.goto 17, 3) := by decide +kernel
theorem dL_law_1449 : decode cL_law 1449 = .ok (.aload_n 1, 1) := by decide +kernel
theorem dL_law_1450 : decode cL_law 1450 = .ok (.invokevirtual 158, 3) := by decide +kernel
theorem dL_law_1453 : decode cL_law 1453 = .ok (.aload_n 2, 1) := by decide +kernel
theorem dL_law_1454 : decode cL_law 1454 = .ok (.invokevirtual 162, 3) := by decide +kernel
theorem dL_law_1457 : decode cL_law 1457 = .ok (.lcmp, 1) := by decide +kernel
theorem dL_law_1458 : decode cL_law 1458 = .ok (.ifCond .eq 5, 3) := by decide +kernel
theorem dL_law_1461 : decode cL_law 1461 = .ok (.iconst 0, 1) := by decide +kernel
theorem dL_law_1462 : decode cL_law 1462 = .ok (.ireturn, 1) := by decide +kernel
theorem dL_law_1463 : decode cL_law 1463 = .ok (.iinc 4 6, 3) := by decide +kernel
theorem dL_law_1466 : decode cL_law 1466 = .ok (.goto (-1443), 3) := by decide +kernel
theorem dL_law_1469 : decode cL_law 1469 = .ok (.iconst 1, 1) := by decide +kernel
theorem dL_law_1470 : decode cL_law 1470 = .ok (.ireturn, 1) := by decide +kernel
end
section
/-! ===== numbers: machine ints as integers ===== -/
def iI (z : Int) : Int32 := Int32.ofInt z
def lI (z : Int) : Int64 := Int64.ofInt z
def bI (b : Bool) : Int := match b with
  | true => 1
  | false => 0
def inI (z : Int) : Prop := -2147483648 ≤ z ∧ z < 2147483648
def inL (z : Int) : Prop := -9223372036854775808 ≤ z ∧ z < 9223372036854775808
theorem inI_mk {z : Int} (h1 : -2147483648 ≤ z) (h2 : z < 2147483648) : inI z := ⟨h1, h2⟩
theorem iI_int {z : Int} (h : inI z) : (iI z).toInt = z := by
  have h1 := h.1
  have h2 := h.2
  exact Int32.toInt_ofInt_of_le (by omega) (by omega)
theorem lI_int {z : Int} (h : inL z) : (lI z).toInt = z := by
  have h1 := h.1
  have h2 := h.2
  exact Int64.toInt_ofInt_of_le (by omega) (by omega)
theorem iI_of (x : Int32) : x = iI x.toInt := (Int32.ofInt_toInt x).symm
theorem lI_of (x : Int64) : x = lI x.toInt := (Int64.ofInt_toInt x).symm
theorem inI_of (x : Int32) : inI x.toInt := by
  have h1 := Int32.le_toInt x
  have h2 := Int32.toInt_lt x
  constructor <;> omega
theorem inL_inI {z : Int} (h : inI z) : inL z := by
  have h1 := h.1
  have h2 := h.2
  constructor <;> omega
theorem iI_add (a b : Int) : iI a + iI b = iI (a + b) := (Int32.ofInt_add a b).symm
theorem iI_sub (a b : Int) : iI a - iI b = iI (a - b) := (Int32.ofInt_sub a b).symm
theorem iI_mul (a b : Int) : iI a * iI b = iI (a * b) := (Int32.ofInt_mul a b).symm
theorem iI_neg (a : Int) : -iI a = iI (-a) := (Int32.ofInt_neg a).symm
theorem lI_add (a b : Int) : lI a + lI b = lI (a + b) := (Int64.ofInt_add a b).symm
theorem lI_sub (a b : Int) : lI a - lI b = lI (a - b) := (Int64.ofInt_sub a b).symm
theorem lI_mul (a b : Int) : lI a * lI b = lI (a * b) := (Int64.ofInt_mul a b).symm
theorem lI_neg (a : Int) : -lI a = lI (-a) := (Int64.ofInt_neg a).symm
theorem iI_min : (Int32.minValue).toInt = -2147483648 := by decide
theorem iI_max : (Int32.maxValue).toInt = 2147483647 := by decide
theorem lI_min : (Int64.minValue).toInt = -9223372036854775808 := by decide
theorem lI_max : (Int64.maxValue).toInt = 9223372036854775807 := by decide
theorem iI_div {a b : Int} (ha : inI a) (hb : inI b) : iI a / iI b = iI (a.tdiv b) := by
  have h1 := ha.1
  have h2 := ha.2
  have h3 := hb.1
  have h4 := hb.2
  exact (Int32.ofInt_tdiv (by rw [iI_min]; omega) (by rw [iI_max]; omega) (by rw [iI_min]; omega) (by rw [iI_max]; omega)).symm
theorem lI_div {a b : Int} (ha : inL a) (hb : inL b) : lI a / lI b = lI (a.tdiv b) := by
  have h1 := ha.1
  have h2 := ha.2
  have h3 := hb.1
  have h4 := hb.2
  exact (Int64.ofInt_tdiv (by rw [lI_min]; omega) (by rw [lI_max]; omega) (by rw [lI_min]; omega) (by rw [lI_max]; omega)).symm
theorem iI_rem {a b : Int} (ha : inI a) (hb : inI b) : iI a - iI a / iI b * iI b = iI (a.tmod b) := by
  rw [iI_div ha hb, iI_mul, iI_sub, Int.tmod_def, Int.mul_comm]
theorem lI_rem {a b : Int} (ha : inL a) (hb : inL b) : lI a - lI a / lI b * lI b = lI (a.tmod b) := by
  rw [lI_div ha hb, lI_mul, lI_sub, Int.tmod_def, Int.mul_comm]
theorem iI_lt {a b : Int} (ha : inI a) (hb : inI b) : iI a < iI b ↔ a < b := by rw [Int32.lt_iff_toInt_lt, iI_int ha, iI_int hb]
theorem iI_le {a b : Int} (ha : inI a) (hb : inI b) : iI a ≤ iI b ↔ a ≤ b := by rw [Int32.le_iff_toInt_le, iI_int ha, iI_int hb]
theorem iI_eq {a b : Int} (ha : inI a) (hb : inI b) : iI a = iI b ↔ a = b := ⟨fun h => by rw [← iI_int ha, ← iI_int hb, h], fun h => by rw [h]⟩
theorem lI_lt {a b : Int} (ha : inL a) (hb : inL b) : lI a < lI b ↔ a < b := by rw [Int64.lt_iff_toInt_lt, lI_int ha, lI_int hb]
theorem lI_le {a b : Int} (ha : inL a) (hb : inL b) : lI a ≤ lI b ↔ a ≤ b := by rw [Int64.le_iff_toInt_le, lI_int ha, lI_int hb]
theorem lI_eq {a b : Int} (ha : inL a) (hb : inL b) : lI a = lI b ↔ a = b := ⟨fun h => by rw [← lI_int ha, ← lI_int hb, h], fun h => by rw [h]⟩
theorem iI_zero : (0 : Int32) = iI 0 := by decide
theorem lI_zero : (0 : Int64) = lI 0 := by decide
theorem inI_0 : inI 0 := ⟨by decide, by decide⟩
theorem inL_0 : inL 0 := ⟨by decide, by decide⟩
theorem iI_ne0 {a : Int} (ha : inI a) (h : a ≠ 0) : ¬ iI a = 0 := fun e => h ((iI_eq ha inI_0).mp (e.trans iI_zero))
theorem lI_ne0 {a : Int} (ha : inL a) (h : a ≠ 0) : ¬ lI a = 0 := fun e => h ((lI_eq ha inL_0).mp (e.trans lI_zero))
theorem iI_toL {a : Int} (ha : inI a) : (iI a).toInt64 = lI a := by
  have h1 := ha.1
  have h2 := ha.2
  exact Int32.toInt64_ofInt (by rw [iI_min]; omega) (by rw [iI_max]; omega)
theorem lI_toI (a : Int) : (lI a).toInt32 = iI a := Int64.toInt32_ofInt
theorem iI_nI (k : Nat) : iI (k : Int) = nI k := Int32.ofInt_eq_ofNat
theorem iI_clamp {k : Nat} (h : k < 2147483648) : (iI (k : Int)).toNatClampNeg = k := by rw [iI_nI]; exact nI_clamp h
theorem iI_in {z : Int} {k N : Nat} (hz : z = (k : Int)) (h : k < N) (hN : N < 2147483648) : vp_in (iI z) N := by
  subst hz
  rw [iI_nI]
  exact vp_in_nI h hN
theorem iI_cl {z : Int} {k : Nat} (hz : z = (k : Int)) (h : k < 2147483648) : (iI z).toNatClampNeg = k := by
  subst hz
  exact iI_clamp h
theorem iI_mx {a b : Int} (ha : inI a) (hb : inI b) : (if iI a < iI b then iI b else iI a) = iI (max a b) := by
  by_cases h : a < b
  · rw [if_pos ((iI_lt ha hb).mpr h), Int.max_eq_right (by omega)]
  · rw [if_neg (fun q => h ((iI_lt ha hb).mp q)), Int.max_eq_left (by omega)]
theorem iI_mn {a b : Int} (ha : inI a) (hb : inI b) : (if iI b < iI a then iI b else iI a) = iI (min a b) := by
  by_cases h : b < a
  · rw [if_pos ((iI_lt hb ha).mpr h), Int.min_eq_right (by omega)]
  · rw [if_neg (fun q => h ((iI_lt hb ha).mp q)), Int.min_eq_left (by omega)]
theorem iI_ab {a : Int} (ha : inI a) : (if 0 ≤ iI a then iI a else 0 - iI a) = iI (a.natAbs : Int) := by
  rw [iI_zero]
  by_cases h : 0 ≤ a
  · rw [if_pos ((iI_le inI_0 ha).mpr h)]
    congr 1
    omega
  · rw [if_neg (fun q => h ((iI_le inI_0 ha).mp q)), iI_sub]
    congr 1
    omega
theorem lI_mx {a b : Int} (ha : inL a) (hb : inL b) : (if lI b < lI a then lI a else lI b) = lI (max a b) := by
  by_cases h : b < a
  · rw [if_pos ((lI_lt hb ha).mpr h), Int.max_eq_left (by omega)]
  · rw [if_neg (fun q => h ((lI_lt hb ha).mp q)), Int.max_eq_right (by omega)]
theorem lI_ab {a : Int} (ha : inL a) : (if 0 < lI a then lI a else -lI a) = lI (a.natAbs : Int) := by
  rw [lI_zero]
  by_cases h : 0 < a
  · rw [if_pos ((lI_lt inL_0 ha).mpr h)]
    congr 1
    omega
  · rw [if_neg (fun q => h ((lI_lt inL_0 ha).mp q)), lI_neg]
    congr 1
    omega
/-! ===== the world: a pool of cells by a function, each with a tag of ours ===== -/
abbrev wE : Type := Nat × va_E
abbrev Kx : Type := va_G × Nat × (Nat → ClassId) × (Nat → Nat)
abbrev Kt : Type := Program × Launch × Env × State × MethodId × Array Value × List Frame × Method × Code
def kA (κ : Kx) : Nat → Prop := fun q => κ.2.1 ≤ q
def kf (f : Nat → wE) : Nat → va_E := fun a => (f a).2
def k_tys (κ : Kx) : List (ClassId × FieldType) := [(κ.2.2.1 0, .int), (κ.2.2.1 1, .long), (κ.2.2.1 2, .boolean), (κ.2.2.1 3, .object "java/lang/Object")]
def k_H (κ : Kx) (L : List Nat) (f : Nat → wE) (H : Heap) : Prop := va_P κ.1 vwCl (va_pl L (kf f)) H ∧ va_D (kA κ) (va_pl L (kf f))
def Cl (L : List Nat) (f : Nat → wE) (a : Nat) (e : wE) : Prop := a ∈ L ∧ f a = e
def k_nest : Cond → Bool
  | .fieldLinkNest .. => true
  | .methodLinkNest .. => true
  | .castable .. => true
  | .declares _ => true
  | _ => false
def k_ok (w : Cond) : Bool := goodWord w || k_nest w
def k_strs : List (Nat × String) := [(43, "range is not 0 to 5000"), (48, "period is not 60 to 20000"), (50, "offset is not 0 to period less 1"), (61, "there are 8 waves"), (79, "there is no such wave"), (90, "level is not -10000 to 10000"), (98, "time is not 0 to 4319"), (105, "what is not 0 to 3"), (117, "there is no such water"), (128, "what is not 0 to 2"), (133, "what is not 0 to 4"), (138, "there are 6 ports"), (146, "there is no such port"), (148, "shift is not -300 to 300"), (150, "factor is not 0 to 300"), (164, "added is not -3000 to 3000"), (178, "the port is not in order"), (187, "there is no water on one side of the time"), (192, "from and to are not 0 to 4319 in their order"), (210, "height is not -50000 to 50000"), (212, "there are 40 readings"), (239, "there are no readings"), (245, "the level would not be -10000 to 10000")]
/-- what the tables say, and keep saying -/
def k_V (κ : Kx) (U : State) : Prop := va_K κ.1 vwCl (k_tys κ) U ∧ (∀ w ∈ lw_tbl, k_ok w = true → va_Nw w U) ∧ (∀ (i : Nat) (q : Nat × String), k_strs[i]? = some q → vk_R "TideTable" q.1 q.2 (κ.2.2.2 (10 + i)) U) ∧ va_AO "java/lang/Object" U ∧ va_Mi "[Ljava/lang/Object;" (κ.2.2.2 5) U
def k_arr (l : List Int) : Nat → Value := fun j => .int (iI (l.getD j 0))
/-- the static fields that are read; nobody writes them -/
def k_Z (κ : Kx) (U : State) (H : Heap) : Prop :=
  (va_Z "TideTable" "TWELFTHS_OF_SIXTH" "[I" (.ref (κ.2.2.2 0)) (kA κ) U H ∧ va_T .int (κ.2.2.2 0) 6 (k_arr [1, 2, 3, 3, 2, 1]) (kA κ) U H) ∧
  (va_Z "TideTable" "TWELFTHS_AHEAD_OF_SIXTH" "[I" (.ref (κ.2.2.2 1)) (kA κ) U H ∧ va_T .int (κ.2.2.2 1) 6 (k_arr [0, 1, 3, 6, 9, 11]) (kA κ) U H) ∧
  (va_Z "TideTableModel" "DONE" "[I" (.ref (κ.2.2.2 2)) (kA κ) U H ∧ va_T .int (κ.2.2.2 2) 6 (k_arr [0, 1, 3, 6, 9, 11]) (kA κ) U H) ∧
  (va_Z "TideTableModel" "STEPS" "[I" (.ref (κ.2.2.2 3)) (kA κ) U H ∧ va_T .int (κ.2.2.2 3) 6 (k_arr [1, 2, 3, 3, 2, 1]) (kA κ) U H) ∧
  (va_Z "java/util/ArrayList" "DEFAULTCAPACITY_EMPTY_ELEMENTDATA" "[Ljava/lang/Object;" (.ref (κ.2.2.2 4)) (kA κ) U H ∧ va_T (.object "java/lang/Object") (κ.2.2.2 4) 0 (fun _ => .null) (kA κ) U H) ∧
  vx_Zq Bundle.tN "UNASSIGNED_STACK" Bundle.steD (kA κ) U H ∧ vx_Zq Bundle.tN "SUPPRESSED_SENTINEL" Bundle.listD (kA κ) U H
theorem k_Z.moved {κ : Kx} {u U : State} {H : Heap} (hvm : u.vm.Alike U.vm) (h : k_Z κ u H) : k_Z κ U H := by
  obtain ⟨⟨a1, b1⟩, ⟨a2, b2⟩, ⟨a3, b3⟩, ⟨a4, b4⟩, ⟨a5, b5⟩, h6, h7⟩ := h
  exact ⟨⟨a1.moved hvm, b1.moved hvm⟩, ⟨a2.moved hvm, b2.moved hvm⟩, ⟨a3.moved hvm, b3.moved hvm⟩, ⟨a4.moved hvm, b4.moved hvm⟩, ⟨a5.moved hvm, b5.moved hvm⟩, h6.moved hvm, h7.moved hvm⟩
theorem k_Z.kept {κ : Kx} {U : State} {H H1 : Heap} (h : k_Z κ U H) (hq : ∀ a : Nat, a < H.size → ¬ kA κ a → H1[a]? = H[a]?) : k_Z κ U H1 := by
  obtain ⟨⟨a1, b1⟩, ⟨a2, b2⟩, ⟨a3, b3⟩, ⟨a4, b4⟩, ⟨a5, b5⟩, h6, h7⟩ := h
  exact ⟨⟨a1.kept hq, b1.kept hq⟩, ⟨a2.kept hq, b2.kept hq⟩, ⟨a3.kept hq, b3.kept hq⟩, ⟨a4.kept hq, b4.kept hq⟩, ⟨a5.kept hq, b5.kept hq⟩, h6.kept hq, h7.kept hq⟩
theorem k_ok_warm {w : Cond} (hk : k_ok w = true) {s U : State} (hW : s.WarmedH U.vm) (h : va_Nw w s) : va_Nw w U := by
  simp only [k_ok, Bool.or_eq_true] at hk
  rcases hk with hg | hn
  · exact word_at hW (good_of_word hg) h
  · cases w <;> first | exact va_Nw.warmF hW h | exact va_Nw.warmM hW h | exact va_Nw.warmC hW h | exact va_Nw.warmD hW h | cases hn
theorem k_V.warm {κ : Kx} {s U : State} (hW : s.WarmedH U.vm) (h : k_V κ s) : k_V κ U := by
  obtain ⟨h1, h2, h3, h4, h5⟩ := h
  exact ⟨va_K.moved hW.alike h1, fun w hw hk => k_ok_warm hk hW (h2 w hw hk), fun i q hq => (h3 i q hq).warm hW, va_AO.moved hW.alike h4, va_Mi.moved hW.alike h5⟩
/-- what a method's start gives: the pool is in the heap, the tables and the statics are as they were -/
def k_I (κ : Kx) (L : List Nat) (f : Nat → wE) (U : State) : Prop := k_H κ L f U.heap ∧ k_V κ U ∧ k_Z κ U U.heap ∧ κ.2.1 ≤ U.heap.size
/-- a method's end: an answer, a new pool -/
def k_Q (κ : Kx) (post : Option Value → List Nat → (Nat → wE) → Prop) : Array Value → State → Outcome → State → Prop := fun _ st oc t => (∃ (v : Option Value) (L' : List Nat) (f' : Nat → wE), oc = .returned v ∧ post v L' f' ∧ k_H κ L' f' t.heap) ∧ va_F (kA κ) st t
theorem k_blind {κ : Kx} {L : List Nat} {f : Nat → wE} {As : List Value} : FrameBlind (va_Pc As (k_I κ L f)) := by
  intro a U g mk h
  obtain ⟨h1, h2, h3, h4, h5⟩ := h
  exact ⟨h1, h2, k_V.warm (State.WarmedH.refl U) h3, k_Z.moved (Vm.Alike.refl U.vm) h4, h5⟩
/-- what holds in a method's body: the machine, its code, the tables, the statics -/
def k_E (θ : Kt) (κ : Kx) (cc : ByteArray) (nL : Nat) (ret : Option FieldType) (own : String) : Prop :=
  θ.1.tables.exec = Jvm.exec ∧ θ.2.2.2.2.2.2.2.2.code = cc ∧ θ.2.2.2.2.2.2.2.2.maxLocals = nL ∧ θ.2.2.2.1.vm.findClass own = some θ.2.2.2.2.1.cls ∧ k_V κ θ.2.2.2.1 ∧ k_Z κ θ.2.2.2.1 θ.2.2.2.1.heap ∧ κ.2.1 ≤ θ.2.2.2.1.heap.size ∧ θ.2.2.2.2.2.2.2.1.sig.returnType = ret ∧ θ.2.2.2.2.2.2.2.1.locks = false
def k_W (θ : Kt) (R : Room) (H : Heap) (locs : List Loc) (k n : Nat) (Q : State → Prop) (pc : Nat) (ls : Array Slot) (st : List Value) : Prop :=
  W θ.1 θ.2.1 θ.2.2.1 R θ.2.2.2.1 θ.2.2.2.2.1 θ.2.2.2.2.2.1 θ.2.2.2.2.2.2.1 θ.2.2.2.2.2.2.2.1 θ.2.2.2.2.2.2.2.2 H locs k n Q (F0 θ.2.2.2.2.1 pc ls st)
/-- the walk: from here, with the pool (L, f), the locals lv and the stack st, the body comes to an end with Q -/
def k_G (θ : Kt) (κ : Kx) (cc : ByteArray) (nL : Nat) (ret : Option FieldType) (own : String) (R : Room) (Q : State → Prop) (L : List Nat) (f : Nat → wE) (k n pc : Nat) (lv : List (Nat × Value)) (st : List Value) : Prop :=
  k_E θ κ cc nL ret own → ∀ (H : Heap) (locs : List Loc) (ls : Array Slot), k_H κ L f H → va_S (kA κ) θ.2.2.2.1.heap H locs → lv_has ls nL lv → k_W θ R H locs k n Q pc ls st
section Words
variable {θ : Kt} {κ : Kx} {cc : ByteArray} {nL : Nat} {ret : Option FieldType} {own : String}
theorem k_E.word (E : k_E θ κ cc nL ret own) {w : Cond} (hw : w ∈ lw_tbl) (hk : k_ok w = true) : w.before θ.2.2.2.2.2.1 θ.2.2.2.1 = true := by
  have h := E.2.2.2.2.1.2.1 w hw hk
  simp only [k_ok, Bool.or_eq_true] at hk
  rcases hk with hg | hn
  · exact word_at (State.WarmedH.refl _) (good_of_word hg) h
  · refine va_Nw.use ?_ h
    cases w <;> first | rfl | cases hn
theorem k_E.K (E : k_E θ κ cc nL ret own) : va_K κ.1 vwCl (k_tys κ) θ.2.2.2.1 := E.2.2.2.2.1.1
theorem k_E.cls (E : k_E θ κ cc nL ret own) {C : String} {T : u_T} {N : Nat} (h : ∀ w ∈ u_ws C T N, w ∈ lw_tbl) : ∀ w ∈ u_ws C T N, w.before θ.2.2.2.2.2.1 θ.2.2.2.1 = true := by
  intro w hw
  refine E.word (h w hw) ?_
  obtain ⟨k, -, rfl⟩ := List.mem_map.mp hw
  unfold u_lay
  split <;> rfl
theorem k_pos {L : List Nat} {f : Nat → wE} {a : Nat} {e : wE} (h : Cl L f a e) : ∃ q0 : Nat, (va_pl L (kf f))[q0]? = some (a, e.2) := by
  obtain ⟨k, hk⟩ := va_pl_get (X := []) (f := kf f) h.1
  refine ⟨k, ?_⟩
  have e1 : kf f a = e.2 := by rw [kf, h.2]
  rw [e1] at hk
  exact hk
theorem k_set {A : Nat → Prop} {L : List Nat} {f : Nat → wE} {a q0 : Nat} {e : wE} {x : va_E} (hD : va_D A (va_pl L (kf f))) (h : Cl L f a e) (hq : (va_pl L (kf f))[q0]? = some (a, e.2)) : (va_pl L (kf f)).set q0 (a, x) = va_pl L (kf (va_up f a (e.1, x))) := by
  have e1 : kf f a = e.2 := by rw [kf, h.2]
  have h1 := va_pl_set (X := []) (f := kf f) (e := x) hD h.1 (by rw [e1]; exact hq)
  refine h1.trans ?_
  refine va_pl_congr fun b => ?_
  by_cases hb : b = a
  · subst hb
    simp [va_up, kf]
  · simp [va_up, kf, hb]
theorem k_push {A : Nat → Prop} {L : List Nat} {f : Nat → wE} {q : Nat} {x : va_E} (tg : Nat) (hD : va_D A (va_pl L (kf f) ++ [(q, x)])) : q ∉ L ∧ va_pl L (kf f) ++ [(q, x)] = va_pl (L ++ [q]) (kf (va_up f q (tg, x))) := by
  have h1 : q ∉ L := va_pl_fresh2 (X := []) (f := kf f) hD
  refine ⟨h1, (va_pl_push h1).trans (va_pl_congr fun b => ?_)⟩
  by_cases hb : b = q
  · subst hb
    simp [va_up, kf]
  · simp [va_up, kf, hb]
/-- another cell stays -/
theorem Cl.ne {L : List Nat} {f : Nat → wE} {a b t u : Nat} {x y : va_E} (ha : Cl L f a (t, x)) (hb : Cl L f b (u, y)) (h : t ≠ u) : a ≠ b := by
  intro e
  subst e
  have := ha.2.symm.trans hb.2
  exact h (congrArg Prod.fst this)
theorem Cl.put {L : List Nat} {f f' : Nat → wE} {a b t u : Nat} {x y : va_E} (hne : ∀ z, z ≠ a → f' z = f z) (ha : Cl L f a (t, x)) (hb : Cl L f b (u, y)) (h : u ≠ t) : Cl L f' b (u, y) := ⟨hb.1, (hne b (hb.ne ha h)).trans hb.2⟩
theorem Cl.put2 {L : List Nat} {f f' : Nat → wE} {a b : Nat} {e : wE} (hne : ∀ z, z ≠ a → f' z = f z) (hb : Cl L f b e) (h : b ≠ a) : Cl L f' b e := ⟨hb.1, (hne b h).trans hb.2⟩
theorem Cl.new {L L' : List Nat} {f f' : Nat → wE} {b : Nat} {e : wE} (hne : ∀ z ∈ L, z ∈ L' ∧ f' z = f z) (hb : Cl L f b e) : Cl L' f' b e := ⟨(hne b hb.1).1, (hne b hb.1).2.trans hb.2⟩
/-- outside the tags of S nothing changes -/
def k_fr (S : Nat → Bool) (L : List Nat) (f : Nat → wE) (L' : List Nat) (f' : Nat → wE) : Prop := ∀ z ∈ L, z ∈ L' ∧ (S (f z).1 = false → f' z = f z)
theorem Cl.fr {S : Nat → Bool} {L L' : List Nat} {f f' : Nat → wE} {b t : Nat} {x : va_E} (h : k_fr S L f L' f') (hb : Cl L f b (t, x)) (ht : S t = false) : Cl L' f' b (t, x) := ⟨(h b hb.1).1, ((h b hb.1).2 (by rw [hb.2]; exact ht)).trans hb.2⟩
end Words
end
section
section Rows
variable {θ : Kt} {κ : Kx} {cc : ByteArray} {nL : Nat} {ret : Option FieldType} {own : String} {R : Room} {Q : State → Prop} {L : List Nat} {f : Nat → wE} {k n pc : Nat} {lv : List (Nat × Value)} {st : List Value}
theorem k_iconst {z : Int} (d : decode cc pc = .ok (.iconst z, 1)) (kk : k_G θ κ cc nL ret own R Q L f k n (pc + 1) lv (.int (iI z) :: st)) : k_G θ κ cc nL ret own R Q L f k n pc lv st :=
  fun E H locs ls hH hS hl => lv_iconst E.1 E.2.1 d rfl (kk E H locs ls hH hS hl)
theorem k_bipush {z : Int} (d : decode cc pc = .ok (.bipush z, 2)) (hz : (Int8.ofInt z).toInt32 = iI z) (kk : k_G θ κ cc nL ret own R Q L f k n (pc + 2) lv (.int (iI z) :: st)) : k_G θ κ cc nL ret own R Q L f k n pc lv st :=
  fun E H locs ls hH hS hl => lv_bipush E.1 E.2.1 d hz (kk E H locs ls hH hS hl)
theorem k_sipush {z : Int} (d : decode cc pc = .ok (.sipush z, 3)) (hz : (Int16.ofInt z).toInt32 = iI z) (kk : k_G θ κ cc nL ret own R Q L f k n (pc + 3) lv (.int (iI z) :: st)) : k_G θ κ cc nL ret own R Q L f k n pc lv st :=
  fun E H locs ls hH hS hl => lv_sipush E.1 E.2.1 d hz (kk E H locs ls hH hS hl)
theorem k_lconst {z : Fin 2} (w : Int) (d : decode cc pc = .ok (.lconst z, 1)) (hz : Int64.ofNat (z : Nat) = lI w) (kk : k_G θ κ cc nL ret own R Q L f k n (pc + 1) lv (.long (lI w) :: st)) : k_G θ κ cc nL ret own R Q L f k n pc lv st :=
  fun E H locs ls hH hS hl => lv_lconst E.1 E.2.1 d hz (kk E H locs ls hH hS hl)
theorem k_ldc {i : Nat} {v : Int32} (z : Int) (hq : Cond.constant own i v ∈ lw_tbl) (hz : v = iI z) (d : decode cc pc = .ok (.ldc i, 2)) (kk : k_G θ κ cc nL ret own R Q L f k n (pc + 2) lv (.int (iI z) :: st)) : k_G θ κ cc nL ret own R Q L f k n pc lv st :=
  fun E H locs ls hH hS hl => lv_ldc E.1 E.2.1 E.2.2.2.1 (E.word hq rfl) d (by rw [hz]; exact kk E H locs ls hH hS hl)
theorem k_ldc2 {i : Nat} {v : Int64} (z : Int) (hq : Cond.constantLong own i v ∈ lw_tbl) (hz : v = lI z) (d : decode cc pc = .ok (.ldc2_w i, 3)) (kk : k_G θ κ cc nL ret own R Q L f k n (pc + 3) lv (.long (lI z) :: st)) : k_G θ κ cc nL ret own R Q L f k n pc lv st :=
  fun E H locs ls hH hS hl => lv_ldc2 E.1 E.2.1 E.2.2.2.1 (E.word hq rfl) d (by rw [hz]; exact kk E H locs ls hH hS hl)
theorem k_iload_n {z : Fin 4} {x : Int32} (j i : Nat) (d : decode cc pc = .ok (.iload_n z, 1)) (hi : (z : Nat) = i) (hj : lv[j]? = some (i, .int x)) (kk : k_G θ κ cc nL ret own R Q L f k n (pc + 1) lv (.int x :: st)) : k_G θ κ cc nL ret own R Q L f k n pc lv st :=
  fun E H locs ls hH hS hl => lv_iload_n E.1 E.2.1 d hi (lv_at hl j hj) (kk E H locs ls hH hS hl)
theorem k_iload {x : Int32} {i : Nat} (j : Nat) (d : decode cc pc = .ok (.iload i, 2)) (hj : lv[j]? = some (i, .int x)) (kk : k_G θ κ cc nL ret own R Q L f k n (pc + 2) lv (.int x :: st)) : k_G θ κ cc nL ret own R Q L f k n pc lv st :=
  fun E H locs ls hH hS hl => lv_iload E.1 E.2.1 d (lv_at hl j hj) (kk E H locs ls hH hS hl)
theorem k_lload_n {z : Fin 4} {x : Int64} (j i : Nat) (d : decode cc pc = .ok (.lload_n z, 1)) (hi : (z : Nat) = i) (hj : lv[j]? = some (i, .long x)) (kk : k_G θ κ cc nL ret own R Q L f k n (pc + 1) lv (.long x :: st)) : k_G θ κ cc nL ret own R Q L f k n pc lv st :=
  fun E H locs ls hH hS hl => lv_lload_n E.1 E.2.1 d hi (lv_at hl j hj) (kk E H locs ls hH hS hl)
theorem k_lload {x : Int64} {i : Nat} (j : Nat) (d : decode cc pc = .ok (.lload i, 2)) (hj : lv[j]? = some (i, .long x)) (kk : k_G θ κ cc nL ret own R Q L f k n (pc + 2) lv (.long x :: st)) : k_G θ κ cc nL ret own R Q L f k n pc lv st :=
  fun E H locs ls hH hS hl => lv_lload E.1 E.2.1 d (lv_at hl j hj) (kk E H locs ls hH hS hl)
theorem k_aload_n {z : Fin 4} {x : Nat} (j i : Nat) (d : decode cc pc = .ok (.aload_n z, 1)) (hi : (z : Nat) = i) (hj : lv[j]? = some (i, .ref x)) (kk : k_G θ κ cc nL ret own R Q L f k n (pc + 1) lv (.ref x :: st)) : k_G θ κ cc nL ret own R Q L f k n pc lv st :=
  fun E H locs ls hH hS hl => lv_aload_n E.1 E.2.1 d hi (lv_at hl j hj) (kk E H locs ls hH hS hl)
theorem k_aload {x : Nat} {i : Nat} (j : Nat) (d : decode cc pc = .ok (.aload i, 2)) (hj : lv[j]? = some (i, .ref x)) (kk : k_G θ κ cc nL ret own R Q L f k n (pc + 2) lv (.ref x :: st)) : k_G θ κ cc nL ret own R Q L f k n pc lv st :=
  fun E H locs ls hH hS hl => lv_aload E.1 E.2.1 d (lv_at hl j hj) (kk E H locs ls hH hS hl)
theorem k_istore_n {z : Fin 4} {x : Int32} (i : Nat) (lv' : List (Nat × Value)) (d : decode cc pc = .ok (.istore_n z, 1)) (hi : (z : Nat) = i) (hn : i < nL) (he : (i, Value.int x) :: lv.filter (fun q => !(q.1 == i) && !(q.1 + 1 == i && q.2.category == 2)) = lv') (kk : k_G θ κ cc nL ret own R Q L f k n (pc + 1) lv' st) : k_G θ κ cc nL ret own R Q L f k n pc lv (.int x :: st) :=
  fun E H locs ls hH hS hl => lv_istore_n E.1 E.2.1 d hi hl hn he (fun ls' hl' => kk E H locs ls' hH hS hl')
theorem k_istore {x : Int32} {i : Nat} (lv' : List (Nat × Value)) (d : decode cc pc = .ok (.istore i, 2)) (hn : i < nL) (he : (i, Value.int x) :: lv.filter (fun q => !(q.1 == i) && !(q.1 + 1 == i && q.2.category == 2)) = lv') (kk : k_G θ κ cc nL ret own R Q L f k n (pc + 2) lv' st) : k_G θ κ cc nL ret own R Q L f k n pc lv (.int x :: st) :=
  fun E H locs ls hH hS hl => lv_istore E.1 E.2.1 d hl hn he (fun ls' hl' => kk E H locs ls' hH hS hl')
theorem k_lstore_n {z : Fin 4} {x : Int64} (i : Nat) (lv' : List (Nat × Value)) (d : decode cc pc = .ok (.lstore_n z, 1)) (hi : (z : Nat) = i) (hn : i + 1 < nL) (he : (i, Value.long x) :: lv.filter (fun q => !(q.1 == i) && (!(q.1 == i + 1) && !(q.1 + 1 == i && q.2.category == 2))) = lv') (kk : k_G θ κ cc nL ret own R Q L f k n (pc + 1) lv' st) : k_G θ κ cc nL ret own R Q L f k n pc lv (.long x :: st) :=
  fun E H locs ls hH hS hl => lv_lstore_n E.1 E.2.1 d hi hl hn he (fun ls' hl' => kk E H locs ls' hH hS hl')
theorem k_lstore {x : Int64} {i : Nat} (lv' : List (Nat × Value)) (d : decode cc pc = .ok (.lstore i, 2)) (hn : i + 1 < nL) (he : (i, Value.long x) :: lv.filter (fun q => !(q.1 == i) && (!(q.1 == i + 1) && !(q.1 + 1 == i && q.2.category == 2))) = lv') (kk : k_G θ κ cc nL ret own R Q L f k n (pc + 2) lv' st) : k_G θ κ cc nL ret own R Q L f k n pc lv (.long x :: st) :=
  fun E H locs ls hH hS hl => lv_lstore E.1 E.2.1 d hl hn he (fun ls' hl' => kk E H locs ls' hH hS hl')
theorem k_astore_n {z : Fin 4} {x : Nat} (i : Nat) (lv' : List (Nat × Value)) (d : decode cc pc = .ok (.astore_n z, 1)) (hi : (z : Nat) = i) (hn : i < nL) (he : (i, Value.ref x) :: lv.filter (fun q => !(q.1 == i) && !(q.1 + 1 == i && q.2.category == 2)) = lv') (kk : k_G θ κ cc nL ret own R Q L f k n (pc + 1) lv' st) : k_G θ κ cc nL ret own R Q L f k n pc lv (.ref x :: st) :=
  fun E H locs ls hH hS hl => lv_astore_n E.1 E.2.1 d hi hl hn he (fun ls' hl' => kk E H locs ls' hH hS hl')
theorem k_astore {x : Nat} {i : Nat} (lv' : List (Nat × Value)) (d : decode cc pc = .ok (.astore i, 2)) (hn : i < nL) (he : (i, Value.ref x) :: lv.filter (fun q => !(q.1 == i) && !(q.1 + 1 == i && q.2.category == 2)) = lv') (kk : k_G θ κ cc nL ret own R Q L f k n (pc + 2) lv' st) : k_G θ κ cc nL ret own R Q L f k n pc lv (.ref x :: st) :=
  fun E H locs ls hH hS hl => lv_astore E.1 E.2.1 d hl hn he (fun ls' hl' => kk E H locs ls' hH hS hl')
theorem k_iinc {i : Nat} {z x : Int} (j : Nat) (lv' : List (Nat × Value)) (d : decode cc pc = .ok (.iinc i z, 3)) (hj : lv[j]? = some (i, .int (iI x))) (hn : i < nL) (he : (i, Value.int (iI (x + z))) :: lv.filter (fun q => !(q.1 == i) && !(q.1 + 1 == i && q.2.category == 2)) = lv') (kk : k_G θ κ cc nL ret own R Q L f k n (pc + 3) lv' st) : k_G θ κ cc nL ret own R Q L f k n pc lv st :=
  fun E H locs ls hH hS hl => lv_iinc E.1 E.2.1 d hl hj (iI_add x z) hn he (fun ls' hl' => kk E H locs ls' hH hS hl')
theorem k_perm (ks : List Nat) (lv' : List (Nat × Value)) (he : lv_pick lv ks = lv') (kk : k_G θ κ cc nL ret own R Q L f k n pc lv' st) : k_G θ κ cc nL ret own R Q L f k n pc lv st :=
  fun E H locs ls hH hS hl => kk E H locs ls hH hS (lv_sub hl ks he)
theorem k_iadd {x y : Int} (d : decode cc pc = .ok (.iadd, 1)) (kk : k_G θ κ cc nL ret own R Q L f k n (pc + 1) lv (.int (iI (x + y)) :: st)) : k_G θ κ cc nL ret own R Q L f k n pc lv (.int (iI y) :: .int (iI x) :: st) :=
  fun E H locs ls hH hS hl => lv_iadd E.1 E.2.1 d (by rw [iI_add]; exact kk E H locs ls hH hS hl)
theorem k_isub {x y : Int} (d : decode cc pc = .ok (.isub, 1)) (kk : k_G θ κ cc nL ret own R Q L f k n (pc + 1) lv (.int (iI (x - y)) :: st)) : k_G θ κ cc nL ret own R Q L f k n pc lv (.int (iI y) :: .int (iI x) :: st) :=
  fun E H locs ls hH hS hl => lv_isub E.1 E.2.1 d (by rw [iI_sub]; exact kk E H locs ls hH hS hl)
theorem k_imul {x y : Int} (d : decode cc pc = .ok (.imul, 1)) (kk : k_G θ κ cc nL ret own R Q L f k n (pc + 1) lv (.int (iI (x * y)) :: st)) : k_G θ κ cc nL ret own R Q L f k n pc lv (.int (iI y) :: .int (iI x) :: st) :=
  fun E H locs ls hH hS hl => lv_imul E.1 E.2.1 d (by rw [iI_mul]; exact kk E H locs ls hH hS hl)
theorem k_idiv {x y : Int} (d : decode cc pc = .ok (.idiv, 1)) (hx : inI x) (hy : inI y) (h0 : y ≠ 0) (kk : k_G θ κ cc nL ret own R Q L f k n (pc + 1) lv (.int (iI (x.tdiv y)) :: st)) : k_G θ κ cc nL ret own R Q L f k n pc lv (.int (iI y) :: .int (iI x) :: st) :=
  fun E H locs ls hH hS hl => lv_idiv E.1 E.2.1 d (iI_ne0 hy h0) (by rw [iI_div hx hy]; exact kk E H locs ls hH hS hl)
theorem k_irem {x y : Int} (d : decode cc pc = .ok (.irem, 1)) (hx : inI x) (hy : inI y) (h0 : y ≠ 0) (kk : k_G θ κ cc nL ret own R Q L f k n (pc + 1) lv (.int (iI (x.tmod y)) :: st)) : k_G θ κ cc nL ret own R Q L f k n pc lv (.int (iI y) :: .int (iI x) :: st) :=
  fun E H locs ls hH hS hl => lv_irem E.1 E.2.1 d (iI_ne0 hy h0) (by rw [iI_rem hx hy]; exact kk E H locs ls hH hS hl)
theorem k_ineg {x : Int} (d : decode cc pc = .ok (.ineg, 1)) (kk : k_G θ κ cc nL ret own R Q L f k n (pc + 1) lv (.int (iI (-x)) :: st)) : k_G θ κ cc nL ret own R Q L f k n pc lv (.int (iI x) :: st) :=
  fun E H locs ls hH hS hl => lv_ineg E.1 E.2.1 d (by rw [iI_neg]; exact kk E H locs ls hH hS hl)
theorem k_ladd {x y : Int} (d : decode cc pc = .ok (.ladd, 1)) (kk : k_G θ κ cc nL ret own R Q L f k n (pc + 1) lv (.long (lI (x + y)) :: st)) : k_G θ κ cc nL ret own R Q L f k n pc lv (.long (lI y) :: .long (lI x) :: st) :=
  fun E H locs ls hH hS hl => lv_ladd E.1 E.2.1 d (by rw [lI_add]; exact kk E H locs ls hH hS hl)
theorem k_lsub {x y : Int} (d : decode cc pc = .ok (.lsub, 1)) (kk : k_G θ κ cc nL ret own R Q L f k n (pc + 1) lv (.long (lI (x - y)) :: st)) : k_G θ κ cc nL ret own R Q L f k n pc lv (.long (lI y) :: .long (lI x) :: st) :=
  fun E H locs ls hH hS hl => lv_lsub E.1 E.2.1 d (by rw [lI_sub]; exact kk E H locs ls hH hS hl)
theorem k_lmul {x y : Int} (d : decode cc pc = .ok (.lmul, 1)) (kk : k_G θ κ cc nL ret own R Q L f k n (pc + 1) lv (.long (lI (x * y)) :: st)) : k_G θ κ cc nL ret own R Q L f k n pc lv (.long (lI y) :: .long (lI x) :: st) :=
  fun E H locs ls hH hS hl => lv_lmul E.1 E.2.1 d (by rw [lI_mul]; exact kk E H locs ls hH hS hl)
theorem k_ldiv {x y : Int} (d : decode cc pc = .ok (.ldiv, 1)) (hx : inL x) (hy : inL y) (h0 : y ≠ 0) (kk : k_G θ κ cc nL ret own R Q L f k n (pc + 1) lv (.long (lI (x.tdiv y)) :: st)) : k_G θ κ cc nL ret own R Q L f k n pc lv (.long (lI y) :: .long (lI x) :: st) :=
  fun E H locs ls hH hS hl => lv_ldiv E.1 E.2.1 d (lI_ne0 hy h0) (by rw [lI_div hx hy]; exact kk E H locs ls hH hS hl)
theorem k_lrem {x y : Int} (d : decode cc pc = .ok (.lrem, 1)) (hx : inL x) (hy : inL y) (h0 : y ≠ 0) (kk : k_G θ κ cc nL ret own R Q L f k n (pc + 1) lv (.long (lI (x.tmod y)) :: st)) : k_G θ κ cc nL ret own R Q L f k n pc lv (.long (lI y) :: .long (lI x) :: st) :=
  fun E H locs ls hH hS hl => lv_lrem E.1 E.2.1 d (lI_ne0 hy h0) (by rw [lI_rem hx hy]; exact kk E H locs ls hH hS hl)
theorem k_lneg {x : Int} (d : decode cc pc = .ok (.lneg, 1)) (kk : k_G θ κ cc nL ret own R Q L f k n (pc + 1) lv (.long (lI (-x)) :: st)) : k_G θ κ cc nL ret own R Q L f k n pc lv (.long (lI x) :: st) :=
  fun E H locs ls hH hS hl => lv_lneg E.1 E.2.1 d (by rw [lI_neg]; exact kk E H locs ls hH hS hl)
theorem k_i2l {x : Int} (d : decode cc pc = .ok (.i2l, 1)) (hx : inI x) (kk : k_G θ κ cc nL ret own R Q L f k n (pc + 1) lv (.long (lI x) :: st)) : k_G θ κ cc nL ret own R Q L f k n pc lv (.int (iI x) :: st) :=
  fun E H locs ls hH hS hl => lv_i2l E.1 E.2.1 d (iI_toL hx) (kk E H locs ls hH hS hl)
theorem k_l2i {x : Int} (d : decode cc pc = .ok (.l2i, 1)) (kk : k_G θ κ cc nL ret own R Q L f k n (pc + 1) lv (.int (iI x) :: st)) : k_G θ κ cc nL ret own R Q L f k n pc lv (.long (lI x) :: st) :=
  fun E H locs ls hH hS hl => lv_l2i E.1 E.2.1 d (lI_toI x) (kk E H locs ls hH hS hl)
theorem k_goto {off : Int} (tgt : Nat) (d : decode cc pc = .ok (.goto off, 3)) (ht : (pc : Int) + off = (tgt : Int)) (kk : k_G θ κ cc nL ret own R Q L f k n tgt lv st) : k_G θ κ cc nL ret own R Q L f k n pc lv st :=
  fun E H locs ls hH hS hl => lv_goto E.1 E.2.1 d ht (kk E H locs ls hH hS hl)
theorem k_dup {v : Value} (d : decode cc pc = .ok (.dup, 1)) (hv : v.category = 1) (kk : k_G θ κ cc nL ret own R Q L f k n (pc + 1) lv (v :: v :: st)) : k_G θ κ cc nL ret own R Q L f k n pc lv (v :: st) :=
  fun E H locs ls hH hS hl => lv_dup E.1 E.2.1 d hv (kk E H locs ls hH hS hl)
theorem k_pop {v : Value} (d : decode cc pc = .ok (.pop, 1)) (hv : v.category = 1) (kk : k_G θ κ cc nL ret own R Q L f k n (pc + 1) lv st) : k_G θ κ cc nL ret own R Q L f k n pc lv (v :: st) :=
  fun E H locs ls hH hS hl => lv_pop E.1 E.2.1 d hv (kk E H locs ls hH hS hl)
theorem k_dup_x1 {v w : Value} (d : decode cc pc = .ok (.dup_x1, 1)) (hv : v.category = 1) (hw : w.category = 1) (kk : k_G θ κ cc nL ret own R Q L f k n (pc + 1) lv (v :: w :: v :: st)) : k_G θ κ cc nL ret own R Q L f k n pc lv (v :: w :: st) :=
  fun E H locs ls hH hS hl => lv_dup_x1 E.1 E.2.1 d hv hw (kk E H locs ls hH hS hl)
theorem k_dup2 {v w : Value} (d : decode cc pc = .ok (.dup2, 1)) (hv : v.category = 1) (hw : w.category = 1) (kk : k_G θ κ cc nL ret own R Q L f k n (pc + 1) lv (v :: w :: v :: w :: st)) : k_G θ κ cc nL ret own R Q L f k n pc lv (v :: w :: st) :=
  fun E H locs ls hH hS hl => lv_dup2_11 E.1 E.2.1 d hv hw (kk E H locs ls hH hS hl)
theorem k_null (d : decode cc pc = .ok (.aconst_null, 1)) (kk : k_G θ κ cc nL ret own R Q L f k n (pc + 1) lv (.null :: st)) : k_G θ κ cc nL ret own R Q L f k n pc lv st :=
  fun E H locs ls hH hS hl => lv_null E.1 E.2.1 d (kk E H locs ls hH hS hl)
end Rows
end
section
section Branches
variable {θ : Kt} {κ : Kx} {cc : ByteArray} {nL : Nat} {ret : Option FieldType} {own : String} {R : Room} {Q : State → Prop} {L : List Nat} {f : Nat → wE} {k n pc : Nat} {lv : List (Nat × Value)} {st : List Value}
theorem k_icmp_lt {x y off : Int} (tgt : Nat) (d : decode cc pc = .ok (.if_icmp .lt off, 3)) (ht : (pc : Int) + off = (tgt : Int)) (hx : inI x) (hy : inI y) (kt : x < y → k_G θ κ cc nL ret own R Q L f k n tgt lv st) (kf : y ≤ x → k_G θ κ cc nL ret own R Q L f k n (pc + 3) lv st) : k_G θ κ cc nL ret own R Q L f k n pc lv (.int (iI y) :: .int (iI x) :: st) :=
  fun E H locs ls hH hS hl => lv_icmp_lt E.1 E.2.1 d ht (fun q => kt ((iI_lt hx hy).mp q) E H locs ls hH hS hl) (fun q => kf (Int.not_lt.mp (fun z => q ((iI_lt hx hy).mpr z))) E H locs ls hH hS hl)
theorem k_if_lt {x off : Int} (tgt : Nat) (d : decode cc pc = .ok (.ifCond .lt off, 3)) (ht : (pc : Int) + off = (tgt : Int)) (hx : inI x) (kt : x < 0 → k_G θ κ cc nL ret own R Q L f k n tgt lv st) (kf : 0 ≤ x → k_G θ κ cc nL ret own R Q L f k n (pc + 3) lv st) : k_G θ κ cc nL ret own R Q L f k n pc lv (.int (iI x) :: st) :=
  fun E H locs ls hH hS hl => lv_if_lt E.1 E.2.1 d ht (fun q => kt ((iI_lt hx inI_0).mp q) E H locs ls hH hS hl) (fun q => kf (Int.not_lt.mp (fun z => q ((iI_lt hx inI_0).mpr z))) E H locs ls hH hS hl)
theorem k_lcmp_lt {x y off : Int} (tgt : Nat) (d0 : decode cc pc = .ok (.lcmp, 1)) (d : decode cc (pc + 1) = .ok (.ifCond .lt off, 3)) (ht : ((pc + 1 : Nat) : Int) + off = (tgt : Int)) (hx : inL x) (hy : inL y) (kt : x < y → k_G θ κ cc nL ret own R Q L f k n tgt lv st) (kf : y ≤ x → k_G θ κ cc nL ret own R Q L f k n (pc + 1 + 3) lv st) : k_G θ κ cc nL ret own R Q L f k n pc lv (.long (lI y) :: .long (lI x) :: st) :=
  fun E H locs ls hH hS hl => W.lcmp E.1 E.2.1 d0 (lv_if_lt E.1 E.2.1 d ht (fun q => kt ((lI_lt hx hy).mp ((lg_cmp_lt (lI x) (lI y)).mp q)) E H locs ls hH hS hl) (fun q => kf (Int.not_lt.mp (fun z => q ((lg_cmp_lt (lI x) (lI y)).mpr ((lI_lt hx hy).mpr z)))) E H locs ls hH hS hl))
theorem k_icmp_ge {x y off : Int} (tgt : Nat) (d : decode cc pc = .ok (.if_icmp .ge off, 3)) (ht : (pc : Int) + off = (tgt : Int)) (hx : inI x) (hy : inI y) (kt : y ≤ x → k_G θ κ cc nL ret own R Q L f k n tgt lv st) (kf : x < y → k_G θ κ cc nL ret own R Q L f k n (pc + 3) lv st) : k_G θ κ cc nL ret own R Q L f k n pc lv (.int (iI y) :: .int (iI x) :: st) :=
  fun E H locs ls hH hS hl => lv_icmp_ge E.1 E.2.1 d ht (fun q => kt ((iI_le hy hx).mp q) E H locs ls hH hS hl) (fun q => kf (Int.not_le.mp (fun z => q ((iI_le hy hx).mpr z))) E H locs ls hH hS hl)
theorem k_if_ge {x off : Int} (tgt : Nat) (d : decode cc pc = .ok (.ifCond .ge off, 3)) (ht : (pc : Int) + off = (tgt : Int)) (hx : inI x) (kt : 0 ≤ x → k_G θ κ cc nL ret own R Q L f k n tgt lv st) (kf : x < 0 → k_G θ κ cc nL ret own R Q L f k n (pc + 3) lv st) : k_G θ κ cc nL ret own R Q L f k n pc lv (.int (iI x) :: st) :=
  fun E H locs ls hH hS hl => lv_if_ge E.1 E.2.1 d ht (fun q => kt ((iI_le inI_0 hx).mp q) E H locs ls hH hS hl) (fun q => kf (Int.not_le.mp (fun z => q ((iI_le inI_0 hx).mpr z))) E H locs ls hH hS hl)
theorem k_lcmp_ge {x y off : Int} (tgt : Nat) (d0 : decode cc pc = .ok (.lcmp, 1)) (d : decode cc (pc + 1) = .ok (.ifCond .ge off, 3)) (ht : ((pc + 1 : Nat) : Int) + off = (tgt : Int)) (hx : inL x) (hy : inL y) (kt : y ≤ x → k_G θ κ cc nL ret own R Q L f k n tgt lv st) (kf : x < y → k_G θ κ cc nL ret own R Q L f k n (pc + 1 + 3) lv st) : k_G θ κ cc nL ret own R Q L f k n pc lv (.long (lI y) :: .long (lI x) :: st) :=
  fun E H locs ls hH hS hl => W.lcmp E.1 E.2.1 d0 (lv_if_ge E.1 E.2.1 d ht (fun q => kt ((lI_le hy hx).mp ((lg_cmp_ge (lI x) (lI y)).mp q)) E H locs ls hH hS hl) (fun q => kf (Int.not_le.mp (fun z => q ((lg_cmp_ge (lI x) (lI y)).mpr ((lI_le hy hx).mpr z)))) E H locs ls hH hS hl))
theorem k_icmp_gt {x y off : Int} (tgt : Nat) (d : decode cc pc = .ok (.if_icmp .gt off, 3)) (ht : (pc : Int) + off = (tgt : Int)) (hx : inI x) (hy : inI y) (kt : y < x → k_G θ κ cc nL ret own R Q L f k n tgt lv st) (kf : x ≤ y → k_G θ κ cc nL ret own R Q L f k n (pc + 3) lv st) : k_G θ κ cc nL ret own R Q L f k n pc lv (.int (iI y) :: .int (iI x) :: st) :=
  fun E H locs ls hH hS hl => lv_icmp_gt E.1 E.2.1 d ht (fun q => kt ((iI_lt hy hx).mp q) E H locs ls hH hS hl) (fun q => kf (Int.not_lt.mp (fun z => q ((iI_lt hy hx).mpr z))) E H locs ls hH hS hl)
theorem k_if_gt {x off : Int} (tgt : Nat) (d : decode cc pc = .ok (.ifCond .gt off, 3)) (ht : (pc : Int) + off = (tgt : Int)) (hx : inI x) (kt : 0 < x → k_G θ κ cc nL ret own R Q L f k n tgt lv st) (kf : x ≤ 0 → k_G θ κ cc nL ret own R Q L f k n (pc + 3) lv st) : k_G θ κ cc nL ret own R Q L f k n pc lv (.int (iI x) :: st) :=
  fun E H locs ls hH hS hl => lv_if_gt E.1 E.2.1 d ht (fun q => kt ((iI_lt inI_0 hx).mp q) E H locs ls hH hS hl) (fun q => kf (Int.not_lt.mp (fun z => q ((iI_lt inI_0 hx).mpr z))) E H locs ls hH hS hl)
theorem k_lcmp_gt {x y off : Int} (tgt : Nat) (d0 : decode cc pc = .ok (.lcmp, 1)) (d : decode cc (pc + 1) = .ok (.ifCond .gt off, 3)) (ht : ((pc + 1 : Nat) : Int) + off = (tgt : Int)) (hx : inL x) (hy : inL y) (kt : y < x → k_G θ κ cc nL ret own R Q L f k n tgt lv st) (kf : x ≤ y → k_G θ κ cc nL ret own R Q L f k n (pc + 1 + 3) lv st) : k_G θ κ cc nL ret own R Q L f k n pc lv (.long (lI y) :: .long (lI x) :: st) :=
  fun E H locs ls hH hS hl => W.lcmp E.1 E.2.1 d0 (lv_if_gt E.1 E.2.1 d ht (fun q => kt ((lI_lt hy hx).mp ((lg_cmp_gt (lI x) (lI y)).mp q)) E H locs ls hH hS hl) (fun q => kf (Int.not_lt.mp (fun z => q ((lg_cmp_gt (lI x) (lI y)).mpr ((lI_lt hy hx).mpr z)))) E H locs ls hH hS hl))
theorem k_icmp_le {x y off : Int} (tgt : Nat) (d : decode cc pc = .ok (.if_icmp .le off, 3)) (ht : (pc : Int) + off = (tgt : Int)) (hx : inI x) (hy : inI y) (kt : x ≤ y → k_G θ κ cc nL ret own R Q L f k n tgt lv st) (kf : y < x → k_G θ κ cc nL ret own R Q L f k n (pc + 3) lv st) : k_G θ κ cc nL ret own R Q L f k n pc lv (.int (iI y) :: .int (iI x) :: st) :=
  fun E H locs ls hH hS hl => lv_icmp_le E.1 E.2.1 d ht (fun q => kt ((iI_le hx hy).mp q) E H locs ls hH hS hl) (fun q => kf (Int.not_le.mp (fun z => q ((iI_le hx hy).mpr z))) E H locs ls hH hS hl)
theorem k_if_le {x off : Int} (tgt : Nat) (d : decode cc pc = .ok (.ifCond .le off, 3)) (ht : (pc : Int) + off = (tgt : Int)) (hx : inI x) (kt : x ≤ 0 → k_G θ κ cc nL ret own R Q L f k n tgt lv st) (kf : 0 < x → k_G θ κ cc nL ret own R Q L f k n (pc + 3) lv st) : k_G θ κ cc nL ret own R Q L f k n pc lv (.int (iI x) :: st) :=
  fun E H locs ls hH hS hl => lv_if_le E.1 E.2.1 d ht (fun q => kt ((iI_le hx inI_0).mp q) E H locs ls hH hS hl) (fun q => kf (Int.not_le.mp (fun z => q ((iI_le hx inI_0).mpr z))) E H locs ls hH hS hl)
theorem k_lcmp_le {x y off : Int} (tgt : Nat) (d0 : decode cc pc = .ok (.lcmp, 1)) (d : decode cc (pc + 1) = .ok (.ifCond .le off, 3)) (ht : ((pc + 1 : Nat) : Int) + off = (tgt : Int)) (hx : inL x) (hy : inL y) (kt : x ≤ y → k_G θ κ cc nL ret own R Q L f k n tgt lv st) (kf : y < x → k_G θ κ cc nL ret own R Q L f k n (pc + 1 + 3) lv st) : k_G θ κ cc nL ret own R Q L f k n pc lv (.long (lI y) :: .long (lI x) :: st) :=
  fun E H locs ls hH hS hl => W.lcmp E.1 E.2.1 d0 (lv_if_le E.1 E.2.1 d ht (fun q => kt ((lI_le hx hy).mp ((lg_cmp_le (lI x) (lI y)).mp q)) E H locs ls hH hS hl) (fun q => kf (Int.not_le.mp (fun z => q ((lg_cmp_le (lI x) (lI y)).mpr ((lI_le hx hy).mpr z)))) E H locs ls hH hS hl))
theorem k_icmp_eq {x y off : Int} (tgt : Nat) (d : decode cc pc = .ok (.if_icmp .eq off, 3)) (ht : (pc : Int) + off = (tgt : Int)) (hx : inI x) (hy : inI y) (kt : x = y → k_G θ κ cc nL ret own R Q L f k n tgt lv st) (kf : x ≠ y → k_G θ κ cc nL ret own R Q L f k n (pc + 3) lv st) : k_G θ κ cc nL ret own R Q L f k n pc lv (.int (iI y) :: .int (iI x) :: st) :=
  fun E H locs ls hH hS hl => lv_icmp_eq E.1 E.2.1 d ht (fun q => kt ((iI_eq hx hy).mp q) E H locs ls hH hS hl) (fun q => kf (fun z => q ((iI_eq hx hy).mpr z)) E H locs ls hH hS hl)
theorem k_if_eq {x off : Int} (tgt : Nat) (d : decode cc pc = .ok (.ifCond .eq off, 3)) (ht : (pc : Int) + off = (tgt : Int)) (hx : inI x) (kt : x = 0 → k_G θ κ cc nL ret own R Q L f k n tgt lv st) (kf : x ≠ 0 → k_G θ κ cc nL ret own R Q L f k n (pc + 3) lv st) : k_G θ κ cc nL ret own R Q L f k n pc lv (.int (iI x) :: st) :=
  fun E H locs ls hH hS hl => lv_if_eq E.1 E.2.1 d ht (fun q => kt ((iI_eq hx inI_0).mp q) E H locs ls hH hS hl) (fun q => kf (fun z => q ((iI_eq hx inI_0).mpr z)) E H locs ls hH hS hl)
theorem k_lcmp_eq {x y off : Int} (tgt : Nat) (d0 : decode cc pc = .ok (.lcmp, 1)) (d : decode cc (pc + 1) = .ok (.ifCond .eq off, 3)) (ht : ((pc + 1 : Nat) : Int) + off = (tgt : Int)) (hx : inL x) (hy : inL y) (kt : x = y → k_G θ κ cc nL ret own R Q L f k n tgt lv st) (kf : x ≠ y → k_G θ κ cc nL ret own R Q L f k n (pc + 1 + 3) lv st) : k_G θ κ cc nL ret own R Q L f k n pc lv (.long (lI y) :: .long (lI x) :: st) :=
  fun E H locs ls hH hS hl => W.lcmp E.1 E.2.1 d0 (lv_if_eq E.1 E.2.1 d ht (fun q => kt ((lI_eq hx hy).mp ((lg_cmp_eq (lI x) (lI y)).mp q)) E H locs ls hH hS hl) (fun q => kf (fun z => q ((lg_cmp_eq (lI x) (lI y)).mpr ((lI_eq hx hy).mpr z))) E H locs ls hH hS hl))
theorem k_icmp_ne {x y off : Int} (tgt : Nat) (d : decode cc pc = .ok (.if_icmp .ne off, 3)) (ht : (pc : Int) + off = (tgt : Int)) (hx : inI x) (hy : inI y) (kt : x ≠ y → k_G θ κ cc nL ret own R Q L f k n tgt lv st) (kf : x = y → k_G θ κ cc nL ret own R Q L f k n (pc + 3) lv st) : k_G θ κ cc nL ret own R Q L f k n pc lv (.int (iI y) :: .int (iI x) :: st) :=
  fun E H locs ls hH hS hl => lv_icmp_ne E.1 E.2.1 d ht (fun q => kt (fun z => q ((iI_eq hx hy).mpr z)) E H locs ls hH hS hl) (fun q => kf ((iI_eq hx hy).mp q) E H locs ls hH hS hl)
theorem k_if_ne {x off : Int} (tgt : Nat) (d : decode cc pc = .ok (.ifCond .ne off, 3)) (ht : (pc : Int) + off = (tgt : Int)) (hx : inI x) (kt : x ≠ 0 → k_G θ κ cc nL ret own R Q L f k n tgt lv st) (kf : x = 0 → k_G θ κ cc nL ret own R Q L f k n (pc + 3) lv st) : k_G θ κ cc nL ret own R Q L f k n pc lv (.int (iI x) :: st) :=
  fun E H locs ls hH hS hl => lv_if_ne E.1 E.2.1 d ht (fun q => kt (fun z => q ((iI_eq hx inI_0).mpr z)) E H locs ls hH hS hl) (fun q => kf ((iI_eq hx inI_0).mp q) E H locs ls hH hS hl)
theorem k_lcmp_ne {x y off : Int} (tgt : Nat) (d0 : decode cc pc = .ok (.lcmp, 1)) (d : decode cc (pc + 1) = .ok (.ifCond .ne off, 3)) (ht : ((pc + 1 : Nat) : Int) + off = (tgt : Int)) (hx : inL x) (hy : inL y) (kt : x ≠ y → k_G θ κ cc nL ret own R Q L f k n tgt lv st) (kf : x = y → k_G θ κ cc nL ret own R Q L f k n (pc + 1 + 3) lv st) : k_G θ κ cc nL ret own R Q L f k n pc lv (.long (lI y) :: .long (lI x) :: st) :=
  fun E H locs ls hH hS hl => W.lcmp E.1 E.2.1 d0 (lv_if_ne E.1 E.2.1 d ht (fun q => kt (fun z => q ((lg_cmp_eq (lI x) (lI y)).mpr ((lI_eq hx hy).mpr z))) E H locs ls hH hS hl) (fun q => kf ((lI_eq hx hy).mp ((lg_cmp_eq (lI x) (lI y)).mp q)) E H locs ls hH hS hl))
theorem bI_eq0 {b : Bool} : bI b = 0 ↔ b = false := by cases b <;> decide
theorem bI_in (b : Bool) : inI (bI b) := by cases b <;> exact ⟨by decide, by decide⟩
theorem k_ifb_eq {b : Bool} {off : Int} (tgt : Nat) (d : decode cc pc = .ok (.ifCond .eq off, 3)) (ht : (pc : Int) + off = (tgt : Int)) (kt : b = false → k_G θ κ cc nL ret own R Q L f k n tgt lv st) (kf : b = true → k_G θ κ cc nL ret own R Q L f k n (pc + 3) lv st) : k_G θ κ cc nL ret own R Q L f k n pc lv (.int (iI (bI b)) :: st) :=
  k_if_eq tgt d ht (bI_in b) (fun q => kt (bI_eq0.mp q)) (fun q => kf (by cases b with | true => rfl | false => exact absurd rfl q))
theorem k_ifb_ne {b : Bool} {off : Int} (tgt : Nat) (d : decode cc pc = .ok (.ifCond .ne off, 3)) (ht : (pc : Int) + off = (tgt : Int)) (kt : b = true → k_G θ κ cc nL ret own R Q L f k n tgt lv st) (kf : b = false → k_G θ κ cc nL ret own R Q L f k n (pc + 3) lv st) : k_G θ κ cc nL ret own R Q L f k n pc lv (.int (iI (bI b)) :: st) :=
  k_if_ne tgt d ht (bI_in b) (fun q => kt (by cases b with | true => rfl | false => exact absurd rfl q)) (fun q => kf (bI_eq0.mp q))
/-- a switch: at the place of a number that it has, or beside them all -/
theorem k_swIn {x dflt lo hi off : Int} {offs : Array Int} {len : Nat} (z : Int) (tgt : Nat) (d : decode cc pc = .ok (.tableswitch dflt lo hi offs, len)) (hx : inI x) (hz : x = z) (h1 : lo ≤ z) (h2 : z ≤ hi) (ho : offs[(z - lo).toNat]? = some off) (ht : (pc : Int) + off = (tgt : Int)) (kk : k_G θ κ cc nL ret own R Q L f k n tgt lv st) : k_G θ κ cc nL ret own R Q L f k n pc lv (.int (iI x) :: st) :=
  fun E H locs ls hH hS hl => by
    subst hz
    exact lv_tableIn E.1 E.2.1 d (by rw [iI_int hx]; omega) (by rw [iI_int hx]; omega) (by rw [iI_int hx]; exact ho) ht (kk E H locs ls hH hS hl)
theorem k_swOut {x dflt lo hi : Int} {offs : Array Int} {len : Nat} (tgt : Nat) (d : decode cc pc = .ok (.tableswitch dflt lo hi offs, len)) (hx : inI x) (h : x < lo ∨ hi < x) (ht : (pc : Int) + dflt = (tgt : Int)) (kk : k_G θ κ cc nL ret own R Q L f k n tgt lv st) : k_G θ κ cc nL ret own R Q L f k n pc lv (.int (iI x) :: st) :=
  fun E H locs ls hH hS hl => lv_tableOut E.1 E.2.1 d (by rw [iI_int hx]; exact h) ht (kk E H locs ls hH hS hl)
end Branches
section Memory
variable {θ : Kt} {κ : Kx} {cc : ByteArray} {nL : Nat} {ret : Option FieldType} {own : String} {R : Room} {Q : State → Prop} {L : List Nat} {f : Nat → wE} {k n pc : Nat} {lv : List (Nat × Value)} {st : List Value} {a tg : Nat}
theorem k_get {C : String} {T : u_T} {N ci i : Nat} {fs : List Value} {v : Value} (j : Nat) (ic : ∀ w ∈ u_ws C T N, w ∈ lw_tbl) (hq : Cond.fieldLink own i (T j).1 (T j).2.1 (T j).2.2.1 ∈ lw_tbl) (hc : Cl L f a (tg, .inr (ci, fs))) (hci : vwCl[ci]? = some (C, T, N)) (hj : j < N) (hv : fs[j]? = some v) (d : decode cc pc = .ok (.getfield i, 3)) (kk : k_G θ κ cc nL ret own R Q L f k n (pc + 3) lv (v :: st)) : k_G θ κ cc nL ret own R Q L f k n pc lv (.ref a :: st) := by
  intro E H locs ls hH hS hl
  obtain ⟨q0, hq0⟩ := k_pos hc
  exact va_get E.1 E.2.1 (E.cls ic) (fun _ h => h) E.2.2.2.1 E.K hH.1 q0 hq0 hci j hj (E.word hq rfl) (fun _ h => h) hv d (kk E H locs ls hH hS hl)
theorem k_getN {C : String} {T : u_T} {N ci i : Nat} {fs : List Value} {v : Value} {host : String} (j : Nat) (ic : ∀ w ∈ u_ws C T N, w ∈ lw_tbl) (hq : Cond.fieldLinkNest own i (T j).1 (T j).2.1 (T j).2.2.1 host ∈ lw_tbl) (hc : Cl L f a (tg, .inr (ci, fs))) (hci : vwCl[ci]? = some (C, T, N)) (hj : j < N) (hv : fs[j]? = some v) (d : decode cc pc = .ok (.getfield i, 3)) (kk : k_G θ κ cc nL ret own R Q L f k n (pc + 3) lv (v :: st)) : k_G θ κ cc nL ret own R Q L f k n pc lv (.ref a :: st) := by
  intro E H locs ls hH hS hl
  obtain ⟨q0, hq0⟩ := k_pos hc
  exact va_getN E.1 E.2.1 (E.cls ic) (fun _ h => h) E.2.2.2.1 E.K hH.1 q0 hq0 hci j hj (E.word hq rfl) (fun _ h => h) hv d (kk E H locs ls hH hS hl)
/-- a field read through a class that inherits it -/
theorem k_getS {C ref : String} {T : u_T} {N ci i : Nat} {fs : List Value} {v : Value} (j : Nat) (ic : ∀ w ∈ u_ws C T N, w ∈ lw_tbl) (hq : Cond.fieldLink own i ref (T j).2.1 (T j).2.2.1 ∈ lw_tbl) (hs : Cond.sameField ref (T j).1 (T j).2.1 (T j).2.2.1 ∈ lw_tbl) (hc : Cl L f a (tg, .inr (ci, fs))) (hci : vwCl[ci]? = some (C, T, N)) (hj : j < N) (hv : fs[j]? = some v) (d : decode cc pc = .ok (.getfield i, 3)) (kk : k_G θ κ cc nL ret own R Q L f k n (pc + 3) lv (v :: st)) : k_G θ κ cc nL ret own R Q L f k n pc lv (.ref a :: st) := by
  intro E H locs ls hH hS hl
  obtain ⟨q0, hq0⟩ := k_pos hc
  exact va_get E.1 E.2.1 (E.cls ic) (fun _ h => h) E.2.2.2.1 E.K hH.1 q0 hq0 hci j hj (E.word hq rfl) (fun x h => u_same (E.word hs rfl) x h) hv d (kk E H locs ls hH hS hl)
theorem k_Hset {κ : Kx} {L : List Nat} {f : Nat → wE} {H : Heap} {a q0 tg : Nat} {x y : va_E} (hD : va_D (kA κ) (va_pl L (kf f))) (hc : Cl L f a (tg, x)) (hq0 : (va_pl L (kf f))[q0]? = some (a, x)) (p1 : va_P κ.1 vwCl ((va_pl L (kf f)).set q0 (a, y)) H) (p2 : va_D (kA κ) ((va_pl L (kf f)).set q0 (a, y))) :
    k_H κ L (va_up f a (tg, y)) H ∧ (∀ b, b ≠ a → va_up f a (tg, y) b = f b) ∧ Cl L (va_up f a (tg, y)) a (tg, y) := by
  rw [k_set (e := (tg, x)) (x := y) hD hc hq0] at p1 p2
  exact ⟨⟨p1, p2⟩, fun b hb => va_up_ne f _ hb, hc.1, va_up_self f a _⟩
theorem k_put {C : String} {T : u_T} {ty0 : Nat → FieldType} {N ci i : Nat} {fs : List Value} {v : Value} {ty : FieldType} (j : Nat) (fs' : List Value) (ic : ∀ w ∈ u_ws C T N, w ∈ lw_tbl) (ity : ∀ k, k < N → parseFieldDescriptor (T k).2.2.1 = some (ty0 k)) (inm : ∀ a, a < N → ∀ b, b < N → a ≠ b → (T a).2.1 ≠ (T b).2.1) (hq : Cond.fieldLink own i (T j).1 (T j).2.1 (T j).2.2.1 ∈ lw_tbl) (hc : Cl L f a (tg, .inr (ci, fs))) (hci : vwCl[ci]? = some (C, T, N)) (hj : j < N) (hfin : (T j).2.2.2 = false) (hty : ty0 j = ty) (hn : narrow ty v = v) (hfit : fits ty v = true) (hjl : j < fs.length) (hfs : fs.set j v = fs') (d : decode cc pc = .ok (.putfield i, 3))
    (kk : ∀ f' : Nat → wE, (∀ b, b ≠ a → f' b = f b) → Cl L f' a (tg, .inr (ci, fs')) → k_G θ κ cc nL ret own R Q L f' k n (pc + 3) lv st) : k_G θ κ cc nL ret own R Q L f k n pc lv (v :: .ref a :: st) := by
  intro E H locs ls hH hS hl
  obtain ⟨q0, hq0⟩ := k_pos hc
  refine va_put E.1 E.2.1 (E.cls ic) (fun _ h => h) ty0 ity inm E.2.2.2.1 E.K hH.1 hH.2 hS q0 hq0 hci j hj (E.word hq rfl) (fun _ h => h) hfin (by rw [ity j hj, hty]) hn hfit hjl d (fun H1 locs1 p1 p2 p3 => ?_)
  rw [hfs] at p1 p2
  obtain ⟨h1, h2, h3⟩ := k_Hset hH.2 hc hq0 p1 p2
  exact kk _ h2 h3 E H1 locs1 ls h1 p3 hl
theorem k_putN {C : String} {T : u_T} {ty0 : Nat → FieldType} {N ci i : Nat} {fs : List Value} {v : Value} {ty : FieldType} {host : String} (j : Nat) (fs' : List Value) (ic : ∀ w ∈ u_ws C T N, w ∈ lw_tbl) (ity : ∀ k, k < N → parseFieldDescriptor (T k).2.2.1 = some (ty0 k)) (inm : ∀ a, a < N → ∀ b, b < N → a ≠ b → (T a).2.1 ≠ (T b).2.1) (hq : Cond.fieldLinkNest own i (T j).1 (T j).2.1 (T j).2.2.1 host ∈ lw_tbl) (hc : Cl L f a (tg, .inr (ci, fs))) (hci : vwCl[ci]? = some (C, T, N)) (hj : j < N) (hfin : (T j).2.2.2 = false) (hty : ty0 j = ty) (hn : narrow ty v = v) (hfit : fits ty v = true) (hjl : j < fs.length) (hfs : fs.set j v = fs') (d : decode cc pc = .ok (.putfield i, 3))
    (kk : ∀ f' : Nat → wE, (∀ b, b ≠ a → f' b = f b) → Cl L f' a (tg, .inr (ci, fs')) → k_G θ κ cc nL ret own R Q L f' k n (pc + 3) lv st) : k_G θ κ cc nL ret own R Q L f k n pc lv (v :: .ref a :: st) := by
  intro E H locs ls hH hS hl
  obtain ⟨q0, hq0⟩ := k_pos hc
  refine va_putN E.1 E.2.1 (E.cls ic) (fun _ h => h) ty0 ity inm E.2.2.2.1 E.K hH.1 hH.2 hS q0 hq0 hci j hj (E.word hq rfl) (fun _ h => h) hfin (by rw [ity j hj, hty]) hn hfit hjl d (fun H1 locs1 p1 p2 p3 => ?_)
  rw [hfs] at p1 p2
  obtain ⟨h1, h2, h3⟩ := k_Hset hH.2 hc hq0 p1 p2
  exact kk _ h2 h3 E H1 locs1 ls h1 p3 hl
theorem k_putF {C : String} {T : u_T} {ty0 : Nat → FieldType} {N ci i : Nat} {fs : List Value} {v : Value} {ty : FieldType} (j : Nat) (fs' : List Value) (ic : ∀ w ∈ u_ws C T N, w ∈ lw_tbl) (ity : ∀ k, k < N → parseFieldDescriptor (T k).2.2.1 = some (ty0 k)) (inm : ∀ a, a < N → ∀ b, b < N → a ≠ b → (T a).2.1 ≠ (T b).2.1) (hq : Cond.fieldLink own i (T j).1 (T j).2.1 (T j).2.2.1 ∈ lw_tbl) (hc : Cl L f a (tg, .inr (ci, fs))) (hci : vwCl[ci]? = some (C, T, N)) (hj : j < N) (hfin : (T j).2.2.2 = true) (hin : θ.2.2.2.2.2.2.2.1.name = "<init>") (hdc : (T j).1 = own) (hty : ty0 j = ty) (hn : narrow ty v = v) (hfit : fits ty v = true) (hjl : j < fs.length) (hfs : fs.set j v = fs') (d : decode cc pc = .ok (.putfield i, 3))
    (kk : ∀ f' : Nat → wE, (∀ b, b ≠ a → f' b = f b) → Cl L f' a (tg, .inr (ci, fs')) → k_G θ κ cc nL ret own R Q L f' k n (pc + 3) lv st) : k_G θ κ cc nL ret own R Q L f k n pc lv (v :: .ref a :: st) := by
  intro E H locs ls hH hS hl
  obtain ⟨q0, hq0⟩ := k_pos hc
  refine va_putF E.1 E.2.1 (E.cls ic) (fun _ h => h) ty0 ity inm E.2.2.2.1 E.K hH.1 hH.2 hS q0 hq0 hci j hj (E.word hq rfl) (fun _ h => h) hfin hin hdc (by rw [ity j hj, hty]) hn hfit hjl d (fun H1 locs1 p1 p2 p3 => ?_)
  rw [hfs] at p1 p2
  obtain ⟨h1, h2, h3⟩ := k_Hset hH.2 hc hq0 p1 p2
  exact kk _ h2 h3 E H1 locs1 ls h1 p3 hl
theorem k_putS {C : String} {T : u_T} {ty0 : Nat → FieldType} {N ci i : Nat} {fs : List Value} {v : Value} {ty : FieldType} {ref : String} (j : Nat) (fs' : List Value) (ic : ∀ w ∈ u_ws C T N, w ∈ lw_tbl) (ity : ∀ k, k < N → parseFieldDescriptor (T k).2.2.1 = some (ty0 k)) (inm : ∀ a, a < N → ∀ b, b < N → a ≠ b → (T a).2.1 ≠ (T b).2.1) (hq : Cond.fieldLink own i ref (T j).2.1 (T j).2.2.1 ∈ lw_tbl) (hs : Cond.sameField ref (T j).1 (T j).2.1 (T j).2.2.1 ∈ lw_tbl) (hc : Cl L f a (tg, .inr (ci, fs))) (hci : vwCl[ci]? = some (C, T, N)) (hj : j < N) (hfin : (T j).2.2.2 = false) (hty : ty0 j = ty) (hn : narrow ty v = v) (hfit : fits ty v = true) (hjl : j < fs.length) (hfs : fs.set j v = fs') (d : decode cc pc = .ok (.putfield i, 3))
    (kk : ∀ f' : Nat → wE, (∀ b, b ≠ a → f' b = f b) → Cl L f' a (tg, .inr (ci, fs')) → k_G θ κ cc nL ret own R Q L f' k n (pc + 3) lv st) : k_G θ κ cc nL ret own R Q L f k n pc lv (v :: .ref a :: st) := by
  intro E H locs ls hH hS hl
  obtain ⟨q0, hq0⟩ := k_pos hc
  refine va_put E.1 E.2.1 (E.cls ic) (fun _ h => h) ty0 ity inm E.2.2.2.1 E.K hH.1 hH.2 hS q0 hq0 hci j hj (E.word hq rfl) (fun x h => u_same (E.word hs rfl) x h) hfin (by rw [ity j hj, hty]) hn hfit hjl d (fun H1 locs1 p1 p2 p3 => ?_)
  rw [hfs] at p1 p2
  obtain ⟨h1, h2, h3⟩ := k_Hset hH.2 hc hq0 p1 p2
  exact kk _ h2 h3 E H1 locs1 ls h1 p3 hl
theorem k_iald {N : Nat} {G : Nat → Int} {x : Int} (j : Nat) (hc : Cl L f a (tg, .inl (κ.2.2.1 0, N, .inl (fun i => iI (G i))))) (hx : x = (j : Int)) (hj : j < N) (hN : N < 2147483648) (d : decode cc pc = .ok (.iaload, 1)) (kk : k_G θ κ cc nL ret own R Q L f k n (pc + 1) lv (.int (iI (G j)) :: st)) : k_G θ κ cc nL ret own R Q L f k n pc lv (.int (iI x) :: .ref a :: st) := by
  intro E H locs ls hH hS hl
  obtain ⟨q0, hq0⟩ := k_pos hc
  refine va_iald E.1 E.2.1 E.K hH.1 q0 0 hq0 rfl (iI_in hx hj hN) d ?_
  rw [iI_cl hx (Nat.lt_trans hj hN)]
  exact kk E H locs ls hH hS hl
theorem k_iast {N : Nat} {G : Nat → Int} {x : Int} {z : Int} (j : Nat) (hc : Cl L f a (tg, .inl (κ.2.2.1 0, N, .inl (fun i => iI (G i))))) (hx : x = (j : Int)) (hj : j < N) (hN : N < 2147483648) (d : decode cc pc = .ok (.iastore, 1))
    (kk : ∀ f' : Nat → wE, (∀ b, b ≠ a → f' b = f b) → Cl L f' a (tg, .inl (κ.2.2.1 0, N, .inl (fun i => iI (va_up G j z i)))) → k_G θ κ cc nL ret own R Q L f' k n (pc + 1) lv st) : k_G θ κ cc nL ret own R Q L f k n pc lv (.int (iI z) :: .int (iI x) :: .ref a :: st) := by
  intro E H locs ls hH hS hl
  obtain ⟨q0, hq0⟩ := k_pos hc
  refine va_iast E.1 E.2.1 E.K hH.1 hH.2 hS q0 0 hq0 rfl (iI_in hx hj hN) d (fun H1 locs1 p1 p2 p3 => ?_)
  rw [iI_cl hx (Nat.lt_trans hj hN)] at p1 p2
  have e : upd (fun i => iI (G i)) j (iI z) = fun i => iI (va_up G j z i) := by
    funext i
    unfold upd va_up
    split
    · rfl
    · rfl
  rw [e] at p1 p2
  obtain ⟨h1, h2, h3⟩ := k_Hset hH.2 hc hq0 p1 p2
  exact kk _ h2 h3 E H1 locs1 ls h1 p3 hl
theorem k_lald {N : Nat} {G : Nat → Int} {x : Int} (j : Nat) (hc : Cl L f a (tg, .inl (κ.2.2.1 1, N, .inr (.inl (fun i => lI (G i)))))) (hx : x = (j : Int)) (hj : j < N) (hN : N < 2147483648) (d : decode cc pc = .ok (.laload, 1)) (kk : k_G θ κ cc nL ret own R Q L f k n (pc + 1) lv (.long (lI (G j)) :: st)) : k_G θ κ cc nL ret own R Q L f k n pc lv (.int (iI x) :: .ref a :: st) := by
  intro E H locs ls hH hS hl
  obtain ⟨q0, hq0⟩ := k_pos hc
  refine va_lald E.1 E.2.1 E.K hH.1 q0 1 hq0 rfl (iI_in hx hj hN) d ?_
  rw [iI_cl hx (Nat.lt_trans hj hN)]
  exact kk E H locs ls hH hS hl
theorem k_last {N : Nat} {G : Nat → Int} {x : Int} {z : Int} (j : Nat) (hc : Cl L f a (tg, .inl (κ.2.2.1 1, N, .inr (.inl (fun i => lI (G i)))))) (hx : x = (j : Int)) (hj : j < N) (hN : N < 2147483648) (d : decode cc pc = .ok (.lastore, 1))
    (kk : ∀ f' : Nat → wE, (∀ b, b ≠ a → f' b = f b) → Cl L f' a (tg, .inl (κ.2.2.1 1, N, .inr (.inl (fun i => lI (va_up G j z i))))) → k_G θ κ cc nL ret own R Q L f' k n (pc + 1) lv st) : k_G θ κ cc nL ret own R Q L f k n pc lv (.long (lI z) :: .int (iI x) :: .ref a :: st) := by
  intro E H locs ls hH hS hl
  obtain ⟨q0, hq0⟩ := k_pos hc
  refine va_last E.1 E.2.1 E.K hH.1 hH.2 hS q0 1 hq0 rfl (iI_in hx hj hN) d (fun H1 locs1 p1 p2 p3 => ?_)
  rw [iI_cl hx (Nat.lt_trans hj hN)] at p1 p2
  have e : vp_updL (fun i => lI (G i)) j (lI z) = fun i => lI (va_up G j z i) := by
    funext i
    unfold vp_updL va_up
    split
    · rfl
    · rfl
  rw [e] at p1 p2
  obtain ⟨h1, h2, h3⟩ := k_Hset hH.2 hc hq0 p1 p2
  exact kk _ h2 h3 E H1 locs1 ls h1 p3 hl
theorem k_zald {N : Nat} {G : Nat → Bool} {x : Int} (j : Nat) (hc : Cl L f a (tg, .inl (κ.2.2.1 2, N, .inl (fun i => iI (bI (G i)))))) (hx : x = (j : Int)) (hj : j < N) (hN : N < 2147483648) (d : decode cc pc = .ok (.baload, 1)) (kk : k_G θ κ cc nL ret own R Q L f k n (pc + 1) lv (.int (iI (bI (G j))) :: st)) : k_G θ κ cc nL ret own R Q L f k n pc lv (.int (iI x) :: .ref a :: st) := by
  intro E H locs ls hH hS hl
  obtain ⟨q0, hq0⟩ := k_pos hc
  refine va_zald E.1 E.2.1 E.K hH.1 q0 2 hq0 rfl (iI_in hx hj hN) d ?_
  rw [iI_cl hx (Nat.lt_trans hj hN)]
  exact kk E H locs ls hH hS hl
theorem k_zast {N : Nat} {G : Nat → Bool} {x : Int} {z : Bool} (j : Nat) (hc : Cl L f a (tg, .inl (κ.2.2.1 2, N, .inl (fun i => iI (bI (G i)))))) (hx : x = (j : Int)) (hj : j < N) (hN : N < 2147483648) (d : decode cc pc = .ok (.bastore, 1))
    (kk : ∀ f' : Nat → wE, (∀ b, b ≠ a → f' b = f b) → Cl L f' a (tg, .inl (κ.2.2.1 2, N, .inl (fun i => iI (bI (va_up G j z i))))) → k_G θ κ cc nL ret own R Q L f' k n (pc + 1) lv st) : k_G θ κ cc nL ret own R Q L f k n pc lv (.int (iI (bI z)) :: .int (iI x) :: .ref a :: st) := by
  intro E H locs ls hH hS hl
  obtain ⟨q0, hq0⟩ := k_pos hc
  refine va_zast E.1 E.2.1 E.K hH.1 hH.2 hS q0 2 hq0 rfl (iI_in hx hj hN) d (fun H1 locs1 p1 p2 p3 => ?_)
  rw [iI_cl hx (Nat.lt_trans hj hN)] at p1 p2
  have e : upd (fun i => iI (bI (G i))) j (vp_nar .boolean (iI (bI z))) = fun i => iI (bI (va_up G j z i)) := by
    funext i
    unfold upd va_up
    split
    · cases z <;> decide
    · rfl
  rw [e] at p1 p2
  obtain ⟨h1, h2, h3⟩ := k_Hset hH.2 hc hq0 p1 p2
  exact kk _ h2 h3 E H1 locs1 ls h1 p3 hl
theorem k_aald {N : Nat} {G : Nat → Option Nat} {x : Int} {y : Nat} (j : Nat) (hc : Cl L f a (tg, .inl (κ.2.2.1 3, N, .inr (.inr (.inr (.inr G)))))) (hx : x = (j : Int)) (hj : j < N) (hN : N < 2147483648) (hy : G j = some y) (d : decode cc pc = .ok (.aaload, 1)) (kk : k_G θ κ cc nL ret own R Q L f k n (pc + 1) lv (.ref y :: st)) : k_G θ κ cc nL ret own R Q L f k n pc lv (.int (iI x) :: .ref a :: st) := by
  intro E H locs ls hH hS hl
  obtain ⟨q0, hq0⟩ := k_pos hc
  refine va_aldq E.1 E.2.1 E.K hH.1 q0 3 hq0 rfl (iI_in hx hj hN) d ?_
  rw [iI_cl hx (Nat.lt_trans hj hN), hy]
  exact kk E H locs ls hH hS hl
theorem k_aast {N ci tv v : Nat} {G : Nat → Option Nat} {x : Int} {vs : List Value} {r : vw_C} (j : Nat) (hc : Cl L f a (tg, .inl (κ.2.2.1 3, N, .inr (.inr (.inr (.inr G)))))) (hv : Cl L f v (tv, .inr (ci, vs))) (hci : vwCl[ci]? = some r) (hq : Cond.castable r.1 "java/lang/Object" ∈ lw_tbl) (hx : x = (j : Int)) (hj : j < N) (hN : N < 2147483648) (d : decode cc pc = .ok (.aastore, 1))
    (kk : ∀ f' : Nat → wE, (∀ b, b ≠ a → f' b = f b) → Cl L f' a (tg, .inl (κ.2.2.1 3, N, .inr (.inr (.inr (.inr (va_up G j (some v))))))) → k_G θ κ cc nL ret own R Q L f' k n (pc + 1) lv st) : k_G θ κ cc nL ret own R Q L f k n pc lv (.ref v :: .int (iI x) :: .ref a :: st) := by
  intro E H locs ls hH hS hl
  obtain ⟨q0, hq0⟩ := k_pos hc
  obtain ⟨q1, hq1⟩ := k_pos hv
  refine va_astqO E.1 E.2.1 E.K hH.1 hH.2 hS q0 3 q1 ci hq0 rfl (E.2.2.2.2.1.2.1 _ hq rfl) hq1 hci (iI_in hx hj hN) d (fun H1 locs1 p1 p2 p3 => ?_)
  rw [iI_cl hx (Nat.lt_trans hj hN)] at p1 p2
  obtain ⟨h1, h2, h3⟩ := k_Hset hH.2 hc hq0 p1 p2
  exact kk _ h2 h3 E H1 locs1 ls h1 p3 hl
theorem k_aastN {N : Nat} {G : Nat → Option Nat} {x : Int} (j : Nat) (hc : Cl L f a (tg, .inl (κ.2.2.1 3, N, .inr (.inr (.inr (.inr G)))))) (hx : x = (j : Int)) (hj : j < N) (hN : N < 2147483648) (d : decode cc pc = .ok (.aastore, 1))
    (kk : ∀ f' : Nat → wE, (∀ b, b ≠ a → f' b = f b) → Cl L f' a (tg, .inl (κ.2.2.1 3, N, .inr (.inr (.inr (.inr (va_up G j none)))))) → k_G θ κ cc nL ret own R Q L f' k n (pc + 1) lv st) : k_G θ κ cc nL ret own R Q L f k n pc lv (.null :: .int (iI x) :: .ref a :: st) := by
  intro E H locs ls hH hS hl
  obtain ⟨q0, hq0⟩ := k_pos hc
  refine va_astqN E.1 E.2.1 E.K hH.1 hH.2 hS q0 3 hq0 rfl (iI_in hx hj hN) d (fun H1 locs1 p1 p2 p3 => ?_)
  rw [iI_cl hx (Nat.lt_trans hj hN)] at p1 p2
  obtain ⟨h1, h2, h3⟩ := k_Hset hH.2 hc hq0 p1 p2
  exact kk _ h2 h3 E H1 locs1 ls h1 p3 hl
theorem k_alen {N t0 : Nat} {cA : ClassId} {x : (Nat → Int32) ⊕ (Nat → Int64) ⊕ (Nat → UInt32) ⊕ (Nat → UInt64) ⊕ (Nat → Option Nat)} {ty : FieldType} (hc : Cl L f a (tg, .inl (cA, N, x))) (ht : (k_tys κ)[t0]? = some (cA, ty)) (d : decode cc pc = .ok (.arraylength, 1)) (kk : k_G θ κ cc nL ret own R Q L f k n (pc + 1) lv (.int (iI (N : Int)) :: st)) : k_G θ κ cc nL ret own R Q L f k n pc lv (.ref a :: st) := by
  intro E H locs ls hH hS hl
  obtain ⟨q0, hq0⟩ := k_pos hc
  exact va_alen E.1 E.2.1 E.K hH.1 q0 t0 hq0 ht (iI_nI N).symm d (kk E H locs ls hH hS hl)
theorem k_new {C : String} {T : u_T} {ty0 : Nat → FieldType} {N ci i : Nat} (tg : Nat) (fs : List Value) (ic : ∀ w ∈ u_ws C T N, w ∈ lw_tbl) (ity : ∀ k, k < N → parseFieldDescriptor (T k).2.2.1 = some (ty0 k)) (h1 : Cond.classLink own i C ∈ lw_tbl) (h2 : Cond.instantiable C N ∈ lw_tbl) (h3 : Cond.initialized C ∈ lw_tbl) (hci : vwCl[ci]? = some (C, T, N)) (hfs : ∀ j, j < N → defaultValue (ty0 j) = vp_V fs j) (hk : k + 1 ≤ R.cells) (hn : n + N ≤ R.slots) (d : decode cc pc = .ok (.new i, 3))
    (kk : ∀ (q : Nat) (L' : List Nat) (f' : Nat → wE), (∀ z ∈ L, z ∈ L' ∧ f' z = f z) → q ∉ L → Cl L' f' q (tg, .inr (ci, fs)) → k_G θ κ cc nL ret own R Q L' f' (k + 1) (n + N) (pc + 3) lv (.ref q :: st)) : k_G θ κ cc nL ret own R Q L f k n pc lv st := by
  intro E H locs ls hH hS hl
  refine va_new E.1 E.2.1 (E.cls ic) (fun _ h => h) ty0 ity E.2.2.2.1 (E.word h1 rfl) (E.word h2 rfl) (E.word h3 rfl) E.K hH.1 hH.2 hS (fun q hq => Nat.le_trans E.2.2.2.2.2.2.1 hq) hci hfs hk hn d (fun q H1 p1 p2 p3 => ?_)
  obtain ⟨g1, g2⟩ := k_push tg p2
  rw [g2] at p1 p2
  exact kk q _ _ (fun z hz => ⟨List.mem_append_left _ hz, va_up_ne f _ (fun e => g1 (by rw [← e]; exact hz))⟩) g1 ⟨List.mem_append_right _ (List.mem_singleton.mpr rfl), va_up_self f q _⟩ E H1 locs ls ⟨p1, p2⟩ p3 hl
theorem k_newai {x : Int} (tg N : Nat) (h1 : Cond.arrayClass .int ∈ lw_tbl) (hx : x = (N : Int)) (hN : N ≤ 60000) (hk : k + 1 ≤ R.cells) (hn : n + N ≤ R.slots) (d : decode cc pc = .ok (.newarray .int, 2))
    (kk : ∀ (q : Nat) (L' : List Nat) (f' : Nat → wE), (∀ z ∈ L, z ∈ L' ∧ f' z = f z) → q ∉ L → Cl L' f' q (tg, .inl (κ.2.2.1 0, N, .inl (fun _ => iI 0))) → k_G θ κ cc nL ret own R Q L' f' (k + 1) (n + N) (pc + 2) lv (.ref q :: st)) : k_G θ κ cc nL ret own R Q L f k n pc lv (.int (iI x) :: st) := by
  intro E H locs ls hH hS hl
  refine va_newa (atype := .int) (ty := .int) (N' := N) (a0 := (N, .inl (fun _ => iI 0))) E.1 E.2.1 (E.word h1 rfl) rfl E.K hH.1 hH.2 hS (fun q hq => Nat.le_trans E.2.2.2.2.2.2.1 hq) (fun cA => rfl) (by rw [hx, iI_nI]; exact nI_pos (by omega)) (iI_cl hx (by omega)) (by show N * 4 ≤ 536870912; omega) hk hn d (fun q cA H1 p0 p1 p2 p3 => ?_)
  have e : cA = κ.2.2.1 0 := by
    have e1 := va_nm_int (p0.2 4 (cA, .int) rfl).2
    have e2 := va_nm_int (E.K.2 0 (κ.2.2.1 0, .int) rfl).2
    exact Option.some.inj (e1.symm.trans e2)
  subst e
  obtain ⟨g1, g2⟩ := k_push tg p2
  rw [g2] at p1 p2
  exact kk q _ _ (fun z hz => ⟨List.mem_append_left _ hz, va_up_ne f _ (fun e => g1 (by rw [← e]; exact hz))⟩) g1 ⟨List.mem_append_right _ (List.mem_singleton.mpr rfl), va_up_self f q _⟩ E H1 locs ls ⟨p1, p2⟩ p3 hl
theorem k_newal {x : Int} (tg N : Nat) (h1 : Cond.arrayClass .long ∈ lw_tbl) (hx : x = (N : Int)) (hN : N ≤ 60000) (hk : k + 1 ≤ R.cells) (hn : n + N ≤ R.slots) (d : decode cc pc = .ok (.newarray .long, 2))
    (kk : ∀ (q : Nat) (L' : List Nat) (f' : Nat → wE), (∀ z ∈ L, z ∈ L' ∧ f' z = f z) → q ∉ L → Cl L' f' q (tg, .inl (κ.2.2.1 1, N, .inr (.inl (fun _ => lI 0)))) → k_G θ κ cc nL ret own R Q L' f' (k + 1) (n + N) (pc + 2) lv (.ref q :: st)) : k_G θ κ cc nL ret own R Q L f k n pc lv (.int (iI x) :: st) := by
  intro E H locs ls hH hS hl
  refine va_newa (atype := .long) (ty := .long) (N' := N) (a0 := (N, .inr (.inl (fun _ => lI 0)))) E.1 E.2.1 (E.word h1 rfl) rfl E.K hH.1 hH.2 hS (fun q hq => Nat.le_trans E.2.2.2.2.2.2.1 hq) (fun cA => rfl) (by rw [hx, iI_nI]; exact nI_pos (by omega)) (iI_cl hx (by omega)) (by show N * 8 ≤ 536870912; omega) hk hn d (fun q cA H1 p0 p1 p2 p3 => ?_)
  have e : cA = κ.2.2.1 1 := by
    have e1 := va_nm_long (p0.2 4 (cA, .long) rfl).2
    have e2 := va_nm_long (E.K.2 1 (κ.2.2.1 1, .long) rfl).2
    exact Option.some.inj (e1.symm.trans e2)
  subst e
  obtain ⟨g1, g2⟩ := k_push tg p2
  rw [g2] at p1 p2
  exact kk q _ _ (fun z hz => ⟨List.mem_append_left _ hz, va_up_ne f _ (fun e => g1 (by rw [← e]; exact hz))⟩) g1 ⟨List.mem_append_right _ (List.mem_singleton.mpr rfl), va_up_self f q _⟩ E H1 locs ls ⟨p1, p2⟩ p3 hl
theorem k_newaz {x : Int} (tg N : Nat) (h1 : Cond.arrayClass .boolean ∈ lw_tbl) (hx : x = (N : Int)) (hN : N ≤ 60000) (hk : k + 1 ≤ R.cells) (hn : n + N ≤ R.slots) (d : decode cc pc = .ok (.newarray .boolean, 2))
    (kk : ∀ (q : Nat) (L' : List Nat) (f' : Nat → wE), (∀ z ∈ L, z ∈ L' ∧ f' z = f z) → q ∉ L → Cl L' f' q (tg, .inl (κ.2.2.1 2, N, .inl (fun _ => iI (bI false)))) → k_G θ κ cc nL ret own R Q L' f' (k + 1) (n + N) (pc + 2) lv (.ref q :: st)) : k_G θ κ cc nL ret own R Q L f k n pc lv (.int (iI x) :: st) := by
  intro E H locs ls hH hS hl
  refine va_newa (atype := .boolean) (ty := .boolean) (N' := N) (a0 := (N, .inl (fun _ => iI (bI false)))) E.1 E.2.1 (E.word h1 rfl) rfl E.K hH.1 hH.2 hS (fun q hq => Nat.le_trans E.2.2.2.2.2.2.1 hq) (fun cA => rfl) (by rw [hx, iI_nI]; exact nI_pos (by omega)) (iI_cl hx (by omega)) (by show N * 1 ≤ 536870912; omega) hk hn d (fun q cA H1 p0 p1 p2 p3 => ?_)
  have e : cA = κ.2.2.1 2 := by
    have e1 := va_nm_boolean (p0.2 4 (cA, .boolean) rfl).2
    have e2 := va_nm_boolean (E.K.2 2 (κ.2.2.1 2, .boolean) rfl).2
    exact Option.some.inj (e1.symm.trans e2)
  subst e
  obtain ⟨g1, g2⟩ := k_push tg p2
  rw [g2] at p1 p2
  exact kk q _ _ (fun z hz => ⟨List.mem_append_left _ hz, va_up_ne f _ (fun e => g1 (by rw [← e]; exact hz))⟩) g1 ⟨List.mem_append_right _ (List.mem_singleton.mpr rfl), va_up_self f q _⟩ E H1 locs ls ⟨p1, p2⟩ p3 hl
theorem k_newq {x : Int} {i : Nat} (tg N : Nat) (h1 : Cond.classLink own i "java/lang/Object" ∈ lw_tbl) (hx : x = (N : Int)) (hN : N ≤ 60000) (hk : k + 1 ≤ R.cells) (hn : n + N ≤ R.slots) (d : decode cc pc = .ok (.anewarray i, 3))
    (kk : ∀ (q : Nat) (L' : List Nat) (f' : Nat → wE), (∀ z ∈ L, z ∈ L' ∧ f' z = f z) → q ∉ L → Cl L' f' q (tg, .inl (κ.2.2.1 3, N, .inr (.inr (.inr (.inr (fun _ => none)))))) → k_G θ κ cc nL ret own R Q L' f' (k + 1) (n + N) (pc + 3) lv (.ref q :: st)) : k_G θ κ cc nL ret own R Q L f k n pc lv (.int (iI x) :: st) := by
  intro E H locs ls hH hS hl
  refine va_newq (N' := N) E.1 E.2.1 E.2.2.2.1 (E.word h1 rfl) E.2.2.2.2.1.2.2.2.1 E.K hH.1 hH.2 hS (fun q hq => Nat.le_trans E.2.2.2.2.2.2.1 hq) (by rw [hx, iI_nI]; exact nI_pos (by omega)) (iI_cl hx (by omega)) (by omega) hk hn d (fun q cA H1 p0 p1 p2 p3 => ?_)
  have e : cA = κ.2.2.1 3 := by
    have e1 := va_nmO (p0.2 4 (cA, .object "java/lang/Object") rfl).2 rfl
    have e2 := va_nmO (E.K.2 3 (κ.2.2.1 3, .object "java/lang/Object") rfl).2 rfl
    exact Option.some.inj (e1.symm.trans e2)
  subst e
  obtain ⟨g1, g2⟩ := k_push tg p2
  rw [g2] at p1 p2
  exact kk q _ _ (fun z hz => ⟨List.mem_append_left _ hz, va_up_ne f _ (fun e => g1 (by rw [← e]; exact hz))⟩) g1 ⟨List.mem_append_right _ (List.mem_singleton.mpr rfl), va_up_self f q _⟩ E H1 locs ls ⟨p1, p2⟩ p3 hl
theorem k_castS {nm : String} {T : u_T} {N ci i : Nat} {fs : List Value} (h1 : Cond.classLink own i nm ∈ lw_tbl) (hc : Cl L f a (tg, .inr (ci, fs))) (hci : vwCl[ci]? = some (nm, T, N)) (d : decode cc pc = .ok (.checkcast i, 3)) (kk : k_G θ κ cc nL ret own R Q L f k n (pc + 3) lv (.ref a :: st)) : k_G θ κ cc nL ret own R Q L f k n pc lv (.ref a :: st) := by
  intro E H locs ls hH hS hl
  obtain ⟨q0, hq0⟩ := k_pos hc
  exact va_castS E.1 E.2.1 E.2.2.2.1 (E.word h1 rfl) (E.K.1 ci _ hci).2 (va_recv E.K hH.1 hci hq0) d (kk E H locs ls hH hS hl)
end Memory
end
section
/-! ===== calls and ends ===== -/
def k_ro (L : List Nat) (f : Nat → wE) (w : Value) : Option Value → List Nat → (Nat → wE) → Prop := fun v L' f' => v = some w ∧ L' = L ∧ f' = f
def k_rn (p : Value → List Nat → (Nat → wE) → Prop) : Option Value → List Nat → (Nat → wE) → Prop := fun v L' f' => ∃ w, v = some w ∧ p w L' f'
def k_ru (p : List Nat → (Nat → wE) → Prop) : Option Value → List Nat → (Nat → wE) → Prop := fun v L' f' => v = none ∧ p L' f'
/-- what a call links -/
def k_wB (own : String) (idx : Nat) (y : MethodName) (bytes : ByteArray) (maxL : Nat) (ret : Option FieldType) (nA : Nat) : Prop :=
  (Cond.methodLink own idx y ∈ lw_tbl ∧ Cond.initialized y.cls ∈ lw_tbl ∧ Cond.code y bytes maxL ret ∈ lw_tbl) ∧ (y.cls ≠ "java/lang/invoke/MethodHandle" ∧ y.cls ≠ "java/lang/invoke/VarHandle") ∧ (parseMethodDescriptor y.desc).map (fun d => d.parameters.length) = some nA
def k_wBN (own : String) (idx : Nat) (y : MethodName) (host : String) (bytes : ByteArray) (maxL : Nat) (ret : Option FieldType) (nA : Nat) : Prop :=
  (Cond.methodLinkNest own idx y host ∈ lw_tbl ∧ Cond.initialized y.cls ∈ lw_tbl ∧ Cond.code y bytes maxL ret ∈ lw_tbl) ∧ (y.cls ≠ "java/lang/invoke/MethodHandle" ∧ y.cls ≠ "java/lang/invoke/VarHandle") ∧ (parseMethodDescriptor y.desc).map (fun d => d.parameters.length) = some nA
def k_rm (d mc ms : Nat) : Room := { frames := d, cells := mc, slots := ms, locals := 30 * d }
/-- the contract: from the pool (L, f), with As for arguments, method y comes back with post -/
def k_M (l : Launch) (κ : Kx) (y : MethodName) (bytes : ByteArray) (maxL : Nat) (ret : Option FieldType) (d mc ms : Nat) (As : List Value) (L : List Nat) (f : Nat → wE) (post : Option Value → List Nat → (Nat → wE) → Prop) : Prop :=
  Met l y [Cond.code y bytes maxL ret] (k_rm d mc ms) (va_Pc As (k_I κ L f)) (k_Q κ post) mc ms (kA κ)
def k_C (θ : Kt) (κ : Kx) (cc : ByteArray) (nL : Nat) (ret : Option FieldType) (own : String) (R : Room) (L : List Nat) (f : Nat → wE) (mc ms pc : Nat) (lv : List (Nat × Value)) (st0 st : List Value) (post : Option Value → List Nat → (Nat → wE) → Prop) : Prop :=
  k_E θ κ cc nL ret own → ∀ (H : Heap) (locs : List Loc) (ls : Array Slot) (k n : Nat), k_H κ L f H → va_S (kA κ) θ.2.2.2.1.heap H locs → lv_has ls nL lv → (k + mc ≤ R.cells ∧ n + ms ≤ R.slots) →
    ∃ a : Array Value, va_Run θ.1 θ.2.1 θ.2.2.1 R θ.2.2.2.1 θ.2.2.2.2.1 θ.2.2.2.2.2.1 θ.2.2.2.2.2.2.1 θ.2.2.2.2.2.2.2.1 θ.2.2.2.2.2.2.2.2 H locs k n mc ms (F0 θ.2.2.2.2.1 pc ls st0) st (k_Q κ post a) (kA κ)
section Calls
variable {θ : Kt} {κ : Kx} {cc : ByteArray} {nL : Nat} {ret : Option FieldType} {own : String} {R : Room} {Q : State → Prop} {L : List Nat} {f : Nat → wE} {k n pc : Nat} {lv : List (Nat × Value)} {st st0 : List Value}
variable {y : MethodName} {bytes : ByteArray} {maxL d mc ms idx nA : Nat} {ret' : Option FieldType} {post : Option Value → List Nat → (Nat → wE) → Prop} {As : List Value} {b tg ci : Nat} {fs : List Value} {C : String} {T : u_T} {N : Nat}
theorem k_E.start (E : k_E θ κ cc nL ret own) {H : Heap} {locs : List Loc} (hH : k_H κ L f H) (hS : va_S (kA κ) θ.2.2.2.1.heap H locs) {U : State} (hU : U.heap = H) (hW : θ.2.2.2.1.WarmedH U.vm) : k_I κ L f U := by
  obtain ⟨-, -, -, -, hV, hZ, hb, -⟩ := E
  subst hU
  exact ⟨hH, k_V.warm hW hV, k_Z.moved hW.alike (hZ.kept hS.2.1), Nat.le_trans hb hS.1⟩
theorem k_E.fix (E : k_E θ κ cc nL ret own) : CallFix θ.1 θ.2.2.2.2.1 θ.2.2.2.2.2.2.2.2 cc nL θ.2.2.2.1 θ.2.2.2.2.2.1 [] own := ⟨E.1, E.2.1, E.2.2.1, E.2.2.2.1, fun _ h => nomatch h⟩
theorem k_wB.cb (w : k_wB own idx y bytes maxL ret' nA) (E : k_E θ κ cc nL ret own) (hR : d + 1 ≤ R.frames ∧ 8 + (maxL + 11) + 30 * d ≤ R.locals) : CallB R θ.2.2.2.1 θ.2.2.2.2.2.1 own idx y bytes maxL ret' [Cond.code y bytes maxL ret'] (k_rm d mc ms) mc ms nA := by
  obtain ⟨⟨w1, w2, w3⟩, w4, w5⟩ := w
  have hcode := E.word w3 rfl
  refine ⟨rfl, rfl, hR.1, hR.2, fun w hw a' U hW => ?_, List.mem_singleton.mpr rfl, hcode, E.word w2 rfl, w4, fun sig h => ?_, E.word w1 rfl⟩
  · rw [List.mem_singleton.mp hw]
    exact word_at hW (Or.inl rfl) hcode
  · rw [h] at w5
    exact (Option.some.inj w5).symm
theorem k_wBN.cb {host : String} (w : k_wBN own idx y host bytes maxL ret' nA) (E : k_E θ κ cc nL ret own) (hR : d + 1 ≤ R.frames ∧ 8 + (maxL + 11) + 30 * d ≤ R.locals) : va_CN R θ.2.2.2.1 θ.2.2.2.2.2.1 own idx y host bytes maxL ret' [Cond.code y bytes maxL ret'] (k_rm d mc ms) mc ms nA := by
  obtain ⟨⟨w1, w2, w3⟩, w4, w5⟩ := w
  have hcode := E.word w3 rfl
  refine ⟨⟨rfl, rfl, hR.1, hR.2, fun w hw a' U hW => ?_, List.mem_singleton.mpr rfl⟩, hcode, E.word w2 rfl, w4, fun sig h => ?_, E.word w1 rfl⟩
  · rw [List.mem_singleton.mp hw]
    exact word_at hW (Or.inl rfl) hcode
  · rw [h] at w5
    exact (Option.some.inj w5).symm
theorem k_recv (E : k_E θ κ cc nL ret own) {H : Heap} (hH : k_H κ L f H) (hc : Cl L f b (tg, .inr (ci, fs))) (hci : vwCl[ci]? = some (C, T, N)) : ∃ cell : Cell, H[b]? = some cell ∧ cell.vm.isStatics = false ∧ θ.2.2.2.1.vm.findClass C = some cell.cls := by
  obtain ⟨q0, hq0⟩ := k_pos hc
  exact va_recv E.K hH.1 hci hq0
theorem k_runV (M : k_M θ.2.1 κ y bytes maxL ret' d mc ms (.ref b :: As) L f post) (w : k_wB own idx y bytes maxL ret' nA) (w2 : Cond.instanceMethod y ∈ lw_tbl ∧ Cond.selects C y y ∈ lw_tbl) (hn : As.length = nA) (hst : st0 = As.reverse ++ .ref b :: st) (hc : Cl L f b (tg, .inr (ci, fs))) (hci : vwCl[ci]? = some (C, T, N)) (hR : d + 1 ≤ R.frames ∧ 8 + (maxL + 11) + 30 * d ≤ R.locals) (hcat : (st.map fun v => v.category).sum ≤ 8) (dc : decode cc pc = .ok (.invokevirtual idx, 3)) : k_C θ κ cc nL ret own R L f mc ms pc lv st0 st post := by
  intro E H locs ls k n hH hS hl hf
  exact ⟨_, va_runV (C := C) E.fix M ⟨w.cb E hR, E.word w2.1 rfl, E.word w2.2 rfl⟩ ⟨k_blind, k_recv E hH hc hci, fun U hU hW => ⟨rfl, E.start hH hS hU hW⟩⟩ rfl hn hl.1 hst (lv_room hcat) dc hf⟩
theorem k_runS (M : k_M θ.2.1 κ y bytes maxL ret' d mc ms As L f post) (w : k_wB own idx y bytes maxL ret' nA) (w2 : Cond.static y ∈ lw_tbl) (hn : As.length = nA) (hst : st0 = As.reverse ++ st) (hR : d + 1 ≤ R.frames ∧ 8 + (maxL + 11) + 30 * d ≤ R.locals) (hcat : (st.map fun v => v.category).sum ≤ 8) (dc : decode cc pc = .ok (.invokestatic idx, 3)) : k_C θ κ cc nL ret own R L f mc ms pc lv st0 st post := by
  intro E H locs ls k n hH hS hl hf
  exact ⟨_, va_runS E.fix M ⟨w.cb E hR, E.word w2 rfl⟩ ⟨k_blind, fun U hU hW => ⟨rfl, E.start hH hS hU hW⟩⟩ rfl hn hl.1 hst (lv_room hcat) dc hf⟩
theorem k_runI (M : k_M θ.2.1 κ y bytes maxL none d mc ms (.ref b :: As) L f post) (w : k_wB own idx y bytes maxL none nA) (w2 : Cond.instanceMethod y ∈ lw_tbl) (hy : y.name = "<init>") (hn : As.length = nA) (hst : st0 = As.reverse ++ .ref b :: st) (hR : d + 1 ≤ R.frames ∧ 8 + (maxL + 11) + 30 * d ≤ R.locals) (hcat : (st.map fun v => v.category).sum ≤ 8) (dc : decode cc pc = .ok (.invokespecial idx, 3)) : k_C θ κ cc nL ret own R L f mc ms pc lv st0 st post := by
  intro E H locs ls k n hH hS hl hf
  exact ⟨_, va_runI E.fix M ⟨w.cb E hR, hy, E.word w2 rfl⟩ ⟨k_blind, fun U hU hW => ⟨rfl, E.start hH hS hU hW⟩⟩ rfl hn hl.1 hst (lv_room hcat) dc hf⟩
theorem k_runSN {host : String} (M : k_M θ.2.1 κ y bytes maxL ret' d mc ms As L f post) (w : k_wBN own idx y host bytes maxL ret' nA) (w2 : Cond.static y ∈ lw_tbl) (hn : As.length = nA) (hst : st0 = As.reverse ++ st) (hR : d + 1 ≤ R.frames ∧ 8 + (maxL + 11) + 30 * d ≤ R.locals) (hcat : (st.map fun v => v.category).sum ≤ 8) (dc : decode cc pc = .ok (.invokestatic idx, 3)) : k_C θ κ cc nL ret own R L f mc ms pc lv st0 st post := by
  intro E H locs ls k n hH hS hl hf
  exact ⟨_, va_runSN (host := host) E.fix M ⟨w.cb E hR, E.word w2 rfl, trivial⟩ ⟨k_blind, fun U hU hW => ⟨rfl, E.start hH hS hU hW⟩⟩ rfl hn hl.1 hst (lv_room hcat) dc hf⟩
theorem k_runIN {host : String} (M : k_M θ.2.1 κ y bytes maxL none d mc ms (.ref b :: As) L f post) (w : k_wBN own idx y host bytes maxL none nA) (w2 : Cond.instanceMethod y ∈ lw_tbl) (hy : y.name = "<init>") (hn : As.length = nA) (hst : st0 = As.reverse ++ .ref b :: st) (hR : d + 1 ≤ R.frames ∧ 8 + (maxL + 11) + 30 * d ≤ R.locals) (hcat : (st.map fun v => v.category).sum ≤ 8) (dc : decode cc pc = .ok (.invokespecial idx, 3)) : k_C θ κ cc nL ret own R L f mc ms pc lv st0 st post := by
  intro E H locs ls k n hH hS hl hf
  exact ⟨_, va_runIN (host := host) E.fix M ⟨w.cb E hR, hy, E.word w2 rfl⟩ ⟨k_blind, fun U hU hW => ⟨rfl, E.start hH hS hU hW⟩⟩ rfl hn hl.1 hst (lv_room hcat) dc hf⟩
theorem k_use (hr : k_C θ κ cc nL ret own R L f mc ms pc lv st0 st post) (hf : k + mc ≤ R.cells ∧ n + ms ≤ R.slots) (kk : ∀ (v : Option Value) (L' : List Nat) (f' : Nat → wE), post v L' f' → k_G θ κ cc nL ret own R Q L' f' (k + mc) (n + ms) (pc + 3) lv (v.toList ++ st)) : k_G θ κ cc nL ret own R Q L f k n pc lv st0 := by
  intro E H locs ls hH hS hl
  obtain ⟨a, hrun⟩ := hr E H locs ls k n hH hS hl hf
  intro T hT X
  obtain ⟨v, s0, t, T', L9, h0, X', hL, e1, e2, ⟨⟨v', L', f', hv, hp, hH'⟩, hz, hkp⟩, stp⟩ := hrun T hT X
  cases hv
  rw [h0] at hz hkp
  have hS' : va_S (kA κ) θ.2.2.2.1.heap T'.heap (locs ++ L9) := ⟨Nat.le_trans hS.1 (by rw [e1]; exact hz), fun q h1 h2 => by rw [e1, hkp q (Nat.lt_of_lt_of_le h1 hS.1) h2]; exact hS.2.1 q h1 h2, fun q hq => by
    rcases List.mem_append.mp hq with h | h
    · exact hS.2.2 q h
    · exact hL q h⟩
  obtain ⟨t2, a1, b1⟩ := kk v L' f' hp E T'.heap (locs ++ L9) ls (by rw [e1]; exact hH') hS' hl T' rfl X'
  exact ⟨t2, stp t2 a1, b1⟩
/-- a call that only reads: its answer is the value w -/
theorem k_useR {w : Value} (hr : k_C θ κ cc nL ret own R L f 0 0 pc lv st0 st (k_ro L f w)) (hf : k ≤ R.cells ∧ n ≤ R.slots) (kk : k_G θ κ cc nL ret own R Q L f k n (pc + 3) lv (w :: st)) : k_G θ κ cc nL ret own R Q L f k n pc lv st0 := by
  refine k_use hr hf (fun v L' f' h => ?_)
  obtain ⟨rfl, rfl, rfl⟩ := h
  exact kk
theorem k_useV {p : Value → List Nat → (Nat → wE) → Prop} (hr : k_C θ κ cc nL ret own R L f mc ms pc lv st0 st (k_rn p)) (hf : k + mc ≤ R.cells ∧ n + ms ≤ R.slots) (kk : ∀ (w : Value) (L' : List Nat) (f' : Nat → wE), p w L' f' → k_G θ κ cc nL ret own R Q L' f' (k + mc) (n + ms) (pc + 3) lv (w :: st)) : k_G θ κ cc nL ret own R Q L f k n pc lv st0 := by
  refine k_use hr hf (fun v L' f' h => ?_)
  obtain ⟨w, rfl, hp⟩ := h
  exact kk w L' f' hp
theorem k_useU {p : List Nat → (Nat → wE) → Prop} (hr : k_C θ κ cc nL ret own R L f mc ms pc lv st0 st (k_ru p)) (hf : k + mc ≤ R.cells ∧ n + ms ≤ R.slots) (kk : ∀ (L' : List Nat) (f' : Nat → wE), p L' f' → k_G θ κ cc nL ret own R Q L' f' (k + mc) (n + ms) (pc + 3) lv st) : k_G θ κ cc nL ret own R Q L f k n pc lv st0 := by
  refine k_use hr hf (fun v L' f' h => ?_)
  obtain ⟨rfl, hp⟩ := h
  exact kk L' f' hp
theorem k_objInit {a i : Nat} (h1 : Cond.methodLink own i Lib.objectInit ∈ lw_tbl) (h2 : Cond.instanceMethod Lib.objectInit ∈ lw_tbl) (h3 : Cond.code Lib.objectInit ⟨#[0xb1]⟩ 1 none ∈ lw_tbl) (hf : 1 ≤ R.frames) (hlo : (st.map fun v => v.category).sum + 12 ≤ R.locals) (dc : decode cc pc = .ok (.invokespecial i, 3)) (kk : k_G θ κ cc nL ret own R Q L f k n (pc + 3) lv st) : k_G θ κ cc nL ret own R Q L f k n pc lv (.ref a :: st) :=
  fun E H locs ls hH hS hl => W.objInit E.1 E.2.1 E.2.2.2.1 (E.word h1 rfl) (E.word h2 rfl) (E.word h3 rfl) rfl (by rw [E.2.2.1]; exact hl.1) rfl dc hf (by show 2 * 0 + _ + 12 ≤ _; omega) (kk E H locs ls hH hS hl)
end Calls
section Math
variable {θ : Kt} {κ : Kx} {cc : ByteArray} {nL : Nat} {ret : Option FieldType} {own : String} {R : Room} {Q : State → Prop} {L : List Nat} {f : Nat → wE} {k n pc : Nat} {lv : List (Nat × Value)} {st : List Value}
theorem k_max {x y : Int} {i : Nat} (h1 : Cond.methodLink own i Lib.Math.max.name ∈ lw_tbl) (h2 : Cond.static Lib.Math.max.name ∈ lw_tbl) (h3 : Cond.initialized "java/lang/Math" ∈ lw_tbl) (h4 : Cond.code Lib.Math.max.name Lib.Math.max.code 2 (some .int) ∈ lw_tbl) (hx : inI x) (hy : inI y) (hf : 1 ≤ R.frames) (hlo : (st.map fun v => v.category).sum + 13 ≤ R.locals) (hk : k ≤ R.cells ∧ n ≤ R.slots) (dc : decode cc pc = .ok (.invokestatic i, 3)) (kk : k_G θ κ cc nL ret own R Q L f k n (pc + 3) lv (.int (iI (max x y)) :: st)) : k_G θ κ cc nL ret own R Q L f k n pc lv (.int (iI y) :: .int (iI x) :: st) :=
  fun E H locs ls hH hS hl => va_mmax E.1 E.2.1 (by rw [E.2.2.1]; exact hl.1.symm) E.2.2.2.1 (E.word h1 rfl) (E.word h2 rfl) (E.word h3 rfl) (E.word h4 rfl) hf hlo hk.1 hk.2 dc (by rw [iI_mx hx hy]; exact kk E H locs ls hH hS hl)
theorem k_min {x y : Int} {i : Nat} (h1 : Cond.methodLink own i Lib.Math.min.name ∈ lw_tbl) (h2 : Cond.static Lib.Math.min.name ∈ lw_tbl) (h3 : Cond.initialized "java/lang/Math" ∈ lw_tbl) (h4 : Cond.code Lib.Math.min.name Lib.Math.min.code 2 (some .int) ∈ lw_tbl) (hx : inI x) (hy : inI y) (hf : 1 ≤ R.frames) (hlo : (st.map fun v => v.category).sum + 13 ≤ R.locals) (hk : k ≤ R.cells ∧ n ≤ R.slots) (dc : decode cc pc = .ok (.invokestatic i, 3)) (kk : k_G θ κ cc nL ret own R Q L f k n (pc + 3) lv (.int (iI (min x y)) :: st)) : k_G θ κ cc nL ret own R Q L f k n pc lv (.int (iI y) :: .int (iI x) :: st) :=
  fun E H locs ls hH hS hl => va_mmin E.1 E.2.1 (by rw [E.2.2.1]; exact hl.1.symm) E.2.2.2.1 (E.word h1 rfl) (E.word h2 rfl) (E.word h3 rfl) (E.word h4 rfl) hf hlo hk.1 hk.2 dc (by rw [iI_mn hx hy]; exact kk E H locs ls hH hS hl)
theorem k_abs {x : Int} {i : Nat} (h1 : Cond.methodLink own i Lib.Math.abs.name ∈ lw_tbl) (h2 : Cond.static Lib.Math.abs.name ∈ lw_tbl) (h3 : Cond.initialized "java/lang/Math" ∈ lw_tbl) (h4 : Cond.code Lib.Math.abs.name Lib.Math.abs.code 1 (some .int) ∈ lw_tbl) (hx : inI x) (hf : 1 ≤ R.frames) (hlo : (st.map fun v => v.category).sum + 13 ≤ R.locals) (hk : k ≤ R.cells ∧ n ≤ R.slots) (dc : decode cc pc = .ok (.invokestatic i, 3)) (kk : k_G θ κ cc nL ret own R Q L f k n (pc + 3) lv (.int (iI (x.natAbs : Int)) :: st)) : k_G θ κ cc nL ret own R Q L f k n pc lv (.int (iI x) :: st) :=
  fun E H locs ls hH hS hl => va_mabs E.1 E.2.1 (by rw [E.2.2.1]; exact hl.1.symm) E.2.2.2.1 (E.word h1 rfl) (E.word h2 rfl) (E.word h3 rfl) (E.word h4 rfl) hf hlo hk.1 hk.2 dc (by rw [iI_ab hx]; exact kk E H locs ls hH hS hl)
theorem k_maxl {x y : Int} {i : Nat} (h1 : Cond.methodLink own i Lib.MathLoose.max_long.x ∈ lw_tbl) (h2 : Cond.static Lib.MathLoose.max_long.x ∈ lw_tbl) (h3 : Cond.initialized "java/lang/Math" ∈ lw_tbl) (h4 : Cond.code Lib.MathLoose.max_long.x Lib.MathLoose.max_long.code 4 (some .long) ∈ lw_tbl) (hx : inL x) (hy : inL y) (hf : 1 ≤ R.frames) (hlo : (st.map fun v => v.category).sum + 15 ≤ R.locals) (hk : k ≤ R.cells ∧ n ≤ R.slots) (dc : decode cc pc = .ok (.invokestatic i, 3)) (kk : k_G θ κ cc nL ret own R Q L f k n (pc + 3) lv (.long (lI (max x y)) :: st)) : k_G θ κ cc nL ret own R Q L f k n pc lv (.long (lI y) :: .long (lI x) :: st) :=
  fun E H locs ls hH hS hl => va_mmax_long E.1 E.2.1 (by rw [E.2.2.1]; exact hl.1.symm) E.2.2.2.1 (E.word h1 rfl) (E.word h2 rfl) (E.word h3 rfl) (E.word h4 rfl) hf hlo hk.1 hk.2 dc (by rw [lI_mx hx hy]; exact kk E H locs ls hH hS hl)
theorem k_absl {x : Int} {i : Nat} (h1 : Cond.methodLink own i Lib.MathLoose.abs_long.x ∈ lw_tbl) (h2 : Cond.static Lib.MathLoose.abs_long.x ∈ lw_tbl) (h3 : Cond.initialized "java/lang/Math" ∈ lw_tbl) (h4 : Cond.code Lib.MathLoose.abs_long.x Lib.MathLoose.abs_long.code 2 (some .long) ∈ lw_tbl) (hx : inL x) (hf : 1 ≤ R.frames) (hlo : (st.map fun v => v.category).sum + 13 ≤ R.locals) (hk : k ≤ R.cells ∧ n ≤ R.slots) (dc : decode cc pc = .ok (.invokestatic i, 3)) (kk : k_G θ κ cc nL ret own R Q L f k n (pc + 3) lv (.long (lI (x.natAbs : Int)) :: st)) : k_G θ κ cc nL ret own R Q L f k n pc lv (.long (lI x) :: st) :=
  fun E H locs ls hH hS hl => va_mabs_long E.1 E.2.1 (by rw [E.2.2.1]; exact hl.1.symm) E.2.2.2.1 (E.word h1 rfl) (E.word h2 rfl) (E.word h3 rfl) (E.word h4 rfl) hf hlo hk.1 hk.2 dc (by rw [lI_ab hx]; exact kk E H locs ls hH hS hl)
end Math
section Statics
variable {θ : Kt} {κ : Kx} {cc : ByteArray} {nL : Nat} {ret : Option FieldType} {own : String} {R : Room} {Q : State → Prop} {L : List Nat} {f : Nat → wE} {k n pc : Nat} {lv : List (Nat × Value)} {st : List Value}
/-- a static array of ours: place j of the list -/
def k_Zs (κ : Kx) (j : Nat) (C nm : String) (l : List Int) : Prop := l.length = 6 ∧ ∀ (U : State) (H : Heap), k_Z κ U H → va_Z C nm "[I" (.ref (κ.2.2.2 j)) (kA κ) U H ∧ va_T .int (κ.2.2.2 j) 6 (k_arr l) (kA κ) U H
theorem k_Zs0 {κ : Kx} : k_Zs κ 0 "TideTable" "TWELFTHS_OF_SIXTH" [1, 2, 3, 3, 2, 1] := ⟨rfl, fun _ _ h => h.1⟩
theorem k_Zs1 {κ : Kx} : k_Zs κ 1 "TideTable" "TWELFTHS_AHEAD_OF_SIXTH" [0, 1, 3, 6, 9, 11] := ⟨rfl, fun _ _ h => h.2.1⟩
theorem k_Zs2 {κ : Kx} : k_Zs κ 2 "TideTableModel" "DONE" [0, 1, 3, 6, 9, 11] := ⟨rfl, fun _ _ h => h.2.2.1⟩
theorem k_Zs3 {κ : Kx} : k_Zs κ 3 "TideTableModel" "STEPS" [1, 2, 3, 3, 2, 1] := ⟨rfl, fun _ _ h => h.2.2.2.1⟩
theorem k_gets {C nm : String} {j i : Nat} {l : List Int} (hz : k_Zs κ j C nm l) (hq : Cond.fieldLink own i C nm "[I" ∈ lw_tbl) (dc : decode cc pc = .ok (.getstatic i, 3)) (kk : k_G θ κ cc nL ret own R Q L f k n (pc + 3) lv (.ref (κ.2.2.2 j) :: st)) : k_G θ κ cc nL ret own R Q L f k n pc lv st :=
  fun E H locs ls hH hS hl => va_gets E.1 E.2.1 (hz.2 _ _ E.2.2.2.2.2.1).1 hS E.2.2.2.1 (E.word hq rfl) (fun _ h => h) dc (kk E H locs ls hH hS hl)
theorem k_getsN {C nm host : String} {j i : Nat} {l : List Int} (hz : k_Zs κ j C nm l) (hq : Cond.fieldLinkNest own i C nm "[I" host ∈ lw_tbl) (dc : decode cc pc = .ok (.getstatic i, 3)) (kk : k_G θ κ cc nL ret own R Q L f k n (pc + 3) lv (.ref (κ.2.2.2 j) :: st)) : k_G θ κ cc nL ret own R Q L f k n pc lv st :=
  fun E H locs ls hH hS hl => va_getsN E.1 E.2.1 (hz.2 _ _ E.2.2.2.2.2.1).1 hS E.2.2.2.1 (E.word hq rfl) (fun _ h => h) dc (kk E H locs ls hH hS hl)
theorem k_ti {C nm : String} {j : Nat} {l : List Int} {x : Int} (hz : k_Zs κ j C nm l) (m : Nat) (hx : x = (m : Int)) (hm : m < 6) (dc : decode cc pc = .ok (.iaload, 1)) (kk : k_G θ κ cc nL ret own R Q L f k n (pc + 1) lv (.int (iI (l.getD m 0)) :: st)) : k_G θ κ cc nL ret own R Q L f k n pc lv (.int (iI x) :: .ref (κ.2.2.2 j) :: st) :=
  fun E H locs ls hH hS hl => va_ti E.1 E.2.1 (hz.2 _ _ E.2.2.2.2.2.1).2 hS (iI_in hx hm (by omega)) (by rw [iI_cl hx (by omega)]; rfl) dc (kk E H locs ls hH hS hl)
theorem k_tlen {C nm : String} {j : Nat} {l : List Int} (hz : k_Zs κ j C nm l) (dc : decode cc pc = .ok (.arraylength, 1)) (kk : k_G θ κ cc nL ret own R Q L f k n (pc + 1) lv (.int (iI 6) :: st)) : k_G θ κ cc nL ret own R Q L f k n pc lv (.ref (κ.2.2.2 j) :: st) :=
  fun E H locs ls hH hS hl => va_tlen E.1 E.2.1 (hz.2 _ _ E.2.2.2.2.2.1).2 hS (by decide) dc (kk E H locs ls hH hS hl)
end Statics
/-! ===== a method's head and its ends ===== -/
def k_MQ (θ : Kt) (κ : Kx) (post : Option Value → List Nat → (Nat → wE) → Prop) (mc ms : Nat) : State → Prop := MQ θ.2.2.2.2.2.2.1 (k_Q κ post) θ.2.2.2.2.2.1 θ.2.2.2.1 mc ms (kA κ)
theorem k_head {l : Launch} {κ : Kx} {y : MethodName} {cc : ByteArray} {nL : Nat} {ret : Option FieldType} {d mc ms : Nat} {As : List Value} {L : List Nat} {f : Nat → wE} {post : Option Value → List Nat → (Nat → wE) → Prop} (own : String) (lv : List (Nat × Value)) (ho : y.cls = own) (hy : plainName own = true) (hsl : (lg_sl As).length ≤ nL) (hlv : lv_args 0 As = lv)
    (body : ∀ θ : Kt, θ.2.1 = l → (y.name = "<init>" → θ.2.2.2.2.2.2.2.1.name = "<init>") → k_G θ κ cc nL ret own (k_rm d mc ms) (k_MQ θ κ post mc ms) L f 0 0 0 lv []) : k_M l κ y cc nL ret d mc ms As L f post := by
  subst ho
  refine Met.ofW (cc := cc) (maxL := nL) (ret := ret) hy rfl ?_
  intro p e s m args below meth c s₁ B hml hv
  obtain ⟨rfl, hH, hV, hZ, hb⟩ := hv
  have hE : k_E (p, l, e, s, m, As.toArray, below, meth, c) κ cc nL ret y.cls := ⟨B.exec, B.bytes, hml, findClass_of_methodNamed B.named, hV, hZ, hb, B.returns, B.notSynchronized⟩
  have hl := lv_entry As (n := nL) hsl
  rw [lg_entry_eq]
  rw [hlv] at hl
  exact body (p, l, e, s, m, As.toArray, below, meth, c) rfl (fun h => (name_of_methodNamed B.named B.method).1.trans h) hE s.heap [] _ hH va_S.rf hl
section Ends
variable {θ : Kt} {κ : Kx} {cc : ByteArray} {nL : Nat} {ret : Option FieldType} {own : String} {R : Room} {L : List Nat} {f : Nat → wE} {k n pc mc ms : Nat} {lv : List (Nat × Value)} {post : Option Value → List Nat → (Nat → wE) → Prop}
theorem k_iret {x : Int32} (d : decode cc pc = .ok (.ireturn, 1)) (hr : ret = some .int) (hk : k ≤ mc) (hn : n ≤ ms) (hp : post (some (.int x)) L f) : k_G θ κ cc nL ret own R (k_MQ θ κ post mc ms) L f k n pc lv [.int x] := by
  intro E H locs ls hH hS hl
  refine W.widen hk hn ?_
  exact W.iret E.1 E.2.1 (E.2.2.2.2.2.2.2.1.trans hr) (fun t ht hW => ⟨⟨_, L, f, rfl, hp, by rw [ht]; exact hH⟩, hS.F ht⟩) hS.2.2 d E.2.2.2.2.2.2.2.2
theorem k_zret {b : Bool} (d : decode cc pc = .ok (.ireturn, 1)) (hr : ret = some .boolean) (hk : k ≤ mc) (hn : n ≤ ms) (hp : post (some (.int (iI (bI b)))) L f) : k_G θ κ cc nL ret own R (k_MQ θ κ post mc ms) L f k n pc lv [.int (iI (bI b))] := by
  intro E H locs ls hH hS hl
  refine W.widen hk hn ?_
  exact W.zret E.1 E.2.1 (E.2.2.2.2.2.2.2.1.trans hr) (by cases b <;> rfl) (fun t ht hW => ⟨⟨_, L, f, rfl, hp, by rw [ht]; exact hH⟩, hS.F ht⟩) hS.2.2 d E.2.2.2.2.2.2.2.2
theorem k_lret {x : Int64} (d : decode cc pc = .ok (.lreturn, 1)) (hr : ret = some .long) (hk : k ≤ mc) (hn : n ≤ ms) (hp : post (some (.long x)) L f) : k_G θ κ cc nL ret own R (k_MQ θ κ post mc ms) L f k n pc lv [.long x] := by
  intro E H locs ls hH hS hl
  refine W.widen hk hn ?_
  exact W.lret E.1 E.2.1 (E.2.2.2.2.2.2.2.1.trans hr) (fun t ht hW => ⟨⟨_, L, f, rfl, hp, by rw [ht]; exact hH⟩, hS.F ht⟩) hS.2.2 d E.2.2.2.2.2.2.2.2
theorem k_vret (d : decode cc pc = .ok (.return_, 1)) (hr : ret = none) (hk : k ≤ mc) (hn : n ≤ ms) (hp : post none L f) : k_G θ κ cc nL ret own R (k_MQ θ κ post mc ms) L f k n pc lv [] := by
  intro E H locs ls hH hS hl
  refine W.widen hk hn ?_
  exact W.vret E.1 E.2.1 (E.2.2.2.2.2.2.2.1.trans hr) (fun t ht hW => ⟨⟨_, L, f, rfl, hp, by rw [ht]; exact hH⟩, hS.F ht⟩) hS.2.2 d E.2.2.2.2.2.2.2.2
theorem k_aret {x : Nat} {rt : FieldType} (d : decode cc pc = .ok (.areturn, 1)) (hr : ret = some rt) (hrt : (∃ n, rt = .object n) ∨ ∃ t, rt = .array t) (hk : k ≤ mc) (hn : n ≤ ms) (hp : post (some (.ref x)) L f) : k_G θ κ cc nL ret own R (k_MQ θ κ post mc ms) L f k n pc lv [.ref x] := by
  intro E H locs ls hH hS hl
  refine W.widen hk hn ?_
  exact W.aret E.1 E.2.1 (E.2.2.2.2.2.2.2.1.trans hr) hrt (Or.inr ⟨x, rfl⟩) (fun t ht hW => ⟨⟨_, L, f, rfl, hp, by rw [ht]; exact hH⟩, hS.F ht⟩) hS.2.2 d E.2.2.2.2.2.2.2.2
end Ends
/-! ===== small things for the walks ===== -/
theorem inL_mk {z : Int} (h1 : -9223372036854775808 ≤ z) (h2 : z < 9223372036854775808) : inL z := ⟨h1, h2⟩
theorem k_nar_b (b : Bool) : narrow .boolean (.int (iI (bI b))) = .int (iI (bI b)) := by cases b <;> rfl
theorem k_fit_b (b : Bool) : fits .boolean (.int (iI (bI b))) = true := by cases b <;> rfl
theorem k_oki {L : List Nat} {f : Nat → wE} {a b : Int} (h : a = b) : k_ro L f (.int (iI b)) (some (.int (iI a))) L f := ⟨by rw [h], rfl, rfl⟩
theorem k_okb {L : List Nat} {f : Nat → wE} {a b : Bool} (h : a = b) : k_ro L f (.int (iI (bI b))) (some (.int (iI (bI a)))) L f := ⟨by rw [h], rfl, rfl⟩
theorem k_okl {L : List Nat} {f : Nat → wE} {a b : Int} (h : a = b) : k_ro L f (.long (lI b)) (some (.long (lI a))) L f := ⟨by rw [h], rfl, rfl⟩
theorem k_fr.put {L : List Nat} {f f' : Nat → wE} {a t : Nat} {x : va_E} (hne : ∀ z, z ≠ a → f' z = f z) (ha : Cl L f a (t, x)) : k_fr (fun u => u == t) L f L f' := fun z hz => ⟨hz, fun h => hne z (fun e => by subst e; rw [ha.2] at h; simp at h)⟩
theorem k_fr.new {L L' : List Nat} {f f' : Nat → wE} (hz : ∀ z ∈ L, z ∈ L' ∧ f' z = f z) : k_fr (fun _ => false) L f L' f' := fun z h => ⟨(hz z h).1, fun _ => (hz z h).2⟩
theorem k_fr.refl {S : Nat → Bool} {L : List Nat} {f : Nat → wE} : k_fr S L f L f := fun z hz => ⟨hz, fun _ => rfl⟩
theorem k_fr.trans {S1 S2 S : Nat → Bool} {L L1 L2 : List Nat} {f f1 f2 : Nat → wE} (h1 : k_fr S1 L f L1 f1) (h2 : k_fr S2 L1 f1 L2 f2) (hS1 : ∀ t, S t = false → S1 t = false) (hS2 : ∀ t, S t = false → S2 t = false) : k_fr S L f L2 f2 := by
  intro z hz
  obtain ⟨a1, b1⟩ := h1 z hz
  obtain ⟨a2, b2⟩ := h2 z a1
  refine ⟨a2, fun h => ?_⟩
  have e1 := b1 (hS1 _ h)
  have e2 := b2 (by rw [e1]; exact hS2 _ h)
  exact e2.trans e1
theorem k_fr.mono {S1 S : Nat → Bool} {L L1 : List Nat} {f f1 : Nat → wE} (h1 : k_fr S1 L f L1 f1) (hS1 : ∀ t, S t = false → S1 t = false) : k_fr S L f L1 f1 := fun z hz => ⟨(h1 z hz).1, fun h => (h1 z hz).2 (hS1 _ h)⟩
end
section
theorem q_0 : Cond.selects RX7 yX7_sumOfDifferences yX7_sumOfDifferences ∈ lw_tbl := List.mem_of_getElem? (i := 0) (by decide +kernel)
theorem q_1 : Cond.selects RX7 yX7_differenceOf yX7_differenceOf ∈ lw_tbl := List.mem_of_getElem? (i := 1) (by decide +kernel)
theorem q_2 : Cond.selects RX7 yX7_currentTable yX7_currentTable ∈ lw_tbl := List.mem_of_getElem? (i := 2) (by decide +kernel)
theorem q_3 : Cond.selects RX3 yX3_findWaters yX3_findWaters ∈ lw_tbl := List.mem_of_getElem? (i := 3) (by decide +kernel)
theorem q_4 : Cond.selects RX3 yX3_noteWater yX3_noteWater ∈ lw_tbl := List.mem_of_getElem? (i := 4) (by decide +kernel)
theorem q_5 : Cond.selects RX7 yX7_numberOf yX7_numberOf ∈ lw_tbl := List.mem_of_getElem? (i := 5) (by decide +kernel)
theorem q_6 : Cond.selects RX3 yX3_greatestHeight yX3_greatestHeight ∈ lw_tbl := List.mem_of_getElem? (i := 6) (by decide +kernel)
theorem q_7 : Cond.selects RX3 yX3_leastHeight yX3_leastHeight ∈ lw_tbl := List.mem_of_getElem? (i := 7) (by decide +kernel)
theorem q_8 : Cond.selects RX3 yX3_meanOfWaters yX3_meanOfWaters ∈ lw_tbl := List.mem_of_getElem? (i := 8) (by decide +kernel)
theorem q_9 : Cond.selects RX3 yX3_greatestDifference yX3_greatestDifference ∈ lw_tbl := List.mem_of_getElem? (i := 9) (by decide +kernel)
theorem q_10 : Cond.selects "java/lang/Throwable" ⟨"java/lang/Throwable", "fillInStackTrace", "(I)Ljava/lang/Throwable;"⟩ ⟨"java/lang/Throwable", "fillInStackTrace", "(I)Ljava/lang/Throwable;"⟩ ∈ lw_tbl := List.mem_of_getElem? (i := 10) (by decide +kernel)
theorem q_11 : Cond.selects RJx4a65c yJx4a65c_add_72be8 yJx4a65c_add_72be8 ∈ lw_tbl := List.mem_of_getElem? (i := 11) (by decide +kernel)
theorem q_12 : Cond.selects RJx4a65c yJx4a65c_grow_d5877 yJx4a65c_grow_d5877 ∈ lw_tbl := List.mem_of_getElem? (i := 12) (by decide +kernel)
theorem q_13 : Cond.selects RJx4a65c yJx4a65c_grow_92f84 yJx4a65c_grow_92f84 ∈ lw_tbl := List.mem_of_getElem? (i := 13) (by decide +kernel)
theorem q_14 : Cond.selects RX7 yX7_hasWave yX7_hasWave ∈ lw_tbl := List.mem_of_getElem? (i := 14) (by decide +kernel)
theorem q_15 : Cond.selects RX7 yX7_hasPort yX7_hasPort ∈ lw_tbl := List.mem_of_getElem? (i := 15) (by decide +kernel)
theorem q_16 : Cond.selects RX7 yX7_tallyChiefPort yX7_tallyChiefPort ∈ lw_tbl := List.mem_of_getElem? (i := 16) (by decide +kernel)
theorem q_17 : Cond.selects RX7 yX7_tallyPort yX7_tallyPort ∈ lw_tbl := List.mem_of_getElem? (i := 17) (by decide +kernel)
theorem q_18 : Cond.selects RX8 yX8_fail yX8_fail ∈ lw_tbl := List.mem_of_getElem? (i := 18) (by decide +kernel)
theorem q_19 : Cond.selects RX8 yX8_isWave yX8_isWave ∈ lw_tbl := List.mem_of_getElem? (i := 19) (by decide +kernel)
theorem q_20 : Cond.selects RX8 yX8_find yX8_find ∈ lw_tbl := List.mem_of_getElem? (i := 20) (by decide +kernel)
theorem q_21 : Cond.selects RX8 yX8_waveAt yX8_waveAt ∈ lw_tbl := List.mem_of_getElem? (i := 21) (by decide +kernel)
theorem q_22 : Cond.selects RX8 yX8_counted yX8_counted ∈ lw_tbl := List.mem_of_getElem? (i := 22) (by decide +kernel)
theorem q_23 : Cond.selects RX8 yX8_waterTold yX8_waterTold ∈ lw_tbl := List.mem_of_getElem? (i := 23) (by decide +kernel)
theorem q_24 : Cond.selects RX8 yX8_isHigh yX8_isHigh ∈ lw_tbl := List.mem_of_getElem? (i := 24) (by decide +kernel)
theorem q_25 : Cond.selects RX8 yX8_datumOf yX8_datumOf ∈ lw_tbl := List.mem_of_getElem? (i := 25) (by decide +kernel)
theorem q_26 : Cond.selects RX8 yX8_extreme yX8_extreme ∈ lw_tbl := List.mem_of_getElem? (i := 26) (by decide +kernel)
theorem q_27 : Cond.selects RX8 yX8_mean yX8_mean ∈ lw_tbl := List.mem_of_getElem? (i := 27) (by decide +kernel)
theorem q_28 : Cond.selects RX8 yX8_greatestRange yX8_greatestRange ∈ lw_tbl := List.mem_of_getElem? (i := 28) (by decide +kernel)
theorem q_29 : Cond.selects RX8 yX8_isPort yX8_isPort ∈ lw_tbl := List.mem_of_getElem? (i := 29) (by decide +kernel)
theorem q_30 : Cond.selects RX8 yX8_isOrdered yX8_isOrdered ∈ lw_tbl := List.mem_of_getElem? (i := 30) (by decide +kernel)
theorem q_31 : Cond.selects RX8 yX8_timeAt yX8_timeAt ∈ lw_tbl := List.mem_of_getElem? (i := 31) (by decide +kernel)
theorem q_32 : Cond.selects RX8 yX8_heightAt yX8_heightAt ∈ lw_tbl := List.mem_of_getElem? (i := 32) (by decide +kernel)
theorem q_33 : Cond.selects RX8 yX8_waterAhead yX8_waterAhead ∈ lw_tbl := List.mem_of_getElem? (i := 33) (by decide +kernel)
theorem q_34 : Cond.selects RX8 yX8_between yX8_between ∈ lw_tbl := List.mem_of_getElem? (i := 34) (by decide +kernel)
theorem q_35 : Cond.selects RX8 yX8_sumOff yX8_sumOff ∈ lw_tbl := List.mem_of_getElem? (i := 35) (by decide +kernel)
theorem q_36 : Cond.selects RX8 yX8_off yX8_off ∈ lw_tbl := List.mem_of_getElem? (i := 36) (by decide +kernel)
theorem q_37 : Cond.initialized RL ∈ lw_tbl := List.mem_of_getElem? (i := 37) (by decide +kernel)
theorem q_38 : Cond.initialized RX7 ∈ lw_tbl := List.mem_of_getElem? (i := 38) (by decide +kernel)
theorem q_39 : Cond.initialized RX5 ∈ lw_tbl := List.mem_of_getElem? (i := 39) (by decide +kernel)
theorem q_40 : Cond.initialized RJxa1e45 ∈ lw_tbl := List.mem_of_getElem? (i := 40) (by decide +kernel)
theorem q_41 : Cond.initialized RJxc12de ∈ lw_tbl := List.mem_of_getElem? (i := 41) (by decide +kernel)
theorem q_42 : Cond.initialized RJx4a65c ∈ lw_tbl := List.mem_of_getElem? (i := 42) (by decide +kernel)
theorem q_43 : Cond.initialized RX3 ∈ lw_tbl := List.mem_of_getElem? (i := 43) (by decide +kernel)
theorem q_44 : Cond.initialized RX8 ∈ lw_tbl := List.mem_of_getElem? (i := 44) (by decide +kernel)
theorem q_45 : Cond.initialized "java/lang/Throwable" ∈ lw_tbl := List.mem_of_getElem? (i := 45) (by decide +kernel)
theorem q_46 : Cond.initialized "java/lang/Exception" ∈ lw_tbl := List.mem_of_getElem? (i := 46) (by decide +kernel)
theorem q_47 : Cond.initialized "java/lang/RuntimeException" ∈ lw_tbl := List.mem_of_getElem? (i := 47) (by decide +kernel)
theorem q_48 : Cond.initialized "java/lang/IllegalArgumentException" ∈ lw_tbl := List.mem_of_getElem? (i := 48) (by decide +kernel)
theorem q_49 : Cond.initialized "java/lang/IllegalStateException" ∈ lw_tbl := List.mem_of_getElem? (i := 49) (by decide +kernel)
theorem q_50 : Cond.initialized RX6 ∈ lw_tbl := List.mem_of_getElem? (i := 50) (by decide +kernel)
theorem q_51 : Cond.initialized RJ8 ∈ lw_tbl := List.mem_of_getElem? (i := 51) (by decide +kernel)
theorem q_52 : Cond.initialized RJ9 ∈ lw_tbl := List.mem_of_getElem? (i := 52) (by decide +kernel)
theorem q_53 : Cond.initialized RJ7 ∈ lw_tbl := List.mem_of_getElem? (i := 53) (by decide +kernel)
theorem q_54 : Cond.initialized RJ10 ∈ lw_tbl := List.mem_of_getElem? (i := 54) (by decide +kernel)
theorem q_55 : Cond.initialized "java/lang/IndexOutOfBoundsException" ∈ lw_tbl := List.mem_of_getElem? (i := 55) (by decide +kernel)
theorem q_56 : Cond.initialized RJ15 ∈ lw_tbl := List.mem_of_getElem? (i := 56) (by decide +kernel)
theorem q_57 : Cond.initialized RJ3 ∈ lw_tbl := List.mem_of_getElem? (i := 57) (by decide +kernel)
theorem q_58 : Cond.initialized RX1 ∈ lw_tbl := List.mem_of_getElem? (i := 58) (by decide +kernel)
theorem q_59 : Cond.initialized RX0 ∈ lw_tbl := List.mem_of_getElem? (i := 59) (by decide +kernel)
theorem q_60 : Cond.initialized RX4 ∈ lw_tbl := List.mem_of_getElem? (i := 60) (by decide +kernel)
theorem q_61 : Cond.initialized RX2 ∈ lw_tbl := List.mem_of_getElem? (i := 61) (by decide +kernel)
theorem q_62 : Cond.classLink RL 8 RX7 ∈ lw_tbl := List.mem_of_getElem? (i := 62) (by decide +kernel)
theorem q_63 : Cond.instantiable RX7 5 ∈ lw_tbl := List.mem_of_getElem? (i := 63) (by decide +kernel)
theorem q_64 : Cond.methodLink RL 78 yX7_init ∈ lw_tbl := List.mem_of_getElem? (i := 64) (by decide +kernel)
theorem q_65 : Cond.instanceMethod yX7_init ∈ lw_tbl := List.mem_of_getElem? (i := 65) (by decide +kernel)
theorem q_66 : Cond.code yX7_init cX7_init 1 none ∈ lw_tbl := List.mem_of_getElem? (i := 66) (by decide +kernel)
theorem q_67 : Cond.methodLink RX7 1 Lib.objectInit ∈ lw_tbl := List.mem_of_getElem? (i := 67) (by decide +kernel)
theorem q_68 : Cond.instanceMethod Lib.objectInit ∈ lw_tbl := List.mem_of_getElem? (i := 68) (by decide +kernel)
theorem q_69 : Cond.code Lib.objectInit ⟨#[0xb1]⟩ 1 none ∈ lw_tbl := List.mem_of_getElem? (i := 69) (by decide +kernel)
theorem q_70 : Cond.classLink RX7 7 RX5 ∈ lw_tbl := List.mem_of_getElem? (i := 70) (by decide +kernel)
theorem q_71 : Cond.instantiable RX5 2 ∈ lw_tbl := List.mem_of_getElem? (i := 71) (by decide +kernel)
theorem q_72 : Cond.methodLinkNest RX7 9 yX5_init RX7 ∈ lw_tbl := List.mem_of_getElem? (i := 72) (by decide +kernel)
theorem q_73 : Cond.instanceMethod yX5_init ∈ lw_tbl := List.mem_of_getElem? (i := 73) (by decide +kernel)
theorem q_74 : Cond.code yX5_init cX5_init 1 none ∈ lw_tbl := List.mem_of_getElem? (i := 74) (by decide +kernel)
theorem q_75 : Cond.methodLink RX5 1 Lib.objectInit ∈ lw_tbl := List.mem_of_getElem? (i := 75) (by decide +kernel)
theorem q_76 : Cond.classLink RX5 7 RJx4a65c ∈ lw_tbl := List.mem_of_getElem? (i := 76) (by decide +kernel)
theorem q_77 : Cond.instantiable RJx4a65c 3 ∈ lw_tbl := List.mem_of_getElem? (i := 77) (by decide +kernel)
theorem q_78 : Cond.methodLink RX5 9 yJx4a65c_init_da8c8 ∈ lw_tbl := List.mem_of_getElem? (i := 78) (by decide +kernel)
theorem q_79 : Cond.instanceMethod yJx4a65c_init_da8c8 ∈ lw_tbl := List.mem_of_getElem? (i := 79) (by decide +kernel)
theorem q_80 : Cond.code yJx4a65c_init_da8c8 cJx4a65c_init_da8c8 1 none ∈ lw_tbl := List.mem_of_getElem? (i := 80) (by decide +kernel)
theorem q_81 : Cond.methodLink RJx4a65c 1 yJxc12de_init_da8c8 ∈ lw_tbl := List.mem_of_getElem? (i := 81) (by decide +kernel)
theorem q_82 : Cond.instanceMethod yJxc12de_init_da8c8 ∈ lw_tbl := List.mem_of_getElem? (i := 82) (by decide +kernel)
theorem q_83 : Cond.code yJxc12de_init_da8c8 cJxc12de_init_da8c8 1 none ∈ lw_tbl := List.mem_of_getElem? (i := 83) (by decide +kernel)
theorem q_84 : Cond.methodLink RJxc12de 1 yJxa1e45_init_da8c8 ∈ lw_tbl := List.mem_of_getElem? (i := 84) (by decide +kernel)
theorem q_85 : Cond.instanceMethod yJxa1e45_init_da8c8 ∈ lw_tbl := List.mem_of_getElem? (i := 85) (by decide +kernel)
theorem q_86 : Cond.code yJxa1e45_init_da8c8 cJxa1e45_init_da8c8 1 none ∈ lw_tbl := List.mem_of_getElem? (i := 86) (by decide +kernel)
theorem q_87 : Cond.methodLink RJxa1e45 1 Lib.objectInit ∈ lw_tbl := List.mem_of_getElem? (i := 87) (by decide +kernel)
theorem q_88 : Cond.fieldLink RJx4a65c 39 RJx4a65c "DEFAULTCAPACITY_EMPTY_ELEMENTDATA" "[Ljava/lang/Object;" ∈ lw_tbl := List.mem_of_getElem? (i := 88) (by decide +kernel)
theorem q_90 : Cond.fieldLink RJx4a65c 9 RJx4a65c "elementData" "[Ljava/lang/Object;" ∈ lw_tbl := List.mem_of_getElem? (i := 90) (by decide +kernel)
theorem q_91 : Cond.fieldLink RJx4a65c 48 RJx4a65c "size" "I" ∈ lw_tbl := List.mem_of_getElem? (i := 91) (by decide +kernel)
theorem q_92 : Cond.fieldLink RJxc12de 7 RJxc12de "modCount" "I" ∈ lw_tbl := List.mem_of_getElem? (i := 92) (by decide +kernel)
theorem q_93 : Cond.fieldLink RJx4a65c 63 RJx4a65c "modCount" "I" ∈ lw_tbl := List.mem_of_getElem? (i := 93) (by decide +kernel)
theorem q_94 : Cond.sameField RJx4a65c "java/util/AbstractList" "modCount" "I" ∈ lw_tbl := List.mem_of_getElem? (i := 94) (by decide +kernel)
theorem q_102 : Cond.fieldLink RX5 10 RX5 "waves" "Ljava/util/ArrayList;" ∈ lw_tbl := List.mem_of_getElem? (i := 102) (by decide +kernel)
theorem q_103 : Cond.fieldLinkNest RX7 52 RX5 "waves" "Ljava/util/ArrayList;" RX7 ∈ lw_tbl := List.mem_of_getElem? (i := 103) (by decide +kernel)
theorem q_104 : Cond.fieldLink RX5 16 RX5 "level" "I" ∈ lw_tbl := List.mem_of_getElem? (i := 104) (by decide +kernel)
theorem q_105 : Cond.fieldLinkNest RX7 92 RX5 "level" "I" RX7 ∈ lw_tbl := List.mem_of_getElem? (i := 105) (by decide +kernel)
theorem q_111 : Cond.classLink RX7 16 RX3 ∈ lw_tbl := List.mem_of_getElem? (i := 111) (by decide +kernel)
theorem q_112 : Cond.instantiable RX3 5 ∈ lw_tbl := List.mem_of_getElem? (i := 112) (by decide +kernel)
theorem q_113 : Cond.methodLinkNest RX7 18 yX3_init RX7 ∈ lw_tbl := List.mem_of_getElem? (i := 113) (by decide +kernel)
theorem q_114 : Cond.instanceMethod yX3_init ∈ lw_tbl := List.mem_of_getElem? (i := 114) (by decide +kernel)
theorem q_115 : Cond.code yX3_init cX3_init 1 none ∈ lw_tbl := List.mem_of_getElem? (i := 115) (by decide +kernel)
theorem q_116 : Cond.methodLink RX3 3 Lib.objectInit ∈ lw_tbl := List.mem_of_getElem? (i := 116) (by decide +kernel)
theorem q_117 : Cond.fieldLink RX3 9 RX3 "heights" "[I" ∈ lw_tbl := List.mem_of_getElem? (i := 117) (by decide +kernel)
theorem q_118 : Cond.fieldLink RX3 15 RX3 "waterTimes" "[I" ∈ lw_tbl := List.mem_of_getElem? (i := 118) (by decide +kernel)
theorem q_119 : Cond.fieldLink RX3 18 RX3 "waterHeights" "[I" ∈ lw_tbl := List.mem_of_getElem? (i := 119) (by decide +kernel)
theorem q_120 : Cond.fieldLink RX3 21 RX3 "waterHighs" "[Z" ∈ lw_tbl := List.mem_of_getElem? (i := 120) (by decide +kernel)
theorem q_121 : Cond.fieldLink RX3 34 RX3 "waters" "I" ∈ lw_tbl := List.mem_of_getElem? (i := 121) (by decide +kernel)
theorem q_122 : Cond.fieldLinkNest RX1 48 RX3 "waters" "I" RX7 ∈ lw_tbl := List.mem_of_getElem? (i := 122) (by decide +kernel)
theorem q_123 : Cond.fieldLinkNest RX7 130 RX3 "waters" "I" RX7 ∈ lw_tbl := List.mem_of_getElem? (i := 123) (by decide +kernel)
theorem q_135 : Cond.arrayClass .int ∈ lw_tbl := List.mem_of_getElem? (i := 135) (by decide +kernel)
theorem q_136 : Cond.arrayClass .boolean ∈ lw_tbl := List.mem_of_getElem? (i := 136) (by decide +kernel)
theorem q_137 : Cond.classLink RX7 23 RJx4a65c ∈ lw_tbl := List.mem_of_getElem? (i := 137) (by decide +kernel)
theorem q_138 : Cond.methodLink RX7 25 yJx4a65c_init_da8c8 ∈ lw_tbl := List.mem_of_getElem? (i := 138) (by decide +kernel)
theorem q_139 : Cond.fieldLink RX7 10 RX7 "tide" "LTideTable$Tide;" ∈ lw_tbl := List.mem_of_getElem? (i := 139) (by decide +kernel)
theorem q_140 : Cond.fieldLink RX7 19 RX7 "table" "LTideTable$Table;" ∈ lw_tbl := List.mem_of_getElem? (i := 140) (by decide +kernel)
theorem q_141 : Cond.fieldLink RX7 26 RX7 "ports" "Ljava/util/ArrayList;" ∈ lw_tbl := List.mem_of_getElem? (i := 141) (by decide +kernel)
theorem q_142 : Cond.fieldLink RX7 30 RX7 "readings" "Ljava/util/ArrayList;" ∈ lw_tbl := List.mem_of_getElem? (i := 142) (by decide +kernel)
theorem q_143 : Cond.fieldLink RX7 33 RX7 "isTableOld" "Z" ∈ lw_tbl := List.mem_of_getElem? (i := 143) (by decide +kernel)
theorem q_155 : Cond.methodLink RL 146 yX7_residual ∈ lw_tbl := List.mem_of_getElem? (i := 155) (by decide +kernel)
theorem q_156 : Cond.instanceMethod yX7_residual ∈ lw_tbl := List.mem_of_getElem? (i := 156) (by decide +kernel)
theorem q_157 : Cond.selects RX7 yX7_residual yX7_residual ∈ lw_tbl := List.mem_of_getElem? (i := 157) (by decide +kernel)
theorem q_158 : Cond.code yX7_residual cX7_residual 2 (some .double) ∈ lw_tbl := List.mem_of_getElem? (i := 158) (by decide +kernel)
theorem q_159 : Cond.methodLink RX7 55 yJx4a65c_size_8abf5 ∈ lw_tbl := List.mem_of_getElem? (i := 159) (by decide +kernel)
theorem q_160 : Cond.instanceMethod yJx4a65c_size_8abf5 ∈ lw_tbl := List.mem_of_getElem? (i := 160) (by decide +kernel)
theorem q_161 : Cond.selects RJx4a65c yJx4a65c_size_8abf5 yJx4a65c_size_8abf5 ∈ lw_tbl := List.mem_of_getElem? (i := 161) (by decide +kernel)
theorem q_162 : Cond.code yJx4a65c_size_8abf5 cJx4a65c_size_8abf5 1 (some .int) ∈ lw_tbl := List.mem_of_getElem? (i := 162) (by decide +kernel)
theorem q_163 : Cond.methodLink RX7 219 yX7_sumOfDifferences ∈ lw_tbl := List.mem_of_getElem? (i := 163) (by decide +kernel)
theorem q_165 : Cond.instanceMethod yX7_sumOfDifferences ∈ lw_tbl := List.mem_of_getElem? (i := 165) (by decide +kernel)
theorem q_166 : Cond.code yX7_sumOfDifferences cX7_sumOfDifferences 4 (some .long) ∈ lw_tbl := List.mem_of_getElem? (i := 166) (by decide +kernel)
theorem q_167 : Cond.methodLink RX7 225 yX7_differenceOf ∈ lw_tbl := List.mem_of_getElem? (i := 167) (by decide +kernel)
theorem q_169 : Cond.instanceMethod yX7_differenceOf ∈ lw_tbl := List.mem_of_getElem? (i := 169) (by decide +kernel)
theorem q_170 : Cond.code yX7_differenceOf cX7_differenceOf 3 (some .long) ∈ lw_tbl := List.mem_of_getElem? (i := 170) (by decide +kernel)
theorem q_171 : Cond.methodLink RX7 82 yJx4a65c_get_915e3 ∈ lw_tbl := List.mem_of_getElem? (i := 171) (by decide +kernel)
theorem q_172 : Cond.instanceMethod yJx4a65c_get_915e3 ∈ lw_tbl := List.mem_of_getElem? (i := 172) (by decide +kernel)
theorem q_173 : Cond.selects RJx4a65c yJx4a65c_get_915e3 yJx4a65c_get_915e3 ∈ lw_tbl := List.mem_of_getElem? (i := 173) (by decide +kernel)
theorem q_174 : Cond.code yJx4a65c_get_915e3 cJx4a65c_get_915e3 2 (some (.object "java/lang/Object")) ∈ lw_tbl := List.mem_of_getElem? (i := 174) (by decide +kernel)
theorem q_175 : Cond.methodLink RJx4a65c 118 yJ15_checkIndex_7cf53 ∈ lw_tbl := List.mem_of_getElem? (i := 175) (by decide +kernel)
theorem q_176 : Cond.static yJ15_checkIndex_7cf53 ∈ lw_tbl := List.mem_of_getElem? (i := 176) (by decide +kernel)
theorem q_177 : Cond.code yJ15_checkIndex_7cf53 cJ15_checkIndex_7cf53 2 (some .int) ∈ lw_tbl := List.mem_of_getElem? (i := 177) (by decide +kernel)
theorem q_178 : Cond.methodLink RJ15 105 yJ3_checkIndex_8e157 ∈ lw_tbl := List.mem_of_getElem? (i := 178) (by decide +kernel)
theorem q_179 : Cond.static yJ3_checkIndex_8e157 ∈ lw_tbl := List.mem_of_getElem? (i := 179) (by decide +kernel)
theorem q_180 : Cond.code yJ3_checkIndex_8e157 cJ3_checkIndex_8e157 3 (some .int) ∈ lw_tbl := List.mem_of_getElem? (i := 180) (by decide +kernel)
theorem q_181 : Cond.methodLink RJx4a65c 123 yJx4a65c_elementData_915e3 ∈ lw_tbl := List.mem_of_getElem? (i := 181) (by decide +kernel)
theorem q_182 : Cond.instanceMethod yJx4a65c_elementData_915e3 ∈ lw_tbl := List.mem_of_getElem? (i := 182) (by decide +kernel)
theorem q_183 : Cond.selects RJx4a65c yJx4a65c_elementData_915e3 yJx4a65c_elementData_915e3 ∈ lw_tbl := List.mem_of_getElem? (i := 183) (by decide +kernel)
theorem q_184 : Cond.code yJx4a65c_elementData_915e3 cJx4a65c_elementData_915e3 2 (some (.object "java/lang/Object")) ∈ lw_tbl := List.mem_of_getElem? (i := 184) (by decide +kernel)
theorem q_185 : Cond.classLink RX7 214 RX2 ∈ lw_tbl := List.mem_of_getElem? (i := 185) (by decide +kernel)
theorem q_186 : Cond.methodLink RX7 100 yX5_heightAt ∈ lw_tbl := List.mem_of_getElem? (i := 186) (by decide +kernel)
theorem q_187 : Cond.instanceMethod yX5_heightAt ∈ lw_tbl := List.mem_of_getElem? (i := 187) (by decide +kernel)
theorem q_188 : Cond.selects RX5 yX5_heightAt yX5_heightAt ∈ lw_tbl := List.mem_of_getElem? (i := 188) (by decide +kernel)
theorem q_189 : Cond.code yX5_heightAt cX5_heightAt 4 (some .int) ∈ lw_tbl := List.mem_of_getElem? (i := 189) (by decide +kernel)
theorem q_190 : Cond.methodLink RX5 20 yJx4a65c_size_8abf5 ∈ lw_tbl := List.mem_of_getElem? (i := 190) (by decide +kernel)
theorem q_191 : Cond.methodLink RX5 24 yJx4a65c_get_915e3 ∈ lw_tbl := List.mem_of_getElem? (i := 191) (by decide +kernel)
theorem q_192 : Cond.classLink RX5 28 RX6 ∈ lw_tbl := List.mem_of_getElem? (i := 192) (by decide +kernel)
theorem q_193 : Cond.methodLink RX5 30 yX6_heightAt ∈ lw_tbl := List.mem_of_getElem? (i := 193) (by decide +kernel)
theorem q_194 : Cond.instanceMethod yX6_heightAt ∈ lw_tbl := List.mem_of_getElem? (i := 194) (by decide +kernel)
theorem q_195 : Cond.selects RX6 yX6_heightAt yX6_heightAt ∈ lw_tbl := List.mem_of_getElem? (i := 195) (by decide +kernel)
theorem q_196 : Cond.code yX6_heightAt cX6_heightAt 8 (some .int) ∈ lw_tbl := List.mem_of_getElem? (i := 196) (by decide +kernel)
theorem q_197 : Cond.constantLong RX6 19 (4) ∈ lw_tbl := List.mem_of_getElem? (i := 197) (by decide +kernel)
theorem q_198 : Cond.methodLink RL 151 yX7_worst ∈ lw_tbl := List.mem_of_getElem? (i := 198) (by decide +kernel)
theorem q_199 : Cond.instanceMethod yX7_worst ∈ lw_tbl := List.mem_of_getElem? (i := 199) (by decide +kernel)
theorem q_200 : Cond.selects RX7 yX7_worst yX7_worst ∈ lw_tbl := List.mem_of_getElem? (i := 200) (by decide +kernel)
theorem q_201 : Cond.code yX7_worst cX7_worst 7 (some .int) ∈ lw_tbl := List.mem_of_getElem? (i := 201) (by decide +kernel)
theorem q_202 : Cond.constantLong RX7 223 (-1) ∈ lw_tbl := List.mem_of_getElem? (i := 202) (by decide +kernel)
theorem q_203 : Cond.methodLink RX7 229 Lib.MathLoose.abs_long.x ∈ lw_tbl := List.mem_of_getElem? (i := 203) (by decide +kernel)
theorem q_204 : Cond.static Lib.MathLoose.abs_long.x ∈ lw_tbl := List.mem_of_getElem? (i := 204) (by decide +kernel)
theorem q_205 : Cond.code Lib.MathLoose.abs_long.x Lib.MathLoose.abs_long.code 2 (some .long) ∈ lw_tbl := List.mem_of_getElem? (i := 205) (by decide +kernel)
theorem q_206 : Cond.methodLink RL 158 yX7_digest ∈ lw_tbl := List.mem_of_getElem? (i := 206) (by decide +kernel)
theorem q_207 : Cond.instanceMethod yX7_digest ∈ lw_tbl := List.mem_of_getElem? (i := 207) (by decide +kernel)
theorem q_208 : Cond.selects RX7 yX7_digest yX7_digest ∈ lw_tbl := List.mem_of_getElem? (i := 208) (by decide +kernel)
theorem q_209 : Cond.code yX7_digest cX7_digest 5 (some .long) ∈ lw_tbl := List.mem_of_getElem? (i := 209) (by decide +kernel)
theorem q_210 : Cond.methodLink RX7 110 yX7_currentTable ∈ lw_tbl := List.mem_of_getElem? (i := 210) (by decide +kernel)
theorem q_212 : Cond.instanceMethod yX7_currentTable ∈ lw_tbl := List.mem_of_getElem? (i := 212) (by decide +kernel)
theorem q_213 : Cond.code yX7_currentTable cX7_currentTable 1 (some (.object "TideTable$Table")) ∈ lw_tbl := List.mem_of_getElem? (i := 213) (by decide +kernel)
theorem q_214 : Cond.methodLink RX7 263 yX3_fill ∈ lw_tbl := List.mem_of_getElem? (i := 214) (by decide +kernel)
theorem q_215 : Cond.instanceMethod yX3_fill ∈ lw_tbl := List.mem_of_getElem? (i := 215) (by decide +kernel)
theorem q_216 : Cond.selects RX3 yX3_fill yX3_fill ∈ lw_tbl := List.mem_of_getElem? (i := 216) (by decide +kernel)
theorem q_217 : Cond.code yX3_fill cX3_fill 3 none ∈ lw_tbl := List.mem_of_getElem? (i := 217) (by decide +kernel)
theorem q_218 : Cond.methodLink RX3 25 yX5_heightAt ∈ lw_tbl := List.mem_of_getElem? (i := 218) (by decide +kernel)
theorem q_219 : Cond.methodLink RX3 31 yX3_findWaters ∈ lw_tbl := List.mem_of_getElem? (i := 219) (by decide +kernel)
theorem q_221 : Cond.instanceMethod yX3_findWaters ∈ lw_tbl := List.mem_of_getElem? (i := 221) (by decide +kernel)
theorem q_222 : Cond.code yX3_findWaters cX3_findWaters 5 none ∈ lw_tbl := List.mem_of_getElem? (i := 222) (by decide +kernel)
theorem q_223 : Cond.methodLink RX3 38 yX3_noteWater ∈ lw_tbl := List.mem_of_getElem? (i := 223) (by decide +kernel)
theorem q_225 : Cond.instanceMethod yX3_noteWater ∈ lw_tbl := List.mem_of_getElem? (i := 225) (by decide +kernel)
theorem q_226 : Cond.code yX3_noteWater cX3_noteWater 4 none ∈ lw_tbl := List.mem_of_getElem? (i := 226) (by decide +kernel)
theorem q_227 : Cond.constantLong RX7 250 (313) ∈ lw_tbl := List.mem_of_getElem? (i := 227) (by decide +kernel)
theorem q_228 : Cond.methodLink RX7 107 yX7_numberOf ∈ lw_tbl := List.mem_of_getElem? (i := 228) (by decide +kernel)
theorem q_230 : Cond.instanceMethod yX7_numberOf ∈ lw_tbl := List.mem_of_getElem? (i := 230) (by decide +kernel)
theorem q_231 : Cond.code yX7_numberOf cX7_numberOf 2 (some .int) ∈ lw_tbl := List.mem_of_getElem? (i := 231) (by decide +kernel)
theorem q_232 : Cond.methodLink RX7 252 yX7_mixed ∈ lw_tbl := List.mem_of_getElem? (i := 232) (by decide +kernel)
theorem q_233 : Cond.static yX7_mixed ∈ lw_tbl := List.mem_of_getElem? (i := 233) (by decide +kernel)
theorem q_234 : Cond.code yX7_mixed cX7_mixed 4 (some .long) ∈ lw_tbl := List.mem_of_getElem? (i := 234) (by decide +kernel)
theorem q_235 : Cond.constantLong RX7 278 (31) ∈ lw_tbl := List.mem_of_getElem? (i := 235) (by decide +kernel)
theorem q_236 : Cond.methodLink RX7 255 yX7_mixedWithWaters ∈ lw_tbl := List.mem_of_getElem? (i := 236) (by decide +kernel)
theorem q_237 : Cond.static yX7_mixedWithWaters ∈ lw_tbl := List.mem_of_getElem? (i := 237) (by decide +kernel)
theorem q_238 : Cond.code yX7_mixedWithWaters cX7_mixedWithWaters 6 (some .long) ∈ lw_tbl := List.mem_of_getElem? (i := 238) (by decide +kernel)
theorem q_239 : Cond.methodLink RX7 119 yX3_timeOf ∈ lw_tbl := List.mem_of_getElem? (i := 239) (by decide +kernel)
theorem q_240 : Cond.instanceMethod yX3_timeOf ∈ lw_tbl := List.mem_of_getElem? (i := 240) (by decide +kernel)
theorem q_241 : Cond.selects RX3 yX3_timeOf yX3_timeOf ∈ lw_tbl := List.mem_of_getElem? (i := 241) (by decide +kernel)
theorem q_242 : Cond.code yX3_timeOf cX3_timeOf 2 (some .int) ∈ lw_tbl := List.mem_of_getElem? (i := 242) (by decide +kernel)
theorem q_243 : Cond.methodLink RX3 46 yX3_hasWater ∈ lw_tbl := List.mem_of_getElem? (i := 243) (by decide +kernel)
theorem q_244 : Cond.instanceMethod yX3_hasWater ∈ lw_tbl := List.mem_of_getElem? (i := 244) (by decide +kernel)
theorem q_245 : Cond.selects RX3 yX3_hasWater yX3_hasWater ∈ lw_tbl := List.mem_of_getElem? (i := 245) (by decide +kernel)
theorem q_246 : Cond.code yX3_hasWater cX3_hasWater 2 (some .boolean) ∈ lw_tbl := List.mem_of_getElem? (i := 246) (by decide +kernel)
theorem q_247 : Cond.methodLink RX7 122 yX3_heightOf ∈ lw_tbl := List.mem_of_getElem? (i := 247) (by decide +kernel)
theorem q_248 : Cond.instanceMethod yX3_heightOf ∈ lw_tbl := List.mem_of_getElem? (i := 248) (by decide +kernel)
theorem q_249 : Cond.selects RX3 yX3_heightOf yX3_heightOf ∈ lw_tbl := List.mem_of_getElem? (i := 249) (by decide +kernel)
theorem q_250 : Cond.code yX3_heightOf cX3_heightOf 2 (some .int) ∈ lw_tbl := List.mem_of_getElem? (i := 250) (by decide +kernel)
theorem q_251 : Cond.methodLink RX7 125 yX3_isHigh ∈ lw_tbl := List.mem_of_getElem? (i := 251) (by decide +kernel)
theorem q_252 : Cond.instanceMethod yX3_isHigh ∈ lw_tbl := List.mem_of_getElem? (i := 252) (by decide +kernel)
theorem q_253 : Cond.selects RX3 yX3_isHigh yX3_isHigh ∈ lw_tbl := List.mem_of_getElem? (i := 253) (by decide +kernel)
theorem q_254 : Cond.code yX3_isHigh cX3_isHigh 2 (some .boolean) ∈ lw_tbl := List.mem_of_getElem? (i := 254) (by decide +kernel)
theorem q_255 : Cond.classLink RX7 140 RX1 ∈ lw_tbl := List.mem_of_getElem? (i := 255) (by decide +kernel)
theorem q_256 : Cond.methodLink RX7 259 yX7_mixedWithPort ∈ lw_tbl := List.mem_of_getElem? (i := 256) (by decide +kernel)
theorem q_257 : Cond.static yX7_mixedWithPort ∈ lw_tbl := List.mem_of_getElem? (i := 257) (by decide +kernel)
theorem q_258 : Cond.code yX7_mixedWithPort cX7_mixedWithPort 7 (some .long) ∈ lw_tbl := List.mem_of_getElem? (i := 258) (by decide +kernel)
theorem q_259 : Cond.methodLink RX7 169 yX1_isOrderly ∈ lw_tbl := List.mem_of_getElem? (i := 259) (by decide +kernel)
theorem q_260 : Cond.instanceMethod yX1_isOrderly ∈ lw_tbl := List.mem_of_getElem? (i := 260) (by decide +kernel)
theorem q_261 : Cond.selects RX1 yX1_isOrderly yX1_isOrderly ∈ lw_tbl := List.mem_of_getElem? (i := 261) (by decide +kernel)
theorem q_262 : Cond.code yX1_isOrderly cX1_isOrderly 3 (some .boolean) ∈ lw_tbl := List.mem_of_getElem? (i := 262) (by decide +kernel)
theorem q_263 : Cond.methodLink RX1 51 yX1_timeOf ∈ lw_tbl := List.mem_of_getElem? (i := 263) (by decide +kernel)
theorem q_264 : Cond.instanceMethod yX1_timeOf ∈ lw_tbl := List.mem_of_getElem? (i := 264) (by decide +kernel)
theorem q_265 : Cond.selects RX1 yX1_timeOf yX1_timeOf ∈ lw_tbl := List.mem_of_getElem? (i := 265) (by decide +kernel)
theorem q_266 : Cond.code yX1_timeOf cX1_timeOf 3 (some .int) ∈ lw_tbl := List.mem_of_getElem? (i := 266) (by decide +kernel)
theorem q_267 : Cond.methodLink RX1 21 yX3_timeOf ∈ lw_tbl := List.mem_of_getElem? (i := 267) (by decide +kernel)
theorem q_268 : Cond.methodLink RX1 27 yX3_isHigh ∈ lw_tbl := List.mem_of_getElem? (i := 268) (by decide +kernel)
theorem q_269 : Cond.methodLink RX1 31 yX1_followOf ∈ lw_tbl := List.mem_of_getElem? (i := 269) (by decide +kernel)
theorem q_270 : Cond.instanceMethod yX1_followOf ∈ lw_tbl := List.mem_of_getElem? (i := 270) (by decide +kernel)
theorem q_271 : Cond.selects RX1 yX1_followOf yX1_followOf ∈ lw_tbl := List.mem_of_getElem? (i := 271) (by decide +kernel)
theorem q_272 : Cond.code yX1_followOf cX1_followOf 2 (some (.object "TideTable$Follow")) ∈ lw_tbl := List.mem_of_getElem? (i := 272) (by decide +kernel)
theorem q_273 : Cond.methodLink RX7 173 yX1_timeOf ∈ lw_tbl := List.mem_of_getElem? (i := 273) (by decide +kernel)
theorem q_274 : Cond.methodLink RX7 176 yX1_heightOf ∈ lw_tbl := List.mem_of_getElem? (i := 274) (by decide +kernel)
theorem q_275 : Cond.instanceMethod yX1_heightOf ∈ lw_tbl := List.mem_of_getElem? (i := 275) (by decide +kernel)
theorem q_276 : Cond.selects RX1 yX1_heightOf yX1_heightOf ∈ lw_tbl := List.mem_of_getElem? (i := 276) (by decide +kernel)
theorem q_277 : Cond.code yX1_heightOf cX1_heightOf 4 (some .int) ∈ lw_tbl := List.mem_of_getElem? (i := 277) (by decide +kernel)
theorem q_278 : Cond.methodLink RX1 42 yX3_heightOf ∈ lw_tbl := List.mem_of_getElem? (i := 278) (by decide +kernel)
theorem q_279 : Cond.methodLink RX7 135 yX3_datumOf ∈ lw_tbl := List.mem_of_getElem? (i := 279) (by decide +kernel)
theorem q_280 : Cond.instanceMethod yX3_datumOf ∈ lw_tbl := List.mem_of_getElem? (i := 280) (by decide +kernel)
theorem q_281 : Cond.selects RX3 yX3_datumOf yX3_datumOf ∈ lw_tbl := List.mem_of_getElem? (i := 281) (by decide +kernel)
theorem q_282 : Cond.code yX3_datumOf cX3_datumOf 2 (some .int) ∈ lw_tbl := List.mem_of_getElem? (i := 282) (by decide +kernel)
theorem q_283 : Cond.methodLink RX3 49 yX3_greatestHeight ∈ lw_tbl := List.mem_of_getElem? (i := 283) (by decide +kernel)
theorem q_285 : Cond.instanceMethod yX3_greatestHeight ∈ lw_tbl := List.mem_of_getElem? (i := 285) (by decide +kernel)
theorem q_286 : Cond.code yX3_greatestHeight cX3_greatestHeight 6 (some .int) ∈ lw_tbl := List.mem_of_getElem? (i := 286) (by decide +kernel)
theorem q_287 : Cond.methodLink RX3 63 Lib.Math.max.name ∈ lw_tbl := List.mem_of_getElem? (i := 287) (by decide +kernel)
theorem q_288 : Cond.static Lib.Math.max.name ∈ lw_tbl := List.mem_of_getElem? (i := 288) (by decide +kernel)
theorem q_289 : Cond.code Lib.Math.max.name Lib.Math.max.code 2 (some .int) ∈ lw_tbl := List.mem_of_getElem? (i := 289) (by decide +kernel)
theorem q_290 : Cond.methodLink RX3 53 yX3_leastHeight ∈ lw_tbl := List.mem_of_getElem? (i := 290) (by decide +kernel)
theorem q_292 : Cond.instanceMethod yX3_leastHeight ∈ lw_tbl := List.mem_of_getElem? (i := 292) (by decide +kernel)
theorem q_293 : Cond.code yX3_leastHeight cX3_leastHeight 6 (some .int) ∈ lw_tbl := List.mem_of_getElem? (i := 293) (by decide +kernel)
theorem q_294 : Cond.methodLink RX3 69 Lib.Math.min.name ∈ lw_tbl := List.mem_of_getElem? (i := 294) (by decide +kernel)
theorem q_295 : Cond.static Lib.Math.min.name ∈ lw_tbl := List.mem_of_getElem? (i := 295) (by decide +kernel)
theorem q_296 : Cond.code Lib.Math.min.name Lib.Math.min.code 2 (some .int) ∈ lw_tbl := List.mem_of_getElem? (i := 296) (by decide +kernel)
theorem q_297 : Cond.methodLink RX3 56 yX3_meanOfWaters ∈ lw_tbl := List.mem_of_getElem? (i := 297) (by decide +kernel)
theorem q_299 : Cond.instanceMethod yX3_meanOfWaters ∈ lw_tbl := List.mem_of_getElem? (i := 299) (by decide +kernel)
theorem q_300 : Cond.code yX3_meanOfWaters cX3_meanOfWaters 6 (some .int) ∈ lw_tbl := List.mem_of_getElem? (i := 300) (by decide +kernel)
theorem q_301 : Cond.methodLink RX3 72 yX3_isHigh ∈ lw_tbl := List.mem_of_getElem? (i := 301) (by decide +kernel)
theorem q_302 : Cond.methodLink RX3 75 yX3_heightOf ∈ lw_tbl := List.mem_of_getElem? (i := 302) (by decide +kernel)
theorem q_303 : Cond.methodLinkNest RX3 78 yX7_quotient RX7 ∈ lw_tbl := List.mem_of_getElem? (i := 303) (by decide +kernel)
theorem q_304 : Cond.static yX7_quotient ∈ lw_tbl := List.mem_of_getElem? (i := 304) (by decide +kernel)
theorem q_305 : Cond.code yX7_quotient cX7_quotient 4 (some .long) ∈ lw_tbl := List.mem_of_getElem? (i := 305) (by decide +kernel)
theorem q_306 : Cond.methodLink RX3 60 yX3_greatestDifference ∈ lw_tbl := List.mem_of_getElem? (i := 306) (by decide +kernel)
theorem q_308 : Cond.instanceMethod yX3_greatestDifference ∈ lw_tbl := List.mem_of_getElem? (i := 308) (by decide +kernel)
theorem q_309 : Cond.code yX3_greatestDifference cX3_greatestDifference 4 (some .int) ∈ lw_tbl := List.mem_of_getElem? (i := 309) (by decide +kernel)
theorem q_310 : Cond.methodLink RX3 82 Lib.Math.abs.name ∈ lw_tbl := List.mem_of_getElem? (i := 310) (by decide +kernel)
theorem q_311 : Cond.static Lib.Math.abs.name ∈ lw_tbl := List.mem_of_getElem? (i := 311) (by decide +kernel)
theorem q_312 : Cond.code Lib.Math.abs.name Lib.Math.abs.code 1 (some .int) ∈ lw_tbl := List.mem_of_getElem? (i := 312) (by decide +kernel)
theorem q_313 : Cond.methodLink RL 82 yL_addWave ∈ lw_tbl := List.mem_of_getElem? (i := 313) (by decide +kernel)
theorem q_314 : Cond.static yL_addWave ∈ lw_tbl := List.mem_of_getElem? (i := 314) (by decide +kernel)
theorem q_315 : Cond.codeWith yL_addWave cL_addWave 6 (some .int) [((0), (12), (15), (13)), ((0), (12), (19), (15))] ∈ lw_tbl := List.mem_of_getElem? (i := 315) (by decide +kernel)
theorem q_316 : Cond.classLink RL 13 "java/lang/IllegalArgumentException" ∈ lw_tbl := List.mem_of_getElem? (i := 316) (by decide +kernel)
theorem q_317 : Cond.classLink RL 15 "java/lang/IllegalStateException" ∈ lw_tbl := List.mem_of_getElem? (i := 317) (by decide +kernel)
theorem q_318 : Cond.methodLink RL 7 yX7_addWave ∈ lw_tbl := List.mem_of_getElem? (i := 318) (by decide +kernel)
theorem q_319 : Cond.instanceMethod yX7_addWave ∈ lw_tbl := List.mem_of_getElem? (i := 319) (by decide +kernel)
theorem q_320 : Cond.selects RX7 yX7_addWave yX7_addWave ∈ lw_tbl := List.mem_of_getElem? (i := 320) (by decide +kernel)
theorem q_321 : Cond.code yX7_addWave cX7_addWave 4 (some .int) ∈ lw_tbl := List.mem_of_getElem? (i := 321) (by decide +kernel)
theorem q_322 : Cond.methodLink RX7 37 yX7_isWithin ∈ lw_tbl := List.mem_of_getElem? (i := 322) (by decide +kernel)
theorem q_323 : Cond.static yX7_isWithin ∈ lw_tbl := List.mem_of_getElem? (i := 323) (by decide +kernel)
theorem q_324 : Cond.code yX7_isWithin cX7_isWithin 3 (some .boolean) ∈ lw_tbl := List.mem_of_getElem? (i := 324) (by decide +kernel)
theorem q_325 : Cond.classLink RX7 41 "java/lang/IllegalArgumentException" ∈ lw_tbl := List.mem_of_getElem? (i := 325) (by decide +kernel)
theorem q_326 : Cond.instantiable "java/lang/IllegalArgumentException" 6 ∈ lw_tbl := List.mem_of_getElem? (i := 326) (by decide +kernel)
theorem q_327 : Cond.castable "java/lang/IllegalArgumentException" "java/lang/IllegalArgumentException" ∈ lw_tbl := List.mem_of_getElem? (i := 327) (by decide +kernel)
theorem q_328 : Cond.declares ⟨"java/lang/RuntimeException", "<init>", "()V"⟩ ∈ lw_tbl := List.mem_of_getElem? (i := 328) (by decide +kernel)
theorem q_329 : Cond.declares ⟨"java/lang/RuntimeException", "<init>", "(Ljava/lang/String;)V"⟩ ∈ lw_tbl := List.mem_of_getElem? (i := 329) (by decide +kernel)
theorem q_330 : Cond.declares ⟨"java/lang/Exception", "<init>", "()V"⟩ ∈ lw_tbl := List.mem_of_getElem? (i := 330) (by decide +kernel)
theorem q_331 : Cond.declares ⟨"java/lang/Exception", "<init>", "(Ljava/lang/String;)V"⟩ ∈ lw_tbl := List.mem_of_getElem? (i := 331) (by decide +kernel)
theorem q_332 : Cond.declares ⟨"java/lang/Throwable", "<init>", "()V"⟩ ∈ lw_tbl := List.mem_of_getElem? (i := 332) (by decide +kernel)
theorem q_333 : Cond.declares ⟨"java/lang/Throwable", "<init>", "(Ljava/lang/String;)V"⟩ ∈ lw_tbl := List.mem_of_getElem? (i := 333) (by decide +kernel)
theorem q_334 : Cond.selects "java/lang/IllegalArgumentException" ⟨"java/lang/Throwable", "fillInStackTrace", "(I)Ljava/lang/Throwable;"⟩ ⟨"java/lang/Throwable", "fillInStackTrace", "(I)Ljava/lang/Throwable;"⟩ ∈ lw_tbl := List.mem_of_getElem? (i := 334) (by decide +kernel)
theorem q_335 : Cond.selects "java/lang/IllegalArgumentException" ⟨"java/lang/Throwable", "fillInStackTrace", "()Ljava/lang/Throwable;"⟩ ⟨"java/lang/Throwable", "fillInStackTrace", "()Ljava/lang/Throwable;"⟩ ∈ lw_tbl := List.mem_of_getElem? (i := 335) (by decide +kernel)
theorem q_346 : Cond.fieldLink "java/lang/Throwable" 198 "java/lang/Throwable" "backtrace" "Ljava/lang/Object;" ∈ lw_tbl := List.mem_of_getElem? (i := 346) (by decide +kernel)
theorem q_348 : Cond.instanceMethod ⟨"java/lang/Throwable", "<init>", "()V"⟩ ∈ lw_tbl := List.mem_of_getElem? (i := 348) (by decide +kernel)
theorem q_349 : Cond.code ⟨"java/lang/Throwable", "<init>", "()V"⟩ prog_22_method_1_code 1 none ∈ lw_tbl := List.mem_of_getElem? (i := 349) (by decide +kernel)
theorem q_350 : Cond.methodLink "java/lang/Throwable" 1 Lib.objectInit ∈ lw_tbl := List.mem_of_getElem? (i := 350) (by decide +kernel)
theorem q_351 : Cond.fieldLink "java/lang/Throwable" 13 "java/lang/Throwable" "UNASSIGNED_STACK" "[Ljava/lang/StackTraceElement;" ∈ lw_tbl := List.mem_of_getElem? (i := 351) (by decide +kernel)
theorem q_353 : Cond.fieldLink "java/lang/Throwable" 20 "java/lang/Throwable" "SUPPRESSED_SENTINEL" "Ljava/util/List;" ∈ lw_tbl := List.mem_of_getElem? (i := 353) (by decide +kernel)
theorem q_355 : Cond.methodLink "java/lang/Throwable" 27 ⟨"java/lang/Throwable", "fillInStackTrace", "()Ljava/lang/Throwable;"⟩ ∈ lw_tbl := List.mem_of_getElem? (i := 355) (by decide +kernel)
theorem q_356 : Cond.instanceMethod ⟨"java/lang/Throwable", "fillInStackTrace", "()Ljava/lang/Throwable;"⟩ ∈ lw_tbl := List.mem_of_getElem? (i := 356) (by decide +kernel)
theorem q_357 : Cond.sameMethod "java/lang/Throwable" "java/lang/Throwable" "fillInStackTrace" "()Ljava/lang/Throwable;" ∈ lw_tbl := List.mem_of_getElem? (i := 357) (by decide +kernel)
theorem q_358 : Cond.selects "java/lang/IllegalStateException" ⟨"java/lang/Throwable", "fillInStackTrace", "()Ljava/lang/Throwable;"⟩ ⟨"java/lang/Throwable", "fillInStackTrace", "()Ljava/lang/Throwable;"⟩ ∈ lw_tbl := List.mem_of_getElem? (i := 358) (by decide +kernel)
theorem q_359 : Cond.selects "java/lang/IndexOutOfBoundsException" ⟨"java/lang/Throwable", "fillInStackTrace", "()Ljava/lang/Throwable;"⟩ ⟨"java/lang/Throwable", "fillInStackTrace", "()Ljava/lang/Throwable;"⟩ ∈ lw_tbl := List.mem_of_getElem? (i := 359) (by decide +kernel)
theorem q_361 : Cond.methodLink "java/lang/Throwable" 202 ⟨"java/lang/Throwable", "fillInStackTrace", "(I)Ljava/lang/Throwable;"⟩ ∈ lw_tbl := List.mem_of_getElem? (i := 361) (by decide +kernel)
theorem q_363 : Cond.instanceMethod ⟨"java/lang/Throwable", "fillInStackTrace", "(I)Ljava/lang/Throwable;"⟩ ∈ lw_tbl := List.mem_of_getElem? (i := 363) (by decide +kernel)
theorem q_364 : Cond.instantiable "java/lang/Throwable" 6 ∈ lw_tbl := List.mem_of_getElem? (i := 364) (by decide +kernel)
theorem q_365 : Cond.native ⟨"java/lang/Throwable", "fillInStackTrace", "(I)Ljava/lang/Throwable;"⟩ ∈ lw_tbl := List.mem_of_getElem? (i := 365) (by decide +kernel)
theorem q_367 : Cond.methodLink RX7 45 ⟨"java/lang/IllegalArgumentException", "<init>", "(Ljava/lang/String;)V"⟩ ∈ lw_tbl := List.mem_of_getElem? (i := 367) (by decide +kernel)
theorem q_368 : Cond.instanceMethod ⟨"java/lang/IllegalArgumentException", "<init>", "(Ljava/lang/String;)V"⟩ ∈ lw_tbl := List.mem_of_getElem? (i := 368) (by decide +kernel)
theorem q_369 : Cond.code ⟨"java/lang/IllegalArgumentException", "<init>", "(Ljava/lang/String;)V"⟩ prog_14_method_2_code 2 none ∈ lw_tbl := List.mem_of_getElem? (i := 369) (by decide +kernel)
theorem q_370 : Cond.methodLink "java/lang/IllegalArgumentException" 7 ⟨"java/lang/RuntimeException", "<init>", "(Ljava/lang/String;)V"⟩ ∈ lw_tbl := List.mem_of_getElem? (i := 370) (by decide +kernel)
theorem q_371 : Cond.instanceMethod ⟨"java/lang/RuntimeException", "<init>", "(Ljava/lang/String;)V"⟩ ∈ lw_tbl := List.mem_of_getElem? (i := 371) (by decide +kernel)
theorem q_372 : Cond.code ⟨"java/lang/RuntimeException", "<init>", "(Ljava/lang/String;)V"⟩ prog_19_method_2_code 2 none ∈ lw_tbl := List.mem_of_getElem? (i := 372) (by decide +kernel)
theorem q_373 : Cond.methodLink "java/lang/RuntimeException" 7 ⟨"java/lang/Exception", "<init>", "(Ljava/lang/String;)V"⟩ ∈ lw_tbl := List.mem_of_getElem? (i := 373) (by decide +kernel)
theorem q_374 : Cond.instanceMethod ⟨"java/lang/Exception", "<init>", "(Ljava/lang/String;)V"⟩ ∈ lw_tbl := List.mem_of_getElem? (i := 374) (by decide +kernel)
theorem q_375 : Cond.code ⟨"java/lang/Exception", "<init>", "(Ljava/lang/String;)V"⟩ prog_13_method_2_code 2 none ∈ lw_tbl := List.mem_of_getElem? (i := 375) (by decide +kernel)
theorem q_376 : Cond.methodLink "java/lang/Exception" 7 ⟨"java/lang/Throwable", "<init>", "(Ljava/lang/String;)V"⟩ ∈ lw_tbl := List.mem_of_getElem? (i := 376) (by decide +kernel)
theorem q_377 : Cond.instanceMethod ⟨"java/lang/Throwable", "<init>", "(Ljava/lang/String;)V"⟩ ∈ lw_tbl := List.mem_of_getElem? (i := 377) (by decide +kernel)
theorem q_378 : Cond.code ⟨"java/lang/Throwable", "<init>", "(Ljava/lang/String;)V"⟩ prog_22_method_2_code 2 none ∈ lw_tbl := List.mem_of_getElem? (i := 378) (by decide +kernel)
theorem q_379 : Cond.fieldLink "java/lang/Throwable" 198 "java/lang/Throwable" "backtrace" "Ljava/lang/Object;" ∈ lw_tbl := List.mem_of_getElem? (i := 379) (by decide +kernel)
theorem q_380 : Cond.fieldLink "java/lang/Throwable" 31 "java/lang/Throwable" "detailMessage" "Ljava/lang/String;" ∈ lw_tbl := List.mem_of_getElem? (i := 380) (by decide +kernel)
theorem q_381 : Cond.fieldLink "java/lang/Throwable" 7 "java/lang/Throwable" "cause" "Ljava/lang/Throwable;" ∈ lw_tbl := List.mem_of_getElem? (i := 381) (by decide +kernel)
theorem q_382 : Cond.fieldLink "java/lang/Throwable" 17 "java/lang/Throwable" "stackTrace" "[Ljava/lang/StackTraceElement;" ∈ lw_tbl := List.mem_of_getElem? (i := 382) (by decide +kernel)
theorem q_383 : Cond.fieldLink "java/lang/Throwable" 24 "java/lang/Throwable" "suppressedExceptions" "Ljava/util/List;" ∈ lw_tbl := List.mem_of_getElem? (i := 383) (by decide +kernel)
theorem q_392 : Cond.arrayClass .byte ∈ lw_tbl := List.mem_of_getElem? (i := 392) (by decide +kernel)
theorem q_395 : Cond.classLink RX7 59 "java/lang/IllegalStateException" ∈ lw_tbl := List.mem_of_getElem? (i := 395) (by decide +kernel)
theorem q_396 : Cond.instantiable "java/lang/IllegalStateException" 6 ∈ lw_tbl := List.mem_of_getElem? (i := 396) (by decide +kernel)
theorem q_397 : Cond.castable "java/lang/IllegalStateException" "java/lang/IllegalStateException" ∈ lw_tbl := List.mem_of_getElem? (i := 397) (by decide +kernel)
theorem q_398 : Cond.selects "java/lang/IllegalStateException" ⟨"java/lang/Throwable", "fillInStackTrace", "(I)Ljava/lang/Throwable;"⟩ ⟨"java/lang/Throwable", "fillInStackTrace", "(I)Ljava/lang/Throwable;"⟩ ∈ lw_tbl := List.mem_of_getElem? (i := 398) (by decide +kernel)
theorem q_405 : Cond.methodLink RX7 63 ⟨"java/lang/IllegalStateException", "<init>", "(Ljava/lang/String;)V"⟩ ∈ lw_tbl := List.mem_of_getElem? (i := 405) (by decide +kernel)
theorem q_406 : Cond.instanceMethod ⟨"java/lang/IllegalStateException", "<init>", "(Ljava/lang/String;)V"⟩ ∈ lw_tbl := List.mem_of_getElem? (i := 406) (by decide +kernel)
theorem q_407 : Cond.code ⟨"java/lang/IllegalStateException", "<init>", "(Ljava/lang/String;)V"⟩ prog_15_method_2_code 2 none ∈ lw_tbl := List.mem_of_getElem? (i := 407) (by decide +kernel)
theorem q_408 : Cond.methodLink "java/lang/IllegalStateException" 7 ⟨"java/lang/RuntimeException", "<init>", "(Ljava/lang/String;)V"⟩ ∈ lw_tbl := List.mem_of_getElem? (i := 408) (by decide +kernel)
theorem q_411 : Cond.classLink RX7 64 RX6 ∈ lw_tbl := List.mem_of_getElem? (i := 411) (by decide +kernel)
theorem q_412 : Cond.instantiable RX6 3 ∈ lw_tbl := List.mem_of_getElem? (i := 412) (by decide +kernel)
theorem q_413 : Cond.methodLink RX7 66 yX6_init ∈ lw_tbl := List.mem_of_getElem? (i := 413) (by decide +kernel)
theorem q_414 : Cond.instanceMethod yX6_init ∈ lw_tbl := List.mem_of_getElem? (i := 414) (by decide +kernel)
theorem q_415 : Cond.code yX6_init cX6_init 4 none ∈ lw_tbl := List.mem_of_getElem? (i := 415) (by decide +kernel)
theorem q_416 : Cond.methodLink RX6 1 Lib.objectInit ∈ lw_tbl := List.mem_of_getElem? (i := 416) (by decide +kernel)
theorem q_417 : Cond.fieldLink RX6 7 RX6 "range" "I" ∈ lw_tbl := List.mem_of_getElem? (i := 417) (by decide +kernel)
theorem q_418 : Cond.fieldLinkNest RX7 86 RX6 "range" "I" RX7 ∈ lw_tbl := List.mem_of_getElem? (i := 418) (by decide +kernel)
theorem q_419 : Cond.fieldLink RX6 13 RX6 "period" "I" ∈ lw_tbl := List.mem_of_getElem? (i := 419) (by decide +kernel)
theorem q_420 : Cond.fieldLink RX6 16 RX6 "offset" "I" ∈ lw_tbl := List.mem_of_getElem? (i := 420) (by decide +kernel)
theorem q_428 : Cond.methodLink RX7 69 yJx4a65c_add_9ea2d ∈ lw_tbl := List.mem_of_getElem? (i := 428) (by decide +kernel)
theorem q_429 : Cond.instanceMethod yJx4a65c_add_9ea2d ∈ lw_tbl := List.mem_of_getElem? (i := 429) (by decide +kernel)
theorem q_430 : Cond.selects RJx4a65c yJx4a65c_add_9ea2d yJx4a65c_add_9ea2d ∈ lw_tbl := List.mem_of_getElem? (i := 430) (by decide +kernel)
theorem q_431 : Cond.code yJx4a65c_add_9ea2d cJx4a65c_add_9ea2d 2 (some .boolean) ∈ lw_tbl := List.mem_of_getElem? (i := 431) (by decide +kernel)
theorem q_432 : Cond.methodLink RJx4a65c 131 yJx4a65c_add_72be8 ∈ lw_tbl := List.mem_of_getElem? (i := 432) (by decide +kernel)
theorem q_434 : Cond.instanceMethod yJx4a65c_add_72be8 ∈ lw_tbl := List.mem_of_getElem? (i := 434) (by decide +kernel)
theorem q_435 : Cond.code yJx4a65c_add_72be8 cJx4a65c_add_72be8 4 none ∈ lw_tbl := List.mem_of_getElem? (i := 435) (by decide +kernel)
theorem q_436 : Cond.methodLink RJx4a65c 129 yJx4a65c_grow_d5877 ∈ lw_tbl := List.mem_of_getElem? (i := 436) (by decide +kernel)
theorem q_438 : Cond.instanceMethod yJx4a65c_grow_d5877 ∈ lw_tbl := List.mem_of_getElem? (i := 438) (by decide +kernel)
theorem q_439 : Cond.code yJx4a65c_grow_d5877 cJx4a65c_grow_d5877 1 (some (.array (.object "java/lang/Object"))) ∈ lw_tbl := List.mem_of_getElem? (i := 439) (by decide +kernel)
theorem q_440 : Cond.methodLink RJx4a65c 69 yJx4a65c_grow_92f84 ∈ lw_tbl := List.mem_of_getElem? (i := 440) (by decide +kernel)
theorem q_442 : Cond.instanceMethod yJx4a65c_grow_92f84 ∈ lw_tbl := List.mem_of_getElem? (i := 442) (by decide +kernel)
theorem q_443 : Cond.code yJx4a65c_grow_92f84 cJx4a65c_grow_92f84 4 (some (.array (.object "java/lang/Object"))) ∈ lw_tbl := List.mem_of_getElem? (i := 443) (by decide +kernel)
theorem q_444 : Cond.methodLink RJx4a65c 73 yJ8_newLength_cabcc ∈ lw_tbl := List.mem_of_getElem? (i := 444) (by decide +kernel)
theorem q_445 : Cond.static yJ8_newLength_cabcc ∈ lw_tbl := List.mem_of_getElem? (i := 445) (by decide +kernel)
theorem q_446 : Cond.code yJ8_newLength_cabcc cJ8_newLength_cabcc 4 (some .int) ∈ lw_tbl := List.mem_of_getElem? (i := 446) (by decide +kernel)
theorem q_447 : Cond.methodLink RJ8 194 Lib.Math.max.name ∈ lw_tbl := List.mem_of_getElem? (i := 447) (by decide +kernel)
theorem q_448 : Cond.constant RJ8 200 (2147483639) ∈ lw_tbl := List.mem_of_getElem? (i := 448) (by decide +kernel)
theorem q_449 : Cond.methodLink RJ8 201 yJ8_hugeLength_7cf53 ∈ lw_tbl := List.mem_of_getElem? (i := 449) (by decide +kernel)
theorem q_450 : Cond.static yJ8_hugeLength_7cf53 ∈ lw_tbl := List.mem_of_getElem? (i := 450) (by decide +kernel)
theorem q_451 : Cond.code yJ8_hugeLength_7cf53 cJ8_hugeLength_7cf53 3 (some .int) ∈ lw_tbl := List.mem_of_getElem? (i := 451) (by decide +kernel)
theorem q_452 : Cond.methodLink RJx4a65c 66 yJ7_copyOf_1904c ∈ lw_tbl := List.mem_of_getElem? (i := 452) (by decide +kernel)
theorem q_453 : Cond.static yJ7_copyOf_1904c ∈ lw_tbl := List.mem_of_getElem? (i := 453) (by decide +kernel)
theorem q_454 : Cond.code yJ7_copyOf_1904c cJ7_copyOf_1904c 2 (some (.array (.object "java/lang/Object"))) ∈ lw_tbl := List.mem_of_getElem? (i := 454) (by decide +kernel)
theorem q_455 : Cond.methodLink RJ7 86 ⟨"java/lang/Object", "getClass", "()Ljava/lang/Class;"⟩ ∈ lw_tbl := List.mem_of_getElem? (i := 455) (by decide +kernel)
theorem q_456 : Cond.instanceMethod ⟨"java/lang/Object", "getClass", "()Ljava/lang/Class;"⟩ ∈ lw_tbl := List.mem_of_getElem? (i := 456) (by decide +kernel)
theorem q_457 : Cond.sameMethod "java/lang/Object" "java/lang/Object" "getClass" "()Ljava/lang/Class;" ∈ lw_tbl := List.mem_of_getElem? (i := 457) (by decide +kernel)
theorem q_458 : Cond.selects RX7 ⟨"java/lang/Object", "getClass", "()Ljava/lang/Class;"⟩ ⟨"java/lang/Object", "getClass", "()Ljava/lang/Class;"⟩ ∈ lw_tbl := List.mem_of_getElem? (i := 458) (by decide +kernel)
theorem q_459 : Cond.selects RX0 ⟨"java/lang/Object", "getClass", "()Ljava/lang/Class;"⟩ ⟨"java/lang/Object", "getClass", "()Ljava/lang/Class;"⟩ ∈ lw_tbl := List.mem_of_getElem? (i := 459) (by decide +kernel)
theorem q_460 : Cond.selects RX1 ⟨"java/lang/Object", "getClass", "()Ljava/lang/Class;"⟩ ⟨"java/lang/Object", "getClass", "()Ljava/lang/Class;"⟩ ∈ lw_tbl := List.mem_of_getElem? (i := 460) (by decide +kernel)
theorem q_461 : Cond.selects RX2 ⟨"java/lang/Object", "getClass", "()Ljava/lang/Class;"⟩ ⟨"java/lang/Object", "getClass", "()Ljava/lang/Class;"⟩ ∈ lw_tbl := List.mem_of_getElem? (i := 461) (by decide +kernel)
theorem q_462 : Cond.selects RX3 ⟨"java/lang/Object", "getClass", "()Ljava/lang/Class;"⟩ ⟨"java/lang/Object", "getClass", "()Ljava/lang/Class;"⟩ ∈ lw_tbl := List.mem_of_getElem? (i := 462) (by decide +kernel)
theorem q_463 : Cond.selects RX4 ⟨"java/lang/Object", "getClass", "()Ljava/lang/Class;"⟩ ⟨"java/lang/Object", "getClass", "()Ljava/lang/Class;"⟩ ∈ lw_tbl := List.mem_of_getElem? (i := 463) (by decide +kernel)
theorem q_464 : Cond.selects RX5 ⟨"java/lang/Object", "getClass", "()Ljava/lang/Class;"⟩ ⟨"java/lang/Object", "getClass", "()Ljava/lang/Class;"⟩ ∈ lw_tbl := List.mem_of_getElem? (i := 464) (by decide +kernel)
theorem q_465 : Cond.selects RX6 ⟨"java/lang/Object", "getClass", "()Ljava/lang/Class;"⟩ ⟨"java/lang/Object", "getClass", "()Ljava/lang/Class;"⟩ ∈ lw_tbl := List.mem_of_getElem? (i := 465) (by decide +kernel)
theorem q_466 : Cond.selects RX8 ⟨"java/lang/Object", "getClass", "()Ljava/lang/Class;"⟩ ⟨"java/lang/Object", "getClass", "()Ljava/lang/Class;"⟩ ∈ lw_tbl := List.mem_of_getElem? (i := 466) (by decide +kernel)
theorem q_467 : Cond.selects "java/lang/IllegalArgumentException" ⟨"java/lang/Object", "getClass", "()Ljava/lang/Class;"⟩ ⟨"java/lang/Object", "getClass", "()Ljava/lang/Class;"⟩ ∈ lw_tbl := List.mem_of_getElem? (i := 467) (by decide +kernel)
theorem q_468 : Cond.selects "java/lang/IllegalStateException" ⟨"java/lang/Object", "getClass", "()Ljava/lang/Class;"⟩ ⟨"java/lang/Object", "getClass", "()Ljava/lang/Class;"⟩ ∈ lw_tbl := List.mem_of_getElem? (i := 468) (by decide +kernel)
theorem q_469 : Cond.selects "java/lang/IndexOutOfBoundsException" ⟨"java/lang/Object", "getClass", "()Ljava/lang/Class;"⟩ ⟨"java/lang/Object", "getClass", "()Ljava/lang/Class;"⟩ ∈ lw_tbl := List.mem_of_getElem? (i := 469) (by decide +kernel)
theorem q_470 : Cond.selects RJx4a65c ⟨"java/lang/Object", "getClass", "()Ljava/lang/Class;"⟩ ⟨"java/lang/Object", "getClass", "()Ljava/lang/Class;"⟩ ∈ lw_tbl := List.mem_of_getElem? (i := 470) (by decide +kernel)
theorem q_471 : Cond.native ⟨"java/lang/Object", "getClass", "()Ljava/lang/Class;"⟩ ∈ lw_tbl := List.mem_of_getElem? (i := 471) (by decide +kernel)
theorem q_472 : Cond.methodLink RJ7 300 yJ7_copyOf_6403c ∈ lw_tbl := List.mem_of_getElem? (i := 472) (by decide +kernel)
theorem q_473 : Cond.static yJ7_copyOf_6403c ∈ lw_tbl := List.mem_of_getElem? (i := 473) (by decide +kernel)
theorem q_474 : Cond.code yJ7_copyOf_6403c cJ7_copyOf_6403c 4 (some (.array (.object "java/lang/Object"))) ∈ lw_tbl := List.mem_of_getElem? (i := 474) (by decide +kernel)
theorem q_475 : Cond.classLink RJ7 110 "[Ljava/lang/Object;" ∈ lw_tbl := List.mem_of_getElem? (i := 475) (by decide +kernel)
theorem q_477 : Cond.classLink RJ7 2 "java/lang/Object" ∈ lw_tbl := List.mem_of_getElem? (i := 477) (by decide +kernel)
theorem q_478 : Cond.methodLink RJ7 304 Lib.Math.min.name ∈ lw_tbl := List.mem_of_getElem? (i := 478) (by decide +kernel)
theorem q_479 : Cond.methodLink RJ7 150 arraycopyName ∈ lw_tbl := List.mem_of_getElem? (i := 479) (by decide +kernel)
theorem q_480 : Cond.static arraycopyName ∈ lw_tbl := List.mem_of_getElem? (i := 480) (by decide +kernel)
theorem q_481 : Cond.native arraycopyName ∈ lw_tbl := List.mem_of_getElem? (i := 481) (by decide +kernel)
theorem q_482 : Cond.methodLink RJx4a65c 79 Lib.Math.max.name ∈ lw_tbl := List.mem_of_getElem? (i := 482) (by decide +kernel)
theorem q_483 : Cond.classLink RJx4a65c 7 "java/lang/Object" ∈ lw_tbl := List.mem_of_getElem? (i := 483) (by decide +kernel)
theorem q_484 : Cond.methodLink RL 91 yL_setRange ∈ lw_tbl := List.mem_of_getElem? (i := 484) (by decide +kernel)
theorem q_485 : Cond.static yL_setRange ∈ lw_tbl := List.mem_of_getElem? (i := 485) (by decide +kernel)
theorem q_486 : Cond.codeWith yL_setRange cL_setRange 5 (some .int) [((0), (10), (13), (21)), ((0), (10), (17), (13))] ∈ lw_tbl := List.mem_of_getElem? (i := 486) (by decide +kernel)
theorem q_487 : Cond.classLink RL 21 "java/lang/IndexOutOfBoundsException" ∈ lw_tbl := List.mem_of_getElem? (i := 487) (by decide +kernel)
theorem q_488 : Cond.methodLink RL 17 yX7_setRange ∈ lw_tbl := List.mem_of_getElem? (i := 488) (by decide +kernel)
theorem q_489 : Cond.instanceMethod yX7_setRange ∈ lw_tbl := List.mem_of_getElem? (i := 489) (by decide +kernel)
theorem q_490 : Cond.selects RX7 yX7_setRange yX7_setRange ∈ lw_tbl := List.mem_of_getElem? (i := 490) (by decide +kernel)
theorem q_491 : Cond.code yX7_setRange cX7_setRange 5 (some .int) ∈ lw_tbl := List.mem_of_getElem? (i := 491) (by decide +kernel)
theorem q_492 : Cond.methodLink RX7 73 yX7_hasWave ∈ lw_tbl := List.mem_of_getElem? (i := 492) (by decide +kernel)
theorem q_494 : Cond.instanceMethod yX7_hasWave ∈ lw_tbl := List.mem_of_getElem? (i := 494) (by decide +kernel)
theorem q_495 : Cond.code yX7_hasWave cX7_hasWave 2 (some .boolean) ∈ lw_tbl := List.mem_of_getElem? (i := 495) (by decide +kernel)
theorem q_496 : Cond.classLink RX7 77 "java/lang/IndexOutOfBoundsException" ∈ lw_tbl := List.mem_of_getElem? (i := 496) (by decide +kernel)
theorem q_497 : Cond.instantiable "java/lang/IndexOutOfBoundsException" 6 ∈ lw_tbl := List.mem_of_getElem? (i := 497) (by decide +kernel)
theorem q_498 : Cond.castable "java/lang/IndexOutOfBoundsException" "java/lang/IndexOutOfBoundsException" ∈ lw_tbl := List.mem_of_getElem? (i := 498) (by decide +kernel)
theorem q_499 : Cond.selects "java/lang/IndexOutOfBoundsException" ⟨"java/lang/Throwable", "fillInStackTrace", "(I)Ljava/lang/Throwable;"⟩ ⟨"java/lang/Throwable", "fillInStackTrace", "(I)Ljava/lang/Throwable;"⟩ ∈ lw_tbl := List.mem_of_getElem? (i := 499) (by decide +kernel)
theorem q_506 : Cond.methodLink RX7 81 ⟨"java/lang/IndexOutOfBoundsException", "<init>", "(Ljava/lang/String;)V"⟩ ∈ lw_tbl := List.mem_of_getElem? (i := 506) (by decide +kernel)
theorem q_507 : Cond.instanceMethod ⟨"java/lang/IndexOutOfBoundsException", "<init>", "(Ljava/lang/String;)V"⟩ ∈ lw_tbl := List.mem_of_getElem? (i := 507) (by decide +kernel)
theorem q_508 : Cond.code ⟨"java/lang/IndexOutOfBoundsException", "<init>", "(Ljava/lang/String;)V"⟩ prog_16_method_2_code 2 none ∈ lw_tbl := List.mem_of_getElem? (i := 508) (by decide +kernel)
theorem q_509 : Cond.methodLink "java/lang/IndexOutOfBoundsException" 7 ⟨"java/lang/RuntimeException", "<init>", "(Ljava/lang/String;)V"⟩ ∈ lw_tbl := List.mem_of_getElem? (i := 509) (by decide +kernel)
theorem q_512 : Cond.methodLink RL 95 yL_setLevel ∈ lw_tbl := List.mem_of_getElem? (i := 512) (by decide +kernel)
theorem q_513 : Cond.static yL_setLevel ∈ lw_tbl := List.mem_of_getElem? (i := 513) (by decide +kernel)
theorem q_514 : Cond.codeWith yL_setLevel cL_setLevel 4 (some .int) [((0), (9), (12), (13))] ∈ lw_tbl := List.mem_of_getElem? (i := 514) (by decide +kernel)
theorem q_515 : Cond.methodLink RL 23 yX7_setLevel ∈ lw_tbl := List.mem_of_getElem? (i := 515) (by decide +kernel)
theorem q_516 : Cond.instanceMethod yX7_setLevel ∈ lw_tbl := List.mem_of_getElem? (i := 516) (by decide +kernel)
theorem q_517 : Cond.selects RX7 yX7_setLevel yX7_setLevel ∈ lw_tbl := List.mem_of_getElem? (i := 517) (by decide +kernel)
theorem q_518 : Cond.code yX7_setLevel cX7_setLevel 3 (some .int) ∈ lw_tbl := List.mem_of_getElem? (i := 518) (by decide +kernel)
theorem q_520 : Cond.methodLink RL 99 yL_height ∈ lw_tbl := List.mem_of_getElem? (i := 520) (by decide +kernel)
theorem q_521 : Cond.static yL_height ∈ lw_tbl := List.mem_of_getElem? (i := 521) (by decide +kernel)
theorem q_522 : Cond.codeWith yL_height cL_height 4 (some .int) [((0), (9), (12), (13))] ∈ lw_tbl := List.mem_of_getElem? (i := 522) (by decide +kernel)
theorem q_523 : Cond.methodLink RL 27 yX7_height ∈ lw_tbl := List.mem_of_getElem? (i := 523) (by decide +kernel)
theorem q_524 : Cond.instanceMethod yX7_height ∈ lw_tbl := List.mem_of_getElem? (i := 524) (by decide +kernel)
theorem q_525 : Cond.selects RX7 yX7_height yX7_height ∈ lw_tbl := List.mem_of_getElem? (i := 525) (by decide +kernel)
theorem q_526 : Cond.code yX7_height cX7_height 2 (some .int) ∈ lw_tbl := List.mem_of_getElem? (i := 526) (by decide +kernel)
theorem q_527 : Cond.methodLink RX7 95 yX7_isMinute ∈ lw_tbl := List.mem_of_getElem? (i := 527) (by decide +kernel)
theorem q_528 : Cond.static yX7_isMinute ∈ lw_tbl := List.mem_of_getElem? (i := 528) (by decide +kernel)
theorem q_529 : Cond.code yX7_isMinute cX7_isMinute 1 (some .boolean) ∈ lw_tbl := List.mem_of_getElem? (i := 529) (by decide +kernel)
theorem q_531 : Cond.methodLink RL 102 yL_waveHeight ∈ lw_tbl := List.mem_of_getElem? (i := 531) (by decide +kernel)
theorem q_532 : Cond.static yL_waveHeight ∈ lw_tbl := List.mem_of_getElem? (i := 532) (by decide +kernel)
theorem q_533 : Cond.codeWith yL_waveHeight cL_waveHeight 5 (some .int) [((0), (10), (13), (21)), ((0), (10), (17), (13))] ∈ lw_tbl := List.mem_of_getElem? (i := 533) (by decide +kernel)
theorem q_534 : Cond.methodLink RL 30 yX7_waveHeight ∈ lw_tbl := List.mem_of_getElem? (i := 534) (by decide +kernel)
theorem q_535 : Cond.instanceMethod yX7_waveHeight ∈ lw_tbl := List.mem_of_getElem? (i := 535) (by decide +kernel)
theorem q_536 : Cond.selects RX7 yX7_waveHeight yX7_waveHeight ∈ lw_tbl := List.mem_of_getElem? (i := 536) (by decide +kernel)
theorem q_537 : Cond.code yX7_waveHeight cX7_waveHeight 3 (some .int) ∈ lw_tbl := List.mem_of_getElem? (i := 537) (by decide +kernel)
theorem q_538 : Cond.methodLink RX7 104 yX6_heightAt ∈ lw_tbl := List.mem_of_getElem? (i := 538) (by decide +kernel)
theorem q_539 : Cond.methodLink RL 105 yL_count ∈ lw_tbl := List.mem_of_getElem? (i := 539) (by decide +kernel)
theorem q_540 : Cond.static yL_count ∈ lw_tbl := List.mem_of_getElem? (i := 540) (by decide +kernel)
theorem q_541 : Cond.codeWith yL_count cL_count 4 (some .int) [((0), (9), (12), (21))] ∈ lw_tbl := List.mem_of_getElem? (i := 541) (by decide +kernel)
theorem q_542 : Cond.methodLink RL 33 yX7_count ∈ lw_tbl := List.mem_of_getElem? (i := 542) (by decide +kernel)
theorem q_543 : Cond.instanceMethod yX7_count ∈ lw_tbl := List.mem_of_getElem? (i := 543) (by decide +kernel)
theorem q_544 : Cond.selects RX7 yX7_count yX7_count ∈ lw_tbl := List.mem_of_getElem? (i := 544) (by decide +kernel)
theorem q_545 : Cond.code yX7_count cX7_count 2 (some .int) ∈ lw_tbl := List.mem_of_getElem? (i := 545) (by decide +kernel)
theorem q_547 : Cond.methodLink RL 108 yL_water ∈ lw_tbl := List.mem_of_getElem? (i := 547) (by decide +kernel)
theorem q_548 : Cond.static yL_water ∈ lw_tbl := List.mem_of_getElem? (i := 548) (by decide +kernel)
theorem q_549 : Cond.codeWith yL_water cL_water 5 (some .int) [((0), (10), (13), (21))] ∈ lw_tbl := List.mem_of_getElem? (i := 549) (by decide +kernel)
theorem q_550 : Cond.methodLink RL 36 yX7_water ∈ lw_tbl := List.mem_of_getElem? (i := 550) (by decide +kernel)
theorem q_551 : Cond.instanceMethod yX7_water ∈ lw_tbl := List.mem_of_getElem? (i := 551) (by decide +kernel)
theorem q_552 : Cond.selects RX7 yX7_water yX7_water ∈ lw_tbl := List.mem_of_getElem? (i := 552) (by decide +kernel)
theorem q_553 : Cond.code yX7_water cX7_water 4 (some .int) ∈ lw_tbl := List.mem_of_getElem? (i := 553) (by decide +kernel)
theorem q_554 : Cond.methodLink RX7 114 yX3_hasWater ∈ lw_tbl := List.mem_of_getElem? (i := 554) (by decide +kernel)
theorem q_557 : Cond.methodLink RL 111 yL_next ∈ lw_tbl := List.mem_of_getElem? (i := 557) (by decide +kernel)
theorem q_558 : Cond.static yL_next ∈ lw_tbl := List.mem_of_getElem? (i := 558) (by decide +kernel)
theorem q_559 : Cond.codeWith yL_next cL_next 5 (some .int) [((0), (10), (13), (13))] ∈ lw_tbl := List.mem_of_getElem? (i := 559) (by decide +kernel)
theorem q_560 : Cond.methodLink RL 39 yX7_next ∈ lw_tbl := List.mem_of_getElem? (i := 560) (by decide +kernel)
theorem q_561 : Cond.instanceMethod yX7_next ∈ lw_tbl := List.mem_of_getElem? (i := 561) (by decide +kernel)
theorem q_562 : Cond.selects RX7 yX7_next yX7_next ∈ lw_tbl := List.mem_of_getElem? (i := 562) (by decide +kernel)
theorem q_563 : Cond.code yX7_next cX7_next 5 (some .int) ∈ lw_tbl := List.mem_of_getElem? (i := 563) (by decide +kernel)
theorem q_564 : Cond.methodLink RL 115 yL_datum ∈ lw_tbl := List.mem_of_getElem? (i := 564) (by decide +kernel)
theorem q_565 : Cond.static yL_datum ∈ lw_tbl := List.mem_of_getElem? (i := 565) (by decide +kernel)
theorem q_566 : Cond.codeWith yL_datum cL_datum 4 (some .int) [((0), (9), (12), (21))] ∈ lw_tbl := List.mem_of_getElem? (i := 566) (by decide +kernel)
theorem q_567 : Cond.methodLink RL 43 yX7_datum ∈ lw_tbl := List.mem_of_getElem? (i := 567) (by decide +kernel)
theorem q_568 : Cond.instanceMethod yX7_datum ∈ lw_tbl := List.mem_of_getElem? (i := 568) (by decide +kernel)
theorem q_569 : Cond.selects RX7 yX7_datum yX7_datum ∈ lw_tbl := List.mem_of_getElem? (i := 569) (by decide +kernel)
theorem q_570 : Cond.code yX7_datum cX7_datum 2 (some .int) ∈ lw_tbl := List.mem_of_getElem? (i := 570) (by decide +kernel)
theorem q_572 : Cond.methodLink RL 118 yL_addPort ∈ lw_tbl := List.mem_of_getElem? (i := 572) (by decide +kernel)
theorem q_573 : Cond.static yL_addPort ∈ lw_tbl := List.mem_of_getElem? (i := 573) (by decide +kernel)
theorem q_574 : Cond.codeWith yL_addPort cL_addPort 3 (some .int) [((0), (8), (11), (15))] ∈ lw_tbl := List.mem_of_getElem? (i := 574) (by decide +kernel)
theorem q_575 : Cond.methodLink RL 46 yX7_addPort ∈ lw_tbl := List.mem_of_getElem? (i := 575) (by decide +kernel)
theorem q_576 : Cond.instanceMethod yX7_addPort ∈ lw_tbl := List.mem_of_getElem? (i := 576) (by decide +kernel)
theorem q_577 : Cond.selects RX7 yX7_addPort yX7_addPort ∈ lw_tbl := List.mem_of_getElem? (i := 577) (by decide +kernel)
theorem q_578 : Cond.code yX7_addPort cX7_addPort 1 (some .int) ∈ lw_tbl := List.mem_of_getElem? (i := 578) (by decide +kernel)
theorem q_580 : Cond.instantiable RX1 3 ∈ lw_tbl := List.mem_of_getElem? (i := 580) (by decide +kernel)
theorem q_581 : Cond.methodLinkNest RX7 142 yX1_init RX7 ∈ lw_tbl := List.mem_of_getElem? (i := 581) (by decide +kernel)
theorem q_582 : Cond.instanceMethod yX1_init ∈ lw_tbl := List.mem_of_getElem? (i := 582) (by decide +kernel)
theorem q_583 : Cond.code yX1_init cX1_init 1 none ∈ lw_tbl := List.mem_of_getElem? (i := 583) (by decide +kernel)
theorem q_584 : Cond.methodLink RX1 3 Lib.objectInit ∈ lw_tbl := List.mem_of_getElem? (i := 584) (by decide +kernel)
theorem q_585 : Cond.classLink RX1 9 RX0 ∈ lw_tbl := List.mem_of_getElem? (i := 585) (by decide +kernel)
theorem q_586 : Cond.instantiable RX0 2 ∈ lw_tbl := List.mem_of_getElem? (i := 586) (by decide +kernel)
theorem q_587 : Cond.methodLinkNest RX1 11 yX0_init RX7 ∈ lw_tbl := List.mem_of_getElem? (i := 587) (by decide +kernel)
theorem q_588 : Cond.instanceMethod yX0_init ∈ lw_tbl := List.mem_of_getElem? (i := 588) (by decide +kernel)
theorem q_589 : Cond.code yX0_init cX0_init 1 none ∈ lw_tbl := List.mem_of_getElem? (i := 589) (by decide +kernel)
theorem q_590 : Cond.methodLink RX0 3 Lib.objectInit ∈ lw_tbl := List.mem_of_getElem? (i := 590) (by decide +kernel)
theorem q_591 : Cond.fieldLinkNest RX1 35 RX0 "shift" "I" RX7 ∈ lw_tbl := List.mem_of_getElem? (i := 591) (by decide +kernel)
theorem q_592 : Cond.fieldLinkNest RX7 161 RX0 "shift" "I" RX7 ∈ lw_tbl := List.mem_of_getElem? (i := 592) (by decide +kernel)
theorem q_593 : Cond.fieldLink RX0 9 RX0 "factor" "I" ∈ lw_tbl := List.mem_of_getElem? (i := 593) (by decide +kernel)
theorem q_594 : Cond.fieldLinkNest RX1 39 RX0 "factor" "I" RX7 ∈ lw_tbl := List.mem_of_getElem? (i := 594) (by decide +kernel)
theorem q_595 : Cond.fieldLinkNest RX7 156 RX0 "factor" "I" RX7 ∈ lw_tbl := List.mem_of_getElem? (i := 595) (by decide +kernel)
theorem q_601 : Cond.fieldLink RX1 12 RX1 "highs" "LTideTable$Follow;" ∈ lw_tbl := List.mem_of_getElem? (i := 601) (by decide +kernel)
theorem q_602 : Cond.fieldLink RX1 18 RX1 "lows" "LTideTable$Follow;" ∈ lw_tbl := List.mem_of_getElem? (i := 602) (by decide +kernel)
theorem q_603 : Cond.fieldLink RX1 45 RX1 "addition" "I" ∈ lw_tbl := List.mem_of_getElem? (i := 603) (by decide +kernel)
theorem q_604 : Cond.fieldLinkNest RX7 166 RX1 "addition" "I" RX7 ∈ lw_tbl := List.mem_of_getElem? (i := 604) (by decide +kernel)
theorem q_612 : Cond.methodLink RL 122 yL_setPort ∈ lw_tbl := List.mem_of_getElem? (i := 612) (by decide +kernel)
theorem q_613 : Cond.static yL_setPort ∈ lw_tbl := List.mem_of_getElem? (i := 613) (by decide +kernel)
theorem q_614 : Cond.codeWith yL_setPort cL_setPort 7 (some .int) [((0), (14), (17), (21)), ((0), (14), (21), (13))] ∈ lw_tbl := List.mem_of_getElem? (i := 614) (by decide +kernel)
theorem q_615 : Cond.methodLink RL 50 yX7_setPort ∈ lw_tbl := List.mem_of_getElem? (i := 615) (by decide +kernel)
theorem q_616 : Cond.instanceMethod yX7_setPort ∈ lw_tbl := List.mem_of_getElem? (i := 616) (by decide +kernel)
theorem q_617 : Cond.selects RX7 yX7_setPort yX7_setPort ∈ lw_tbl := List.mem_of_getElem? (i := 617) (by decide +kernel)
theorem q_618 : Cond.code yX7_setPort cX7_setPort 7 (some .int) ∈ lw_tbl := List.mem_of_getElem? (i := 618) (by decide +kernel)
theorem q_619 : Cond.methodLink RX7 143 yX7_hasPort ∈ lw_tbl := List.mem_of_getElem? (i := 619) (by decide +kernel)
theorem q_621 : Cond.instanceMethod yX7_hasPort ∈ lw_tbl := List.mem_of_getElem? (i := 621) (by decide +kernel)
theorem q_622 : Cond.code yX7_hasPort cX7_hasPort 2 (some .boolean) ∈ lw_tbl := List.mem_of_getElem? (i := 622) (by decide +kernel)
theorem q_626 : Cond.methodLink RX7 152 yX1_followOf ∈ lw_tbl := List.mem_of_getElem? (i := 626) (by decide +kernel)
theorem q_627 : Cond.methodLink RL 126 yL_setAddition ∈ lw_tbl := List.mem_of_getElem? (i := 627) (by decide +kernel)
theorem q_628 : Cond.static yL_setAddition ∈ lw_tbl := List.mem_of_getElem? (i := 628) (by decide +kernel)
theorem q_629 : Cond.codeWith yL_setAddition cL_setAddition 5 (some .int) [((0), (10), (13), (21)), ((0), (10), (17), (13))] ∈ lw_tbl := List.mem_of_getElem? (i := 629) (by decide +kernel)
theorem q_630 : Cond.methodLink RL 54 yX7_setAddition ∈ lw_tbl := List.mem_of_getElem? (i := 630) (by decide +kernel)
theorem q_631 : Cond.instanceMethod yX7_setAddition ∈ lw_tbl := List.mem_of_getElem? (i := 631) (by decide +kernel)
theorem q_632 : Cond.selects RX7 yX7_setAddition yX7_setAddition ∈ lw_tbl := List.mem_of_getElem? (i := 632) (by decide +kernel)
theorem q_633 : Cond.code yX7_setAddition cX7_setAddition 5 (some .int) ∈ lw_tbl := List.mem_of_getElem? (i := 633) (by decide +kernel)
theorem q_635 : Cond.methodLink RL 129 yL_isInOrder ∈ lw_tbl := List.mem_of_getElem? (i := 635) (by decide +kernel)
theorem q_636 : Cond.static yL_isInOrder ∈ lw_tbl := List.mem_of_getElem? (i := 636) (by decide +kernel)
theorem q_637 : Cond.codeWith yL_isInOrder cL_isInOrder 4 (some .int) [((0), (16), (19), (21))] ∈ lw_tbl := List.mem_of_getElem? (i := 637) (by decide +kernel)
theorem q_638 : Cond.methodLink RL 57 yX7_isInOrder ∈ lw_tbl := List.mem_of_getElem? (i := 638) (by decide +kernel)
theorem q_639 : Cond.instanceMethod yX7_isInOrder ∈ lw_tbl := List.mem_of_getElem? (i := 639) (by decide +kernel)
theorem q_640 : Cond.selects RX7 yX7_isInOrder yX7_isInOrder ∈ lw_tbl := List.mem_of_getElem? (i := 640) (by decide +kernel)
theorem q_641 : Cond.code yX7_isInOrder cX7_isInOrder 2 (some .boolean) ∈ lw_tbl := List.mem_of_getElem? (i := 641) (by decide +kernel)
theorem q_642 : Cond.methodLink RL 132 yL_portWater ∈ lw_tbl := List.mem_of_getElem? (i := 642) (by decide +kernel)
theorem q_643 : Cond.static yL_portWater ∈ lw_tbl := List.mem_of_getElem? (i := 643) (by decide +kernel)
theorem q_644 : Cond.codeWith yL_portWater cL_portWater 6 (some .int) [((0), (12), (15), (21))] ∈ lw_tbl := List.mem_of_getElem? (i := 644) (by decide +kernel)
theorem q_645 : Cond.methodLink RL 61 yX7_portWater ∈ lw_tbl := List.mem_of_getElem? (i := 645) (by decide +kernel)
theorem q_646 : Cond.instanceMethod yX7_portWater ∈ lw_tbl := List.mem_of_getElem? (i := 646) (by decide +kernel)
theorem q_647 : Cond.selects RX7 yX7_portWater yX7_portWater ∈ lw_tbl := List.mem_of_getElem? (i := 647) (by decide +kernel)
theorem q_648 : Cond.code yX7_portWater cX7_portWater 6 (some .int) ∈ lw_tbl := List.mem_of_getElem? (i := 648) (by decide +kernel)
theorem q_649 : Cond.methodLink RL 136 yL_portHeight ∈ lw_tbl := List.mem_of_getElem? (i := 649) (by decide +kernel)
theorem q_650 : Cond.static yL_portHeight ∈ lw_tbl := List.mem_of_getElem? (i := 650) (by decide +kernel)
theorem q_651 : Cond.codeWith yL_portHeight cL_portHeight 5 (some .int) [((0), (10), (13), (21)), ((0), (10), (17), (13)), ((0), (10), (21), (15))] ∈ lw_tbl := List.mem_of_getElem? (i := 651) (by decide +kernel)
theorem q_652 : Cond.methodLink RL 65 yX7_portHeight ∈ lw_tbl := List.mem_of_getElem? (i := 652) (by decide +kernel)
theorem q_653 : Cond.instanceMethod yX7_portHeight ∈ lw_tbl := List.mem_of_getElem? (i := 653) (by decide +kernel)
theorem q_654 : Cond.selects RX7 yX7_portHeight yX7_portHeight ∈ lw_tbl := List.mem_of_getElem? (i := 654) (by decide +kernel)
theorem q_655 : Cond.code yX7_portHeight cX7_portHeight 6 (some .int) ∈ lw_tbl := List.mem_of_getElem? (i := 655) (by decide +kernel)
theorem q_657 : Cond.methodLink RX7 180 yX1_latestWater ∈ lw_tbl := List.mem_of_getElem? (i := 657) (by decide +kernel)
theorem q_658 : Cond.instanceMethod yX1_latestWater ∈ lw_tbl := List.mem_of_getElem? (i := 658) (by decide +kernel)
theorem q_659 : Cond.selects RX1 yX1_latestWater yX1_latestWater ∈ lw_tbl := List.mem_of_getElem? (i := 659) (by decide +kernel)
theorem q_660 : Cond.code yX1_latestWater cX1_latestWater 6 (some .int) ∈ lw_tbl := List.mem_of_getElem? (i := 660) (by decide +kernel)
theorem q_661 : Cond.methodLink RX7 184 yX3_isBetweenWaters ∈ lw_tbl := List.mem_of_getElem? (i := 661) (by decide +kernel)
theorem q_662 : Cond.instanceMethod yX3_isBetweenWaters ∈ lw_tbl := List.mem_of_getElem? (i := 662) (by decide +kernel)
theorem q_663 : Cond.selects RX3 yX3_isBetweenWaters yX3_isBetweenWaters ∈ lw_tbl := List.mem_of_getElem? (i := 663) (by decide +kernel)
theorem q_664 : Cond.code yX3_isBetweenWaters cX3_isBetweenWaters 2 (some .boolean) ∈ lw_tbl := List.mem_of_getElem? (i := 664) (by decide +kernel)
theorem q_666 : Cond.methodLink RX7 189 yX1_heightBehind ∈ lw_tbl := List.mem_of_getElem? (i := 666) (by decide +kernel)
theorem q_667 : Cond.instanceMethod yX1_heightBehind ∈ lw_tbl := List.mem_of_getElem? (i := 667) (by decide +kernel)
theorem q_668 : Cond.selects RX1 yX1_heightBehind yX1_heightBehind ∈ lw_tbl := List.mem_of_getElem? (i := 668) (by decide +kernel)
theorem q_669 : Cond.code yX1_heightBehind cX1_heightBehind 14 (some .int) ∈ lw_tbl := List.mem_of_getElem? (i := 669) (by decide +kernel)
theorem q_670 : Cond.methodLink RX1 54 yX1_heightOf ∈ lw_tbl := List.mem_of_getElem? (i := 670) (by decide +kernel)
theorem q_671 : Cond.methodLink RX1 56 yX1_twelfthsGone ∈ lw_tbl := List.mem_of_getElem? (i := 671) (by decide +kernel)
theorem q_672 : Cond.static yX1_twelfthsGone ∈ lw_tbl := List.mem_of_getElem? (i := 672) (by decide +kernel)
theorem q_673 : Cond.code yX1_twelfthsGone cX1_twelfthsGone 5 (some .long) ∈ lw_tbl := List.mem_of_getElem? (i := 673) (by decide +kernel)
theorem q_674 : Cond.constantLong RX1 65 (6) ∈ lw_tbl := List.mem_of_getElem? (i := 674) (by decide +kernel)
theorem q_675 : Cond.methodLinkNest RX1 62 yX7_quotient RX7 ∈ lw_tbl := List.mem_of_getElem? (i := 675) (by decide +kernel)
theorem q_676 : Cond.fieldLinkNest RX1 67 RX7 "TWELFTHS_OF_SIXTH" "[I" RX7 ∈ lw_tbl := List.mem_of_getElem? (i := 676) (by decide +kernel)
theorem q_678 : Cond.fieldLinkNest RX1 71 RX7 "TWELFTHS_AHEAD_OF_SIXTH" "[I" RX7 ∈ lw_tbl := List.mem_of_getElem? (i := 678) (by decide +kernel)
theorem q_680 : Cond.constantLong RX1 60 (12) ∈ lw_tbl := List.mem_of_getElem? (i := 680) (by decide +kernel)
theorem q_681 : Cond.methodLink RL 139 yL_windows ∈ lw_tbl := List.mem_of_getElem? (i := 681) (by decide +kernel)
theorem q_682 : Cond.static yL_windows ∈ lw_tbl := List.mem_of_getElem? (i := 682) (by decide +kernel)
theorem q_683 : Cond.codeWith yL_windows cL_windows 8 (some .int) [((0), (16), (19), (21)), ((0), (16), (23), (13))] ∈ lw_tbl := List.mem_of_getElem? (i := 683) (by decide +kernel)
theorem q_684 : Cond.methodLink RL 68 yX7_windows ∈ lw_tbl := List.mem_of_getElem? (i := 684) (by decide +kernel)
theorem q_685 : Cond.instanceMethod yX7_windows ∈ lw_tbl := List.mem_of_getElem? (i := 685) (by decide +kernel)
theorem q_686 : Cond.selects RX7 yX7_windows yX7_windows ∈ lw_tbl := List.mem_of_getElem? (i := 686) (by decide +kernel)
theorem q_687 : Cond.code yX7_windows cX7_windows 7 (some .int) ∈ lw_tbl := List.mem_of_getElem? (i := 687) (by decide +kernel)
theorem q_689 : Cond.classLink RX7 194 RX4 ∈ lw_tbl := List.mem_of_getElem? (i := 689) (by decide +kernel)
theorem q_690 : Cond.instantiable RX4 5 ∈ lw_tbl := List.mem_of_getElem? (i := 690) (by decide +kernel)
theorem q_691 : Cond.methodLinkNest RX7 196 yX4_init RX7 ∈ lw_tbl := List.mem_of_getElem? (i := 691) (by decide +kernel)
theorem q_692 : Cond.instanceMethod yX4_init ∈ lw_tbl := List.mem_of_getElem? (i := 692) (by decide +kernel)
theorem q_693 : Cond.code yX4_init cX4_init 1 none ∈ lw_tbl := List.mem_of_getElem? (i := 693) (by decide +kernel)
theorem q_694 : Cond.methodLink RX4 1 Lib.objectInit ∈ lw_tbl := List.mem_of_getElem? (i := 694) (by decide +kernel)
theorem q_695 : Cond.fieldLink RX4 16 RX4 "windows" "I" ∈ lw_tbl := List.mem_of_getElem? (i := 695) (by decide +kernel)
theorem q_696 : Cond.fieldLink RX4 19 RX4 "minutes" "I" ∈ lw_tbl := List.mem_of_getElem? (i := 696) (by decide +kernel)
theorem q_697 : Cond.fieldLink RX4 7 RX4 "first" "I" ∈ lw_tbl := List.mem_of_getElem? (i := 697) (by decide +kernel)
theorem q_698 : Cond.fieldLink RX4 22 RX4 "longest" "I" ∈ lw_tbl := List.mem_of_getElem? (i := 698) (by decide +kernel)
theorem q_699 : Cond.fieldLink RX4 13 RX4 "current" "I" ∈ lw_tbl := List.mem_of_getElem? (i := 699) (by decide +kernel)
theorem q_711 : Cond.methodLink RX7 197 yX7_tallyChiefPort ∈ lw_tbl := List.mem_of_getElem? (i := 711) (by decide +kernel)
theorem q_713 : Cond.instanceMethod yX7_tallyChiefPort ∈ lw_tbl := List.mem_of_getElem? (i := 713) (by decide +kernel)
theorem q_714 : Cond.code yX7_tallyChiefPort cX7_tallyChiefPort 7 none ∈ lw_tbl := List.mem_of_getElem? (i := 714) (by decide +kernel)
theorem q_715 : Cond.methodLink RX7 267 yX3_heightAt ∈ lw_tbl := List.mem_of_getElem? (i := 715) (by decide +kernel)
theorem q_716 : Cond.instanceMethod yX3_heightAt ∈ lw_tbl := List.mem_of_getElem? (i := 716) (by decide +kernel)
theorem q_717 : Cond.selects RX3 yX3_heightAt yX3_heightAt ∈ lw_tbl := List.mem_of_getElem? (i := 717) (by decide +kernel)
theorem q_718 : Cond.code yX3_heightAt cX3_heightAt 2 (some .int) ∈ lw_tbl := List.mem_of_getElem? (i := 718) (by decide +kernel)
theorem q_719 : Cond.methodLinkNest RX3 42 yX7_isMinute RX7 ∈ lw_tbl := List.mem_of_getElem? (i := 719) (by decide +kernel)
theorem q_720 : Cond.methodLink RX7 268 yX4_note ∈ lw_tbl := List.mem_of_getElem? (i := 720) (by decide +kernel)
theorem q_721 : Cond.instanceMethod yX4_note ∈ lw_tbl := List.mem_of_getElem? (i := 721) (by decide +kernel)
theorem q_722 : Cond.selects RX4 yX4_note yX4_note ∈ lw_tbl := List.mem_of_getElem? (i := 722) (by decide +kernel)
theorem q_723 : Cond.code yX4_note cX4_note 3 none ∈ lw_tbl := List.mem_of_getElem? (i := 723) (by decide +kernel)
theorem q_724 : Cond.methodLink RX4 25 Lib.Math.max.name ∈ lw_tbl := List.mem_of_getElem? (i := 724) (by decide +kernel)
theorem q_725 : Cond.methodLink RX7 201 yX7_tallyPort ∈ lw_tbl := List.mem_of_getElem? (i := 725) (by decide +kernel)
theorem q_727 : Cond.instanceMethod yX7_tallyPort ∈ lw_tbl := List.mem_of_getElem? (i := 727) (by decide +kernel)
theorem q_728 : Cond.code yX7_tallyPort cX7_tallyPort 10 none ∈ lw_tbl := List.mem_of_getElem? (i := 728) (by decide +kernel)
theorem q_729 : Cond.methodLink RX7 205 yX4_answer ∈ lw_tbl := List.mem_of_getElem? (i := 729) (by decide +kernel)
theorem q_730 : Cond.instanceMethod yX4_answer ∈ lw_tbl := List.mem_of_getElem? (i := 730) (by decide +kernel)
theorem q_731 : Cond.selects RX4 yX4_answer yX4_answer ∈ lw_tbl := List.mem_of_getElem? (i := 731) (by decide +kernel)
theorem q_732 : Cond.code yX4_answer cX4_answer 2 (some .int) ∈ lw_tbl := List.mem_of_getElem? (i := 732) (by decide +kernel)
theorem q_733 : Cond.methodLink RL 143 yL_read ∈ lw_tbl := List.mem_of_getElem? (i := 733) (by decide +kernel)
theorem q_734 : Cond.static yL_read ∈ lw_tbl := List.mem_of_getElem? (i := 734) (by decide +kernel)
theorem q_735 : Cond.codeWith yL_read cL_read 5 (some .int) [((0), (10), (13), (13)), ((0), (10), (17), (15))] ∈ lw_tbl := List.mem_of_getElem? (i := 735) (by decide +kernel)
theorem q_736 : Cond.methodLink RL 72 yX7_read ∈ lw_tbl := List.mem_of_getElem? (i := 736) (by decide +kernel)
theorem q_737 : Cond.instanceMethod yX7_read ∈ lw_tbl := List.mem_of_getElem? (i := 737) (by decide +kernel)
theorem q_738 : Cond.selects RX7 yX7_read yX7_read ∈ lw_tbl := List.mem_of_getElem? (i := 738) (by decide +kernel)
theorem q_739 : Cond.code yX7_read cX7_read 3 (some .int) ∈ lw_tbl := List.mem_of_getElem? (i := 739) (by decide +kernel)
theorem q_740 : Cond.constant RX7 208 (-50000) ∈ lw_tbl := List.mem_of_getElem? (i := 740) (by decide +kernel)
theorem q_741 : Cond.constant RX7 209 (50000) ∈ lw_tbl := List.mem_of_getElem? (i := 741) (by decide +kernel)
theorem q_744 : Cond.instantiable RX2 2 ∈ lw_tbl := List.mem_of_getElem? (i := 744) (by decide +kernel)
theorem q_745 : Cond.methodLink RX7 216 yX2_init ∈ lw_tbl := List.mem_of_getElem? (i := 745) (by decide +kernel)
theorem q_746 : Cond.instanceMethod yX2_init ∈ lw_tbl := List.mem_of_getElem? (i := 746) (by decide +kernel)
theorem q_747 : Cond.code yX2_init cX2_init 3 none ∈ lw_tbl := List.mem_of_getElem? (i := 747) (by decide +kernel)
theorem q_748 : Cond.methodLink RX2 1 Lib.objectInit ∈ lw_tbl := List.mem_of_getElem? (i := 748) (by decide +kernel)
theorem q_749 : Cond.fieldLink RX2 7 RX2 "time" "I" ∈ lw_tbl := List.mem_of_getElem? (i := 749) (by decide +kernel)
theorem q_750 : Cond.fieldLinkNest RX7 275 RX2 "time" "I" RX7 ∈ lw_tbl := List.mem_of_getElem? (i := 750) (by decide +kernel)
theorem q_751 : Cond.fieldLink RX2 13 RX2 "height" "I" ∈ lw_tbl := List.mem_of_getElem? (i := 751) (by decide +kernel)
theorem q_752 : Cond.fieldLinkNest RX7 272 RX2 "height" "I" RX7 ∈ lw_tbl := List.mem_of_getElem? (i := 752) (by decide +kernel)
theorem q_758 : Cond.methodLink RL 155 yL_adjust ∈ lw_tbl := List.mem_of_getElem? (i := 758) (by decide +kernel)
theorem q_759 : Cond.static yL_adjust ∈ lw_tbl := List.mem_of_getElem? (i := 759) (by decide +kernel)
theorem q_760 : Cond.codeWith yL_adjust cL_adjust 3 (some .int) [((0), (8), (11), (15))] ∈ lw_tbl := List.mem_of_getElem? (i := 760) (by decide +kernel)
theorem q_761 : Cond.methodLink RL 75 yX7_adjust ∈ lw_tbl := List.mem_of_getElem? (i := 761) (by decide +kernel)
theorem q_762 : Cond.instanceMethod yX7_adjust ∈ lw_tbl := List.mem_of_getElem? (i := 762) (by decide +kernel)
theorem q_763 : Cond.selects RX7 yX7_adjust yX7_adjust ∈ lw_tbl := List.mem_of_getElem? (i := 763) (by decide +kernel)
theorem q_764 : Cond.code yX7_adjust cX7_adjust 3 (some .int) ∈ lw_tbl := List.mem_of_getElem? (i := 764) (by decide +kernel)
theorem q_765 : Cond.methodLink RX7 235 yJx4a65c_isEmpty_aae02 ∈ lw_tbl := List.mem_of_getElem? (i := 765) (by decide +kernel)
theorem q_766 : Cond.instanceMethod yJx4a65c_isEmpty_aae02 ∈ lw_tbl := List.mem_of_getElem? (i := 766) (by decide +kernel)
theorem q_767 : Cond.selects RJx4a65c yJx4a65c_isEmpty_aae02 yJx4a65c_isEmpty_aae02 ∈ lw_tbl := List.mem_of_getElem? (i := 767) (by decide +kernel)
theorem q_768 : Cond.code yJx4a65c_isEmpty_aae02 cJx4a65c_isEmpty_aae02 1 (some .boolean) ∈ lw_tbl := List.mem_of_getElem? (i := 768) (by decide +kernel)
theorem q_770 : Cond.methodLink RX7 241 yX7_quotient ∈ lw_tbl := List.mem_of_getElem? (i := 770) (by decide +kernel)
theorem q_772 : Cond.methodLink RX7 247 yJx4a65c_clear_da8c8 ∈ lw_tbl := List.mem_of_getElem? (i := 772) (by decide +kernel)
theorem q_773 : Cond.instanceMethod yJx4a65c_clear_da8c8 ∈ lw_tbl := List.mem_of_getElem? (i := 773) (by decide +kernel)
theorem q_774 : Cond.selects RJx4a65c yJx4a65c_clear_da8c8 yJx4a65c_clear_da8c8 ∈ lw_tbl := List.mem_of_getElem? (i := 774) (by decide +kernel)
theorem q_775 : Cond.code yJx4a65c_clear_da8c8 cJx4a65c_clear_da8c8 4 none ∈ lw_tbl := List.mem_of_getElem? (i := 775) (by decide +kernel)
theorem q_776 : Cond.classLink RL 79 RX8 ∈ lw_tbl := List.mem_of_getElem? (i := 776) (by decide +kernel)
theorem q_777 : Cond.instantiable RX8 15 ∈ lw_tbl := List.mem_of_getElem? (i := 777) (by decide +kernel)
theorem q_778 : Cond.methodLink RL 81 yX8_init ∈ lw_tbl := List.mem_of_getElem? (i := 778) (by decide +kernel)
theorem q_779 : Cond.instanceMethod yX8_init ∈ lw_tbl := List.mem_of_getElem? (i := 779) (by decide +kernel)
theorem q_780 : Cond.code yX8_init cX8_init 1 none ∈ lw_tbl := List.mem_of_getElem? (i := 780) (by decide +kernel)
theorem q_781 : Cond.methodLink RX8 1 Lib.objectInit ∈ lw_tbl := List.mem_of_getElem? (i := 781) (by decide +kernel)
theorem q_782 : Cond.fieldLink RX8 35 RX8 "thrown" "I" ∈ lw_tbl := List.mem_of_getElem? (i := 782) (by decide +kernel)
theorem q_783 : Cond.fieldLink RX8 45 RX8 "waves" "I" ∈ lw_tbl := List.mem_of_getElem? (i := 783) (by decide +kernel)
theorem q_784 : Cond.fieldLink RX8 9 RX8 "ranges" "[I" ∈ lw_tbl := List.mem_of_getElem? (i := 784) (by decide +kernel)
theorem q_785 : Cond.fieldLink RX8 13 RX8 "periods" "[I" ∈ lw_tbl := List.mem_of_getElem? (i := 785) (by decide +kernel)
theorem q_786 : Cond.fieldLink RX8 16 RX8 "offsets" "[I" ∈ lw_tbl := List.mem_of_getElem? (i := 786) (by decide +kernel)
theorem q_787 : Cond.fieldLink RX8 73 RX8 "level" "I" ∈ lw_tbl := List.mem_of_getElem? (i := 787) (by decide +kernel)
theorem q_788 : Cond.fieldLink RX8 48 RX8 "ports" "I" ∈ lw_tbl := List.mem_of_getElem? (i := 788) (by decide +kernel)
theorem q_789 : Cond.fieldLink RX8 19 RX8 "table" "[I" ∈ lw_tbl := List.mem_of_getElem? (i := 789) (by decide +kernel)
theorem q_790 : Cond.fieldLink RX8 93 RX8 "readings" "I" ∈ lw_tbl := List.mem_of_getElem? (i := 790) (by decide +kernel)
theorem q_791 : Cond.fieldLink RX8 22 RX8 "readTimes" "[I" ∈ lw_tbl := List.mem_of_getElem? (i := 791) (by decide +kernel)
theorem q_792 : Cond.fieldLink RX8 25 RX8 "readHeights" "[I" ∈ lw_tbl := List.mem_of_getElem? (i := 792) (by decide +kernel)
theorem q_793 : Cond.fieldLink RX8 61 RX8 "isFresh" "Z" ∈ lw_tbl := List.mem_of_getElem? (i := 793) (by decide +kernel)
theorem q_794 : Cond.fieldLink RX8 28 RX8 "heights" "[J" ∈ lw_tbl := List.mem_of_getElem? (i := 794) (by decide +kernel)
theorem q_795 : Cond.fieldLink RX8 84 RX8 "waters" "I" ∈ lw_tbl := List.mem_of_getElem? (i := 795) (by decide +kernel)
theorem q_796 : Cond.fieldLink RX8 32 RX8 "times" "[I" ∈ lw_tbl := List.mem_of_getElem? (i := 796) (by decide +kernel)
theorem q_828 : Cond.arrayClass .long ∈ lw_tbl := List.mem_of_getElem? (i := 828) (by decide +kernel)
theorem q_829 : Cond.methodLink RL 88 yX8_thrown ∈ lw_tbl := List.mem_of_getElem? (i := 829) (by decide +kernel)
theorem q_830 : Cond.instanceMethod yX8_thrown ∈ lw_tbl := List.mem_of_getElem? (i := 830) (by decide +kernel)
theorem q_831 : Cond.selects RX8 yX8_thrown yX8_thrown ∈ lw_tbl := List.mem_of_getElem? (i := 831) (by decide +kernel)
theorem q_832 : Cond.code yX8_thrown cX8_thrown 1 (some .int) ∈ lw_tbl := List.mem_of_getElem? (i := 832) (by decide +kernel)
theorem q_833 : Cond.methodLink RL 87 yX8_addWave ∈ lw_tbl := List.mem_of_getElem? (i := 833) (by decide +kernel)
theorem q_834 : Cond.instanceMethod yX8_addWave ∈ lw_tbl := List.mem_of_getElem? (i := 834) (by decide +kernel)
theorem q_835 : Cond.selects RX8 yX8_addWave yX8_addWave ∈ lw_tbl := List.mem_of_getElem? (i := 835) (by decide +kernel)
theorem q_836 : Cond.code yX8_addWave cX8_addWave 4 (some .int) ∈ lw_tbl := List.mem_of_getElem? (i := 836) (by decide +kernel)
theorem q_837 : Cond.constantLong RX8 51 (5000) ∈ lw_tbl := List.mem_of_getElem? (i := 837) (by decide +kernel)
theorem q_838 : Cond.methodLink RX8 41 yX8_isIn ∈ lw_tbl := List.mem_of_getElem? (i := 838) (by decide +kernel)
theorem q_839 : Cond.static yX8_isIn ∈ lw_tbl := List.mem_of_getElem? (i := 839) (by decide +kernel)
theorem q_840 : Cond.code yX8_isIn cX8_isIn 6 (some .boolean) ∈ lw_tbl := List.mem_of_getElem? (i := 840) (by decide +kernel)
theorem q_841 : Cond.constantLong RX8 53 (60) ∈ lw_tbl := List.mem_of_getElem? (i := 841) (by decide +kernel)
theorem q_842 : Cond.constantLong RX8 55 (20000) ∈ lw_tbl := List.mem_of_getElem? (i := 842) (by decide +kernel)
theorem q_843 : Cond.methodLink RX8 57 yX8_fail ∈ lw_tbl := List.mem_of_getElem? (i := 843) (by decide +kernel)
theorem q_845 : Cond.instanceMethod yX8_fail ∈ lw_tbl := List.mem_of_getElem? (i := 845) (by decide +kernel)
theorem q_846 : Cond.code yX8_fail cX8_fail 2 (some .int) ∈ lw_tbl := List.mem_of_getElem? (i := 846) (by decide +kernel)
theorem q_847 : Cond.methodLink RL 94 yX8_setRange ∈ lw_tbl := List.mem_of_getElem? (i := 847) (by decide +kernel)
theorem q_848 : Cond.instanceMethod yX8_setRange ∈ lw_tbl := List.mem_of_getElem? (i := 848) (by decide +kernel)
theorem q_849 : Cond.selects RX8 yX8_setRange yX8_setRange ∈ lw_tbl := List.mem_of_getElem? (i := 849) (by decide +kernel)
theorem q_850 : Cond.code yX8_setRange cX8_setRange 4 (some .int) ∈ lw_tbl := List.mem_of_getElem? (i := 850) (by decide +kernel)
theorem q_851 : Cond.methodLink RX8 65 yX8_isWave ∈ lw_tbl := List.mem_of_getElem? (i := 851) (by decide +kernel)
theorem q_853 : Cond.instanceMethod yX8_isWave ∈ lw_tbl := List.mem_of_getElem? (i := 853) (by decide +kernel)
theorem q_854 : Cond.code yX8_isWave cX8_isWave 2 (some .boolean) ∈ lw_tbl := List.mem_of_getElem? (i := 854) (by decide +kernel)
theorem q_855 : Cond.methodLink RL 98 yX8_setLevel ∈ lw_tbl := List.mem_of_getElem? (i := 855) (by decide +kernel)
theorem q_856 : Cond.instanceMethod yX8_setLevel ∈ lw_tbl := List.mem_of_getElem? (i := 856) (by decide +kernel)
theorem q_857 : Cond.selects RX8 yX8_setLevel yX8_setLevel ∈ lw_tbl := List.mem_of_getElem? (i := 857) (by decide +kernel)
theorem q_858 : Cond.code yX8_setLevel cX8_setLevel 3 (some .int) ∈ lw_tbl := List.mem_of_getElem? (i := 858) (by decide +kernel)
theorem q_859 : Cond.constantLong RX8 69 (-10000) ∈ lw_tbl := List.mem_of_getElem? (i := 859) (by decide +kernel)
theorem q_860 : Cond.constantLong RX8 71 (10000) ∈ lw_tbl := List.mem_of_getElem? (i := 860) (by decide +kernel)
theorem q_861 : Cond.methodLink RL 101 yX8_height ∈ lw_tbl := List.mem_of_getElem? (i := 861) (by decide +kernel)
theorem q_862 : Cond.instanceMethod yX8_height ∈ lw_tbl := List.mem_of_getElem? (i := 862) (by decide +kernel)
theorem q_863 : Cond.selects RX8 yX8_height yX8_height ∈ lw_tbl := List.mem_of_getElem? (i := 863) (by decide +kernel)
theorem q_864 : Cond.code yX8_height cX8_height 2 (some .int) ∈ lw_tbl := List.mem_of_getElem? (i := 864) (by decide +kernel)
theorem q_865 : Cond.methodLink RX8 87 yX8_isTime ∈ lw_tbl := List.mem_of_getElem? (i := 865) (by decide +kernel)
theorem q_866 : Cond.static yX8_isTime ∈ lw_tbl := List.mem_of_getElem? (i := 866) (by decide +kernel)
theorem q_867 : Cond.code yX8_isTime cX8_isTime 1 (some .boolean) ∈ lw_tbl := List.mem_of_getElem? (i := 867) (by decide +kernel)
theorem q_868 : Cond.constantLong RX8 39 (4319) ∈ lw_tbl := List.mem_of_getElem? (i := 868) (by decide +kernel)
theorem q_869 : Cond.methodLink RX8 90 yX8_find ∈ lw_tbl := List.mem_of_getElem? (i := 869) (by decide +kernel)
theorem q_871 : Cond.instanceMethod yX8_find ∈ lw_tbl := List.mem_of_getElem? (i := 871) (by decide +kernel)
theorem q_872 : Cond.code yX8_find cX8_find 5 none ∈ lw_tbl := List.mem_of_getElem? (i := 872) (by decide +kernel)
theorem q_873 : Cond.methodLink RX8 80 yX8_waveAt ∈ lw_tbl := List.mem_of_getElem? (i := 873) (by decide +kernel)
theorem q_875 : Cond.instanceMethod yX8_waveAt ∈ lw_tbl := List.mem_of_getElem? (i := 875) (by decide +kernel)
theorem q_876 : Cond.code yX8_waveAt cX8_waveAt 10 (some .long) ∈ lw_tbl := List.mem_of_getElem? (i := 876) (by decide +kernel)
theorem q_877 : Cond.constantLong RX8 76 (2) ∈ lw_tbl := List.mem_of_getElem? (i := 877) (by decide +kernel)
theorem q_878 : Cond.constantLong RX8 78 (4) ∈ lw_tbl := List.mem_of_getElem? (i := 878) (by decide +kernel)
theorem q_879 : Cond.methodLink RL 104 yX8_waveHeight ∈ lw_tbl := List.mem_of_getElem? (i := 879) (by decide +kernel)
theorem q_880 : Cond.instanceMethod yX8_waveHeight ∈ lw_tbl := List.mem_of_getElem? (i := 880) (by decide +kernel)
theorem q_881 : Cond.selects RX8 yX8_waveHeight yX8_waveHeight ∈ lw_tbl := List.mem_of_getElem? (i := 881) (by decide +kernel)
theorem q_882 : Cond.code yX8_waveHeight cX8_waveHeight 3 (some .int) ∈ lw_tbl := List.mem_of_getElem? (i := 882) (by decide +kernel)
theorem q_883 : Cond.methodLink RL 107 yX8_count ∈ lw_tbl := List.mem_of_getElem? (i := 883) (by decide +kernel)
theorem q_884 : Cond.instanceMethod yX8_count ∈ lw_tbl := List.mem_of_getElem? (i := 884) (by decide +kernel)
theorem q_885 : Cond.selects RX8 yX8_count yX8_count ∈ lw_tbl := List.mem_of_getElem? (i := 885) (by decide +kernel)
theorem q_886 : Cond.code yX8_count cX8_count 2 (some .int) ∈ lw_tbl := List.mem_of_getElem? (i := 886) (by decide +kernel)
theorem q_887 : Cond.constantLong RX8 96 (3) ∈ lw_tbl := List.mem_of_getElem? (i := 887) (by decide +kernel)
theorem q_888 : Cond.methodLink RX8 98 yX8_counted ∈ lw_tbl := List.mem_of_getElem? (i := 888) (by decide +kernel)
theorem q_890 : Cond.instanceMethod yX8_counted ∈ lw_tbl := List.mem_of_getElem? (i := 890) (by decide +kernel)
theorem q_891 : Cond.code yX8_counted cX8_counted 2 (some .int) ∈ lw_tbl := List.mem_of_getElem? (i := 891) (by decide +kernel)
theorem q_892 : Cond.methodLink RL 110 yX8_water ∈ lw_tbl := List.mem_of_getElem? (i := 892) (by decide +kernel)
theorem q_893 : Cond.instanceMethod yX8_water ∈ lw_tbl := List.mem_of_getElem? (i := 893) (by decide +kernel)
theorem q_894 : Cond.selects RX8 yX8_water yX8_water ∈ lw_tbl := List.mem_of_getElem? (i := 894) (by decide +kernel)
theorem q_895 : Cond.code yX8_water cX8_water 3 (some .int) ∈ lw_tbl := List.mem_of_getElem? (i := 895) (by decide +kernel)
theorem q_896 : Cond.methodLink RX8 104 yX8_waterTold ∈ lw_tbl := List.mem_of_getElem? (i := 896) (by decide +kernel)
theorem q_898 : Cond.instanceMethod yX8_waterTold ∈ lw_tbl := List.mem_of_getElem? (i := 898) (by decide +kernel)
theorem q_899 : Cond.code yX8_waterTold cX8_waterTold 3 (some .int) ∈ lw_tbl := List.mem_of_getElem? (i := 899) (by decide +kernel)
theorem q_900 : Cond.methodLink RX8 101 yX8_isHigh ∈ lw_tbl := List.mem_of_getElem? (i := 900) (by decide +kernel)
theorem q_902 : Cond.instanceMethod yX8_isHigh ∈ lw_tbl := List.mem_of_getElem? (i := 902) (by decide +kernel)
theorem q_903 : Cond.code yX8_isHigh cX8_isHigh 2 (some .boolean) ∈ lw_tbl := List.mem_of_getElem? (i := 903) (by decide +kernel)
theorem q_904 : Cond.methodLink RL 114 yX8_next ∈ lw_tbl := List.mem_of_getElem? (i := 904) (by decide +kernel)
theorem q_905 : Cond.instanceMethod yX8_next ∈ lw_tbl := List.mem_of_getElem? (i := 905) (by decide +kernel)
theorem q_906 : Cond.selects RX8 yX8_next yX8_next ∈ lw_tbl := List.mem_of_getElem? (i := 906) (by decide +kernel)
theorem q_907 : Cond.code yX8_next cX8_next 4 (some .int) ∈ lw_tbl := List.mem_of_getElem? (i := 907) (by decide +kernel)
theorem q_908 : Cond.methodLink RL 117 yX8_datum ∈ lw_tbl := List.mem_of_getElem? (i := 908) (by decide +kernel)
theorem q_909 : Cond.instanceMethod yX8_datum ∈ lw_tbl := List.mem_of_getElem? (i := 909) (by decide +kernel)
theorem q_910 : Cond.selects RX8 yX8_datum yX8_datum ∈ lw_tbl := List.mem_of_getElem? (i := 910) (by decide +kernel)
theorem q_911 : Cond.code yX8_datum cX8_datum 2 (some .int) ∈ lw_tbl := List.mem_of_getElem? (i := 911) (by decide +kernel)
theorem q_912 : Cond.methodLink RX8 130 yX8_datumOf ∈ lw_tbl := List.mem_of_getElem? (i := 912) (by decide +kernel)
theorem q_914 : Cond.instanceMethod yX8_datumOf ∈ lw_tbl := List.mem_of_getElem? (i := 914) (by decide +kernel)
theorem q_915 : Cond.code yX8_datumOf cX8_datumOf 2 (some .int) ∈ lw_tbl := List.mem_of_getElem? (i := 915) (by decide +kernel)
theorem q_916 : Cond.methodLink RX8 118 yX8_extreme ∈ lw_tbl := List.mem_of_getElem? (i := 916) (by decide +kernel)
theorem q_918 : Cond.instanceMethod yX8_extreme ∈ lw_tbl := List.mem_of_getElem? (i := 918) (by decide +kernel)
theorem q_919 : Cond.code yX8_extreme cX8_extreme 5 (some .long) ∈ lw_tbl := List.mem_of_getElem? (i := 919) (by decide +kernel)
theorem q_920 : Cond.methodLink RX8 108 Lib.MathLoose.max_long.x ∈ lw_tbl := List.mem_of_getElem? (i := 920) (by decide +kernel)
theorem q_921 : Cond.static Lib.MathLoose.max_long.x ∈ lw_tbl := List.mem_of_getElem? (i := 921) (by decide +kernel)
theorem q_922 : Cond.code Lib.MathLoose.max_long.x Lib.MathLoose.max_long.code 4 (some .long) ∈ lw_tbl := List.mem_of_getElem? (i := 922) (by decide +kernel)
theorem q_923 : Cond.methodLink RX8 122 yX8_mean ∈ lw_tbl := List.mem_of_getElem? (i := 923) (by decide +kernel)
theorem q_925 : Cond.instanceMethod yX8_mean ∈ lw_tbl := List.mem_of_getElem? (i := 925) (by decide +kernel)
theorem q_926 : Cond.code yX8_mean cX8_mean 6 (some .long) ∈ lw_tbl := List.mem_of_getElem? (i := 926) (by decide +kernel)
theorem q_927 : Cond.methodLink RX8 126 yX8_greatestRange ∈ lw_tbl := List.mem_of_getElem? (i := 927) (by decide +kernel)
theorem q_929 : Cond.instanceMethod yX8_greatestRange ∈ lw_tbl := List.mem_of_getElem? (i := 929) (by decide +kernel)
theorem q_930 : Cond.code yX8_greatestRange cX8_greatestRange 4 (some .long) ∈ lw_tbl := List.mem_of_getElem? (i := 930) (by decide +kernel)
theorem q_931 : Cond.methodLink RX8 114 Lib.MathLoose.abs_long.x ∈ lw_tbl := List.mem_of_getElem? (i := 931) (by decide +kernel)
theorem q_932 : Cond.methodLink RL 121 yX8_addPort ∈ lw_tbl := List.mem_of_getElem? (i := 932) (by decide +kernel)
theorem q_933 : Cond.instanceMethod yX8_addPort ∈ lw_tbl := List.mem_of_getElem? (i := 933) (by decide +kernel)
theorem q_934 : Cond.selects RX8 yX8_addPort yX8_addPort ∈ lw_tbl := List.mem_of_getElem? (i := 934) (by decide +kernel)
theorem q_935 : Cond.code yX8_addPort cX8_addPort 1 (some .int) ∈ lw_tbl := List.mem_of_getElem? (i := 935) (by decide +kernel)
theorem q_936 : Cond.methodLink RL 125 yX8_setPort ∈ lw_tbl := List.mem_of_getElem? (i := 936) (by decide +kernel)
theorem q_937 : Cond.instanceMethod yX8_setPort ∈ lw_tbl := List.mem_of_getElem? (i := 937) (by decide +kernel)
theorem q_938 : Cond.selects RX8 yX8_setPort yX8_setPort ∈ lw_tbl := List.mem_of_getElem? (i := 938) (by decide +kernel)
theorem q_939 : Cond.code yX8_setPort cX8_setPort 7 (some .int) ∈ lw_tbl := List.mem_of_getElem? (i := 939) (by decide +kernel)
theorem q_940 : Cond.methodLink RX8 133 yX8_isPort ∈ lw_tbl := List.mem_of_getElem? (i := 940) (by decide +kernel)
theorem q_942 : Cond.instanceMethod yX8_isPort ∈ lw_tbl := List.mem_of_getElem? (i := 942) (by decide +kernel)
theorem q_943 : Cond.code yX8_isPort cX8_isPort 2 (some .boolean) ∈ lw_tbl := List.mem_of_getElem? (i := 943) (by decide +kernel)
theorem q_944 : Cond.constantLong RX8 136 (-300) ∈ lw_tbl := List.mem_of_getElem? (i := 944) (by decide +kernel)
theorem q_945 : Cond.constantLong RX8 138 (300) ∈ lw_tbl := List.mem_of_getElem? (i := 945) (by decide +kernel)
theorem q_946 : Cond.methodLink RL 128 yX8_setAddition ∈ lw_tbl := List.mem_of_getElem? (i := 946) (by decide +kernel)
theorem q_947 : Cond.instanceMethod yX8_setAddition ∈ lw_tbl := List.mem_of_getElem? (i := 947) (by decide +kernel)
theorem q_948 : Cond.selects RX8 yX8_setAddition yX8_setAddition ∈ lw_tbl := List.mem_of_getElem? (i := 948) (by decide +kernel)
theorem q_949 : Cond.code yX8_setAddition cX8_setAddition 4 (some .int) ∈ lw_tbl := List.mem_of_getElem? (i := 949) (by decide +kernel)
theorem q_950 : Cond.constantLong RX8 140 (-3000) ∈ lw_tbl := List.mem_of_getElem? (i := 950) (by decide +kernel)
theorem q_951 : Cond.constantLong RX8 142 (3000) ∈ lw_tbl := List.mem_of_getElem? (i := 951) (by decide +kernel)
theorem q_952 : Cond.methodLink RL 131 yX8_isInOrder ∈ lw_tbl := List.mem_of_getElem? (i := 952) (by decide +kernel)
theorem q_953 : Cond.instanceMethod yX8_isInOrder ∈ lw_tbl := List.mem_of_getElem? (i := 953) (by decide +kernel)
theorem q_954 : Cond.selects RX8 yX8_isInOrder yX8_isInOrder ∈ lw_tbl := List.mem_of_getElem? (i := 954) (by decide +kernel)
theorem q_955 : Cond.code yX8_isInOrder cX8_isInOrder 2 (some .boolean) ∈ lw_tbl := List.mem_of_getElem? (i := 955) (by decide +kernel)
theorem q_956 : Cond.methodLink RX8 149 yX8_isOrdered ∈ lw_tbl := List.mem_of_getElem? (i := 956) (by decide +kernel)
theorem q_958 : Cond.instanceMethod yX8_isOrdered ∈ lw_tbl := List.mem_of_getElem? (i := 958) (by decide +kernel)
theorem q_959 : Cond.code yX8_isOrdered cX8_isOrdered 4 (some .boolean) ∈ lw_tbl := List.mem_of_getElem? (i := 959) (by decide +kernel)
theorem q_960 : Cond.methodLink RX8 146 yX8_timeAt ∈ lw_tbl := List.mem_of_getElem? (i := 960) (by decide +kernel)
theorem q_962 : Cond.instanceMethod yX8_timeAt ∈ lw_tbl := List.mem_of_getElem? (i := 962) (by decide +kernel)
theorem q_963 : Cond.code yX8_timeAt cX8_timeAt 3 (some .int) ∈ lw_tbl := List.mem_of_getElem? (i := 963) (by decide +kernel)
theorem q_964 : Cond.methodLink RL 135 yX8_portWater ∈ lw_tbl := List.mem_of_getElem? (i := 964) (by decide +kernel)
theorem q_965 : Cond.instanceMethod yX8_portWater ∈ lw_tbl := List.mem_of_getElem? (i := 965) (by decide +kernel)
theorem q_966 : Cond.selects RX8 yX8_portWater yX8_portWater ∈ lw_tbl := List.mem_of_getElem? (i := 966) (by decide +kernel)
theorem q_967 : Cond.code yX8_portWater cX8_portWater 4 (some .int) ∈ lw_tbl := List.mem_of_getElem? (i := 967) (by decide +kernel)
theorem q_968 : Cond.methodLink RX8 152 yX8_heightAt ∈ lw_tbl := List.mem_of_getElem? (i := 968) (by decide +kernel)
theorem q_970 : Cond.instanceMethod yX8_heightAt ∈ lw_tbl := List.mem_of_getElem? (i := 970) (by decide +kernel)
theorem q_971 : Cond.code yX8_heightAt cX8_heightAt 3 (some .long) ∈ lw_tbl := List.mem_of_getElem? (i := 971) (by decide +kernel)
theorem q_972 : Cond.constantLong RX8 144 (100) ∈ lw_tbl := List.mem_of_getElem? (i := 972) (by decide +kernel)
theorem q_973 : Cond.methodLink RL 138 yX8_portHeight ∈ lw_tbl := List.mem_of_getElem? (i := 973) (by decide +kernel)
theorem q_974 : Cond.instanceMethod yX8_portHeight ∈ lw_tbl := List.mem_of_getElem? (i := 974) (by decide +kernel)
theorem q_975 : Cond.selects RX8 yX8_portHeight yX8_portHeight ∈ lw_tbl := List.mem_of_getElem? (i := 975) (by decide +kernel)
theorem q_976 : Cond.code yX8_portHeight cX8_portHeight 4 (some .int) ∈ lw_tbl := List.mem_of_getElem? (i := 976) (by decide +kernel)
theorem q_977 : Cond.methodLink RX8 165 yX8_waterAhead ∈ lw_tbl := List.mem_of_getElem? (i := 977) (by decide +kernel)
theorem q_979 : Cond.instanceMethod yX8_waterAhead ∈ lw_tbl := List.mem_of_getElem? (i := 979) (by decide +kernel)
theorem q_980 : Cond.code yX8_waterAhead cX8_waterAhead 4 (some .int) ∈ lw_tbl := List.mem_of_getElem? (i := 980) (by decide +kernel)
theorem q_981 : Cond.methodLink RX8 168 yX8_between ∈ lw_tbl := List.mem_of_getElem? (i := 981) (by decide +kernel)
theorem q_983 : Cond.instanceMethod yX8_between ∈ lw_tbl := List.mem_of_getElem? (i := 983) (by decide +kernel)
theorem q_984 : Cond.code yX8_between cX8_between 9 (some .long) ∈ lw_tbl := List.mem_of_getElem? (i := 984) (by decide +kernel)
theorem q_985 : Cond.constantLong RX8 155 (6) ∈ lw_tbl := List.mem_of_getElem? (i := 985) (by decide +kernel)
theorem q_986 : Cond.fieldLink RX8 157 RX8 "DONE" "[I" ∈ lw_tbl := List.mem_of_getElem? (i := 986) (by decide +kernel)
theorem q_988 : Cond.fieldLink RX8 160 RX8 "STEPS" "[I" ∈ lw_tbl := List.mem_of_getElem? (i := 988) (by decide +kernel)
theorem q_990 : Cond.constantLong RX8 163 (12) ∈ lw_tbl := List.mem_of_getElem? (i := 990) (by decide +kernel)
theorem q_991 : Cond.methodLink RL 142 yX8_windows ∈ lw_tbl := List.mem_of_getElem? (i := 991) (by decide +kernel)
theorem q_992 : Cond.instanceMethod yX8_windows ∈ lw_tbl := List.mem_of_getElem? (i := 992) (by decide +kernel)
theorem q_993 : Cond.selects RX8 yX8_windows yX8_windows ∈ lw_tbl := List.mem_of_getElem? (i := 993) (by decide +kernel)
theorem q_994 : Cond.code yX8_windows cX8_windows 12 (some .int) ∈ lw_tbl := List.mem_of_getElem? (i := 994) (by decide +kernel)
theorem q_995 : Cond.methodLink RX8 172 Lib.Math.max.name ∈ lw_tbl := List.mem_of_getElem? (i := 995) (by decide +kernel)
theorem q_996 : Cond.methodLink RL 145 yX8_read ∈ lw_tbl := List.mem_of_getElem? (i := 996) (by decide +kernel)
theorem q_997 : Cond.instanceMethod yX8_read ∈ lw_tbl := List.mem_of_getElem? (i := 997) (by decide +kernel)
theorem q_998 : Cond.selects RX8 yX8_read yX8_read ∈ lw_tbl := List.mem_of_getElem? (i := 998) (by decide +kernel)
theorem q_999 : Cond.code yX8_read cX8_read 3 (some .int) ∈ lw_tbl := List.mem_of_getElem? (i := 999) (by decide +kernel)
theorem q_1000 : Cond.constantLong RX8 174 (-50000) ∈ lw_tbl := List.mem_of_getElem? (i := 1000) (by decide +kernel)
theorem q_1001 : Cond.constantLong RX8 176 (50000) ∈ lw_tbl := List.mem_of_getElem? (i := 1001) (by decide +kernel)
theorem q_1002 : Cond.methodLink RL 150 yX8_residual ∈ lw_tbl := List.mem_of_getElem? (i := 1002) (by decide +kernel)
theorem q_1003 : Cond.instanceMethod yX8_residual ∈ lw_tbl := List.mem_of_getElem? (i := 1003) (by decide +kernel)
theorem q_1004 : Cond.selects RX8 yX8_residual yX8_residual ∈ lw_tbl := List.mem_of_getElem? (i := 1004) (by decide +kernel)
theorem q_1005 : Cond.code yX8_residual cX8_residual 1 (some .double) ∈ lw_tbl := List.mem_of_getElem? (i := 1005) (by decide +kernel)
theorem q_1006 : Cond.methodLink RX8 181 yX8_sumOff ∈ lw_tbl := List.mem_of_getElem? (i := 1006) (by decide +kernel)
theorem q_1008 : Cond.instanceMethod yX8_sumOff ∈ lw_tbl := List.mem_of_getElem? (i := 1008) (by decide +kernel)
theorem q_1009 : Cond.code yX8_sumOff cX8_sumOff 4 (some .long) ∈ lw_tbl := List.mem_of_getElem? (i := 1009) (by decide +kernel)
theorem q_1010 : Cond.methodLink RX8 178 yX8_off ∈ lw_tbl := List.mem_of_getElem? (i := 1010) (by decide +kernel)
theorem q_1012 : Cond.instanceMethod yX8_off ∈ lw_tbl := List.mem_of_getElem? (i := 1012) (by decide +kernel)
theorem q_1013 : Cond.code yX8_off cX8_off 2 (some .long) ∈ lw_tbl := List.mem_of_getElem? (i := 1013) (by decide +kernel)
theorem q_1014 : Cond.methodLink RL 154 yX8_worst ∈ lw_tbl := List.mem_of_getElem? (i := 1014) (by decide +kernel)
theorem q_1015 : Cond.instanceMethod yX8_worst ∈ lw_tbl := List.mem_of_getElem? (i := 1015) (by decide +kernel)
theorem q_1016 : Cond.selects RX8 yX8_worst yX8_worst ∈ lw_tbl := List.mem_of_getElem? (i := 1016) (by decide +kernel)
theorem q_1017 : Cond.code yX8_worst cX8_worst 3 (some .int) ∈ lw_tbl := List.mem_of_getElem? (i := 1017) (by decide +kernel)
theorem q_1018 : Cond.methodLink RL 157 yX8_adjust ∈ lw_tbl := List.mem_of_getElem? (i := 1018) (by decide +kernel)
theorem q_1019 : Cond.instanceMethod yX8_adjust ∈ lw_tbl := List.mem_of_getElem? (i := 1019) (by decide +kernel)
theorem q_1020 : Cond.selects RX8 yX8_adjust yX8_adjust ∈ lw_tbl := List.mem_of_getElem? (i := 1020) (by decide +kernel)
theorem q_1021 : Cond.code yX8_adjust cX8_adjust 3 (some .int) ∈ lw_tbl := List.mem_of_getElem? (i := 1021) (by decide +kernel)
theorem q_1022 : Cond.methodLink RL 162 yX8_digest ∈ lw_tbl := List.mem_of_getElem? (i := 1022) (by decide +kernel)
theorem q_1023 : Cond.instanceMethod yX8_digest ∈ lw_tbl := List.mem_of_getElem? (i := 1023) (by decide +kernel)
theorem q_1024 : Cond.selects RX8 yX8_digest yX8_digest ∈ lw_tbl := List.mem_of_getElem? (i := 1024) (by decide +kernel)
theorem q_1025 : Cond.code yX8_digest cX8_digest 5 (some .long) ∈ lw_tbl := List.mem_of_getElem? (i := 1025) (by decide +kernel)
theorem q_1026 : Cond.constantLong RX8 184 (313) ∈ lw_tbl := List.mem_of_getElem? (i := 1026) (by decide +kernel)
theorem q_1027 : Cond.constantLong RX8 186 (31) ∈ lw_tbl := List.mem_of_getElem? (i := 1027) (by decide +kernel)
theorem q_1028 : Cond.sameMethod "java/lang/Throwable" "java/lang/Throwable" "fillInStackTrace" "(I)Ljava/lang/Throwable;" ∈ lw_tbl := List.mem_of_getElem? (i := 1028) (by decide +kernel)
theorem q_1029 : Cond.castable RX7 "java/lang/Object" ∈ lw_tbl := List.mem_of_getElem? (i := 1029) (by decide +kernel)
theorem q_1030 : Cond.castable RX5 "java/lang/Object" ∈ lw_tbl := List.mem_of_getElem? (i := 1030) (by decide +kernel)
theorem q_1031 : Cond.castable RJx4a65c "java/lang/Object" ∈ lw_tbl := List.mem_of_getElem? (i := 1031) (by decide +kernel)
theorem q_1032 : Cond.castable RX3 "java/lang/Object" ∈ lw_tbl := List.mem_of_getElem? (i := 1032) (by decide +kernel)
theorem q_1033 : Cond.castable RX8 "java/lang/Object" ∈ lw_tbl := List.mem_of_getElem? (i := 1033) (by decide +kernel)
theorem q_1034 : Cond.castable "java/lang/IllegalArgumentException" "java/lang/Object" ∈ lw_tbl := List.mem_of_getElem? (i := 1034) (by decide +kernel)
theorem q_1035 : Cond.castable "java/lang/IllegalStateException" "java/lang/Object" ∈ lw_tbl := List.mem_of_getElem? (i := 1035) (by decide +kernel)
theorem q_1036 : Cond.castable RX6 "java/lang/Object" ∈ lw_tbl := List.mem_of_getElem? (i := 1036) (by decide +kernel)
theorem q_1037 : Cond.castable "java/lang/IndexOutOfBoundsException" "java/lang/Object" ∈ lw_tbl := List.mem_of_getElem? (i := 1037) (by decide +kernel)
theorem q_1038 : Cond.castable RX1 "java/lang/Object" ∈ lw_tbl := List.mem_of_getElem? (i := 1038) (by decide +kernel)
theorem q_1039 : Cond.castable RX0 "java/lang/Object" ∈ lw_tbl := List.mem_of_getElem? (i := 1039) (by decide +kernel)
theorem q_1040 : Cond.castable RX4 "java/lang/Object" ∈ lw_tbl := List.mem_of_getElem? (i := 1040) (by decide +kernel)
theorem q_1041 : Cond.castable RX2 "java/lang/Object" ∈ lw_tbl := List.mem_of_getElem? (i := 1041) (by decide +kernel)
theorem q_1042 : Cond.castable "java/lang/Throwable" "java/lang/Object" ∈ lw_tbl := List.mem_of_getElem? (i := 1042) (by decide +kernel)
theorem q_1043 : Cond.castable RJ0 "java/lang/Object" ∈ lw_tbl := List.mem_of_getElem? (i := 1043) (by decide +kernel)
theorem q_1044 : Cond.sameMethod "[Ljava/lang/Object;" "java/lang/Object" "getClass" "()Ljava/lang/Class;" ∈ lw_tbl := List.mem_of_getElem? (i := 1044) (by decide +kernel)
theorem q_1045 : Cond.selects "[Ljava/lang/Object;" ⟨"java/lang/Object", "getClass", "()Ljava/lang/Class;"⟩ ⟨"java/lang/Object", "getClass", "()Ljava/lang/Class;"⟩ ∈ lw_tbl := List.mem_of_getElem? (i := 1045) (by decide +kernel)
theorem q_1046 : Cond.declares ⟨"java/lang/Object", "getClass", "()Ljava/lang/Class;"⟩ ∈ lw_tbl := List.mem_of_getElem? (i := 1046) (by decide +kernel)
theorem q_1047 : Cond.castable "[I" "java/lang/Object" ∈ lw_tbl := List.mem_of_getElem? (i := 1047) (by decide +kernel)
theorem q_1048 : Cond.castable "[Z" "java/lang/Object" ∈ lw_tbl := List.mem_of_getElem? (i := 1048) (by decide +kernel)
theorem q_1049 : Cond.castable "[B" "java/lang/Object" ∈ lw_tbl := List.mem_of_getElem? (i := 1049) (by decide +kernel)
theorem q_1050 : Cond.castable "[Ljava/lang/Object;" "java/lang/Object" ∈ lw_tbl := List.mem_of_getElem? (i := 1050) (by decide +kernel)
theorem q_1051 : Cond.castable "[J" "java/lang/Object" ∈ lw_tbl := List.mem_of_getElem? (i := 1051) (by decide +kernel)
theorem i_Jx4a65c : ∀ w ∈ u_ws RJx4a65c TJx4a65c 3, w ∈ lw_tbl := by decide +kernel
theorem i_X0 : ∀ w ∈ u_ws RX0 TX0 2, w ∈ lw_tbl := by decide +kernel
theorem i_X1 : ∀ w ∈ u_ws RX1 TX1 3, w ∈ lw_tbl := by decide +kernel
theorem i_X2 : ∀ w ∈ u_ws RX2 TX2 2, w ∈ lw_tbl := by decide +kernel
theorem i_X3 : ∀ w ∈ u_ws RX3 TX3 5, w ∈ lw_tbl := by decide +kernel
theorem i_X4 : ∀ w ∈ u_ws RX4 TX4 5, w ∈ lw_tbl := by decide +kernel
theorem i_X5 : ∀ w ∈ u_ws RX5 TX5 2, w ∈ lw_tbl := by decide +kernel
theorem i_X6 : ∀ w ∈ u_ws RX6 TX6 3, w ∈ lw_tbl := by decide +kernel
theorem i_X7 : ∀ w ∈ u_ws RX7 TX7 5, w ∈ lw_tbl := by decide +kernel
theorem i_X8 : ∀ w ∈ u_ws RX8 TX8 15, w ∈ lw_tbl := by decide +kernel
theorem dv_Jx4a65c : ∀ j, j < 3 → defaultValue (tyJx4a65c j) = vp_V [.int (iI 0), .null, .int (iI 0)] j := by
  intro j hj
  have : j = 0 ∨ j = 1 ∨ j = 2 := by omega
  rcases this with rfl | rfl | rfl <;> first | rfl | decide | exact congrArg Value.int (by decide)
theorem dv_X0 : ∀ j, j < 2 → defaultValue (tyX0 j) = vp_V [.int (iI 0), .int (iI 0)] j := by
  intro j hj
  have : j = 0 ∨ j = 1 := by omega
  rcases this with rfl | rfl <;> first | rfl | decide | exact congrArg Value.int (by decide)
theorem dv_X1 : ∀ j, j < 3 → defaultValue (tyX1 j) = vp_V [.null, .null, .int (iI 0)] j := by
  intro j hj
  have : j = 0 ∨ j = 1 ∨ j = 2 := by omega
  rcases this with rfl | rfl | rfl <;> first | rfl | decide | exact congrArg Value.int (by decide)
theorem dv_X2 : ∀ j, j < 2 → defaultValue (tyX2 j) = vp_V [.int (iI 0), .int (iI 0)] j := by
  intro j hj
  have : j = 0 ∨ j = 1 := by omega
  rcases this with rfl | rfl <;> first | rfl | decide | exact congrArg Value.int (by decide)
theorem dv_X3 : ∀ j, j < 5 → defaultValue (tyX3 j) = vp_V [.null, .null, .null, .null, .int (iI 0)] j := by
  intro j hj
  have : j = 0 ∨ j = 1 ∨ j = 2 ∨ j = 3 ∨ j = 4 := by omega
  rcases this with rfl | rfl | rfl | rfl | rfl <;> first | rfl | decide | exact congrArg Value.int (by decide)
theorem dv_X4 : ∀ j, j < 5 → defaultValue (tyX4 j) = vp_V [.int (iI 0), .int (iI 0), .int (iI 0), .int (iI 0), .int (iI 0)] j := by
  intro j hj
  have : j = 0 ∨ j = 1 ∨ j = 2 ∨ j = 3 ∨ j = 4 := by omega
  rcases this with rfl | rfl | rfl | rfl | rfl <;> first | rfl | decide | exact congrArg Value.int (by decide)
theorem dv_X5 : ∀ j, j < 2 → defaultValue (tyX5 j) = vp_V [.null, .int (iI 0)] j := by
  intro j hj
  have : j = 0 ∨ j = 1 := by omega
  rcases this with rfl | rfl <;> first | rfl | decide | exact congrArg Value.int (by decide)
theorem dv_X6 : ∀ j, j < 3 → defaultValue (tyX6 j) = vp_V [.int (iI 0), .int (iI 0), .int (iI 0)] j := by
  intro j hj
  have : j = 0 ∨ j = 1 ∨ j = 2 := by omega
  rcases this with rfl | rfl | rfl <;> first | rfl | decide | exact congrArg Value.int (by decide)
theorem dv_X7 : ∀ j, j < 5 → defaultValue (tyX7 j) = vp_V [.null, .null, .null, .null, .int (iI (bI false))] j := by
  intro j hj
  have : j = 0 ∨ j = 1 ∨ j = 2 ∨ j = 3 ∨ j = 4 := by omega
  rcases this with rfl | rfl | rfl | rfl | rfl <;> first | rfl | decide | exact congrArg Value.int (by decide)
theorem dv_X8 : ∀ j, j < 15 → defaultValue (tyX8 j) = vp_V [.int (iI 0), .int (iI 0), .null, .null, .null, .int (iI 0), .int (iI 0), .null, .int (iI 0), .null, .null, .int (iI (bI false)), .null, .int (iI 0), .null] j := by
  intro j hj
  have : j = 0 ∨ j = 1 ∨ j = 2 ∨ j = 3 ∨ j = 4 ∨ j = 5 ∨ j = 6 ∨ j = 7 ∨ j = 8 ∨ j = 9 ∨ j = 10 ∨ j = 11 ∨ j = 12 ∨ j = 13 ∨ j = 14 := by omega
  rcases this with rfl | rfl | rfl | rfl | rfl | rfl | rfl | rfl | rfl | rfl | rfl | rfl | rfl | rfl | rfl <;> first | rfl | decide | exact congrArg Value.int (by decide)
theorem w_L_78 : k_wB RL 78 yX7_init cX7_init 1 none 0 := ⟨⟨q_64, q_38, q_66⟩, ⟨by decide, by decide⟩, by decide +kernel⟩
theorem w_X7_9 : k_wBN RX7 9 yX5_init RX7 cX5_init 1 none 0 := ⟨⟨q_72, q_39, q_74⟩, ⟨by decide, by decide⟩, by decide +kernel⟩
theorem w_X5_9 : k_wB RX5 9 yJx4a65c_init_da8c8 cJx4a65c_init_da8c8 1 none 0 := ⟨⟨q_78, q_42, q_80⟩, ⟨by decide, by decide⟩, by decide +kernel⟩
theorem w_Jx4a65c_1 : k_wB RJx4a65c 1 yJxc12de_init_da8c8 cJxc12de_init_da8c8 1 none 0 := ⟨⟨q_81, q_41, q_83⟩, ⟨by decide, by decide⟩, by decide +kernel⟩
theorem w_Jxc12de_1 : k_wB RJxc12de 1 yJxa1e45_init_da8c8 cJxa1e45_init_da8c8 1 none 0 := ⟨⟨q_84, q_40, q_86⟩, ⟨by decide, by decide⟩, by decide +kernel⟩
theorem w_X7_18 : k_wBN RX7 18 yX3_init RX7 cX3_init 1 none 0 := ⟨⟨q_113, q_43, q_115⟩, ⟨by decide, by decide⟩, by decide +kernel⟩
theorem w_X7_25 : k_wB RX7 25 yJx4a65c_init_da8c8 cJx4a65c_init_da8c8 1 none 0 := ⟨⟨q_138, q_42, q_80⟩, ⟨by decide, by decide⟩, by decide +kernel⟩
theorem w_L_146 : k_wB RL 146 yX7_residual cX7_residual 2 (some .double) 0 := ⟨⟨q_155, q_38, q_158⟩, ⟨by decide, by decide⟩, by decide +kernel⟩
theorem w_X7_55 : k_wB RX7 55 yJx4a65c_size_8abf5 cJx4a65c_size_8abf5 1 (some .int) 0 := ⟨⟨q_159, q_42, q_162⟩, ⟨by decide, by decide⟩, by decide +kernel⟩
theorem w_X7_219 : k_wB RX7 219 yX7_sumOfDifferences cX7_sumOfDifferences 4 (some .long) 0 := ⟨⟨q_163, q_38, q_166⟩, ⟨by decide, by decide⟩, by decide +kernel⟩
theorem w_X7_225 : k_wB RX7 225 yX7_differenceOf cX7_differenceOf 3 (some .long) 1 := ⟨⟨q_167, q_38, q_170⟩, ⟨by decide, by decide⟩, by decide +kernel⟩
theorem w_X7_82 : k_wB RX7 82 yJx4a65c_get_915e3 cJx4a65c_get_915e3 2 (some (.object "java/lang/Object")) 1 := ⟨⟨q_171, q_42, q_174⟩, ⟨by decide, by decide⟩, by decide +kernel⟩
theorem w_Jx4a65c_118 : k_wB RJx4a65c 118 yJ15_checkIndex_7cf53 cJ15_checkIndex_7cf53 2 (some .int) 2 := ⟨⟨q_175, q_56, q_177⟩, ⟨by decide, by decide⟩, by decide +kernel⟩
theorem w_J15_105 : k_wB RJ15 105 yJ3_checkIndex_8e157 cJ3_checkIndex_8e157 3 (some .int) 3 := ⟨⟨q_178, q_57, q_180⟩, ⟨by decide, by decide⟩, by decide +kernel⟩
theorem w_Jx4a65c_123 : k_wB RJx4a65c 123 yJx4a65c_elementData_915e3 cJx4a65c_elementData_915e3 2 (some (.object "java/lang/Object")) 1 := ⟨⟨q_181, q_42, q_184⟩, ⟨by decide, by decide⟩, by decide +kernel⟩
theorem w_X7_100 : k_wB RX7 100 yX5_heightAt cX5_heightAt 4 (some .int) 1 := ⟨⟨q_186, q_39, q_189⟩, ⟨by decide, by decide⟩, by decide +kernel⟩
theorem w_X5_20 : k_wB RX5 20 yJx4a65c_size_8abf5 cJx4a65c_size_8abf5 1 (some .int) 0 := ⟨⟨q_190, q_42, q_162⟩, ⟨by decide, by decide⟩, by decide +kernel⟩
theorem w_X5_24 : k_wB RX5 24 yJx4a65c_get_915e3 cJx4a65c_get_915e3 2 (some (.object "java/lang/Object")) 1 := ⟨⟨q_191, q_42, q_174⟩, ⟨by decide, by decide⟩, by decide +kernel⟩
theorem w_X5_30 : k_wB RX5 30 yX6_heightAt cX6_heightAt 8 (some .int) 1 := ⟨⟨q_193, q_50, q_196⟩, ⟨by decide, by decide⟩, by decide +kernel⟩
theorem w_L_151 : k_wB RL 151 yX7_worst cX7_worst 7 (some .int) 0 := ⟨⟨q_198, q_38, q_201⟩, ⟨by decide, by decide⟩, by decide +kernel⟩
theorem w_L_158 : k_wB RL 158 yX7_digest cX7_digest 5 (some .long) 0 := ⟨⟨q_206, q_38, q_209⟩, ⟨by decide, by decide⟩, by decide +kernel⟩
theorem w_X7_110 : k_wB RX7 110 yX7_currentTable cX7_currentTable 1 (some (.object "TideTable$Table")) 0 := ⟨⟨q_210, q_38, q_213⟩, ⟨by decide, by decide⟩, by decide +kernel⟩
theorem w_X7_263 : k_wB RX7 263 yX3_fill cX3_fill 3 none 1 := ⟨⟨q_214, q_43, q_217⟩, ⟨by decide, by decide⟩, by decide +kernel⟩
theorem w_X3_25 : k_wB RX3 25 yX5_heightAt cX5_heightAt 4 (some .int) 1 := ⟨⟨q_218, q_39, q_189⟩, ⟨by decide, by decide⟩, by decide +kernel⟩
theorem w_X3_31 : k_wB RX3 31 yX3_findWaters cX3_findWaters 5 none 0 := ⟨⟨q_219, q_43, q_222⟩, ⟨by decide, by decide⟩, by decide +kernel⟩
theorem w_X3_38 : k_wB RX3 38 yX3_noteWater cX3_noteWater 4 none 3 := ⟨⟨q_223, q_43, q_226⟩, ⟨by decide, by decide⟩, by decide +kernel⟩
theorem w_X7_107 : k_wB RX7 107 yX7_numberOf cX7_numberOf 2 (some .int) 1 := ⟨⟨q_228, q_38, q_231⟩, ⟨by decide, by decide⟩, by decide +kernel⟩
theorem w_X7_252 : k_wB RX7 252 yX7_mixed cX7_mixed 4 (some .long) 2 := ⟨⟨q_232, q_38, q_234⟩, ⟨by decide, by decide⟩, by decide +kernel⟩
theorem w_X7_255 : k_wB RX7 255 yX7_mixedWithWaters cX7_mixedWithWaters 6 (some .long) 2 := ⟨⟨q_236, q_38, q_238⟩, ⟨by decide, by decide⟩, by decide +kernel⟩
theorem w_X7_119 : k_wB RX7 119 yX3_timeOf cX3_timeOf 2 (some .int) 1 := ⟨⟨q_239, q_43, q_242⟩, ⟨by decide, by decide⟩, by decide +kernel⟩
theorem w_X3_46 : k_wB RX3 46 yX3_hasWater cX3_hasWater 2 (some .boolean) 1 := ⟨⟨q_243, q_43, q_246⟩, ⟨by decide, by decide⟩, by decide +kernel⟩
theorem w_X7_122 : k_wB RX7 122 yX3_heightOf cX3_heightOf 2 (some .int) 1 := ⟨⟨q_247, q_43, q_250⟩, ⟨by decide, by decide⟩, by decide +kernel⟩
theorem w_X7_125 : k_wB RX7 125 yX3_isHigh cX3_isHigh 2 (some .boolean) 1 := ⟨⟨q_251, q_43, q_254⟩, ⟨by decide, by decide⟩, by decide +kernel⟩
theorem w_X7_259 : k_wB RX7 259 yX7_mixedWithPort cX7_mixedWithPort 7 (some .long) 3 := ⟨⟨q_256, q_38, q_258⟩, ⟨by decide, by decide⟩, by decide +kernel⟩
theorem w_X7_169 : k_wB RX7 169 yX1_isOrderly cX1_isOrderly 3 (some .boolean) 1 := ⟨⟨q_259, q_58, q_262⟩, ⟨by decide, by decide⟩, by decide +kernel⟩
theorem w_X1_51 : k_wB RX1 51 yX1_timeOf cX1_timeOf 3 (some .int) 2 := ⟨⟨q_263, q_58, q_266⟩, ⟨by decide, by decide⟩, by decide +kernel⟩
theorem w_X1_21 : k_wB RX1 21 yX3_timeOf cX3_timeOf 2 (some .int) 1 := ⟨⟨q_267, q_43, q_242⟩, ⟨by decide, by decide⟩, by decide +kernel⟩
theorem w_X1_27 : k_wB RX1 27 yX3_isHigh cX3_isHigh 2 (some .boolean) 1 := ⟨⟨q_268, q_43, q_254⟩, ⟨by decide, by decide⟩, by decide +kernel⟩
theorem w_X1_31 : k_wB RX1 31 yX1_followOf cX1_followOf 2 (some (.object "TideTable$Follow")) 1 := ⟨⟨q_269, q_58, q_272⟩, ⟨by decide, by decide⟩, by decide +kernel⟩
theorem w_X7_173 : k_wB RX7 173 yX1_timeOf cX1_timeOf 3 (some .int) 2 := ⟨⟨q_273, q_58, q_266⟩, ⟨by decide, by decide⟩, by decide +kernel⟩
theorem w_X7_176 : k_wB RX7 176 yX1_heightOf cX1_heightOf 4 (some .int) 2 := ⟨⟨q_274, q_58, q_277⟩, ⟨by decide, by decide⟩, by decide +kernel⟩
theorem w_X1_42 : k_wB RX1 42 yX3_heightOf cX3_heightOf 2 (some .int) 1 := ⟨⟨q_278, q_43, q_250⟩, ⟨by decide, by decide⟩, by decide +kernel⟩
theorem w_X7_135 : k_wB RX7 135 yX3_datumOf cX3_datumOf 2 (some .int) 1 := ⟨⟨q_279, q_43, q_282⟩, ⟨by decide, by decide⟩, by decide +kernel⟩
theorem w_X3_49 : k_wB RX3 49 yX3_greatestHeight cX3_greatestHeight 6 (some .int) 0 := ⟨⟨q_283, q_43, q_286⟩, ⟨by decide, by decide⟩, by decide +kernel⟩
theorem w_X3_53 : k_wB RX3 53 yX3_leastHeight cX3_leastHeight 6 (some .int) 0 := ⟨⟨q_290, q_43, q_293⟩, ⟨by decide, by decide⟩, by decide +kernel⟩
theorem w_X3_56 : k_wB RX3 56 yX3_meanOfWaters cX3_meanOfWaters 6 (some .int) 1 := ⟨⟨q_297, q_43, q_300⟩, ⟨by decide, by decide⟩, by decide +kernel⟩
theorem w_X3_72 : k_wB RX3 72 yX3_isHigh cX3_isHigh 2 (some .boolean) 1 := ⟨⟨q_301, q_43, q_254⟩, ⟨by decide, by decide⟩, by decide +kernel⟩
theorem w_X3_75 : k_wB RX3 75 yX3_heightOf cX3_heightOf 2 (some .int) 1 := ⟨⟨q_302, q_43, q_250⟩, ⟨by decide, by decide⟩, by decide +kernel⟩
theorem w_X3_78 : k_wBN RX3 78 yX7_quotient RX7 cX7_quotient 4 (some .long) 2 := ⟨⟨q_303, q_38, q_305⟩, ⟨by decide, by decide⟩, by decide +kernel⟩
theorem w_X3_60 : k_wB RX3 60 yX3_greatestDifference cX3_greatestDifference 4 (some .int) 0 := ⟨⟨q_306, q_43, q_309⟩, ⟨by decide, by decide⟩, by decide +kernel⟩
theorem w_L_7 : k_wB RL 7 yX7_addWave cX7_addWave 4 (some .int) 3 := ⟨⟨q_318, q_38, q_321⟩, ⟨by decide, by decide⟩, by decide +kernel⟩
theorem w_X7_37 : k_wB RX7 37 yX7_isWithin cX7_isWithin 3 (some .boolean) 3 := ⟨⟨q_322, q_38, q_324⟩, ⟨by decide, by decide⟩, by decide +kernel⟩
theorem w_X7_45 : k_wB RX7 45 ⟨"java/lang/IllegalArgumentException", "<init>", "(Ljava/lang/String;)V"⟩ prog_14_method_2_code 2 none 1 := ⟨⟨q_367, q_48, q_369⟩, ⟨by decide, by decide⟩, by decide +kernel⟩
theorem w_X7_63 : k_wB RX7 63 ⟨"java/lang/IllegalStateException", "<init>", "(Ljava/lang/String;)V"⟩ prog_15_method_2_code 2 none 1 := ⟨⟨q_405, q_49, q_407⟩, ⟨by decide, by decide⟩, by decide +kernel⟩
theorem w_X7_66 : k_wB RX7 66 yX6_init cX6_init 4 none 3 := ⟨⟨q_413, q_50, q_415⟩, ⟨by decide, by decide⟩, by decide +kernel⟩
theorem w_X7_69 : k_wB RX7 69 yJx4a65c_add_9ea2d cJx4a65c_add_9ea2d 2 (some .boolean) 1 := ⟨⟨q_428, q_42, q_431⟩, ⟨by decide, by decide⟩, by decide +kernel⟩
theorem w_Jx4a65c_131 : k_wB RJx4a65c 131 yJx4a65c_add_72be8 cJx4a65c_add_72be8 4 none 3 := ⟨⟨q_432, q_42, q_435⟩, ⟨by decide, by decide⟩, by decide +kernel⟩
theorem w_Jx4a65c_129 : k_wB RJx4a65c 129 yJx4a65c_grow_d5877 cJx4a65c_grow_d5877 1 (some (.array (.object "java/lang/Object"))) 0 := ⟨⟨q_436, q_42, q_439⟩, ⟨by decide, by decide⟩, by decide +kernel⟩
theorem w_Jx4a65c_69 : k_wB RJx4a65c 69 yJx4a65c_grow_92f84 cJx4a65c_grow_92f84 4 (some (.array (.object "java/lang/Object"))) 1 := ⟨⟨q_440, q_42, q_443⟩, ⟨by decide, by decide⟩, by decide +kernel⟩
theorem w_Jx4a65c_73 : k_wB RJx4a65c 73 yJ8_newLength_cabcc cJ8_newLength_cabcc 4 (some .int) 3 := ⟨⟨q_444, q_51, q_446⟩, ⟨by decide, by decide⟩, by decide +kernel⟩
theorem w_J8_201 : k_wB RJ8 201 yJ8_hugeLength_7cf53 cJ8_hugeLength_7cf53 3 (some .int) 2 := ⟨⟨q_449, q_51, q_451⟩, ⟨by decide, by decide⟩, by decide +kernel⟩
theorem w_Jx4a65c_66 : k_wB RJx4a65c 66 yJ7_copyOf_1904c cJ7_copyOf_1904c 2 (some (.array (.object "java/lang/Object"))) 2 := ⟨⟨q_452, q_53, q_454⟩, ⟨by decide, by decide⟩, by decide +kernel⟩
theorem w_J7_300 : k_wB RJ7 300 yJ7_copyOf_6403c cJ7_copyOf_6403c 4 (some (.array (.object "java/lang/Object"))) 3 := ⟨⟨q_472, q_53, q_474⟩, ⟨by decide, by decide⟩, by decide +kernel⟩
theorem w_L_17 : k_wB RL 17 yX7_setRange cX7_setRange 5 (some .int) 2 := ⟨⟨q_488, q_38, q_491⟩, ⟨by decide, by decide⟩, by decide +kernel⟩
theorem w_X7_73 : k_wB RX7 73 yX7_hasWave cX7_hasWave 2 (some .boolean) 1 := ⟨⟨q_492, q_38, q_495⟩, ⟨by decide, by decide⟩, by decide +kernel⟩
theorem w_X7_81 : k_wB RX7 81 ⟨"java/lang/IndexOutOfBoundsException", "<init>", "(Ljava/lang/String;)V"⟩ prog_16_method_2_code 2 none 1 := ⟨⟨q_506, q_55, q_508⟩, ⟨by decide, by decide⟩, by decide +kernel⟩
theorem w_L_23 : k_wB RL 23 yX7_setLevel cX7_setLevel 3 (some .int) 1 := ⟨⟨q_515, q_38, q_518⟩, ⟨by decide, by decide⟩, by decide +kernel⟩
theorem w_L_27 : k_wB RL 27 yX7_height cX7_height 2 (some .int) 1 := ⟨⟨q_523, q_38, q_526⟩, ⟨by decide, by decide⟩, by decide +kernel⟩
theorem w_X7_95 : k_wB RX7 95 yX7_isMinute cX7_isMinute 1 (some .boolean) 1 := ⟨⟨q_527, q_38, q_529⟩, ⟨by decide, by decide⟩, by decide +kernel⟩
theorem w_L_30 : k_wB RL 30 yX7_waveHeight cX7_waveHeight 3 (some .int) 2 := ⟨⟨q_534, q_38, q_537⟩, ⟨by decide, by decide⟩, by decide +kernel⟩
theorem w_X7_104 : k_wB RX7 104 yX6_heightAt cX6_heightAt 8 (some .int) 1 := ⟨⟨q_538, q_50, q_196⟩, ⟨by decide, by decide⟩, by decide +kernel⟩
theorem w_L_33 : k_wB RL 33 yX7_count cX7_count 2 (some .int) 1 := ⟨⟨q_542, q_38, q_545⟩, ⟨by decide, by decide⟩, by decide +kernel⟩
theorem w_L_36 : k_wB RL 36 yX7_water cX7_water 4 (some .int) 2 := ⟨⟨q_550, q_38, q_553⟩, ⟨by decide, by decide⟩, by decide +kernel⟩
theorem w_X7_114 : k_wB RX7 114 yX3_hasWater cX3_hasWater 2 (some .boolean) 1 := ⟨⟨q_554, q_43, q_246⟩, ⟨by decide, by decide⟩, by decide +kernel⟩
theorem w_L_39 : k_wB RL 39 yX7_next cX7_next 5 (some .int) 2 := ⟨⟨q_560, q_38, q_563⟩, ⟨by decide, by decide⟩, by decide +kernel⟩
theorem w_L_43 : k_wB RL 43 yX7_datum cX7_datum 2 (some .int) 1 := ⟨⟨q_567, q_38, q_570⟩, ⟨by decide, by decide⟩, by decide +kernel⟩
theorem w_L_46 : k_wB RL 46 yX7_addPort cX7_addPort 1 (some .int) 0 := ⟨⟨q_575, q_38, q_578⟩, ⟨by decide, by decide⟩, by decide +kernel⟩
theorem w_X7_142 : k_wBN RX7 142 yX1_init RX7 cX1_init 1 none 0 := ⟨⟨q_581, q_58, q_583⟩, ⟨by decide, by decide⟩, by decide +kernel⟩
theorem w_X1_11 : k_wBN RX1 11 yX0_init RX7 cX0_init 1 none 0 := ⟨⟨q_587, q_59, q_589⟩, ⟨by decide, by decide⟩, by decide +kernel⟩
theorem w_L_50 : k_wB RL 50 yX7_setPort cX7_setPort 7 (some .int) 4 := ⟨⟨q_615, q_38, q_618⟩, ⟨by decide, by decide⟩, by decide +kernel⟩
theorem w_X7_143 : k_wB RX7 143 yX7_hasPort cX7_hasPort 2 (some .boolean) 1 := ⟨⟨q_619, q_38, q_622⟩, ⟨by decide, by decide⟩, by decide +kernel⟩
theorem w_X7_152 : k_wB RX7 152 yX1_followOf cX1_followOf 2 (some (.object "TideTable$Follow")) 1 := ⟨⟨q_626, q_58, q_272⟩, ⟨by decide, by decide⟩, by decide +kernel⟩
theorem w_L_54 : k_wB RL 54 yX7_setAddition cX7_setAddition 5 (some .int) 2 := ⟨⟨q_630, q_38, q_633⟩, ⟨by decide, by decide⟩, by decide +kernel⟩
theorem w_L_57 : k_wB RL 57 yX7_isInOrder cX7_isInOrder 2 (some .boolean) 1 := ⟨⟨q_638, q_38, q_641⟩, ⟨by decide, by decide⟩, by decide +kernel⟩
theorem w_L_61 : k_wB RL 61 yX7_portWater cX7_portWater 6 (some .int) 3 := ⟨⟨q_645, q_38, q_648⟩, ⟨by decide, by decide⟩, by decide +kernel⟩
theorem w_L_65 : k_wB RL 65 yX7_portHeight cX7_portHeight 6 (some .int) 2 := ⟨⟨q_652, q_38, q_655⟩, ⟨by decide, by decide⟩, by decide +kernel⟩
theorem w_X7_180 : k_wB RX7 180 yX1_latestWater cX1_latestWater 6 (some .int) 3 := ⟨⟨q_657, q_58, q_660⟩, ⟨by decide, by decide⟩, by decide +kernel⟩
theorem w_X7_184 : k_wB RX7 184 yX3_isBetweenWaters cX3_isBetweenWaters 2 (some .boolean) 1 := ⟨⟨q_661, q_43, q_664⟩, ⟨by decide, by decide⟩, by decide +kernel⟩
theorem w_X7_189 : k_wB RX7 189 yX1_heightBehind cX1_heightBehind 14 (some .int) 3 := ⟨⟨q_666, q_58, q_669⟩, ⟨by decide, by decide⟩, by decide +kernel⟩
theorem w_X1_54 : k_wB RX1 54 yX1_heightOf cX1_heightOf 4 (some .int) 2 := ⟨⟨q_670, q_58, q_277⟩, ⟨by decide, by decide⟩, by decide +kernel⟩
theorem w_X1_56 : k_wB RX1 56 yX1_twelfthsGone cX1_twelfthsGone 5 (some .long) 2 := ⟨⟨q_671, q_58, q_673⟩, ⟨by decide, by decide⟩, by decide +kernel⟩
theorem w_X1_62 : k_wBN RX1 62 yX7_quotient RX7 cX7_quotient 4 (some .long) 2 := ⟨⟨q_675, q_38, q_305⟩, ⟨by decide, by decide⟩, by decide +kernel⟩
theorem w_L_68 : k_wB RL 68 yX7_windows cX7_windows 7 (some .int) 5 := ⟨⟨q_684, q_38, q_687⟩, ⟨by decide, by decide⟩, by decide +kernel⟩
theorem w_X7_196 : k_wBN RX7 196 yX4_init RX7 cX4_init 1 none 0 := ⟨⟨q_691, q_60, q_693⟩, ⟨by decide, by decide⟩, by decide +kernel⟩
theorem w_X7_197 : k_wB RX7 197 yX7_tallyChiefPort cX7_tallyChiefPort 7 none 4 := ⟨⟨q_711, q_38, q_714⟩, ⟨by decide, by decide⟩, by decide +kernel⟩
theorem w_X7_267 : k_wB RX7 267 yX3_heightAt cX3_heightAt 2 (some .int) 1 := ⟨⟨q_715, q_43, q_718⟩, ⟨by decide, by decide⟩, by decide +kernel⟩
theorem w_X3_42 : k_wBN RX3 42 yX7_isMinute RX7 cX7_isMinute 1 (some .boolean) 1 := ⟨⟨q_719, q_38, q_529⟩, ⟨by decide, by decide⟩, by decide +kernel⟩
theorem w_X7_268 : k_wB RX7 268 yX4_note cX4_note 3 none 2 := ⟨⟨q_720, q_60, q_723⟩, ⟨by decide, by decide⟩, by decide +kernel⟩
theorem w_X7_201 : k_wB RX7 201 yX7_tallyPort cX7_tallyPort 10 none 5 := ⟨⟨q_725, q_38, q_728⟩, ⟨by decide, by decide⟩, by decide +kernel⟩
theorem w_X7_205 : k_wB RX7 205 yX4_answer cX4_answer 2 (some .int) 1 := ⟨⟨q_729, q_60, q_732⟩, ⟨by decide, by decide⟩, by decide +kernel⟩
theorem w_L_72 : k_wB RL 72 yX7_read cX7_read 3 (some .int) 2 := ⟨⟨q_736, q_38, q_739⟩, ⟨by decide, by decide⟩, by decide +kernel⟩
theorem w_X7_216 : k_wB RX7 216 yX2_init cX2_init 3 none 2 := ⟨⟨q_745, q_61, q_747⟩, ⟨by decide, by decide⟩, by decide +kernel⟩
theorem w_L_75 : k_wB RL 75 yX7_adjust cX7_adjust 3 (some .int) 0 := ⟨⟨q_761, q_38, q_764⟩, ⟨by decide, by decide⟩, by decide +kernel⟩
theorem w_X7_235 : k_wB RX7 235 yJx4a65c_isEmpty_aae02 cJx4a65c_isEmpty_aae02 1 (some .boolean) 0 := ⟨⟨q_765, q_42, q_768⟩, ⟨by decide, by decide⟩, by decide +kernel⟩
theorem w_X7_241 : k_wB RX7 241 yX7_quotient cX7_quotient 4 (some .long) 2 := ⟨⟨q_770, q_38, q_305⟩, ⟨by decide, by decide⟩, by decide +kernel⟩
theorem w_X7_247 : k_wB RX7 247 yJx4a65c_clear_da8c8 cJx4a65c_clear_da8c8 4 none 0 := ⟨⟨q_772, q_42, q_775⟩, ⟨by decide, by decide⟩, by decide +kernel⟩
theorem w_L_81 : k_wB RL 81 yX8_init cX8_init 1 none 0 := ⟨⟨q_778, q_44, q_780⟩, ⟨by decide, by decide⟩, by decide +kernel⟩
theorem w_L_88 : k_wB RL 88 yX8_thrown cX8_thrown 1 (some .int) 0 := ⟨⟨q_829, q_44, q_832⟩, ⟨by decide, by decide⟩, by decide +kernel⟩
theorem w_L_87 : k_wB RL 87 yX8_addWave cX8_addWave 4 (some .int) 3 := ⟨⟨q_833, q_44, q_836⟩, ⟨by decide, by decide⟩, by decide +kernel⟩
theorem w_X8_41 : k_wB RX8 41 yX8_isIn cX8_isIn 6 (some .boolean) 3 := ⟨⟨q_838, q_44, q_840⟩, ⟨by decide, by decide⟩, by decide +kernel⟩
theorem w_X8_57 : k_wB RX8 57 yX8_fail cX8_fail 2 (some .int) 1 := ⟨⟨q_843, q_44, q_846⟩, ⟨by decide, by decide⟩, by decide +kernel⟩
theorem w_L_94 : k_wB RL 94 yX8_setRange cX8_setRange 4 (some .int) 2 := ⟨⟨q_847, q_44, q_850⟩, ⟨by decide, by decide⟩, by decide +kernel⟩
theorem w_X8_65 : k_wB RX8 65 yX8_isWave cX8_isWave 2 (some .boolean) 1 := ⟨⟨q_851, q_44, q_854⟩, ⟨by decide, by decide⟩, by decide +kernel⟩
theorem w_L_98 : k_wB RL 98 yX8_setLevel cX8_setLevel 3 (some .int) 1 := ⟨⟨q_855, q_44, q_858⟩, ⟨by decide, by decide⟩, by decide +kernel⟩
theorem w_L_101 : k_wB RL 101 yX8_height cX8_height 2 (some .int) 1 := ⟨⟨q_861, q_44, q_864⟩, ⟨by decide, by decide⟩, by decide +kernel⟩
theorem w_X8_87 : k_wB RX8 87 yX8_isTime cX8_isTime 1 (some .boolean) 1 := ⟨⟨q_865, q_44, q_867⟩, ⟨by decide, by decide⟩, by decide +kernel⟩
theorem w_X8_90 : k_wB RX8 90 yX8_find cX8_find 5 none 0 := ⟨⟨q_869, q_44, q_872⟩, ⟨by decide, by decide⟩, by decide +kernel⟩
theorem w_X8_80 : k_wB RX8 80 yX8_waveAt cX8_waveAt 10 (some .long) 2 := ⟨⟨q_873, q_44, q_876⟩, ⟨by decide, by decide⟩, by decide +kernel⟩
theorem w_L_104 : k_wB RL 104 yX8_waveHeight cX8_waveHeight 3 (some .int) 2 := ⟨⟨q_879, q_44, q_882⟩, ⟨by decide, by decide⟩, by decide +kernel⟩
theorem w_L_107 : k_wB RL 107 yX8_count cX8_count 2 (some .int) 1 := ⟨⟨q_883, q_44, q_886⟩, ⟨by decide, by decide⟩, by decide +kernel⟩
theorem w_X8_98 : k_wB RX8 98 yX8_counted cX8_counted 2 (some .int) 1 := ⟨⟨q_888, q_44, q_891⟩, ⟨by decide, by decide⟩, by decide +kernel⟩
theorem w_L_110 : k_wB RL 110 yX8_water cX8_water 3 (some .int) 2 := ⟨⟨q_892, q_44, q_895⟩, ⟨by decide, by decide⟩, by decide +kernel⟩
theorem w_X8_104 : k_wB RX8 104 yX8_waterTold cX8_waterTold 3 (some .int) 2 := ⟨⟨q_896, q_44, q_899⟩, ⟨by decide, by decide⟩, by decide +kernel⟩
theorem w_X8_101 : k_wB RX8 101 yX8_isHigh cX8_isHigh 2 (some .boolean) 1 := ⟨⟨q_900, q_44, q_903⟩, ⟨by decide, by decide⟩, by decide +kernel⟩
theorem w_L_114 : k_wB RL 114 yX8_next cX8_next 4 (some .int) 2 := ⟨⟨q_904, q_44, q_907⟩, ⟨by decide, by decide⟩, by decide +kernel⟩
theorem w_L_117 : k_wB RL 117 yX8_datum cX8_datum 2 (some .int) 1 := ⟨⟨q_908, q_44, q_911⟩, ⟨by decide, by decide⟩, by decide +kernel⟩
theorem w_X8_130 : k_wB RX8 130 yX8_datumOf cX8_datumOf 2 (some .int) 1 := ⟨⟨q_912, q_44, q_915⟩, ⟨by decide, by decide⟩, by decide +kernel⟩
theorem w_X8_118 : k_wB RX8 118 yX8_extreme cX8_extreme 5 (some .long) 1 := ⟨⟨q_916, q_44, q_919⟩, ⟨by decide, by decide⟩, by decide +kernel⟩
theorem w_X8_122 : k_wB RX8 122 yX8_mean cX8_mean 6 (some .long) 1 := ⟨⟨q_923, q_44, q_926⟩, ⟨by decide, by decide⟩, by decide +kernel⟩
theorem w_X8_126 : k_wB RX8 126 yX8_greatestRange cX8_greatestRange 4 (some .long) 0 := ⟨⟨q_927, q_44, q_930⟩, ⟨by decide, by decide⟩, by decide +kernel⟩
theorem w_L_121 : k_wB RL 121 yX8_addPort cX8_addPort 1 (some .int) 0 := ⟨⟨q_932, q_44, q_935⟩, ⟨by decide, by decide⟩, by decide +kernel⟩
theorem w_L_125 : k_wB RL 125 yX8_setPort cX8_setPort 7 (some .int) 4 := ⟨⟨q_936, q_44, q_939⟩, ⟨by decide, by decide⟩, by decide +kernel⟩
theorem w_X8_133 : k_wB RX8 133 yX8_isPort cX8_isPort 2 (some .boolean) 1 := ⟨⟨q_940, q_44, q_943⟩, ⟨by decide, by decide⟩, by decide +kernel⟩
theorem w_L_128 : k_wB RL 128 yX8_setAddition cX8_setAddition 4 (some .int) 2 := ⟨⟨q_946, q_44, q_949⟩, ⟨by decide, by decide⟩, by decide +kernel⟩
theorem w_L_131 : k_wB RL 131 yX8_isInOrder cX8_isInOrder 2 (some .boolean) 1 := ⟨⟨q_952, q_44, q_955⟩, ⟨by decide, by decide⟩, by decide +kernel⟩
theorem w_X8_149 : k_wB RX8 149 yX8_isOrdered cX8_isOrdered 4 (some .boolean) 1 := ⟨⟨q_956, q_44, q_959⟩, ⟨by decide, by decide⟩, by decide +kernel⟩
theorem w_X8_146 : k_wB RX8 146 yX8_timeAt cX8_timeAt 3 (some .int) 2 := ⟨⟨q_960, q_44, q_963⟩, ⟨by decide, by decide⟩, by decide +kernel⟩
theorem w_L_135 : k_wB RL 135 yX8_portWater cX8_portWater 4 (some .int) 3 := ⟨⟨q_964, q_44, q_967⟩, ⟨by decide, by decide⟩, by decide +kernel⟩
theorem w_X8_152 : k_wB RX8 152 yX8_heightAt cX8_heightAt 3 (some .long) 2 := ⟨⟨q_968, q_44, q_971⟩, ⟨by decide, by decide⟩, by decide +kernel⟩
theorem w_L_138 : k_wB RL 138 yX8_portHeight cX8_portHeight 4 (some .int) 2 := ⟨⟨q_973, q_44, q_976⟩, ⟨by decide, by decide⟩, by decide +kernel⟩
theorem w_X8_165 : k_wB RX8 165 yX8_waterAhead cX8_waterAhead 4 (some .int) 2 := ⟨⟨q_977, q_44, q_980⟩, ⟨by decide, by decide⟩, by decide +kernel⟩
theorem w_X8_168 : k_wB RX8 168 yX8_between cX8_between 9 (some .long) 3 := ⟨⟨q_981, q_44, q_984⟩, ⟨by decide, by decide⟩, by decide +kernel⟩
theorem w_L_142 : k_wB RL 142 yX8_windows cX8_windows 12 (some .int) 5 := ⟨⟨q_991, q_44, q_994⟩, ⟨by decide, by decide⟩, by decide +kernel⟩
theorem w_L_145 : k_wB RL 145 yX8_read cX8_read 3 (some .int) 2 := ⟨⟨q_996, q_44, q_999⟩, ⟨by decide, by decide⟩, by decide +kernel⟩
theorem w_L_150 : k_wB RL 150 yX8_residual cX8_residual 1 (some .double) 0 := ⟨⟨q_1002, q_44, q_1005⟩, ⟨by decide, by decide⟩, by decide +kernel⟩
theorem w_X8_181 : k_wB RX8 181 yX8_sumOff cX8_sumOff 4 (some .long) 0 := ⟨⟨q_1006, q_44, q_1009⟩, ⟨by decide, by decide⟩, by decide +kernel⟩
theorem w_X8_178 : k_wB RX8 178 yX8_off cX8_off 2 (some .long) 1 := ⟨⟨q_1010, q_44, q_1013⟩, ⟨by decide, by decide⟩, by decide +kernel⟩
theorem w_L_154 : k_wB RL 154 yX8_worst cX8_worst 3 (some .int) 0 := ⟨⟨q_1014, q_44, q_1017⟩, ⟨by decide, by decide⟩, by decide +kernel⟩
theorem w_L_157 : k_wB RL 157 yX8_adjust cX8_adjust 3 (some .int) 0 := ⟨⟨q_1018, q_44, q_1021⟩, ⟨by decide, by decide⟩, by decide +kernel⟩
theorem w_L_162 : k_wB RL 162 yX8_digest cX8_digest 5 (some .long) 0 := ⟨⟨q_1022, q_44, q_1025⟩, ⟨by decide, by decide⟩, by decide +kernel⟩
end
section
/-! ===== what the document says, over integers ===== -/
def wvH (r p o t : Int) : Int :=
  if 2 * ((t + o).tmod p) < p then (4 * r * (2 * ((t + o).tmod p)) * (p - 2 * ((t + o).tmod p))).tdiv (p * p)
  else -((4 * r * (2 * ((t + o).tmod p) - p) * (p - (2 * ((t + o).tmod p) - p))).tdiv (p * p))
def wvOk (r p o : Int) : Prop := (0 ≤ r ∧ r ≤ 5000) ∧ (60 ≤ p ∧ p ≤ 20000) ∧ (0 ≤ o ∧ o < p)
theorem arch_pos {r p v : Int} (hr : 0 ≤ r) (hp : 0 < p) (h0 : 0 ≤ v) (h1 : v ≤ p) : 0 ≤ 4 * r * v * (p - v) ∧ 4 * r * v * (p - v) ≤ r * (p * p) := by
  have h2 : 0 ≤ p - v := by omega
  have h3 : 0 ≤ v * (p - v) := Int.mul_nonneg h0 h2
  have h4 : 4 * (v * (p - v)) ≤ p * p := by
    have h5 : 0 ≤ (p - 2 * v) * (p - 2 * v) := by
      rcases Int.le_total 0 (p - 2 * v) with h | h
      · exact Int.mul_nonneg h h
      · have := Int.mul_nonneg (Int.neg_nonneg.mpr h) (Int.neg_nonneg.mpr h)
        rwa [Int.neg_mul_neg] at this
    have e : (p - 2 * v) * (p - 2 * v) = p * p - 4 * (v * (p - v)) := by
      rw [Int.sub_mul, Int.mul_sub, Int.mul_sub, Int.mul_sub]
      have e1 : p * (2 * v) = 2 * (v * p) := by rw [Int.mul_left_comm, Int.mul_comm p v]
      have e2 : 2 * v * p = 2 * (v * p) := Int.mul_assoc 2 v p
      have e3 : 2 * v * (2 * v) = 4 * (v * v) := by rw [Int.mul_assoc, Int.mul_left_comm v 2 v, ← Int.mul_assoc]; rfl
      rw [e1, e2, e3]
      omega
    omega
  have e2 : 4 * r * v * (p - v) = r * (4 * (v * (p - v))) := by
    simp only [Int.mul_assoc, Int.mul_left_comm]
  rw [e2]
  exact ⟨Int.mul_nonneg hr (by omega), Int.mul_le_mul_of_nonneg_left h4 hr⟩
theorem arch_bd {r p v : Int} (hr : 0 ≤ r) (hp : 0 < p) (h0 : 0 ≤ v) (h1 : v ≤ p) : 0 ≤ (4 * r * v * (p - v)).tdiv (p * p) ∧ (4 * r * v * (p - v)).tdiv (p * p) ≤ r := by
  obtain ⟨h2, h3⟩ := arch_pos hr hp h0 h1
  have hpp : 0 < p * p := Int.mul_pos hp hp
  rw [Int.tdiv_eq_ediv_of_nonneg h2]
  refine ⟨Int.ediv_nonneg h2 (by omega), ?_⟩
  have h5 : (4 * r * v * (p - v)) / (p * p) ≤ (r * (p * p)) / (p * p) := Int.ediv_le_ediv hpp h3
  rwa [Int.mul_ediv_cancel r (by omega)] at h5
theorem tm_bd {a p : Int} (ha : 0 ≤ a) (hp : 0 < p) : 0 ≤ a.tmod p ∧ a.tmod p < p := by
  rw [Int.tmod_eq_emod_of_nonneg ha]
  exact ⟨Int.emod_nonneg a (by omega), Int.emod_lt_of_pos a hp⟩
theorem wvH_bd {r p o t : Int} (h : wvOk r p o) (ht : 0 ≤ t) : -5000 ≤ wvH r p o t ∧ wvH r p o t ≤ 5000 := by
  obtain ⟨⟨h1, h2⟩, ⟨h3, h4⟩, ⟨h5, h6⟩⟩ := h
  obtain ⟨h7, h8⟩ := tm_bd (a := t + o) (p := p) (by omega) (by omega)
  unfold wvH
  split
  · obtain ⟨a, b⟩ := arch_bd (v := 2 * ((t + o).tmod p)) h1 (show 0 < p by omega) (by omega) (by omega)
    omega
  · obtain ⟨a, b⟩ := arch_bd (v := 2 * ((t + o).tmod p) - p) h1 (show 0 < p by omega) (by omega) (by omega)
    omega
/-- the tide: mean level, number of waves, ranges, periods, offsets -/
abbrev Td : Type := Int × Nat × (Nat → Int) × (Nat → Int) × (Nat → Int)
def htw (τ : Td) (t : Int) : Nat → Int
  | 0 => τ.1
  | n + 1 => htw τ t n + wvH (τ.2.2.1 n) (τ.2.2.2.1 n) (τ.2.2.2.2 n) t
def hT (τ : Td) (t : Nat) : Int := htw τ (t : Int) τ.2.1
def TdOk (τ : Td) : Prop := (-10000 ≤ τ.1 ∧ τ.1 ≤ 10000) ∧ τ.2.1 ≤ 8 ∧ ∀ i, i < τ.2.1 → wvOk (τ.2.2.1 i) (τ.2.2.2.1 i) (τ.2.2.2.2 i)
theorem htw_bd {τ : Td} (h : TdOk τ) {t : Int} (ht : 0 ≤ t) : ∀ n : Nat, n ≤ τ.2.1 → -10000 - 5000 * (n : Int) ≤ htw τ t n ∧ htw τ t n ≤ 10000 + 5000 * (n : Int)
  | 0, _ => by
    have := h.1
    simp only [htw]
    omega
  | n + 1, hn => by
    have h1 := htw_bd h ht n (by omega)
    have h2 := wvH_bd (h.2.2 n (by omega)) ht
    simp only [htw]
    omega
theorem hT_bd {τ : Td} (h : TdOk τ) (t : Nat) : -50000 ≤ hT τ t ∧ hT τ t ≤ 50000 := by
  have h1 := htw_bd h (t := (t : Int)) (by omega) τ.2.1 (Nat.le_refl _)
  have h2 := h.2.1
  unfold hT
  omega
/-! waters: h is the height of each minute -/
def nxt (h : Nat → Int) (v : Int) : Nat → Nat → Nat
  | 0, j => j
  | m + 1, j => if j < 4320 ∧ h j = v then nxt h v m (j + 1) else j
def nx (h : Nat → Int) (t : Nat) : Nat := nxt h (h t) 4320 (t + 1)
def isW (h : Nat → Int) (t : Nat) : Bool := decide (1 ≤ t ∧ nx h t < 4320 ∧ ((h (t - 1) < h t ∧ h (nx h t) < h t) ∨ (h t < h (t - 1) ∧ h t < h (nx h t))))
def wc (h : Nat → Int) : Nat → Nat
  | 0 => 0
  | n + 1 => wc h n + (if isW h n = true then 1 else 0)
def tmF (h : Nat → Int) (k : Nat) : Nat → Nat
  | 0 => 0
  | n + 1 => if isW h n = true ∧ wc h n = k then n else tmF h k n
def tm (h : Nat → Int) (k : Nat) : Nat := tmF h k 4320
def nW (h : Nat → Int) : Nat := wc h 4320
def hi (h : Nat → Int) (k : Nat) : Bool := decide (h (tm h k - 1) < h (tm h k))
def nextW (h : Nat → Int) (t : Int) (b : Bool) : Nat → Nat → Int
  | 0, _ => -1
  | m + 1, k => if k < nW h then (if t ≤ (tm h k : Int) ∧ hi h k = b then (k : Int) else nextW h t b m (k + 1)) else -1
def mxh (h : Nat → Int) : Nat → Int
  | 0 => h 0
  | n + 1 => max (mxh h n) (h n)
def mnh (h : Nat → Int) : Nat → Int
  | 0 => h 0
  | n + 1 => min (mnh h n) (h n)
def sumW (h : Nat → Int) (b : Bool) : Nat → Int
  | 0 => 0
  | k + 1 => if hi h k = b then sumW h b k + h (tm h k) else sumW h b k
def cntW (h : Nat → Int) (b : Bool) : Nat → Int
  | 0 => 0
  | k + 1 => if hi h k = b then cntW h b k + 1 else cntW h b k
def meanW (h : Nat → Int) (b : Bool) : Int := if cntW h b (nW h) = 0 then 0 else (sumW h b (nW h)).tdiv (cntW h b (nW h))
def difW (h : Nat → Int) : Nat → Int
  | 0 => 0
  | k + 1 => max (difW h k) ((h (tm h (k + 1)) - h (tm h k)).natAbs : Int)
def dat (h : Nat → Int) (what : Int) : Int :=
  if what = 0 then mxh h 4320 else if what = 1 then mnh h 4320 else if what = 2 then meanW h true else if what = 3 then meanW h false else difW h (nW h - 1)
/-- a port: shift and factor for highs, for lows, the addition -/
abbrev Pt : Type := Int × Int × Int × Int × Int
def PtOk (q : Pt) : Prop := (-300 ≤ q.1 ∧ q.1 ≤ 300) ∧ (0 ≤ q.2.1 ∧ q.2.1 ≤ 300) ∧ (-300 ≤ q.2.2.1 ∧ q.2.2.1 ≤ 300) ∧ (0 ≤ q.2.2.2.1 ∧ q.2.2.2.1 ≤ 300) ∧ (-3000 ≤ q.2.2.2.2 ∧ q.2.2.2.2 ≤ 3000)
def pT (h : Nat → Int) (q : Pt) (k : Nat) : Int := (tm h k : Int) + (if hi h k = true then q.1 else q.2.2.1)
def pH (h : Nat → Int) (q : Pt) (k : Nat) : Int := (h (tm h k) * (if hi h k = true then q.2.1 else q.2.2.2.1)).tdiv 100 + q.2.2.2.2
def ordF (h : Nat → Int) (q : Pt) : Nat → Bool
  | 0 => true
  | k + 1 => ordF h q k && decide (pT h q k < pT h q (k + 1))
def ord (h : Nat → Int) (q : Pt) : Bool := ordF h q (nW h - 1)
/-- the first water, from w on, that is behind t -/
def latF (h : Nat → Int) (q : Pt) (t : Int) : Nat → Nat → Nat
  | 0, w => w
  | m + 1, w => if w < nW h ∧ pT h q w ≤ t then latF h q t m (w + 1) else w
def lat (h : Nat → Int) (q : Pt) (t : Int) (w : Nat) : Nat := latF h q t (nW h - w) w
def twI (s : Int) : Int := if s = 0 then 1 else if s = 1 then 2 else if s = 2 then 3 else if s = 3 then 3 else if s = 4 then 2 else 1
def twA (s : Int) : Int := if s = 0 then 0 else if s = 1 then 1 else if s = 2 then 3 else if s = 3 then 6 else if s = 4 then 9 else 11
def gone (e d : Int) : Int := twA ((6 * e).tdiv d) * d + twI ((6 * e).tdiv d) * (6 * e - (6 * e).tdiv d * d)
/-- the height at t, between the waters w - 1 and w -/
def btw (h : Nat → Int) (q : Pt) (w : Nat) (t : Int) : Int :=
  pH h q (w - 1) + ((pH h q w - pH h q (w - 1)) * gone (t - pT h q (w - 1)) (pT h q w - pT h q (w - 1))).tdiv (12 * (pT h q w - pT h q (w - 1)))
/-- windows: how many, minutes, first, longest, the run of now -/
abbrev Tl : Type := Int × Int × Int × Int × Int
def tl0 : Tl := (0, 0, -1, 0, 0)
def tlS (x : Tl) (m : Int) (b : Bool) : Tl :=
  if b = true then (if x.2.2.2.2 = 0 then x.1 + 1 else x.1, x.2.1 + 1, if x.2.2.1 < 0 then m else x.2.2.1, max x.2.2.2.1 (x.2.2.2.2 + 1), x.2.2.2.2 + 1) else (x.1, x.2.1, x.2.2.1, x.2.2.2.1, 0)
def tlA (x : Tl) (what : Int) : Int := if what = 0 then x.1 else if what = 1 then x.2.1 else if what = 2 then x.2.2.1 else x.2.2.2.1
def tlC (h : Nat → Int) (lev : Int) (a : Nat) : Nat → Tl
  | 0 => tl0
  | m + 1 => tlS (tlC h lev a m) ((a + m : Nat) : Int) (decide (lev ≤ h (a + m)))
/-- how many waters are at or ahead of the minute a + m - 1, taken one behind the other -/
def wAt (h : Nat → Int) (q : Pt) (a : Nat) : Nat → Nat
  | 0 => 0
  | m + 1 => lat h q ((a + m : Nat) : Int) (wAt h q a m)
def tlP (h : Nat → Int) (q : Pt) (lev : Int) (a : Nat) : Nat → Tl
  | 0 => tl0
  | m + 1 => tlS (tlP h q lev a m) ((a + m : Nat) : Int) (decide (1 ≤ wAt h q a (m + 1) ∧ wAt h q a (m + 1) < nW h ∧ lev ≤ btw h q (wAt h q a (m + 1)) ((a + m : Nat) : Int)))
/-- readings: how many, times, heights -/
abbrev Rd : Type := Nat × (Nat → Nat) × (Nat → Int)
def RdOk (ρ : Rd) : Prop := ρ.1 ≤ 40 ∧ ∀ i, i < ρ.1 → ρ.2.1 i < 4320 ∧ (-50000 ≤ ρ.2.2 i ∧ ρ.2.2 i ≤ 50000)
def dif (h : Nat → Int) (ρ : Rd) (i : Nat) : Int := ρ.2.2 i - h (ρ.2.1 i)
def sumD (h : Nat → Int) (ρ : Rd) : Nat → Int
  | 0 => 0
  | n + 1 => sumD h ρ n + dif h ρ n
def wst (h : Nat → Int) (ρ : Rd) : Nat → Int
  | 0 => -1
  | n + 1 => if wst h ρ n = -1 ∨ (dif h ρ (wst h ρ n).toNat).natAbs < (dif h ρ n).natAbs then (n : Int) else wst h ρ n
/-- the checksum -/
def mixW (h : Nat → Int) (d : Int) : Nat → Int
  | 0 => d
  | k + 1 => ((mixW h d k * 31 + (tm h k : Int)) * 31 + h (tm h k)) * 31 + bI (hi h k)
def mixQ (h : Nat → Int) (q : Pt) (d : Int) : Nat → Int
  | 0 => d * 31 + bI (ord h q)
  | k + 1 => (mixQ h q d k * 31 + pT h q k) * 31 + pH h q k
def mixP (h : Nat → Int) (qs : Nat → Pt) (d : Int) : Nat → Int
  | 0 => d
  | k + 1 => mixQ h (qs k) (mixP h qs d k) (nW h)
def mixD (h : Nat → Int) (d : Int) : Nat → Int
  | 0 => d
  | k + 1 => mixD h d k * 31 + dat h (k : Int)
end
section
/-! ===== more rows: the JDK's lists ===== -/
section More
variable {θ : Kt} {κ : Kx} {cc : ByteArray} {nL : Nat} {ret : Option FieldType} {own : String} {R : Room} {Q : State → Prop} {L : List Nat} {f : Nat → wE} {k n pc : Nat} {lv : List (Nat × Value)} {st : List Value}
theorem k_acmp_eq {a b : Nat} {off : Int} (tgt : Nat) (d : decode cc pc = .ok (.if_acmp .eq off, 3)) (ht : (pc : Int) + off = (tgt : Int)) (kt : a = b → k_G θ κ cc nL ret own R Q L f k n tgt lv st) (kf : a ≠ b → k_G θ κ cc nL ret own R Q L f k n (pc + 3) lv st) : k_G θ κ cc nL ret own R Q L f k n pc lv (.ref b :: .ref a :: st) :=
  fun E H locs ls hH hS hl => lv_acmp_eq (rx := some a) (ry := some b) E.1 E.2.1 d ht (fun h => kt (Option.some.inj h) E H locs ls hH hS hl) (fun h => kf (fun z => h (congrArg some z)) E H locs ls hH hS hl)
theorem k_acmp_ne {a b : Nat} {off : Int} (tgt : Nat) (d : decode cc pc = .ok (.if_acmp .ne off, 3)) (ht : (pc : Int) + off = (tgt : Int)) (kt : a ≠ b → k_G θ κ cc nL ret own R Q L f k n tgt lv st) (kf : a = b → k_G θ κ cc nL ret own R Q L f k n (pc + 3) lv st) : k_G θ κ cc nL ret own R Q L f k n pc lv (.ref b :: .ref a :: st) :=
  fun E H locs ls hH hS hl => lv_acmp_ne (rx := some a) (ry := some b) E.1 E.2.1 d ht (fun h => kt (fun z => h (congrArg some z)) E H locs ls hH hS hl) (fun h => kf (Option.some.inj h) E H locs ls hH hS hl)
theorem k_ishr1 {x : Int} (j : Nat) (hx : x = (j : Int)) (hj : j < 2147483648) (d : decode cc pc = .ok (.ishr, 1)) (kk : k_G θ κ cc nL ret own R Q L f k n (pc + 1) lv (.int (iI ((j / 2 : Nat) : Int)) :: st)) : k_G θ κ cc nL ret own R Q L f k n pc lv (.int (iI 1) :: .int (iI x) :: st) :=
  fun E H locs ls hH hS hl => lv_ishr E.1 E.2.1 d (by
    have e : iI x >>> (iI 1 &&& 31) = iI ((j / 2 : Nat) : Int) := by
      subst hx
      rw [iI_nI, iI_nI]
      have h := pk_shrN (n := j) hj (iI 1 &&& 31) 1 (by decide)
      rw [Nat.pow_one] at h
      exact h
    rw [e]
    exact kk E H locs ls hH hS hl)
theorem k_getsD {i : Nat} (hq : Cond.fieldLink own i "java/util/ArrayList" "DEFAULTCAPACITY_EMPTY_ELEMENTDATA" "[Ljava/lang/Object;" ∈ lw_tbl) (dc : decode cc pc = .ok (.getstatic i, 3)) (kk : k_G θ κ cc nL ret own R Q L f k n (pc + 3) lv (.ref (κ.2.2.2 4) :: st)) : k_G θ κ cc nL ret own R Q L f k n pc lv st :=
  fun E H locs ls hH hS hl => va_gets E.1 E.2.1 E.2.2.2.2.2.1.2.2.2.2.1.1 hS E.2.2.2.1 (E.word hq rfl) (fun _ h => h) dc (kk E H locs ls hH hS hl)
theorem k_tlenD (dc : decode cc pc = .ok (.arraylength, 1)) (kk : k_G θ κ cc nL ret own R Q L f k n (pc + 1) lv (.int (iI 0) :: st)) : k_G θ κ cc nL ret own R Q L f k n pc lv (.ref (κ.2.2.2 4) :: st) :=
  fun E H locs ls hH hS hl => va_tlen E.1 E.2.1 E.2.2.2.2.2.1.2.2.2.2.1.2 hS (by decide) dc (kk E H locs ls hH hS hl)
theorem k_ldcM {i : Nat} (hq : Cond.classLink own i "[Ljava/lang/Object;" ∈ lw_tbl) (d : decode cc pc = .ok (.ldc i, 2)) (kk : k_G θ κ cc nL ret own R Q L f k n (pc + 2) lv (.ref (κ.2.2.2 5) :: st)) : k_G θ κ cc nL ret own R Q L f k n pc lv st :=
  fun E H locs ls hH hS hl => va_ldcM E.1 E.2.1 E.2.2.2.1 (E.word hq rfl) E.2.2.2.2.1.2.2.2.2 d (kk E H locs ls hH hS hl)
theorem k_oName {s : State} {cA : ClassId} (h : va_RA s cA (.object "java/lang/Object")) : s.vm.findClass "[Ljava/lang/Object;" = some cA := va_nmO h rfl
theorem k_orecv {a tg N : Nat} {G : Nat → Option Nat} (E : k_E θ κ cc nL ret own) {H : Heap} (hH : k_H κ L f H) (hc : Cl L f a (tg, .inl (κ.2.2.1 3, N, .inr (.inr (.inr (.inr G)))))) : ∃ cell : Cell, H[a]? = some cell ∧ cell.vm.isStatics = false ∧ θ.2.2.2.1.vm.findClass "[Ljava/lang/Object;" = some cell.cls := by
  obtain ⟨q0, hq0⟩ := k_pos hc
  refine ⟨_, hH.1 q0 _ hq0, rfl, ?_⟩
  exact k_oName (E.K.2 3 (κ.2.2.1 3, .object "java/lang/Object") rfl).2
theorem k_getC {a tg N i : Nat} {G : Nat → Option Nat} (h1 : Cond.methodLink own i ⟨"java/lang/Object", "getClass", "()Ljava/lang/Class;"⟩ ∈ lw_tbl) (h2 : Cond.declares ⟨"java/lang/Object", "getClass", "()Ljava/lang/Class;"⟩ ∈ lw_tbl) (h3 : Cond.selects "[Ljava/lang/Object;" ⟨"java/lang/Object", "getClass", "()Ljava/lang/Class;"⟩ ⟨"java/lang/Object", "getClass", "()Ljava/lang/Class;"⟩ ∈ lw_tbl) (h4 : Cond.instanceMethod ⟨"java/lang/Object", "getClass", "()Ljava/lang/Class;"⟩ ∈ lw_tbl) (h5 : Cond.native ⟨"java/lang/Object", "getClass", "()Ljava/lang/Class;"⟩ ∈ lw_tbl)
    (hc : Cl L f a (tg, .inl (κ.2.2.1 3, N, .inr (.inr (.inr (.inr G)))))) (hf : 1 ≤ R.frames) (hlo : (st.map fun v => v.category).sum + 14 ≤ R.locals) (d : decode cc pc = .ok (.invokevirtual i, 3)) (kk : k_G θ κ cc nL ret own R Q L f k n (pc + 3) lv (.ref (κ.2.2.2 5) :: st)) : k_G θ κ cc nL ret own R Q L f k n pc lv (.ref a :: st) :=
  fun E H locs ls hH hS hl => va_getC E.1 E.2.1 (by rw [E.2.2.1]; exact hl.1.symm) E.2.2.2.1 (E.word h1 rfl) (E.word h2 rfl) (E.word h3 rfl) (E.word h4 rfl) (E.word h5 rfl) E.2.2.2.2.1.2.2.2.2 (k_orecv E hH hc) hf hlo d (kk E H locs ls hH hS hl)
theorem k_castA {a tg N i : Nat} {G : Nat → Option Nat} (h1 : Cond.classLink own i "[Ljava/lang/Object;" ∈ lw_tbl) (hc : Cl L f a (tg, .inl (κ.2.2.1 3, N, .inr (.inr (.inr (.inr G)))))) (d : decode cc pc = .ok (.checkcast i, 3)) (kk : k_G θ κ cc nL ret own R Q L f k n (pc + 3) lv (.ref a :: st)) : k_G θ κ cc nL ret own R Q L f k n pc lv (.ref a :: st) := by
  intro E H locs ls hH hS hl
  obtain ⟨q0, hq0⟩ := k_pos hc
  exact va_castA E.1 E.2.1 E.2.2.2.1 (E.word h1 rfl) hH.1 q0 hq0 (k_oName (E.K.2 3 (κ.2.2.1 3, .object "java/lang/Object") rfl).2) d (kk E H locs ls hH hS hl)
/-- System.arraycopy(a0, 0, a, 0, j): the first j elements, objects of one class -/
theorem k_copyq {a0 a t0 t1 n0 n1 i ci : Nat} {g0 g1 : Nat → Option Nat} {r : vw_C} {x : Int} (j : Nat) (h1 : Cond.methodLink own i arraycopyName ∈ lw_tbl) (h2 : Cond.native arraycopyName ∈ lw_tbl) (h3 : Cond.static arraycopyName ∈ lw_tbl) (h4 : Cond.initialized "java/lang/System" ∈ lw_tbl)
    (hc0 : Cl L f a0 (t0, .inl (κ.2.2.1 3, n0, .inr (.inr (.inr (.inr g0)))))) (hc1 : Cl L f a (t1, .inl (κ.2.2.1 3, n1, .inr (.inr (.inr (.inr g1)))))) (hx : x = (j : Int)) (hj0 : j ≤ n0) (hj1 : j ≤ n1) (hjm : j < 2147483648) (hci : vwCl[ci]? = some r) (hq : Cond.castable r.1 "java/lang/Object" ∈ lw_tbl) (hel : ∀ m, m < j → ∀ y, g0 m = some y → ∃ (t : Nat) (fs : List Value), Cl L f y (t, .inr (ci, fs)))
    (hf : 1 ≤ R.frames) (hlo : (st.map fun v => v.category).sum + (nativeFrameWords "java/lang/System" "arraycopy" 5 + 11) ≤ R.locals) (d : decode cc pc = .ok (.invokestatic i, 3))
    (kk : ∀ (f' : Nat → wE) (g' : Nat → Option Nat), (∀ b, b ≠ a → f' b = f b) → Cl L f' a (t1, .inl (κ.2.2.1 3, n1, .inr (.inr (.inr (.inr g'))))) → (∀ m, m < j → g' m = g0 m) → k_G θ κ cc nL ret own R Q L f' k n (pc + 3) lv st) : k_G θ κ cc nL ret own R Q L f k n pc lv (.int (iI x) :: .int (iI 0) :: .ref a :: .int (iI 0) :: .ref a0 :: st) := by
  intro E H locs ls hH hS hl
  obtain ⟨p0, hp0⟩ := k_pos hc0
  obtain ⟨p1, hp1⟩ := k_pos hc1
  have e0 : (iI 0).toNatClampNeg = 0 := by decide
  have ej : (iI x).toNatClampNeg = j := iI_cl hx hjm
  have hnn : ¬ iI x < 0 := by rw [hx, iI_nI]; exact nI_pos hjm
  have h00 : ¬ iI 0 < 0 := by decide
  refine va_copyq (C := r.1) (E1 := "java/lang/Object") E.1 E.2.1 (by rw [E.2.2.1]; exact hl.1.symm) E.2.2.2.1 (E.word h1 rfl) (E.word h2 rfl) (E.word h3 rfl) (E.word h4 rfl) E.K hH.1 hH.2 hS p0 p1 3 3 hp0 hp1 rfl rfl h00 h00 hnn (by rw [e0, ej]; omega) (by rw [e0, ej]; omega) ?_ (fun comp c0 q1 q2 => vb_asgC (E.2.2.2.2.1.2.1 _ hq rfl) comp c0 q1 q2) hf hlo d (fun H1 locs1 q1 q2 q3 => ?_)
  · intro m hm y hy
    rw [ej] at hm
    rw [e0, Nat.zero_add] at hy
    obtain ⟨t, fs, hcy⟩ := hel m hm y hy
    obtain ⟨qy, hqy⟩ := k_pos hcy
    exact va_recv E.K hH.1 hci hqy
  · rw [e0, ej] at q1 q2
    obtain ⟨z1, z2, z3⟩ := k_Hset hH.2 hc1 hp1 q1 q2
    refine kk _ _ z2 z3 (fun m hm => ?_) E H1 locs1 ls z1 q3 hl
    rw [pk_cpy_in (by omega) (by omega)]
    rw [Nat.zero_add, Nat.sub_zero]
end More
/-! ===== an ArrayList: l with tag tl, its array with tag ta, n elements g ===== -/
def ListR (κ : Kx) (L : List Nat) (f : Nat → wE) (l tl ta n : Nat) (g : Nat → Nat) : Prop :=
  ∃ (md : Int) (E cap : Nat) (row : Nat → Option Nat), Cl L f l (tl, .inr (0, [.int (iI md), .ref E, .int (iI (n : Int))])) ∧
    ((E = κ.2.2.2 4 ∧ n = 0) ∨ (Cl L f E (ta, .inl (κ.2.2.1 3, cap, .inr (.inr (.inr (.inr row))))) ∧ n ≤ cap ∧ (10 ≤ cap ∧ cap ≤ 60) ∧ ∀ i, i < n → row i = some (g i)))
theorem ListR.fr {κ : Kx} {L L' : List Nat} {f f' : Nat → wE} {l tl ta n : Nat} {g : Nat → Nat} {S : Nat → Bool} (h : ListR κ L f l tl ta n g) (hf : k_fr S L f L' f') (hS : (S tl || S ta) = false) : ListR κ L' f' l tl ta n g := by
  obtain ⟨md, E, cap, row, h1, h2⟩ := h
  rw [Bool.or_eq_false_iff] at hS
  refine ⟨md, E, cap, row, h1.fr hf hS.1, ?_⟩
  rcases h2 with h2 | ⟨h2, h3⟩
  · exact Or.inl h2
  · exact Or.inr ⟨h2.fr hf hS.2, h3⟩
theorem ListR.le {κ : Kx} {L : List Nat} {f : Nat → wE} {l tl ta n : Nat} {g : Nat → Nat} (h : ListR κ L f l tl ta n g) : n ≤ 60 := by
  obtain ⟨md, E, cap, row, h1, h2⟩ := h
  rcases h2 with h2 | ⟨h2, h3⟩ <;> omega
theorem ListR.cl {κ : Kx} {L : List Nat} {f : Nat → wE} {l tl ta n : Nat} {g : Nat → Nat} (h : ListR κ L f l tl ta n g) : ∃ (md : Int) (E : Nat), Cl L f l (tl, .inr (0, [.int (iI md), .ref E, .int (iI (n : Int))])) := by
  obtain ⟨md, E, cap, row, h1, h2⟩ := h
  exact ⟨md, E, h1⟩
theorem k_widen {θ : Kt} {κ : Kx} {cc : ByteArray} {nL : Nat} {ret : Option FieldType} {own : String} {R : Room} {Q : State → Prop} {L : List Nat} {f : Nat → wE} {k n pc : Nat} {lv : List (Nat × Value)} {st : List Value} (k' n' : Nat) (hk : k ≤ k') (hn : n ≤ n') (kk : k_G θ κ cc nL ret own R Q L f k' n' pc lv st) : k_G θ κ cc nL ret own R Q L f k n pc lv st :=
  fun E H locs ls hH hS hl => W.widen hk hn (kk E H locs ls hH hS hl)
section Tops
variable {θ : Kt} {κ : Kx} {cc : ByteArray} {nL : Nat} {ret : Option FieldType} {own : String} {R : Room} {Q : State → Prop} {L : List Nat} {f : Nat → wE} {k n pc : Nat} {lv : List (Nat × Value)} {st : List Value}
theorem k_topi {x : Int} (y : Int) (h : x = y) (kk : k_G θ κ cc nL ret own R Q L f k n pc lv (.int (iI y) :: st)) : k_G θ κ cc nL ret own R Q L f k n pc lv (.int (iI x) :: st) := by rw [h]; exact kk
theorem k_topl {x : Int} (y : Int) (h : x = y) (kk : k_G θ κ cc nL ret own R Q L f k n pc lv (.long (lI y) :: st)) : k_G θ κ cc nL ret own R Q L f k n pc lv (.long (lI x) :: st) := by rw [h]; exact kk
theorem k_topb {x : Bool} (y : Bool) (h : x = y) (kk : k_G θ κ cc nL ret own R Q L f k n pc lv (.int (iI (bI y)) :: st)) : k_G θ κ cc nL ret own R Q L f k n pc lv (.int (iI (bI x)) :: st) := by rw [h]; exact kk
end Tops
theorem row_add {n v : Nat} {row : Nat → Option Nat} {g : Nat → Nat} (h : ∀ i, i < n → row i = some (g i)) : ∀ i, i < n + 1 → va_up row n (some v) i = some (va_up g n v i) := by
  intro i hi
  unfold va_up
  by_cases e : i = n
  · rw [if_pos e, if_pos e]
  · rw [if_neg e, if_neg e]
    exact h i (by omega)
theorem tag_ne {t u : Nat} (h : t ≠ u) : (fun v => v == u) t = false := beq_false_of_ne h
def S2 (t u : Nat) : Nat → Bool := fun v => v == t || v == u
theorem S2_l {t u : Nat} : ∀ v, S2 t u v = false → (v == t) = false := fun v h => (Bool.or_eq_false_iff.mp h).1
theorem S2_r {t u : Nat} : ∀ v, S2 t u v = false → (v == u) = false := fun v h => (Bool.or_eq_false_iff.mp h).2
end
section
/-! ===== waters: counting and finding ===== -/
theorem wc_le (h : Nat → Int) : ∀ n, wc h n ≤ n
  | 0 => Nat.le_refl 0
  | n + 1 => by
    have := wc_le h n
    simp only [wc]
    split <;> omega
theorem wc_mono (h : Nat → Int) {n : Nat} : ∀ {m : Nat}, n ≤ m → wc h n ≤ wc h m
  | 0, hm => by
    have : n = 0 := by omega
    subst this
    exact Nat.le_refl _
  | m + 1, hm => by
    rcases Nat.lt_or_ge m n with q | q
    · have : n = m + 1 := by omega
      subst this
      exact Nat.le_refl _
    · have := wc_mono h q
      simp only [wc]
      omega
theorem wc_yes {h : Nat → Int} {n : Nat} (hn : isW h n = true) : wc h (n + 1) = wc h n + 1 := by simp only [wc, if_pos hn]
theorem wc_no {h : Nat → Int} {n : Nat} (hn : ¬ isW h n = true) : wc h (n + 1) = wc h n := by simp only [wc, if_neg hn, Nat.add_zero]
theorem wc_kth {h : Nat → Int} {k : Nat} : ∀ {n : Nat}, k < wc h n → ∃ t, t < n ∧ isW h t = true ∧ wc h t = k
  | 0, hk => absurd hk (Nat.not_lt_zero _)
  | n + 1, hk => by
    by_cases hn : isW h n = true
    · rw [wc_yes hn] at hk
      rcases Nat.lt_or_ge k (wc h n) with q | q
      · obtain ⟨t, h1, h2⟩ := wc_kth q
        exact ⟨t, by omega, h2⟩
      · exact ⟨n, by omega, hn, by omega⟩
    · rw [wc_no hn] at hk
      obtain ⟨t, h1, h2⟩ := wc_kth hk
      exact ⟨t, by omega, h2⟩
theorem tmF_of {h : Nat → Int} {t : Nat} (ht : isW h t = true) : ∀ {n : Nat}, t < n → tmF h (wc h t) n = t
  | 0, hn => absurd hn (Nat.not_lt_zero _)
  | n + 1, hn => by
    simp only [tmF]
    by_cases e : t = n
    · subst e
      rw [if_pos ⟨ht, rfl⟩]
    · have h1 : wc h (t + 1) ≤ wc h n := wc_mono h (by omega)
      rw [wc_yes ht] at h1
      rw [if_neg (fun q => by have := q.2; omega)]
      exact tmF_of ht (by omega)
theorem tm_of {h : Nat → Int} {t : Nat} (ht : isW h t = true) (h1 : t < 4320) : tm h (wc h t) = t := tmF_of ht h1
theorem isW_pos {h : Nat → Int} {t : Nat} (ht : isW h t = true) : 1 ≤ t := (of_decide_eq_true ht).1
theorem tm_spec {h : Nat → Int} {k : Nat} (hk : k < nW h) : tm h k < 4320 ∧ isW h (tm h k) = true ∧ wc h (tm h k) = k ∧ 1 ≤ tm h k := by
  obtain ⟨t, h1, h2, h3⟩ := wc_kth hk
  have e : tm h k = t := by rw [← h3]; exact tm_of h2 h1
  rw [e]
  exact ⟨h1, h2, h3, isW_pos h2⟩
theorem nW_le (h : Nat → Int) : nW h ≤ 4320 := wc_le h 4320
/-! ===== what the objects of the class hold ===== -/
def TideR (κ : Kx) (L : List Nat) (f : Nat → wE) (td : Nat) (τ : Td) : Prop := ∃ (wl : Nat) (wv : Nat → Nat), Cl L f td (2, .inr (6, [.ref wl, .int (iI τ.1)])) ∧ ListR κ L f wl 6 11 τ.2.1 wv ∧ (∀ i, i < τ.2.1 → Cl L f (wv i) (14, .inr (7, [.int (iI (τ.2.2.1 i)), .int (iI (τ.2.2.2.1 i)), .int (iI (τ.2.2.2.2 i))]))) ∧ (∀ i j, i < τ.2.1 → j < τ.2.1 → wv i = wv j → i = j)
theorem TideR.fr {κ : Kx} {L L' : List Nat} {f f' : Nat → wE} {td : Nat} {τ : Td} {S : Nat → Bool} (h : TideR κ L f td τ) (hf : k_fr S L f L' f') (hS : (S 2 || (S 6 || S 11) || S 14) = false) : TideR κ L' f' td τ := by
  obtain ⟨wl, wv, h1, h2, h3, h4⟩ := h
  rw [Bool.or_eq_false_iff, Bool.or_eq_false_iff] at hS
  exact ⟨wl, wv, h1.fr hf hS.1.1, h2.fr hf hS.1.2, fun i hi => (h3 i hi).fr hf hS.2, h4⟩
/-- the table's cells, whatever they hold -/
def TblA (κ : Kx) (L : List Nat) (f : Nat → wE) (tb hs wt wh wi : Nat) (n : Int) (HH WT WH : Nat → Int) (WI : Nat → Bool) : Prop :=
  Cl L f tb (3, .inr (4, [.ref hs, .ref wt, .ref wh, .ref wi, .int (iI n)])) ∧ Cl L f hs (7, .inl (κ.2.2.1 0, 4320, .inl (fun i => iI (HH i)))) ∧ Cl L f wt (8, .inl (κ.2.2.1 0, 4320, .inl (fun i => iI (WT i)))) ∧ Cl L f wh (9, .inl (κ.2.2.1 0, 4320, .inl (fun i => iI (WH i)))) ∧ Cl L f wi (10, .inl (κ.2.2.1 2, 4320, .inl (fun i => iI (bI (WI i)))))
theorem TblA.fr {κ : Kx} {L L' : List Nat} {f f' : Nat → wE} {tb hs wt wh wi : Nat} {n : Int} {HH WT WH : Nat → Int} {WI : Nat → Bool} {S : Nat → Bool} (h : TblA κ L f tb hs wt wh wi n HH WT WH WI) (hf : k_fr S L f L' f') (hS : (S 3 || S 7 || S 8 || S 9 || S 10) = false) : TblA κ L' f' tb hs wt wh wi n HH WT WH WI := by
  obtain ⟨h1, h2, h3, h4, h5⟩ := h
  simp only [Bool.or_eq_false_iff] at hS
  exact ⟨h1.fr hf hS.1.1.1.1, h2.fr hf hS.1.1.1.2, h3.fr hf hS.1.1.2, h4.fr hf hS.1.2, h5.fr hf hS.2⟩
def TblX (κ : Kx) (L : List Nat) (f : Nat → wE) (tb : Nat) : Prop := ∃ (hs wt wh wi : Nat) (n : Int) (HH WT WH : Nat → Int) (WI : Nat → Bool), TblA κ L f tb hs wt wh wi n HH WT WH WI
theorem TblX.fr {κ : Kx} {L L' : List Nat} {f f' : Nat → wE} {tb : Nat} {S : Nat → Bool} (h : TblX κ L f tb) (hf : k_fr S L f L' f') (hS : (S 3 || S 7 || S 8 || S 9 || S 10) = false) : TblX κ L' f' tb := by
  obtain ⟨hs, wt, wh, wi, n, HH, WT, WH, WI, h1⟩ := h
  exact ⟨hs, wt, wh, wi, n, HH, WT, WH, WI, h1.fr hf hS⟩
/-- the arrays hold the heights h and their waters -/
def TblOk (h : Nat → Int) (HH WT WH : Nat → Int) (WI : Nat → Bool) : Prop := (∀ t, t < 4320 → HH t = h t) ∧ ∀ k, k < nW h → WT k = (tm h k : Int) ∧ WH k = h (tm h k) ∧ WI k = hi h k
def TblR (κ : Kx) (L : List Nat) (f : Nat → wE) (tb : Nat) (h : Nat → Int) : Prop := ∃ (hs wt wh wi : Nat) (HH WT WH : Nat → Int) (WI : Nat → Bool), TblA κ L f tb hs wt wh wi (nW h : Int) HH WT WH WI ∧ TblOk h HH WT WH WI
theorem TblR.fr {κ : Kx} {L L' : List Nat} {f f' : Nat → wE} {tb : Nat} {h : Nat → Int} {S : Nat → Bool} (hT : TblR κ L f tb h) (hf : k_fr S L f L' f') (hS : (S 3 || S 7 || S 8 || S 9 || S 10) = false) : TblR κ L' f' tb h := by
  obtain ⟨hs, wt, wh, wi, HH, WT, WH, WI, h1, h2⟩ := hT
  exact ⟨hs, wt, wh, wi, HH, WT, WH, WI, h1.fr hf hS, h2⟩
theorem TblR.x {κ : Kx} {L : List Nat} {f : Nat → wE} {tb : Nat} {h : Nat → Int} (hT : TblR κ L f tb h) : TblX κ L f tb := by
  obtain ⟨hs, wt, wh, wi, HH, WT, WH, WI, h1, h2⟩ := hT
  exact ⟨hs, wt, wh, wi, _, HH, WT, WH, WI, h1⟩
theorem TblR.cl {κ : Kx} {L : List Nat} {f : Nat → wE} {tb : Nat} {h : Nat → Int} (hT : TblR κ L f tb h) : ∃ hs wt wh wi : Nat, Cl L f tb (3, .inr (4, [.ref hs, .ref wt, .ref wh, .ref wi, .int (iI (nW h : Int))])) := by
  obtain ⟨hs, wt, wh, wi, HH, WT, WH, WI, h1, h2⟩ := hT
  exact ⟨hs, wt, wh, wi, h1.1⟩
/-- a port: pt, with its two follows -/
def PortR (L : List Nat) (f : Nat → wE) (pt : Nat) (q : Pt) : Prop := ∃ ph po : Nat, Cl L f pt (15, .inr (2, [.ref ph, .ref po, .int (iI q.2.2.2.2)])) ∧ Cl L f ph (16, .inr (1, [.int (iI q.1), .int (iI q.2.1)])) ∧ Cl L f po (17, .inr (1, [.int (iI q.2.2.1), .int (iI q.2.2.2.1)]))
theorem PortR.fr {L L' : List Nat} {f f' : Nat → wE} {pt : Nat} {q : Pt} {S : Nat → Bool} (h : PortR L f pt q) (hf : k_fr S L f L' f') (hS : (S 15 || S 16 || S 17) = false) : PortR L' f' pt q := by
  obtain ⟨ph, po, h1, h2, h3⟩ := h
  simp only [Bool.or_eq_false_iff] at hS
  exact ⟨ph, po, h1.fr hf hS.1.1, h2.fr hf hS.1.2, h3.fr hf hS.2⟩
theorem PortR.cl {L : List Nat} {f : Nat → wE} {pt : Nat} {q : Pt} (h : PortR L f pt q) : ∃ ph po : Nat, Cl L f pt (15, .inr (2, [.ref ph, .ref po, .int (iI q.2.2.2.2)])) := by
  obtain ⟨ph, po, h1, h2, h3⟩ := h
  exact ⟨ph, po, h1⟩
end
section
set_option maxHeartbeats 4000000 in
set_option maxRecDepth 100000 in
theorem c_J3_checkIndex_8e157 (la : Launch) (κ : Kx) {L : List Nat} {f : Nat → wE} {i n : Int}   (h0 : 0 ≤ i) (h1 : i < n) (h2 : n < 2147483648) : k_M la κ yJ3_checkIndex_8e157 cJ3_checkIndex_8e157 3 (some .int) 1 0 0 [.int (iI i), .int (iI n), .null] L f (k_ro L f (.int (iI i))) := by
  refine k_head RJ3 [(0, .int (iI i)), (1, .int (iI n)), (2, .null)] rfl (by decide) (Nat.le_of_ble_eq_true rfl) rfl (fun θ hθ hin => ?_)
  refine k_iload_n 0 0 dJ3_checkIndex_8e157_0 rfl rfl ?_
  refine k_if_lt 9 dJ3_checkIndex_8e157_1 (by decide) (inI_mk (by omega) (by omega)) (fun h1 => ?_) (fun h1 => ?_)
  · omega
  · refine k_iload_n 0 0 dJ3_checkIndex_8e157_4 rfl rfl ?_
    refine k_iload_n 1 1 dJ3_checkIndex_8e157_5 rfl rfl ?_
    refine k_icmp_lt 16 dJ3_checkIndex_8e157_6 (by decide) (inI_mk (by omega) (by omega)) (inI_mk (by omega) (by omega)) (fun h6 => ?_) (fun h6 => ?_)
    · refine k_iload_n 0 0 dJ3_checkIndex_8e157_16 rfl rfl ?_
      exact k_iret dJ3_checkIndex_8e157_17 rfl (Nat.le_of_ble_eq_true rfl) (Nat.le_of_ble_eq_true rfl) (k_oki rfl)
    · omega
set_option maxHeartbeats 4000000 in
set_option maxRecDepth 100000 in
theorem c_J15_checkIndex_7cf53 (la : Launch) (κ : Kx) {L : List Nat} {f : Nat → wE} {i n : Int}   (h0 : 0 ≤ i) (h1 : i < n) (h2 : n < 2147483648) : k_M la κ yJ15_checkIndex_7cf53 cJ15_checkIndex_7cf53 2 (some .int) 2 0 0 [.int (iI i), .int (iI n)] L f (k_ro L f (.int (iI i))) := by
  refine k_head RJ15 [(0, .int (iI i)), (1, .int (iI n))] rfl (by decide) (Nat.le_of_ble_eq_true rfl) rfl (fun θ hθ hin => ?_)
  refine k_iload_n 0 0 dJ15_checkIndex_7cf53_0 rfl rfl ?_
  refine k_iload_n 1 1 dJ15_checkIndex_7cf53_1 rfl rfl ?_
  refine k_null dJ15_checkIndex_7cf53_2 ?_
  refine k_useR (k_runS (c_J3_checkIndex_8e157 θ.2.1 κ (i := i) (n := n) (by omega) (by omega) (by omega)) w_J15_105 q_179 rfl rfl ⟨(Nat.le_of_ble_eq_true rfl), (Nat.le_of_ble_eq_true rfl)⟩ (Nat.le_of_ble_eq_true rfl) dJ15_checkIndex_7cf53_3) ⟨(Nat.le_of_ble_eq_true rfl), (Nat.le_of_ble_eq_true rfl)⟩ ?_
  exact k_iret dJ15_checkIndex_7cf53_6 rfl (Nat.le_of_ble_eq_true rfl) (Nat.le_of_ble_eq_true rfl) (k_oki rfl)
set_option maxHeartbeats 4000000 in
set_option maxRecDepth 100000 in
theorem c_Jx4a65c_size_8abf5 (la : Launch) (κ : Kx) {L : List Nat} {f : Nat → wE} {l tl ta n : Nat} {g : Nat → Nat}  (hL : ListR κ L f l tl ta n g)  : k_M la κ yJx4a65c_size_8abf5 cJx4a65c_size_8abf5 1 (some .int) 1 0 0 [.ref l] L f (k_ro L f (.int (iI (n : Int)))) := by
  refine k_head RJx4a65c [(0, .ref l)] rfl (by decide) (Nat.le_of_ble_eq_true rfl) rfl (fun θ hθ hin => ?_)
  obtain ⟨md, E, cap, row, cl, hE⟩ := hL
  refine k_aload_n 0 0 dJx4a65c_size_8abf5_0 rfl rfl ?_
  refine k_get 2 i_Jx4a65c q_91 cl rfl (by decide) rfl dJx4a65c_size_8abf5_1 ?_
  exact k_iret dJx4a65c_size_8abf5_4 rfl (Nat.le_of_ble_eq_true rfl) (Nat.le_of_ble_eq_true rfl) (k_oki rfl)
set_option maxHeartbeats 4000000 in
set_option maxRecDepth 100000 in
theorem c_Jx4a65c_isEmpty_aae02 (la : Launch) (κ : Kx) {L : List Nat} {f : Nat → wE} {l tl ta n : Nat} {g : Nat → Nat}  (hL : ListR κ L f l tl ta n g)  : k_M la κ yJx4a65c_isEmpty_aae02 cJx4a65c_isEmpty_aae02 1 (some .boolean) 1 0 0 [.ref l] L f (k_ro L f (.int (iI (bI (decide (n = 0)))))) := by
  refine k_head RJx4a65c [(0, .ref l)] rfl (by decide) (Nat.le_of_ble_eq_true rfl) rfl (fun θ hθ hin => ?_)
  have hle := hL.le
  obtain ⟨md, E, cap, row, cl, hE⟩ := hL
  refine k_aload_n 0 0 dJx4a65c_isEmpty_aae02_0 rfl rfl ?_
  refine k_get 2 i_Jx4a65c q_91 cl rfl (by decide) rfl dJx4a65c_isEmpty_aae02_1 ?_
  refine k_if_ne 11 dJx4a65c_isEmpty_aae02_4 (by decide) (inI_mk (by omega) (by omega)) (fun h4 => ?_) (fun h4 => ?_)
  · refine k_iconst dJx4a65c_isEmpty_aae02_11 ?_
    exact k_zret (b := false) dJx4a65c_isEmpty_aae02_12 rfl (Nat.le_of_ble_eq_true rfl) (Nat.le_of_ble_eq_true rfl) (k_okb ((decide_eq_false (by omega)).symm))
  · refine k_iconst dJx4a65c_isEmpty_aae02_7 ?_
    refine k_goto 12 dJx4a65c_isEmpty_aae02_8 (by decide) ?_
    exact k_zret (b := true) dJx4a65c_isEmpty_aae02_12 rfl (Nat.le_of_ble_eq_true rfl) (Nat.le_of_ble_eq_true rfl) (k_okb ((decide_eq_true (by omega)).symm))
set_option maxHeartbeats 4000000 in
set_option maxRecDepth 100000 in
theorem c_Jx4a65c_elementData_915e3 (la : Launch) (κ : Kx) {L : List Nat} {f : Nat → wE} {l tl ta n : Nat} {g : Nat → Nat} {i : Nat}  (hL : ListR κ L f l tl ta n g) (hi : i < n) : k_M la κ yJx4a65c_elementData_915e3 cJx4a65c_elementData_915e3 2 (some (.object "java/lang/Object")) 1 0 0 [.ref l, .int (iI (i : Int))] L f (k_ro L f (.ref (g i))) := by
  refine k_head RJx4a65c [(0, .ref l), (1, .int (iI (i : Int)))] rfl (by decide) (Nat.le_of_ble_eq_true rfl) rfl (fun θ hθ hin => ?_)
  have hle := hL.le
  obtain ⟨md, E, cap, row, cl, hE⟩ := hL
  obtain ⟨cE, hnc, hcap, hrow⟩ := hE.resolve_left (fun q => by omega)
  refine k_aload_n 0 0 dJx4a65c_elementData_915e3_0 rfl rfl ?_
  refine k_get 1 i_Jx4a65c q_90 cl rfl (by decide) rfl dJx4a65c_elementData_915e3_1 ?_
  refine k_iload_n 1 1 dJx4a65c_elementData_915e3_4 rfl rfl ?_
  refine k_aald i cE rfl (by omega) (by omega) (hrow i hi) dJx4a65c_elementData_915e3_5 ?_
  exact k_aret dJx4a65c_elementData_915e3_6 rfl (Or.inl ⟨_, rfl⟩) (Nat.le_of_ble_eq_true rfl) (Nat.le_of_ble_eq_true rfl) ⟨rfl, rfl, rfl⟩
set_option maxHeartbeats 4000000 in
set_option maxRecDepth 100000 in
theorem c_Jx4a65c_get_915e3 (la : Launch) (κ : Kx) {L : List Nat} {f : Nat → wE} {l tl ta n : Nat} {g : Nat → Nat} {i : Nat}  (hL : ListR κ L f l tl ta n g) (hi : i < n) : k_M la κ yJx4a65c_get_915e3 cJx4a65c_get_915e3 2 (some (.object "java/lang/Object")) 3 0 0 [.ref l, .int (iI (i : Int))] L f (k_ro L f (.ref (g i))) := by
  refine k_head RJx4a65c [(0, .ref l), (1, .int (iI (i : Int)))] rfl (by decide) (Nat.le_of_ble_eq_true rfl) rfl (fun θ hθ hin => ?_)
  have hle := hL.le
  obtain ⟨md, E, cl⟩ := hL.cl
  refine k_iload_n 1 1 dJx4a65c_get_915e3_0 rfl rfl ?_
  refine k_aload_n 0 0 dJx4a65c_get_915e3_1 rfl rfl ?_
  refine k_get 2 i_Jx4a65c q_91 cl rfl (by decide) rfl dJx4a65c_get_915e3_2 ?_
  refine k_useR (k_runS (c_J15_checkIndex_7cf53 θ.2.1 κ (i := (i : Int)) (n := (n : Int)) (by omega) (by omega) (by omega)) w_Jx4a65c_118 q_176 rfl rfl ⟨(Nat.le_of_ble_eq_true rfl), (Nat.le_of_ble_eq_true rfl)⟩ (Nat.le_of_ble_eq_true rfl) dJx4a65c_get_915e3_5) ⟨(Nat.le_of_ble_eq_true rfl), (Nat.le_of_ble_eq_true rfl)⟩ ?_
  refine k_pop dJx4a65c_get_915e3_8 rfl ?_
  refine k_aload_n 0 0 dJx4a65c_get_915e3_9 rfl rfl ?_
  refine k_iload_n 1 1 dJx4a65c_get_915e3_10 rfl rfl ?_
  refine k_useR (k_runV (c_Jx4a65c_elementData_915e3 θ.2.1 κ (l := l) (i := i) hL hi) w_Jx4a65c_123 ⟨q_182, q_183⟩ rfl rfl cl rfl ⟨(Nat.le_of_ble_eq_true rfl), (Nat.le_of_ble_eq_true rfl)⟩ (Nat.le_of_ble_eq_true rfl) dJx4a65c_get_915e3_11) ⟨(Nat.le_of_ble_eq_true rfl), (Nat.le_of_ble_eq_true rfl)⟩ ?_
  exact k_aret dJx4a65c_get_915e3_14 rfl (Or.inl ⟨_, rfl⟩) (Nat.le_of_ble_eq_true rfl) (Nat.le_of_ble_eq_true rfl) ⟨rfl, rfl, rfl⟩
set_option maxHeartbeats 4000000 in
set_option maxRecDepth 100000 in
theorem c_J8_newLength_cabcc (la : Launch) (κ : Kx) {L : List Nat} {f : Nat → wE} {o a b : Int}   (h1 : 0 ≤ o ∧ o ≤ 1000) (h2 : 0 ≤ a ∧ a ≤ 1000) (h3 : 0 ≤ b ∧ b ≤ 1000) (h4 : 0 < o + max a b) : k_M la κ yJ8_newLength_cabcc cJ8_newLength_cabcc 4 (some .int) 2 0 0 [.int (iI o), .int (iI a), .int (iI b)] L f (k_ro L f (.int (iI (o + max a b)))) := by
  refine k_head RJ8 [(0, .int (iI o)), (1, .int (iI a)), (2, .int (iI b))] rfl (by decide) (Nat.le_of_ble_eq_true rfl) rfl (fun θ hθ hin => ?_)
  refine k_iload_n 0 0 dJ8_newLength_cabcc_0 rfl rfl ?_
  refine k_iload_n 1 1 dJ8_newLength_cabcc_1 rfl rfl ?_
  refine k_iload_n 2 2 dJ8_newLength_cabcc_2 rfl rfl ?_
  refine k_max q_447 q_288 q_52 q_289 (inI_mk (by omega) (by omega)) (inI_mk (by omega) (by omega)) (Nat.le_of_ble_eq_true rfl) (Nat.le_of_ble_eq_true rfl) ⟨(Nat.le_of_ble_eq_true rfl), (Nat.le_of_ble_eq_true rfl)⟩ dJ8_newLength_cabcc_3 ?_
  refine k_iadd dJ8_newLength_cabcc_6 ?_
  refine k_istore_n 3 [(3, .int (iI (o + (max a b)))), (0, .int (iI o)), (1, .int (iI a)), (2, .int (iI b))] dJ8_newLength_cabcc_7 rfl (by decide) rfl ?_
  refine k_iconst dJ8_newLength_cabcc_8 ?_
  refine k_iload_n 0 3 dJ8_newLength_cabcc_9 rfl rfl ?_
  refine k_icmp_ge 21 dJ8_newLength_cabcc_10 (by decide) (inI_mk (by omega) (by omega)) (inI_mk (by omega) (by omega)) (fun h10 => ?_) (fun h10 => ?_)
  · omega
  · refine k_iload_n 0 3 dJ8_newLength_cabcc_13 rfl rfl ?_
    refine k_ldc 2147483639 q_448 (by decide) dJ8_newLength_cabcc_14 ?_
    refine k_icmp_gt 21 dJ8_newLength_cabcc_16 (by decide) (inI_mk (by omega) (by omega)) (inI_mk (by omega) (by omega)) (fun h16 => ?_) (fun h16 => ?_)
    · omega
    · refine k_iload_n 0 3 dJ8_newLength_cabcc_19 rfl rfl ?_
      exact k_iret dJ8_newLength_cabcc_20 rfl (Nat.le_of_ble_eq_true rfl) (Nat.le_of_ble_eq_true rfl) (k_oki rfl)
set_option maxHeartbeats 4000000 in
set_option maxRecDepth 100000 in
theorem c_J7_copyOf_6403c (la : Launch) (κ : Kx) {L : List Nat} {f : Nat → wE} {a n ta ci : Nat} {row : Nat → Option Nat} {g : Nat → Nat} {r : vw_C} {m : Nat} (ca : Cl L f a (ta, .inl (κ.2.2.1 3, n, .inr (.inr (.inr (.inr row))))))  (hnm : n ≤ m ∧ m ≤ 60) (hci : vwCl[ci]? = some r) (hq : Cond.castable r.1 "java/lang/Object" ∈ lw_tbl) (hrow : ∀ i, i < n → row i = some (g i)) (hel : ∀ i, i < n → ∃ (t : Nat) (fs : List Value), Cl L f (g i) (t, .inr (ci, fs))) : k_M la κ yJ7_copyOf_6403c cJ7_copyOf_6403c 4 (some (.array (.object "java/lang/Object"))) 2 1 60 [.ref a, .int (iI (m : Int)), .ref (κ.2.2.2 5)] L f (k_rn (fun w L' f' => ∃ (q9 : Nat) (row9 : Nat → Option Nat), w = .ref q9 ∧ (∀ z ∈ L, z ∈ L' ∧ f' z = f z) ∧ Cl L' f' q9 (ta, .inl (κ.2.2.1 3, m, .inr (.inr (.inr (.inr row9))))) ∧ ∀ i, i < n → row9 i = some (g i))) := by
  refine k_head RJ7 [(0, .ref a), (1, .int (iI (m : Int))), (2, .ref (κ.2.2.2 5))] rfl (by decide) (Nat.le_of_ble_eq_true rfl) rfl (fun θ hθ hin => ?_)
  have ca0 := ca.1
  refine k_aload_n 2 2 dJ7_copyOf_6403c_0 rfl rfl ?_
  refine k_ldcM q_475 dJ7_copyOf_6403c_1 ?_
  refine k_acmp_ne 13 dJ7_copyOf_6403c_3 (by decide) (fun h3 => ?_) (fun h3 => ?_)
  · exact absurd rfl h3
  · refine k_iload_n 1 1 dJ7_copyOf_6403c_6 rfl rfl ?_
    refine k_newq ta m q_477 rfl (by omega) (Nat.le_of_ble_eq_true rfl) (by show 0 + m ≤ 60; omega) dJ7_copyOf_6403c_7 (fun q9 L1 f1 hz1 hn1 hc1 => ?_)
    have hr1 := k_fr.new hz1
    replace ca := ca.fr hr1 rfl
    have cQ9 : Cl L1 f1 q9 (ta, .inl (κ.2.2.1 3, m, .inr (.inr (.inr (.inr (fun _ => none)))))) := hc1
    refine k_widen 1 60 (by omega) (by omega) ?_
    refine k_goto 24 dJ7_copyOf_6403c_10 (by decide) ?_
    refine k_astore_n 3 [(3, .ref q9), (0, .ref a), (1, .int (iI (m : Int))), (2, .ref (κ.2.2.2 5))] dJ7_copyOf_6403c_24 rfl (by decide) rfl ?_
    refine k_aload_n 1 0 dJ7_copyOf_6403c_25 rfl rfl ?_
    refine k_iconst dJ7_copyOf_6403c_26 ?_
    refine k_aload_n 0 3 dJ7_copyOf_6403c_27 rfl rfl ?_
    refine k_iconst dJ7_copyOf_6403c_28 ?_
    refine k_aload_n 1 0 dJ7_copyOf_6403c_29 rfl rfl ?_
    refine k_alen (t0 := 3) ca rfl dJ7_copyOf_6403c_30 ?_
    refine k_iload_n 2 1 dJ7_copyOf_6403c_31 rfl rfl ?_
    refine k_min q_478 q_295 q_52 q_296 (inI_mk (by omega) (by omega)) (inI_mk (by omega) (by omega)) (Nat.le_of_ble_eq_true rfl) (Nat.le_of_ble_eq_true rfl) ⟨(Nat.le_of_ble_eq_true rfl), (Nat.le_of_ble_eq_true rfl)⟩ dJ7_copyOf_6403c_32 ?_
    have hel9 : ∀ j, j < n → ∀ y, row j = some y → ∃ (t : Nat) (fs : List Value), Cl L1 f1 y (t, .inr (ci, fs)) := fun j hj y hy => by
      have e := (hrow j hj).symm.trans hy
      obtain ⟨t, fs, hc⟩ := hel j hj
      rw [Option.some.inj e] at hc
      exact ⟨t, fs, hc.new hz1⟩
    have hmin : min (n : Int) (m : Int) = (n : Int) := by omega
    refine k_copyq n q_479 q_481 q_480 q_54 ca cQ9 hmin (Nat.le_refl _) hnm.1 (by omega) hci hq hel9 (Nat.le_of_ble_eq_true rfl) (Nat.le_of_ble_eq_true rfl) dJ7_copyOf_6403c_35 (fun f2 g2 hf2 hc2 hg2 => ?_)
    have hr2 := k_fr.put hf2 cQ9
    replace ca := Cl.put2 hf2 ca (fun e => hn1 (by rw [← e]; exact ca0))
    replace cQ9 : Cl L1 f2 q9 (ta, .inl (κ.2.2.1 3, m, .inr (.inr (.inr (.inr g2))))) := hc2
    have hfin : ∀ z ∈ L, z ∈ L1 ∧ f2 z = f z := fun z hz => ⟨(hz1 z hz).1, (hf2 z (fun e => hn1 (by rw [← e]; exact hz))).trans (hz1 z hz).2⟩
    refine k_aload_n 0 3 dJ7_copyOf_6403c_38 rfl rfl ?_
    exact k_aret dJ7_copyOf_6403c_39 rfl (Or.inr ⟨_, rfl⟩) (Nat.le_of_ble_eq_true rfl) (Nat.le_of_ble_eq_true rfl) (⟨.ref q9, rfl, q9, g2, rfl, hfin, cQ9, fun i hi => (hg2 i hi).trans (hrow i hi)⟩)
set_option maxHeartbeats 4000000 in
set_option maxRecDepth 100000 in
theorem c_J7_copyOf_1904c (la : Launch) (κ : Kx) {L : List Nat} {f : Nat → wE} {a n ta ci : Nat} {row : Nat → Option Nat} {g : Nat → Nat} {r : vw_C} {m : Nat} (ca : Cl L f a (ta, .inl (κ.2.2.1 3, n, .inr (.inr (.inr (.inr row))))))  (hnm : n ≤ m ∧ m ≤ 60) (hci : vwCl[ci]? = some r) (hq : Cond.castable r.1 "java/lang/Object" ∈ lw_tbl) (hrow : ∀ i, i < n → row i = some (g i)) (hel : ∀ i, i < n → ∃ (t : Nat) (fs : List Value), Cl L f (g i) (t, .inr (ci, fs))) : k_M la κ yJ7_copyOf_1904c cJ7_copyOf_1904c 2 (some (.array (.object "java/lang/Object"))) 3 1 60 [.ref a, .int (iI (m : Int))] L f (k_rn (fun w L' f' => ∃ (q9 : Nat) (row9 : Nat → Option Nat), w = .ref q9 ∧ (∀ z ∈ L, z ∈ L' ∧ f' z = f z) ∧ Cl L' f' q9 (ta, .inl (κ.2.2.1 3, m, .inr (.inr (.inr (.inr row9))))) ∧ ∀ i, i < n → row9 i = some (g i))) := by
  refine k_head RJ7 [(0, .ref a), (1, .int (iI (m : Int)))] rfl (by decide) (Nat.le_of_ble_eq_true rfl) rfl (fun θ hθ hin => ?_)
  refine k_aload_n 0 0 dJ7_copyOf_1904c_0 rfl rfl ?_
  refine k_iload_n 1 1 dJ7_copyOf_1904c_1 rfl rfl ?_
  refine k_aload_n 0 0 dJ7_copyOf_1904c_2 rfl rfl ?_
  refine k_getC q_455 q_1046 q_1045 q_456 q_471 ca (Nat.le_of_ble_eq_true rfl) (Nat.le_of_ble_eq_true rfl) dJ7_copyOf_1904c_3 ?_
  refine k_useV (k_runS (c_J7_copyOf_6403c θ.2.1 κ (a := a) (m := m) ca hnm hci hq hrow hel) w_J7_300 q_473 rfl rfl ⟨(Nat.le_of_ble_eq_true rfl), (Nat.le_of_ble_eq_true rfl)⟩ (Nat.le_of_ble_eq_true rfl) dJ7_copyOf_1904c_6) ⟨(Nat.le_of_ble_eq_true rfl), (Nat.le_of_ble_eq_true rfl)⟩ (fun w L1 f1 hw => ?_)
  obtain ⟨q9, row9, rfl, hz1, cQ9, hr9⟩ := hw
  have hr1 := k_fr.new hz1
  replace ca := ca.fr hr1 rfl
  exact k_aret dJ7_copyOf_1904c_9 rfl (Or.inr ⟨_, rfl⟩) (Nat.le_of_ble_eq_true rfl) (Nat.le_of_ble_eq_true rfl) (⟨.ref q9, rfl, q9, row9, rfl, hz1, cQ9, hr9⟩)
set_option maxHeartbeats 4000000 in
set_option maxRecDepth 100000 in
theorem c_Jx4a65c_grow_92f84 (la : Launch) (κ : Kx) {L : List Nat} {f : Nat → wE} {l tl ta n ci E : Nat} {md : Int} {row : Nat → Option Nat} {g : Nat → Nat} {r : vw_C} (cl : Cl L f l (tl, .inr (0, [.int (iI md), .ref E, .int (iI (n : Int))])))  (htg : ta ≠ tl) (hE : (E = κ.2.2.2 4 ∧ n = 0) ∨ (Cl L f E (ta, .inl (κ.2.2.1 3, n, .inr (.inr (.inr (.inr row))))) ∧ (10 ≤ n ∧ n ≤ 39) ∧ ∀ i, i < n → row i = some (g i))) (hci : vwCl[ci]? = some r) (hq : Cond.castable r.1 "java/lang/Object" ∈ lw_tbl) (hel : ∀ i, i < n → ∃ (t : Nat) (fs : List Value), Cl L f (g i) (t, .inr (ci, fs))) : k_M la κ yJx4a65c_grow_92f84 cJx4a65c_grow_92f84 4 (some (.array (.object "java/lang/Object"))) 4 1 60 [.ref l, .int (iI ((n : Int) + 1))] L f (k_rn (fun w L' f' => ∃ (q9 cap9 : Nat) (row9 : Nat → Option Nat), w = .ref q9 ∧ k_fr (fun u => u == tl) L f L' f' ∧ Cl L' f' l (tl, .inr (0, [.int (iI md), .ref q9, .int (iI (n : Int))])) ∧ Cl L' f' q9 (ta, .inl (κ.2.2.1 3, cap9, .inr (.inr (.inr (.inr row9))))) ∧ n < cap9 ∧ (10 ≤ cap9 ∧ cap9 ≤ 60) ∧ ∀ i, i < n → row9 i = some (g i))) := by
  refine k_head RJx4a65c [(0, .ref l), (1, .int (iI ((n : Int) + 1)))] rfl (by decide) (Nat.le_of_ble_eq_true rfl) rfl (fun θ hθ hin => ?_)
  rcases hE with ⟨hE0, hn0⟩ | ⟨cE, hcap, hrow⟩
  · subst hE0
    have hn1 : (n : Int) = 0 := by omega
    refine k_aload_n 0 0 dJx4a65c_grow_92f84_0 rfl rfl ?_
    refine k_get 1 i_Jx4a65c q_90 cl rfl (by decide) rfl dJx4a65c_grow_92f84_1 ?_
    refine k_tlenD dJx4a65c_grow_92f84_4 ?_
    refine k_istore_n 2 [(2, .int (iI 0)), (0, .ref l), (1, .int (iI ((n : Int) + 1)))] dJx4a65c_grow_92f84_5 rfl (by decide) rfl ?_
    refine k_iload_n 0 2 dJx4a65c_grow_92f84_6 rfl rfl ?_
    refine k_if_gt 20 dJx4a65c_grow_92f84_7 (by decide) (inI_mk (by omega) (by omega)) (fun h7 => ?_) (fun h7 => ?_)
    · omega
    · refine k_aload_n 1 0 dJx4a65c_grow_92f84_10 rfl rfl ?_
      refine k_get 1 i_Jx4a65c q_90 cl rfl (by decide) rfl dJx4a65c_grow_92f84_11 ?_
      refine k_getsD q_88 dJx4a65c_grow_92f84_14 ?_
      refine k_acmp_eq 45 dJx4a65c_grow_92f84_17 (by decide) (fun h17 => ?_) (fun h17 => ?_)
      · refine k_aload_n 1 0 dJx4a65c_grow_92f84_45 rfl rfl ?_
        refine k_bipush dJx4a65c_grow_92f84_46 (by decide) ?_
        refine k_iload_n 2 1 dJx4a65c_grow_92f84_48 rfl rfl ?_
        refine k_max q_482 q_288 q_52 q_289 (inI_mk (by omega) (by omega)) (inI_mk (by omega) (by omega)) (Nat.le_of_ble_eq_true rfl) (Nat.le_of_ble_eq_true rfl) ⟨(Nat.le_of_ble_eq_true rfl), (Nat.le_of_ble_eq_true rfl)⟩ dJx4a65c_grow_92f84_49 ?_
        refine k_newq ta 10 q_483 (by omega) (by omega) (Nat.le_of_ble_eq_true rfl) (Nat.le_of_ble_eq_true rfl) dJx4a65c_grow_92f84_52 (fun q9 L1 f1 hz1 hn1 hc1 => ?_)
        have hr1 := k_fr.new hz1
        replace cl := cl.fr hr1 rfl
        have cQ9 : Cl L1 f1 q9 (ta, .inl (κ.2.2.1 3, 10, .inr (.inr (.inr (.inr (fun _ => none)))))) := hc1
        refine k_dup_x1 dJx4a65c_grow_92f84_55 rfl rfl ?_
        refine k_put 1 [.int (iI md), .ref q9, .int (iI (n : Int))] i_Jx4a65c tyJx4a65c_ok nmJx4a65c q_90 cl rfl (by decide) rfl rfl rfl rfl (Nat.le_of_ble_eq_true rfl) rfl dJx4a65c_grow_92f84_56 (fun f2 hf2 hc2 => ?_)
        have hr2 := k_fr.put hf2 cl
        replace cQ9 := cQ9.fr hr2 (tag_ne htg)
        replace cl : Cl L1 f2 l (tl, .inr (0, [.int (iI md), .ref q9, .int (iI (n : Int))])) := hc2
        refine k_widen 1 60 (by omega) (by omega) ?_
        exact k_aret dJx4a65c_grow_92f84_59 rfl (Or.inr ⟨_, rfl⟩) (Nat.le_of_ble_eq_true rfl) (Nat.le_of_ble_eq_true rfl) (⟨_, rfl, q9, 10, (fun _ => none), rfl, k_fr.trans hr1 hr2 (fun _ _ => rfl) (fun _ h => h), cl, cQ9, by omega, by omega, fun i hi => absurd hi (by omega)⟩)
      · exact absurd rfl h17
  · have hnn : 10 ≤ n ∧ n ≤ 39 := hcap
    refine k_aload_n 0 0 dJx4a65c_grow_92f84_0 rfl rfl ?_
    refine k_get 1 i_Jx4a65c q_90 cl rfl (by decide) rfl dJx4a65c_grow_92f84_1 ?_
    refine k_alen (t0 := 3) cE rfl dJx4a65c_grow_92f84_4 ?_
    refine k_istore_n 2 [(2, .int (iI (n : Int))), (0, .ref l), (1, .int (iI ((n : Int) + 1)))] dJx4a65c_grow_92f84_5 rfl (by decide) rfl ?_
    refine k_iload_n 0 2 dJx4a65c_grow_92f84_6 rfl rfl ?_
    refine k_if_gt 20 dJx4a65c_grow_92f84_7 (by decide) (inI_mk (by omega) (by omega)) (fun h7 => ?_) (fun h7 => ?_)
    · refine k_iload_n 0 2 dJx4a65c_grow_92f84_20 rfl rfl ?_
      refine k_iload_n 2 1 dJx4a65c_grow_92f84_21 rfl rfl ?_
      refine k_iload_n 0 2 dJx4a65c_grow_92f84_22 rfl rfl ?_
      refine k_isub dJx4a65c_grow_92f84_23 ?_
      refine k_iload_n 0 2 dJx4a65c_grow_92f84_24 rfl rfl ?_
      refine k_iconst dJx4a65c_grow_92f84_25 ?_
      refine k_ishr1 n rfl (by omega) dJx4a65c_grow_92f84_26 ?_
      refine k_useR (k_runS (c_J8_newLength_cabcc θ.2.1 κ (o := (n : Int)) (a := (((n : Int) + 1) - (n : Int))) (b := ((n / 2 : Nat) : Int)) (by omega) (by omega) (by omega) (by omega)) w_Jx4a65c_73 q_445 rfl rfl ⟨(Nat.le_of_ble_eq_true rfl), (Nat.le_of_ble_eq_true rfl)⟩ (Nat.le_of_ble_eq_true rfl) dJx4a65c_grow_92f84_27) ⟨(Nat.le_of_ble_eq_true rfl), (Nat.le_of_ble_eq_true rfl)⟩ ?_
      obtain ⟨m9, hm9⟩ : ∃ m9 : Nat, m9 = n + n / 2 := ⟨_, rfl⟩
      refine k_topi (m9 : Int) (by omega) ?_
      refine k_istore_n 3 [(3, .int (iI (m9 : Int))), (2, .int (iI (n : Int))), (0, .ref l), (1, .int (iI ((n : Int) + 1)))] dJx4a65c_grow_92f84_30 rfl (by decide) rfl ?_
      refine k_aload_n 2 0 dJx4a65c_grow_92f84_31 rfl rfl ?_
      refine k_aload_n 2 0 dJx4a65c_grow_92f84_32 rfl rfl ?_
      refine k_get 1 i_Jx4a65c q_90 cl rfl (by decide) rfl dJx4a65c_grow_92f84_33 ?_
      refine k_iload_n 0 3 dJx4a65c_grow_92f84_36 rfl rfl ?_
      refine k_useV (k_runS (c_J7_copyOf_1904c θ.2.1 κ (m := m9) (a := E) cE ⟨by omega, by omega⟩ hci hq hrow hel) w_Jx4a65c_66 q_453 rfl rfl ⟨(Nat.le_of_ble_eq_true rfl), (Nat.le_of_ble_eq_true rfl)⟩ (Nat.le_of_ble_eq_true rfl) dJx4a65c_grow_92f84_37) ⟨(Nat.le_of_ble_eq_true rfl), (Nat.le_of_ble_eq_true rfl)⟩ (fun w L1 f1 hw => ?_)
      obtain ⟨q9, row9, rfl, hz1, cQ9, hr9⟩ := hw
      have hr1 := k_fr.new hz1
      replace cl := cl.fr hr1 rfl
      replace cE := cE.fr hr1 rfl
      refine k_dup_x1 dJx4a65c_grow_92f84_40 rfl rfl ?_
      refine k_put 1 [.int (iI md), .ref q9, .int (iI (n : Int))] i_Jx4a65c tyJx4a65c_ok nmJx4a65c q_90 cl rfl (by decide) rfl rfl rfl rfl (Nat.le_of_ble_eq_true rfl) rfl dJx4a65c_grow_92f84_41 (fun f3 hf3 hc3 => ?_)
      have hr3 := k_fr.put hf3 cl
      replace cE := cE.fr hr3 (tag_ne htg)
      replace cQ9 := cQ9.fr hr3 (tag_ne htg)
      replace cl : Cl L1 f3 l (tl, .inr (0, [.int (iI md), .ref q9, .int (iI (n : Int))])) := hc3
      refine k_widen 1 60 (by omega) (by omega) ?_
      exact k_aret dJx4a65c_grow_92f84_44 rfl (Or.inr ⟨_, rfl⟩) (Nat.le_of_ble_eq_true rfl) (Nat.le_of_ble_eq_true rfl) (⟨_, rfl, q9, m9, row9, rfl, k_fr.trans hr1 hr3 (fun _ _ => rfl) (fun _ h => h), cl, cQ9, by omega, by omega, hr9⟩)
    · omega
set_option maxHeartbeats 4000000 in
set_option maxRecDepth 100000 in
theorem c_Jx4a65c_grow_d5877 (la : Launch) (κ : Kx) {L : List Nat} {f : Nat → wE} {l tl ta n ci E : Nat} {md : Int} {row : Nat → Option Nat} {g : Nat → Nat} {r : vw_C} (cl : Cl L f l (tl, .inr (0, [.int (iI md), .ref E, .int (iI (n : Int))])))  (htg : ta ≠ tl) (hE : (E = κ.2.2.2 4 ∧ n = 0) ∨ (Cl L f E (ta, .inl (κ.2.2.1 3, n, .inr (.inr (.inr (.inr row))))) ∧ (10 ≤ n ∧ n ≤ 39) ∧ ∀ i, i < n → row i = some (g i))) (hci : vwCl[ci]? = some r) (hq : Cond.castable r.1 "java/lang/Object" ∈ lw_tbl) (hel : ∀ i, i < n → ∃ (t : Nat) (fs : List Value), Cl L f (g i) (t, .inr (ci, fs))) : k_M la κ yJx4a65c_grow_d5877 cJx4a65c_grow_d5877 1 (some (.array (.object "java/lang/Object"))) 5 1 60 [.ref l] L f (k_rn (fun w L' f' => ∃ (q9 cap9 : Nat) (row9 : Nat → Option Nat), w = .ref q9 ∧ k_fr (fun u => u == tl) L f L' f' ∧ Cl L' f' l (tl, .inr (0, [.int (iI md), .ref q9, .int (iI (n : Int))])) ∧ Cl L' f' q9 (ta, .inl (κ.2.2.1 3, cap9, .inr (.inr (.inr (.inr row9))))) ∧ n < cap9 ∧ (10 ≤ cap9 ∧ cap9 ≤ 60) ∧ ∀ i, i < n → row9 i = some (g i))) := by
  refine k_head RJx4a65c [(0, .ref l)] rfl (by decide) (Nat.le_of_ble_eq_true rfl) rfl (fun θ hθ hin => ?_)
  refine k_aload_n 0 0 dJx4a65c_grow_d5877_0 rfl rfl ?_
  refine k_aload_n 0 0 dJx4a65c_grow_d5877_1 rfl rfl ?_
  refine k_get 2 i_Jx4a65c q_91 cl rfl (by decide) rfl dJx4a65c_grow_d5877_2 ?_
  refine k_iconst dJx4a65c_grow_d5877_5 ?_
  refine k_iadd dJx4a65c_grow_d5877_6 ?_
  refine k_useV (k_runV (c_Jx4a65c_grow_92f84 θ.2.1 κ (l := l) cl htg hE hci hq hel) w_Jx4a65c_69 ⟨q_442, q_13⟩ rfl rfl cl rfl ⟨(Nat.le_of_ble_eq_true rfl), (Nat.le_of_ble_eq_true rfl)⟩ (Nat.le_of_ble_eq_true rfl) dJx4a65c_grow_d5877_7) ⟨(Nat.le_of_ble_eq_true rfl), (Nat.le_of_ble_eq_true rfl)⟩ (fun w Lg fg hw => ?_)
  obtain ⟨q9, cap9, row9, rfl, hrg, cl1, cQ9, hnc9, hcc, hr9⟩ := hw
  replace cl := cl1
  exact k_aret dJx4a65c_grow_d5877_10 rfl (Or.inr ⟨_, rfl⟩) (Nat.le_of_ble_eq_true rfl) (Nat.le_of_ble_eq_true rfl) (⟨_, rfl, q9, cap9, row9, rfl, hrg, cl, cQ9, hnc9, hcc, hr9⟩)
set_option maxHeartbeats 4000000 in
set_option maxRecDepth 100000 in
theorem c_Jx4a65c_add_72be8 (la : Launch) (κ : Kx) {L : List Nat} {f : Nat → wE} {l tl ta tv n ci E v cap : Nat} {md : Int} {row : Nat → Option Nat} {g : Nat → Nat} {r : vw_C} {vs : List Value} (cl : Cl L f l (tl, .inr (0, [.int (iI md), .ref E, .int (iI (n : Int))])))  (hvv : Cl L f v (tv, .inr (ci, vs))) (htg : ta ≠ tl) (htv : tv ≠ tl ∧ tv ≠ ta) (hE : (E = κ.2.2.2 4 ∧ n = 0) ∨ (Cl L f E (ta, .inl (κ.2.2.1 3, cap, .inr (.inr (.inr (.inr row))))) ∧ n ≤ cap ∧ (10 ≤ cap ∧ cap ≤ 60) ∧ ∀ i, i < n → row i = some (g i))) (hn : n ≤ 39) (hci : vwCl[ci]? = some r) (hq : Cond.castable r.1 "java/lang/Object" ∈ lw_tbl) (hel : ∀ i, i < n → ∃ (t : Nat) (fs : List Value), Cl L f (g i) (t, .inr (ci, fs))) : k_M la κ yJx4a65c_add_72be8 cJx4a65c_add_72be8 4 none 6 1 60 [.ref l, .ref v, .ref E, .int (iI (n : Int))] L f (k_ru (fun L' f' => ListR κ L' f' l tl ta (n + 1) (va_up g n v) ∧ k_fr (S2 tl ta) L f L' f')) := by
  refine k_head RJx4a65c [(0, .ref l), (1, .ref v), (2, .ref E), (3, .int (iI (n : Int)))] rfl (by decide) (Nat.le_of_ble_eq_true rfl) rfl (fun θ hθ hin => ?_)
  have hv := hvv
  rcases hE with ⟨hE0, hn0⟩ | ⟨cE, hnc, hcap, hrow⟩
  · subst hE0
    have hn1 : (n : Int) = 0 := by omega
    refine k_iload_n 3 3 dJx4a65c_add_72be8_0 rfl rfl ?_
    refine k_aload_n 2 2 dJx4a65c_add_72be8_1 rfl rfl ?_
    refine k_tlenD dJx4a65c_add_72be8_2 ?_
    refine k_icmp_ne 11 dJx4a65c_add_72be8_3 (by decide) (inI_mk (by omega) (by omega)) (inI_mk (by omega) (by omega)) (fun h3 => ?_) (fun h3 => ?_)
    · omega
    · refine k_aload_n 0 0 dJx4a65c_add_72be8_6 rfl rfl ?_
      refine k_useV (k_runV (c_Jx4a65c_grow_d5877 θ.2.1 κ (l := l) cl htg (Or.inl ⟨rfl, hn0⟩ : (κ.2.2.2 4 = κ.2.2.2 4 ∧ n = 0) ∨ (Cl L f (κ.2.2.2 4) (ta, .inl (κ.2.2.1 3, n, .inr (.inr (.inr (.inr row))))) ∧ (10 ≤ n ∧ n ≤ 39) ∧ ∀ i, i < n → row i = some (g i))) hci hq hel) w_Jx4a65c_129 ⟨q_438, q_12⟩ rfl rfl cl rfl ⟨(Nat.le_of_ble_eq_true rfl), (Nat.le_of_ble_eq_true rfl)⟩ (Nat.le_of_ble_eq_true rfl) dJx4a65c_add_72be8_7) ⟨(Nat.le_of_ble_eq_true rfl), (Nat.le_of_ble_eq_true rfl)⟩ (fun w Lg fg hw => ?_)
      obtain ⟨q9, cap9, row9, rfl, hrg, cl1, cQ9, hnc9, hcc, hr9⟩ := hw
      replace cl := cl1
      replace hv := hv.fr hrg (tag_ne htv.1)
      refine k_astore_n 2 [(2, .ref q9), (0, .ref l), (1, .ref v), (3, .int (iI (n : Int)))] dJx4a65c_add_72be8_10 rfl (by decide) rfl ?_
      refine k_aload_n 0 2 dJx4a65c_add_72be8_11 rfl rfl ?_
      refine k_iload_n 3 3 dJx4a65c_add_72be8_12 rfl rfl ?_
      refine k_aload_n 2 1 dJx4a65c_add_72be8_13 rfl rfl ?_
      refine k_aast n cQ9 hv hci hq rfl (by omega) (by omega) dJx4a65c_add_72be8_14 (fun f1 hf1 hc1 => ?_)
      have hr1 := k_fr.put hf1 cQ9
      replace cl := cl.fr hr1 (tag_ne (Ne.symm htg))
      replace hv := hv.fr hr1 (tag_ne htv.2)
      replace cQ9 : Cl Lg f1 q9 (ta, .inl (κ.2.2.1 3, cap9, .inr (.inr (.inr (.inr (va_up row9 n (some v))))))) := hc1
      refine k_aload_n 1 0 dJx4a65c_add_72be8_15 rfl rfl ?_
      refine k_iload_n 3 3 dJx4a65c_add_72be8_16 rfl rfl ?_
      refine k_iconst dJx4a65c_add_72be8_17 ?_
      refine k_iadd dJx4a65c_add_72be8_18 ?_
      refine k_topi ((n + 1 : Nat) : Int) (by omega) ?_
      refine k_put 2 [.int (iI md), .ref q9, .int (iI ((n + 1 : Nat) : Int))] i_Jx4a65c tyJx4a65c_ok nmJx4a65c q_91 cl rfl (by decide) rfl rfl rfl rfl (Nat.le_of_ble_eq_true rfl) rfl dJx4a65c_add_72be8_19 (fun f2 hf2 hc2 => ?_)
      have hr2 := k_fr.put hf2 cl
      replace hv := hv.fr hr2 (tag_ne htv.1)
      replace cQ9 := cQ9.fr hr2 (tag_ne htg)
      replace cl : Cl Lg f2 l (tl, .inr (0, [.int (iI md), .ref q9, .int (iI ((n + 1 : Nat) : Int))])) := hc2
      exact k_vret dJx4a65c_add_72be8_22 rfl (Nat.le_of_ble_eq_true rfl) (Nat.le_of_ble_eq_true rfl) (⟨rfl, ⟨md, q9, cap9, _, cl, Or.inr ⟨cQ9, by omega, hcc, row_add hr9⟩⟩, k_fr.trans (k_fr.trans hrg hr1 S2_l S2_r) hr2 (fun _ h => h) S2_l⟩)
  · refine k_iload_n 3 3 dJx4a65c_add_72be8_0 rfl rfl ?_
    refine k_aload_n 2 2 dJx4a65c_add_72be8_1 rfl rfl ?_
    refine k_alen (t0 := 3) cE rfl dJx4a65c_add_72be8_2 ?_
    refine k_icmp_ne 11 dJx4a65c_add_72be8_3 (by decide) (inI_mk (by omega) (by omega)) (inI_mk (by omega) (by omega)) (fun h3 => ?_) (fun h3 => ?_)
    · refine k_aload_n 2 2 dJx4a65c_add_72be8_11 rfl rfl ?_
      refine k_iload_n 3 3 dJx4a65c_add_72be8_12 rfl rfl ?_
      refine k_aload_n 1 1 dJx4a65c_add_72be8_13 rfl rfl ?_
      refine k_aast n cE hv hci hq rfl (by omega) (by omega) dJx4a65c_add_72be8_14 (fun f3 hf3 hc3 => ?_)
      have hr3 := k_fr.put hf3 cE
      replace cl := cl.fr hr3 (tag_ne (Ne.symm htg))
      replace hv := hv.fr hr3 (tag_ne htv.2)
      replace cE : Cl L f3 E (ta, .inl (κ.2.2.1 3, cap, .inr (.inr (.inr (.inr (va_up row n (some v))))))) := hc3
      refine k_aload_n 0 0 dJx4a65c_add_72be8_15 rfl rfl ?_
      refine k_iload_n 3 3 dJx4a65c_add_72be8_16 rfl rfl ?_
      refine k_iconst dJx4a65c_add_72be8_17 ?_
      refine k_iadd dJx4a65c_add_72be8_18 ?_
      refine k_topi ((n + 1 : Nat) : Int) (by omega) ?_
      refine k_put 2 [.int (iI md), .ref E, .int (iI ((n + 1 : Nat) : Int))] i_Jx4a65c tyJx4a65c_ok nmJx4a65c q_91 cl rfl (by decide) rfl rfl rfl rfl (Nat.le_of_ble_eq_true rfl) rfl dJx4a65c_add_72be8_19 (fun f4 hf4 hc4 => ?_)
      have hr4 := k_fr.put hf4 cl
      replace hv := hv.fr hr4 (tag_ne htv.1)
      replace cE := cE.fr hr4 (tag_ne htg)
      replace cl : Cl L f4 l (tl, .inr (0, [.int (iI md), .ref E, .int (iI ((n + 1 : Nat) : Int))])) := hc4
      exact k_vret dJx4a65c_add_72be8_22 rfl (Nat.le_of_ble_eq_true rfl) (Nat.le_of_ble_eq_true rfl) (⟨rfl, ⟨md, E, cap, _, cl, Or.inr ⟨cE, by omega, hcap, row_add hrow⟩⟩, k_fr.trans hr3 hr4 S2_r S2_l⟩)
    · refine k_aload_n 0 0 dJx4a65c_add_72be8_6 rfl rfl ?_
      have hcn : n = cap := by omega
      subst hcn
      refine k_useV (k_runV (c_Jx4a65c_grow_d5877 θ.2.1 κ (l := l) cl htg (Or.inr ⟨cE, by omega, hrow⟩) hci hq hel) w_Jx4a65c_129 ⟨q_438, q_12⟩ rfl rfl cl rfl ⟨(Nat.le_of_ble_eq_true rfl), (Nat.le_of_ble_eq_true rfl)⟩ (Nat.le_of_ble_eq_true rfl) dJx4a65c_add_72be8_7) ⟨(Nat.le_of_ble_eq_true rfl), (Nat.le_of_ble_eq_true rfl)⟩ (fun w Lg fg hw => ?_)
      obtain ⟨q9, cap9, row9, rfl, hrg, cl1, cQ9, hnc9, hcc, hr9⟩ := hw
      replace cl := cl1
      replace hv := hv.fr hrg (tag_ne htv.1)
      refine k_astore_n 2 [(2, .ref q9), (0, .ref l), (1, .ref v), (3, .int (iI (n : Int)))] dJx4a65c_add_72be8_10 rfl (by decide) rfl ?_
      refine k_aload_n 0 2 dJx4a65c_add_72be8_11 rfl rfl ?_
      refine k_iload_n 3 3 dJx4a65c_add_72be8_12 rfl rfl ?_
      refine k_aload_n 2 1 dJx4a65c_add_72be8_13 rfl rfl ?_
      refine k_aast n cQ9 hv hci hq rfl (by omega) (by omega) dJx4a65c_add_72be8_14 (fun f5 hf5 hc5 => ?_)
      have hr5 := k_fr.put hf5 cQ9
      replace cl := cl.fr hr5 (tag_ne (Ne.symm htg))
      replace hv := hv.fr hr5 (tag_ne htv.2)
      replace cQ9 : Cl Lg f5 q9 (ta, .inl (κ.2.2.1 3, cap9, .inr (.inr (.inr (.inr (va_up row9 n (some v))))))) := hc5
      refine k_aload_n 1 0 dJx4a65c_add_72be8_15 rfl rfl ?_
      refine k_iload_n 3 3 dJx4a65c_add_72be8_16 rfl rfl ?_
      refine k_iconst dJx4a65c_add_72be8_17 ?_
      refine k_iadd dJx4a65c_add_72be8_18 ?_
      refine k_topi ((n + 1 : Nat) : Int) (by omega) ?_
      refine k_put 2 [.int (iI md), .ref q9, .int (iI ((n + 1 : Nat) : Int))] i_Jx4a65c tyJx4a65c_ok nmJx4a65c q_91 cl rfl (by decide) rfl rfl rfl rfl (Nat.le_of_ble_eq_true rfl) rfl dJx4a65c_add_72be8_19 (fun f6 hf6 hc6 => ?_)
      have hr6 := k_fr.put hf6 cl
      replace hv := hv.fr hr6 (tag_ne htv.1)
      replace cQ9 := cQ9.fr hr6 (tag_ne htg)
      replace cl : Cl Lg f6 l (tl, .inr (0, [.int (iI md), .ref q9, .int (iI ((n + 1 : Nat) : Int))])) := hc6
      exact k_vret dJx4a65c_add_72be8_22 rfl (Nat.le_of_ble_eq_true rfl) (Nat.le_of_ble_eq_true rfl) (⟨rfl, ⟨md, q9, cap9, _, cl, Or.inr ⟨cQ9, by omega, hcc, row_add hr9⟩⟩, k_fr.trans (k_fr.trans hrg hr5 S2_l S2_r) hr6 (fun _ h => h) S2_l⟩)
set_option maxHeartbeats 4000000 in
set_option maxRecDepth 100000 in
theorem c_Jx4a65c_add_9ea2d (la : Launch) (κ : Kx) {L : List Nat} {f : Nat → wE} {l tl ta tv n ci v : Nat} {g : Nat → Nat} {r : vw_C} {vs : List Value}  (hL : ListR κ L f l tl ta n g) (hvv : Cl L f v (tv, .inr (ci, vs))) (htg : ta ≠ tl) (htv : tv ≠ tl ∧ tv ≠ ta) (hn : n ≤ 39) (hci : vwCl[ci]? = some r) (hq : Cond.castable r.1 "java/lang/Object" ∈ lw_tbl) (hel : ∀ i, i < n → ∃ (t : Nat) (fs : List Value), Cl L f (g i) (t, .inr (ci, fs)) ∧ t ≠ tl ∧ t ≠ ta) : k_M la κ yJx4a65c_add_9ea2d cJx4a65c_add_9ea2d 2 (some .boolean) 7 1 60 [.ref l, .ref v] L f (k_rn (fun w L' f' => w = .int (iI 1) ∧ ListR κ L' f' l tl ta (n + 1) (va_up g n v) ∧ k_fr (S2 tl ta) L f L' f')) := by
  refine k_head RJx4a65c [(0, .ref l), (1, .ref v)] rfl (by decide) (Nat.le_of_ble_eq_true rfl) rfl (fun θ hθ hin => ?_)
  obtain ⟨md, E, cap, row, cl, hE⟩ := hL
  have hv := hvv
  refine k_aload_n 0 0 dJx4a65c_add_9ea2d_0 rfl rfl ?_
  refine k_dup dJx4a65c_add_9ea2d_1 rfl ?_
  refine k_getS 0 i_Jx4a65c q_93 q_94 cl rfl (by decide) rfl dJx4a65c_add_9ea2d_2 ?_
  refine k_iconst dJx4a65c_add_9ea2d_5 ?_
  refine k_iadd dJx4a65c_add_9ea2d_6 ?_
  refine k_putS 0 [.int (iI (md + 1)), .ref E, .int (iI (n : Int))] i_Jx4a65c tyJx4a65c_ok nmJx4a65c q_93 q_94 cl rfl (by decide) rfl rfl rfl rfl (Nat.le_of_ble_eq_true rfl) rfl dJx4a65c_add_9ea2d_7 (fun f1 hf1 hc1 => ?_)
  have hr1 := k_fr.put hf1 cl
  replace hv := hv.fr hr1 (tag_ne htv.1)
  replace cl : Cl L f1 l (tl, .inr (0, [.int (iI (md + 1)), .ref E, .int (iI (n : Int))])) := hc1
  have hE1 : (E = κ.2.2.2 4 ∧ n = 0) ∨ (Cl L f1 E (ta, .inl (κ.2.2.1 3, cap, .inr (.inr (.inr (.inr row))))) ∧ n ≤ cap ∧ (10 ≤ cap ∧ cap ≤ 60) ∧ ∀ i, i < n → row i = some (g i)) := hE.imp id (fun h => ⟨h.1.fr hr1 (tag_ne htg), h.2⟩)
  have hel1 : ∀ i, i < n → ∃ (t : Nat) (fs : List Value), Cl L f1 (g i) (t, .inr (ci, fs)) := fun i hi => by
    obtain ⟨t, fs, h, ht⟩ := hel i hi
    exact ⟨t, fs, h.fr hr1 (tag_ne ht.1)⟩
  refine k_aload_n 0 0 dJx4a65c_add_9ea2d_10 rfl rfl ?_
  refine k_aload_n 1 1 dJx4a65c_add_9ea2d_11 rfl rfl ?_
  refine k_aload_n 0 0 dJx4a65c_add_9ea2d_12 rfl rfl ?_
  refine k_get 1 i_Jx4a65c q_90 cl rfl (by decide) rfl dJx4a65c_add_9ea2d_13 ?_
  refine k_aload_n 0 0 dJx4a65c_add_9ea2d_16 rfl rfl ?_
  refine k_get 2 i_Jx4a65c q_91 cl rfl (by decide) rfl dJx4a65c_add_9ea2d_17 ?_
  refine k_useU (k_runV (c_Jx4a65c_add_72be8 θ.2.1 κ (E := E) (l := l) (v := v) (n := n) cl hv htg htv hE1 hn hci hq hel1) w_Jx4a65c_131 ⟨q_434, q_11⟩ rfl rfl cl rfl ⟨(Nat.le_of_ble_eq_true rfl), (Nat.le_of_ble_eq_true rfl)⟩ (Nat.le_of_ble_eq_true rfl) dJx4a65c_add_9ea2d_20) ⟨(Nat.le_of_ble_eq_true rfl), (Nat.le_of_ble_eq_true rfl)⟩ (fun La fa hw => ?_)
  obtain ⟨hLa, hra⟩ := hw
  refine k_iconst dJx4a65c_add_9ea2d_23 ?_
  exact k_zret (b := true) dJx4a65c_add_9ea2d_24 rfl (Nat.le_of_ble_eq_true rfl) (Nat.le_of_ble_eq_true rfl) (⟨_, rfl, rfl, hLa, k_fr.trans hr1 hra S2_l (fun _ h => h)⟩)
set_option maxHeartbeats 4000000 in
set_option maxRecDepth 100000 in
theorem c_Jx4a65c_clear_da8c8 (la : Launch) (κ : Kx) {L : List Nat} {f : Nat → wE} {l tl ta n : Nat} {g : Nat → Nat}  (hL : ListR κ L f l tl ta n g) (htg : ta ≠ tl) : k_M la κ yJx4a65c_clear_da8c8 cJx4a65c_clear_da8c8 4 none 1 0 0 [.ref l] L f (k_ru (fun L' f' => ListR κ L' f' l tl ta 0 g ∧ k_fr (S2 tl ta) L f L' f')) := by
  refine k_head RJx4a65c [(0, .ref l)] rfl (by decide) (Nat.le_of_ble_eq_true rfl) rfl (fun θ hθ hin => ?_)
  obtain ⟨md, E, cap, row, cl, hE⟩ := hL
  rcases hE with ⟨hE0, hn0⟩ | ⟨cE, hnc, hcap, hrow⟩
  · subst hE0
    have hn1 : (n : Int) = 0 := by omega
    refine k_aload_n 0 0 dJx4a65c_clear_da8c8_0 rfl rfl ?_
    refine k_dup dJx4a65c_clear_da8c8_1 rfl ?_
    refine k_getS 0 i_Jx4a65c q_93 q_94 cl rfl (by decide) rfl dJx4a65c_clear_da8c8_2 ?_
    refine k_iconst dJx4a65c_clear_da8c8_5 ?_
    refine k_iadd dJx4a65c_clear_da8c8_6 ?_
    refine k_putS 0 [.int (iI (md + 1)), .ref (κ.2.2.2 4), .int (iI (n : Int))] i_Jx4a65c tyJx4a65c_ok nmJx4a65c q_93 q_94 cl rfl (by decide) rfl rfl rfl rfl (Nat.le_of_ble_eq_true rfl) rfl dJx4a65c_clear_da8c8_7 (fun f1 hf1 hc1 => ?_)
    have hr1 := k_fr.put hf1 cl
    replace cl : Cl L f1 l (tl, .inr (0, [.int (iI (md + 1)), .ref (κ.2.2.2 4), .int (iI (n : Int))])) := hc1
    refine k_aload_n 0 0 dJx4a65c_clear_da8c8_10 rfl rfl ?_
    refine k_get 1 i_Jx4a65c q_90 cl rfl (by decide) rfl dJx4a65c_clear_da8c8_11 ?_
    refine k_astore_n 1 [(1, .ref (κ.2.2.2 4)), (0, .ref l)] dJx4a65c_clear_da8c8_14 rfl (by decide) rfl ?_
    refine k_aload_n 1 0 dJx4a65c_clear_da8c8_15 rfl rfl ?_
    refine k_get 2 i_Jx4a65c q_91 cl rfl (by decide) rfl dJx4a65c_clear_da8c8_16 ?_
    refine k_istore_n 2 [(2, .int (iI (n : Int))), (1, .ref (κ.2.2.2 4)), (0, .ref l)] dJx4a65c_clear_da8c8_19 rfl (by decide) rfl ?_
    refine k_aload_n 2 0 dJx4a65c_clear_da8c8_20 rfl rfl ?_
    refine k_iconst dJx4a65c_clear_da8c8_21 ?_
    refine k_dup_x1 dJx4a65c_clear_da8c8_22 rfl rfl ?_
    refine k_put 2 [.int (iI (md + 1)), .ref (κ.2.2.2 4), .int (iI 0)] i_Jx4a65c tyJx4a65c_ok nmJx4a65c q_91 cl rfl (by decide) rfl rfl rfl rfl (Nat.le_of_ble_eq_true rfl) rfl dJx4a65c_clear_da8c8_23 (fun f2 hf2 hc2 => ?_)
    have hr2 := k_fr.put hf2 cl
    replace cl : Cl L f2 l (tl, .inr (0, [.int (iI (md + 1)), .ref (κ.2.2.2 4), .int (iI 0)])) := hc2
    refine k_istore_n 3 [(3, .int (iI 0)), (2, .int (iI (n : Int))), (1, .ref (κ.2.2.2 4)), (0, .ref l)] dJx4a65c_clear_da8c8_26 rfl (by decide) rfl ?_
    have hacc : k_fr (S2 tl ta) L f L f2 := k_fr.trans hr1 hr2 S2_l S2_l
    refine k_iload_n 0 3 dJx4a65c_clear_da8c8_27 rfl rfl ?_
    refine k_iload_n 1 2 dJx4a65c_clear_da8c8_28 rfl rfl ?_
    refine k_icmp_ge 42 dJx4a65c_clear_da8c8_29 (by decide) (inI_mk (by omega) (by omega)) (inI_mk (by omega) (by omega)) (fun h29 => ?_) (fun h29 => ?_)
    · exact k_vret dJx4a65c_clear_da8c8_42 rfl (Nat.le_of_ble_eq_true rfl) (Nat.le_of_ble_eq_true rfl) (⟨rfl, ⟨_, κ.2.2.2 4, 0, fun _ => none, cl, Or.inl ⟨rfl, rfl⟩⟩, hacc⟩)
    · omega
  · refine k_aload_n 0 0 dJx4a65c_clear_da8c8_0 rfl rfl ?_
    refine k_dup dJx4a65c_clear_da8c8_1 rfl ?_
    refine k_getS 0 i_Jx4a65c q_93 q_94 cl rfl (by decide) rfl dJx4a65c_clear_da8c8_2 ?_
    refine k_iconst dJx4a65c_clear_da8c8_5 ?_
    refine k_iadd dJx4a65c_clear_da8c8_6 ?_
    refine k_putS 0 [.int (iI (md + 1)), .ref E, .int (iI (n : Int))] i_Jx4a65c tyJx4a65c_ok nmJx4a65c q_93 q_94 cl rfl (by decide) rfl rfl rfl rfl (Nat.le_of_ble_eq_true rfl) rfl dJx4a65c_clear_da8c8_7 (fun f3 hf3 hc3 => ?_)
    have hr3 := k_fr.put hf3 cl
    replace cE := cE.fr hr3 (tag_ne htg)
    replace cl : Cl L f3 l (tl, .inr (0, [.int (iI (md + 1)), .ref E, .int (iI (n : Int))])) := hc3
    refine k_aload_n 0 0 dJx4a65c_clear_da8c8_10 rfl rfl ?_
    refine k_get 1 i_Jx4a65c q_90 cl rfl (by decide) rfl dJx4a65c_clear_da8c8_11 ?_
    refine k_astore_n 1 [(1, .ref E), (0, .ref l)] dJx4a65c_clear_da8c8_14 rfl (by decide) rfl ?_
    refine k_aload_n 1 0 dJx4a65c_clear_da8c8_15 rfl rfl ?_
    refine k_get 2 i_Jx4a65c q_91 cl rfl (by decide) rfl dJx4a65c_clear_da8c8_16 ?_
    refine k_istore_n 2 [(2, .int (iI (n : Int))), (1, .ref E), (0, .ref l)] dJx4a65c_clear_da8c8_19 rfl (by decide) rfl ?_
    refine k_aload_n 2 0 dJx4a65c_clear_da8c8_20 rfl rfl ?_
    refine k_iconst dJx4a65c_clear_da8c8_21 ?_
    refine k_dup_x1 dJx4a65c_clear_da8c8_22 rfl rfl ?_
    refine k_put 2 [.int (iI (md + 1)), .ref E, .int (iI 0)] i_Jx4a65c tyJx4a65c_ok nmJx4a65c q_91 cl rfl (by decide) rfl rfl rfl rfl (Nat.le_of_ble_eq_true rfl) rfl dJx4a65c_clear_da8c8_23 (fun f4 hf4 hc4 => ?_)
    have hr4 := k_fr.put hf4 cl
    replace cE := cE.fr hr4 (tag_ne htg)
    replace cl : Cl L f4 l (tl, .inr (0, [.int (iI (md + 1)), .ref E, .int (iI 0)])) := hc4
    refine k_istore_n 3 [(3, .int (iI 0)), (2, .int (iI (n : Int))), (1, .ref E), (0, .ref l)] dJx4a65c_clear_da8c8_26 rfl (by decide) rfl ?_
    have hacc : k_fr (S2 tl ta) L f L f4 := k_fr.trans hr3 hr4 S2_l S2_l
    have lp27 : ∀ (fuel : Nat) (f9 : Nat → wE) (j : Nat) (G9 : Nat → Option Nat), (j ≤ n) → (k_fr (S2 tl ta) L f L f9) → (Cl L f9 l (tl, .inr (0, [.int (iI (md + 1)), .ref E, .int (iI 0)]))) → (Cl L f9 E (ta, .inl (κ.2.2.1 3, cap, .inr (.inr (.inr (.inr G9)))))) → n - j < fuel → k_G θ κ cJx4a65c_clear_da8c8 4 none RJx4a65c (k_rm 1 0 0) (k_MQ θ κ (k_ru (fun L' f' => ListR κ L' f' l tl ta 0 g ∧ k_fr (S2 tl ta) L f L' f')) 0 0) L f9 0 0 27 [(0, .ref l), (1, .ref E), (2, .int (iI (n : Int))), (3, .int (iI (j : Int)))] [] := by
      intro fuel
      induction fuel with
      | zero =>
        intro f9 j G9 hj hacc cl cE hfu
        exact absurd hfu (Nat.not_lt_zero _)
      | succ fuel ih =>
        intro f9 j G9 hj hacc cl cE hfu
        refine k_iload_n 3 3 dJx4a65c_clear_da8c8_27 rfl rfl ?_
        refine k_iload_n 2 2 dJx4a65c_clear_da8c8_28 rfl rfl ?_
        refine k_icmp_ge 42 dJx4a65c_clear_da8c8_29 (by decide) (inI_mk (by omega) (by omega)) (inI_mk (by omega) (by omega)) (fun h29 => ?_) (fun h29 => ?_)
        · exact k_vret dJx4a65c_clear_da8c8_42 rfl (Nat.le_of_ble_eq_true rfl) (Nat.le_of_ble_eq_true rfl) (⟨rfl, ⟨_, E, cap, G9, cl, Or.inr ⟨cE, Nat.zero_le _, hcap, fun i hi => absurd hi (Nat.not_lt_zero _)⟩⟩, hacc⟩)
        · refine k_aload_n 1 1 dJx4a65c_clear_da8c8_32 rfl rfl ?_
          refine k_iload_n 3 3 dJx4a65c_clear_da8c8_33 rfl rfl ?_
          refine k_null dJx4a65c_clear_da8c8_34 ?_
          refine k_aastN j cE rfl (by omega) (by omega) dJx4a65c_clear_da8c8_35 (fun f5 hf5 hc5 => ?_)
          have hr5 := k_fr.put hf5 cE
          replace cl := cl.fr hr5 (tag_ne (Ne.symm htg))
          replace cE : Cl L f5 E (ta, .inl (κ.2.2.1 3, cap, .inr (.inr (.inr (.inr (va_up G9 j none)))))) := hc5
          refine k_iinc 3 [(3, .int (iI ((j : Int) + 1))), (0, .ref l), (1, .ref E), (2, .int (iI (n : Int)))] dJx4a65c_clear_da8c8_36 rfl (by decide) rfl ?_
          refine k_goto 27 dJx4a65c_clear_da8c8_39 (by decide) ?_
          refine k_perm [1, 2, 3, 0] [(0, .ref l), (1, .ref E), (2, .int (iI (n : Int))), (3, .int (iI ((j : Int) + 1)))] rfl ?_
          exact ih f5 (j + 1) (va_up G9 j none) (by omega) (k_fr.trans hacc hr5 (fun _ h => h) S2_r) cl cE (by omega)
    refine k_perm [3, 2, 1, 0] [(0, .ref l), (1, .ref E), (2, .int (iI (n : Int))), (3, .int (iI 0))] rfl ?_
    exact lp27 _ f4 0 row (Nat.zero_le _) hacc cl cE (Nat.lt_succ_self _)
set_option maxHeartbeats 4000000 in
set_option maxRecDepth 100000 in
theorem c_Jxa1e45_init_da8c8 (la : Launch) (κ : Kx) {L : List Nat} {f : Nat → wE} {a : Nat}    : k_M la κ yJxa1e45_init_da8c8 cJxa1e45_init_da8c8 1 none 1 0 0 [.ref a] L f (k_ru (fun L' f' => L' = L ∧ f' = f)) := by
  refine k_head RJxa1e45 [(0, .ref a)] rfl (by decide) (Nat.le_of_ble_eq_true rfl) rfl (fun θ hθ hin => ?_)
  refine k_aload_n 0 0 dJxa1e45_init_da8c8_0 rfl rfl ?_
  refine k_objInit q_87 q_68 q_69 (Nat.le_of_ble_eq_true rfl) (Nat.le_of_ble_eq_true rfl) dJxa1e45_init_da8c8_1 ?_
  exact k_vret dJxa1e45_init_da8c8_4 rfl (Nat.le_of_ble_eq_true rfl) (Nat.le_of_ble_eq_true rfl) (⟨rfl, rfl, rfl⟩)
set_option maxHeartbeats 4000000 in
set_option maxRecDepth 100000 in
theorem c_Jxc12de_init_da8c8 (la : Launch) (κ : Kx) {L : List Nat} {f : Nat → wE} {l tl : Nat} (cl : Cl L f l (tl, .inr (0, [.int (iI 0), .null, .int (iI 0)])))   : k_M la κ yJxc12de_init_da8c8 cJxc12de_init_da8c8 1 none 2 0 0 [.ref l] L f (k_ru (fun L' f' => L' = L ∧ (∀ z, z ≠ l → f' z = f z) ∧ Cl L f' l (tl, .inr (0, [.int (iI 0), .null, .int (iI 0)])))) := by
  refine k_head RJxc12de [(0, .ref l)] rfl (by decide) (Nat.le_of_ble_eq_true rfl) rfl (fun θ hθ hin => ?_)
  refine k_aload_n 0 0 dJxc12de_init_da8c8_0 rfl rfl ?_
  refine k_useU (k_runI (c_Jxa1e45_init_da8c8 θ.2.1 κ (a := l) ) w_Jxc12de_1 q_85 rfl rfl rfl ⟨(Nat.le_of_ble_eq_true rfl), (Nat.le_of_ble_eq_true rfl)⟩ (Nat.le_of_ble_eq_true rfl) dJxc12de_init_da8c8_1) ⟨(Nat.le_of_ble_eq_true rfl), (Nat.le_of_ble_eq_true rfl)⟩ (fun L9 f9 hw => ?_)
  obtain ⟨e9, e8⟩ := hw
  replace e9 := e9.symm
  replace e8 := e8.symm
  subst e9
  subst e8
  refine k_aload_n 0 0 dJxc12de_init_da8c8_4 rfl rfl ?_
  refine k_iconst dJxc12de_init_da8c8_5 ?_
  refine k_put 0 [.int (iI 0), .null, .int (iI 0)] i_Jx4a65c tyJx4a65c_ok nmJx4a65c q_92 cl rfl (by decide) rfl rfl rfl rfl (Nat.le_of_ble_eq_true rfl) rfl dJxc12de_init_da8c8_6 (fun f1 hf1 hc1 => ?_)
  have hr1 := k_fr.put hf1 cl
  replace cl : Cl L f1 l (tl, .inr (0, [.int (iI 0), .null, .int (iI 0)])) := hc1
  exact k_vret dJxc12de_init_da8c8_9 rfl (Nat.le_of_ble_eq_true rfl) (Nat.le_of_ble_eq_true rfl) (⟨rfl, rfl, hf1, cl⟩)
set_option maxHeartbeats 4000000 in
set_option maxRecDepth 100000 in
theorem c_Jx4a65c_init_da8c8 (la : Launch) (κ : Kx) {L : List Nat} {f : Nat → wE} {l tl : Nat} (cl : Cl L f l (tl, .inr (0, [.int (iI 0), .null, .int (iI 0)])))   : k_M la κ yJx4a65c_init_da8c8 cJx4a65c_init_da8c8 1 none 3 0 0 [.ref l] L f (k_ru (fun L' f' => L' = L ∧ (∀ z, z ≠ l → f' z = f z) ∧ Cl L f' l (tl, .inr (0, [.int (iI 0), .ref (κ.2.2.2 4), .int (iI 0)])))) := by
  refine k_head RJx4a65c [(0, .ref l)] rfl (by decide) (Nat.le_of_ble_eq_true rfl) rfl (fun θ hθ hin => ?_)
  refine k_aload_n 0 0 dJx4a65c_init_da8c8_0 rfl rfl ?_
  refine k_useU (k_runI (c_Jxc12de_init_da8c8 θ.2.1 κ (l := l) cl) w_Jx4a65c_1 q_82 rfl rfl rfl ⟨(Nat.le_of_ble_eq_true rfl), (Nat.le_of_ble_eq_true rfl)⟩ (Nat.le_of_ble_eq_true rfl) dJx4a65c_init_da8c8_1) ⟨(Nat.le_of_ble_eq_true rfl), (Nat.le_of_ble_eq_true rfl)⟩ (fun L9 f9 hw => ?_)
  obtain ⟨e9, hf9, cl9⟩ := hw
  replace e9 := e9.symm
  subst e9
  replace cl := cl9
  refine k_aload_n 0 0 dJx4a65c_init_da8c8_4 rfl rfl ?_
  refine k_getsD q_88 dJx4a65c_init_da8c8_5 ?_
  refine k_put 1 [.int (iI 0), .ref (κ.2.2.2 4), .int (iI 0)] i_Jx4a65c tyJx4a65c_ok nmJx4a65c q_90 cl rfl (by decide) rfl rfl rfl rfl (Nat.le_of_ble_eq_true rfl) rfl dJx4a65c_init_da8c8_8 (fun f1 hf1 hc1 => ?_)
  have hr1 := k_fr.put hf1 cl
  replace cl : Cl L f1 l (tl, .inr (0, [.int (iI 0), .ref (κ.2.2.2 4), .int (iI 0)])) := hc1
  exact k_vret dJx4a65c_init_da8c8_11 rfl (Nat.le_of_ble_eq_true rfl) (Nat.le_of_ble_eq_true rfl) (⟨rfl, rfl, fun z hz => (hf1 z hz).trans (hf9 z hz), cl⟩)
end
section
set_option maxHeartbeats 4000000 in
set_option maxRecDepth 100000 in
theorem c_X7_isWithin (la : Launch) (κ : Kx) {L : List Nat} {f : Nat → wE} {z a b : Int}   (hz : inI z) (ha : inI a) (hb : inI b) : k_M la κ yX7_isWithin cX7_isWithin 3 (some .boolean) 1 0 0 [.int (iI z), .int (iI a), .int (iI b)] L f (k_ro L f (.int (iI (bI (decide (a ≤ z ∧ z ≤ b)))))) := by
  refine k_head RX7 [(0, .int (iI z)), (1, .int (iI a)), (2, .int (iI b))] rfl (by decide) (Nat.le_of_ble_eq_true rfl) rfl (fun θ hθ hin => ?_)
  refine k_iload_n 0 0 dX7_isWithin_0 rfl rfl ?_
  refine k_iload_n 1 1 dX7_isWithin_1 rfl rfl ?_
  refine k_icmp_lt 14 dX7_isWithin_2 (by decide) hz ha (fun h2 => ?_) (fun h2 => ?_)
  · refine k_iconst dX7_isWithin_14 ?_
    exact k_zret (b := false) dX7_isWithin_15 rfl (Nat.le_of_ble_eq_true rfl) (Nat.le_of_ble_eq_true rfl) (k_okb ((decide_eq_false (by omega)).symm))
  · refine k_iload_n 0 0 dX7_isWithin_5 rfl rfl ?_
    refine k_iload_n 2 2 dX7_isWithin_6 rfl rfl ?_
    refine k_icmp_gt 14 dX7_isWithin_7 (by decide) hz hb (fun h7 => ?_) (fun h7 => ?_)
    · refine k_iconst dX7_isWithin_14 ?_
      exact k_zret (b := false) dX7_isWithin_15 rfl (Nat.le_of_ble_eq_true rfl) (Nat.le_of_ble_eq_true rfl) (k_okb ((decide_eq_false (by omega)).symm))
    · refine k_iconst dX7_isWithin_10 ?_
      refine k_goto 15 dX7_isWithin_11 (by decide) ?_
      exact k_zret (b := true) dX7_isWithin_15 rfl (Nat.le_of_ble_eq_true rfl) (Nat.le_of_ble_eq_true rfl) (k_okb ((decide_eq_true (by omega)).symm))
set_option maxHeartbeats 4000000 in
set_option maxRecDepth 100000 in
theorem c_X7_isMinute (la : Launch) (κ : Kx) {L : List Nat} {f : Nat → wE} {z : Int}   (hz : inI z) : k_M la κ yX7_isMinute cX7_isMinute 1 (some .boolean) 2 0 0 [.int (iI z)] L f (k_ro L f (.int (iI (bI (decide (0 ≤ z ∧ z ≤ 4319)))))) := by
  refine k_head RX7 [(0, .int (iI z))] rfl (by decide) (Nat.le_of_ble_eq_true rfl) rfl (fun θ hθ hin => ?_)
  refine k_iload_n 0 0 dX7_isMinute_0 rfl rfl ?_
  refine k_iconst dX7_isMinute_1 ?_
  refine k_sipush dX7_isMinute_2 (by decide) ?_
  refine k_useR (k_runS (c_X7_isWithin θ.2.1 κ (z := z) (a := 0) (b := 4319) hz (inI_mk (by omega) (by omega)) (inI_mk (by omega) (by omega))) w_X7_37 q_323 rfl rfl ⟨(Nat.le_of_ble_eq_true rfl), (Nat.le_of_ble_eq_true rfl)⟩ (Nat.le_of_ble_eq_true rfl) dX7_isMinute_5) ⟨(Nat.le_of_ble_eq_true rfl), (Nat.le_of_ble_eq_true rfl)⟩ ?_
  exact k_zret (b := decide (0 ≤ z ∧ z ≤ 4319)) dX7_isMinute_8 rfl (Nat.le_of_ble_eq_true rfl) (Nat.le_of_ble_eq_true rfl) (k_okb rfl)
set_option maxHeartbeats 4000000 in
set_option maxRecDepth 100000 in
theorem c_X7_quotient (la : Launch) (κ : Kx) {L : List Nat} {f : Nat → wE} {a b : Int}   (ha : inL a) (hb : inL b) : k_M la κ yX7_quotient cX7_quotient 4 (some .long) 1 0 0 [.long (lI a), .long (lI b)] L f (k_ro L f (.long (lI (if b = 0 then 0 else a.tdiv b)))) := by
  refine k_head RX7 [(0, .long (lI a)), (2, .long (lI b))] rfl (by decide) (Nat.le_of_ble_eq_true rfl) rfl (fun θ hθ hin => ?_)
  refine k_lload_n 1 2 dX7_quotient_0 rfl rfl ?_
  refine k_lconst 0 dX7_quotient_1 (by decide) ?_
  refine k_lcmp_ne 10 dX7_quotient_2 dX7_quotient_3 (by decide) hb inL_0 (fun h2 => ?_) (fun h2 => ?_)
  · refine k_lload_n 0 0 dX7_quotient_10 rfl rfl ?_
    refine k_lload_n 1 2 dX7_quotient_11 rfl rfl ?_
    refine k_ldiv dX7_quotient_12 ha hb h2 ?_
    exact k_lret dX7_quotient_13 rfl (Nat.le_of_ble_eq_true rfl) (Nat.le_of_ble_eq_true rfl) (k_okl ((if_neg h2).symm))
  · refine k_lconst 0 dX7_quotient_6 (by decide) ?_
    refine k_goto 13 dX7_quotient_7 (by decide) ?_
    exact k_lret dX7_quotient_13 rfl (Nat.le_of_ble_eq_true rfl) (Nat.le_of_ble_eq_true rfl) (k_okl ((if_pos h2).symm))
set_option maxHeartbeats 4000000 in
set_option maxRecDepth 100000 in
theorem c_X7_mixed (la : Launch) (κ : Kx) {L : List Nat} {f : Nat → wE} {a b : Int}    : k_M la κ yX7_mixed cX7_mixed 4 (some .long) 1 0 0 [.long (lI a), .long (lI b)] L f (k_ro L f (.long (lI (a * 31 + b)))) := by
  refine k_head RX7 [(0, .long (lI a)), (2, .long (lI b))] rfl (by decide) (Nat.le_of_ble_eq_true rfl) rfl (fun θ hθ hin => ?_)
  refine k_lload_n 0 0 dX7_mixed_0 rfl rfl ?_
  refine k_ldc2 31 q_235 (by decide) dX7_mixed_1 ?_
  refine k_lmul dX7_mixed_4 ?_
  refine k_lload_n 1 2 dX7_mixed_5 rfl rfl ?_
  refine k_ladd dX7_mixed_6 ?_
  exact k_lret dX7_mixed_7 rfl (Nat.le_of_ble_eq_true rfl) (Nat.le_of_ble_eq_true rfl) (k_okl rfl)
set_option maxHeartbeats 4000000 in
set_option maxRecDepth 100000 in
theorem c_X6_init (la : Launch) (κ : Kx) {L : List Nat} {f : Nat → wE} {w : Nat} {r p o : Int} (cw : Cl L f w (14, .inr (7, [.int (iI 0), .int (iI 0), .int (iI 0)])))   : k_M la κ yX6_init cX6_init 4 none 2 0 0 [.ref w, .int (iI r), .int (iI p), .int (iI o)] L f (k_ru (fun L' f' => L' = L ∧ (∀ z, z ≠ w → f' z = f z) ∧ Cl L f' w (14, .inr (7, [.int (iI r), .int (iI p), .int (iI o)])))) := by
  refine k_head RX6 [(0, .ref w), (1, .int (iI r)), (2, .int (iI p)), (3, .int (iI o))] rfl (by decide) (Nat.le_of_ble_eq_true rfl) rfl (fun θ hθ hin => ?_)
  refine k_aload_n 0 0 dX6_init_0 rfl rfl ?_
  refine k_objInit q_416 q_68 q_69 (Nat.le_of_ble_eq_true rfl) (Nat.le_of_ble_eq_true rfl) dX6_init_1 ?_
  refine k_aload_n 0 0 dX6_init_4 rfl rfl ?_
  refine k_iload_n 1 1 dX6_init_5 rfl rfl ?_
  refine k_put 0 [.int (iI r), .int (iI 0), .int (iI 0)] i_X6 tyX6_ok nmX6 q_417 cw rfl (by decide) rfl rfl rfl rfl (Nat.le_of_ble_eq_true rfl) rfl dX6_init_6 (fun f1 hf1 hc1 => ?_)
  have hr1 := k_fr.put hf1 cw
  replace cw : Cl L f1 w (14, .inr (7, [.int (iI r), .int (iI 0), .int (iI 0)])) := hc1
  refine k_aload_n 0 0 dX6_init_9 rfl rfl ?_
  refine k_iload_n 2 2 dX6_init_10 rfl rfl ?_
  refine k_putF 1 [.int (iI r), .int (iI p), .int (iI 0)] i_X6 tyX6_ok nmX6 q_419 cw rfl (by decide) rfl (hin rfl) rfl rfl rfl rfl (Nat.le_of_ble_eq_true rfl) rfl dX6_init_11 (fun f2 hf2 hc2 => ?_)
  have hr2 := k_fr.put hf2 cw
  replace cw : Cl L f2 w (14, .inr (7, [.int (iI r), .int (iI p), .int (iI 0)])) := hc2
  refine k_aload_n 0 0 dX6_init_14 rfl rfl ?_
  refine k_iload_n 3 3 dX6_init_15 rfl rfl ?_
  refine k_putF 2 [.int (iI r), .int (iI p), .int (iI o)] i_X6 tyX6_ok nmX6 q_420 cw rfl (by decide) rfl (hin rfl) rfl rfl rfl rfl (Nat.le_of_ble_eq_true rfl) rfl dX6_init_16 (fun f3 hf3 hc3 => ?_)
  have hr3 := k_fr.put hf3 cw
  replace cw : Cl L f3 w (14, .inr (7, [.int (iI r), .int (iI p), .int (iI o)])) := hc3
  exact k_vret dX6_init_19 rfl (Nat.le_of_ble_eq_true rfl) (Nat.le_of_ble_eq_true rfl) (⟨rfl, rfl, fun z hz => ((hf3 z hz).trans (hf2 z hz)).trans (hf1 z hz), cw⟩)
set_option maxHeartbeats 4000000 in
set_option maxRecDepth 100000 in
theorem c_X6_heightAt (la : Launch) (κ : Kx) {L : List Nat} {f : Nat → wE} {w t : Nat} {r p o : Int} (cw : Cl L f w (14, .inr (7, [.int (iI r), .int (iI p), .int (iI o)])))  (hok : wvOk r p o) (ht : t < 4320) : k_M la κ yX6_heightAt cX6_heightAt 8 (some .int) 1 0 0 [.ref w, .int (iI (t : Int))] L f (k_ro L f (.int (iI (wvH r p o (t : Int))))) := by
  refine k_head RX6 [(0, .ref w), (1, .int (iI (t : Int)))] rfl (by decide) (Nat.le_of_ble_eq_true rfl) rfl (fun θ hθ hin => ?_)
  obtain ⟨⟨hr0, hr1⟩, ⟨hp0, hp1⟩, ⟨ho0, ho1⟩⟩ := id hok
  obtain ⟨hm0, hm1⟩ := tm_bd (a := (t : Int) + o) (p := p) (by omega) (by omega)
  have hpp : 3600 ≤ p * p ∧ p * p ≤ 400000000 := ⟨Int.mul_le_mul hp0 hp0 (by omega) (by omega), Int.mul_le_mul hp1 hp1 (by omega) (by omega)⟩
  refine k_aload_n 0 0 dX6_heightAt_0 rfl rfl ?_
  refine k_get 1 i_X6 q_419 cw rfl (by decide) rfl dX6_heightAt_1 ?_
  refine k_if_gt 9 dX6_heightAt_4 (by decide) (inI_mk (by omega) (by omega)) (fun h4 => ?_) (fun h4 => ?_)
  · refine k_iconst dX6_heightAt_9 ?_
    refine k_iload_n 1 1 dX6_heightAt_10 rfl rfl ?_
    refine k_aload_n 0 0 dX6_heightAt_11 rfl rfl ?_
    refine k_get 2 i_X6 q_420 cw rfl (by decide) rfl dX6_heightAt_12 ?_
    refine k_iadd dX6_heightAt_15 ?_
    refine k_aload_n 0 0 dX6_heightAt_16 rfl rfl ?_
    refine k_get 1 i_X6 q_419 cw rfl (by decide) rfl dX6_heightAt_17 ?_
    refine k_irem dX6_heightAt_20 (inI_mk (by omega) (by omega)) (inI_mk (by omega) (by omega)) (by omega) ?_
    refine k_imul dX6_heightAt_21 ?_
    refine k_istore_n 2 [(2, .int (iI (2 * (((t : Int) + o).tmod p)))), (0, .ref w), (1, .int (iI (t : Int)))] dX6_heightAt_22 rfl (by decide) rfl ?_
    refine k_iload_n 0 2 dX6_heightAt_23 rfl rfl ?_
    refine k_aload_n 1 0 dX6_heightAt_24 rfl rfl ?_
    refine k_get 1 i_X6 q_419 cw rfl (by decide) rfl dX6_heightAt_25 ?_
    refine k_icmp_ge 35 dX6_heightAt_28 (by decide) (inI_mk (by omega) (by omega)) (inI_mk (by omega) (by omega)) (fun h28 => ?_) (fun h28 => ?_)
    · refine k_iconst dX6_heightAt_35 ?_
      refine k_istore_n 3 [(3, .int (iI 0)), (2, .int (iI (2 * (((t : Int) + o).tmod p)))), (0, .ref w), (1, .int (iI (t : Int)))] dX6_heightAt_36 rfl (by decide) rfl ?_
      refine k_iload_n 0 3 dX6_heightAt_37 rfl rfl ?_
      refine k_if_eq 46 dX6_heightAt_38 (by decide) (inI_mk (by omega) (by omega)) (fun h38 => ?_) (fun h38 => ?_)
      · refine k_iload_n 1 2 dX6_heightAt_46 rfl rfl ?_
        refine k_aload_n 2 0 dX6_heightAt_47 rfl rfl ?_
        refine k_get 1 i_X6 q_419 cw rfl (by decide) rfl dX6_heightAt_48 ?_
        refine k_isub dX6_heightAt_51 ?_
        refine k_i2l dX6_heightAt_52 (inI_mk (by omega) (by omega)) ?_
        refine k_lstore [(4, .long (lI ((2 * (((t : Int) + o).tmod p)) - p))), (3, .int (iI 0)), (2, .int (iI (2 * (((t : Int) + o).tmod p)))), (0, .ref w), (1, .int (iI (t : Int)))] dX6_heightAt_53 (by decide) rfl ?_
        refine k_ldc2 4 q_197 (by decide) dX6_heightAt_55 ?_
        refine k_aload_n 3 0 dX6_heightAt_58 rfl rfl ?_
        refine k_get 0 i_X6 q_417 cw rfl (by decide) rfl dX6_heightAt_59 ?_
        refine k_i2l dX6_heightAt_62 (inI_mk (by omega) (by omega)) ?_
        refine k_lmul dX6_heightAt_63 ?_
        refine k_lload 0 dX6_heightAt_64 rfl ?_
        refine k_lmul dX6_heightAt_66 ?_
        refine k_aload_n 3 0 dX6_heightAt_67 rfl rfl ?_
        refine k_get 1 i_X6 q_419 cw rfl (by decide) rfl dX6_heightAt_68 ?_
        refine k_i2l dX6_heightAt_71 (inI_mk (by omega) (by omega)) ?_
        refine k_lload 0 dX6_heightAt_72 rfl ?_
        refine k_lsub dX6_heightAt_74 ?_
        refine k_lmul dX6_heightAt_75 ?_
        refine k_aload_n 3 0 dX6_heightAt_76 rfl rfl ?_
        refine k_get 1 i_X6 q_419 cw rfl (by decide) rfl dX6_heightAt_77 ?_
        refine k_i2l dX6_heightAt_80 (inI_mk (by omega) (by omega)) ?_
        refine k_aload_n 3 0 dX6_heightAt_81 rfl rfl ?_
        refine k_get 1 i_X6 q_419 cw rfl (by decide) rfl dX6_heightAt_82 ?_
        refine k_i2l dX6_heightAt_85 (inI_mk (by omega) (by omega)) ?_
        refine k_lmul dX6_heightAt_86 ?_
        have hav := arch_pos (r := r) (p := p) (v := ((2 * (((t : Int) + o).tmod p)) - p)) hr0 (by omega) (by omega) (by omega)
        have hrp : r * (p * p) ≤ 5000 * 400000000 := Int.mul_le_mul hr1 hpp.2 (by omega) (by omega)
        refine k_ldiv dX6_heightAt_87 (inL_mk (by omega) (by omega)) (inL_mk (by omega) (by omega)) (by omega) ?_
        refine k_lstore [(6, .long (lI ((((4 * r) * ((2 * (((t : Int) + o).tmod p)) - p)) * (p - ((2 * (((t : Int) + o).tmod p)) - p))).tdiv (p * p)))), (4, .long (lI ((2 * (((t : Int) + o).tmod p)) - p))), (3, .int (iI 0)), (2, .int (iI (2 * (((t : Int) + o).tmod p)))), (0, .ref w), (1, .int (iI (t : Int)))] dX6_heightAt_88 (by decide) rfl ?_
        refine k_iload_n 2 3 dX6_heightAt_90 rfl rfl ?_
        refine k_if_eq 99 dX6_heightAt_91 (by decide) (inI_mk (by omega) (by omega)) (fun h91 => ?_) (fun h91 => ?_)
        · refine k_lload 0 dX6_heightAt_99 rfl ?_
          refine k_lneg dX6_heightAt_101 ?_
          refine k_l2i dX6_heightAt_102 ?_
          exact k_iret dX6_heightAt_103 rfl (Nat.le_of_ble_eq_true rfl) (Nat.le_of_ble_eq_true rfl) (k_oki (by unfold wvH; rw [if_neg (by omega)]))
        · omega
      · omega
    · refine k_iconst dX6_heightAt_31 ?_
      refine k_goto 36 dX6_heightAt_32 (by decide) ?_
      refine k_istore_n 3 [(3, .int (iI 1)), (2, .int (iI (2 * (((t : Int) + o).tmod p)))), (0, .ref w), (1, .int (iI (t : Int)))] dX6_heightAt_36 rfl (by decide) rfl ?_
      refine k_iload_n 0 3 dX6_heightAt_37 rfl rfl ?_
      refine k_if_eq 46 dX6_heightAt_38 (by decide) (inI_mk (by omega) (by omega)) (fun h38 => ?_) (fun h38 => ?_)
      · omega
      · refine k_iload_n 1 2 dX6_heightAt_41 rfl rfl ?_
        refine k_i2l dX6_heightAt_42 (inI_mk (by omega) (by omega)) ?_
        refine k_goto 53 dX6_heightAt_43 (by decide) ?_
        refine k_lstore [(4, .long (lI (2 * (((t : Int) + o).tmod p)))), (3, .int (iI 1)), (2, .int (iI (2 * (((t : Int) + o).tmod p)))), (0, .ref w), (1, .int (iI (t : Int)))] dX6_heightAt_53 (by decide) rfl ?_
        refine k_ldc2 4 q_197 (by decide) dX6_heightAt_55 ?_
        refine k_aload_n 3 0 dX6_heightAt_58 rfl rfl ?_
        refine k_get 0 i_X6 q_417 cw rfl (by decide) rfl dX6_heightAt_59 ?_
        refine k_i2l dX6_heightAt_62 (inI_mk (by omega) (by omega)) ?_
        refine k_lmul dX6_heightAt_63 ?_
        refine k_lload 0 dX6_heightAt_64 rfl ?_
        refine k_lmul dX6_heightAt_66 ?_
        refine k_aload_n 3 0 dX6_heightAt_67 rfl rfl ?_
        refine k_get 1 i_X6 q_419 cw rfl (by decide) rfl dX6_heightAt_68 ?_
        refine k_i2l dX6_heightAt_71 (inI_mk (by omega) (by omega)) ?_
        refine k_lload 0 dX6_heightAt_72 rfl ?_
        refine k_lsub dX6_heightAt_74 ?_
        refine k_lmul dX6_heightAt_75 ?_
        refine k_aload_n 3 0 dX6_heightAt_76 rfl rfl ?_
        refine k_get 1 i_X6 q_419 cw rfl (by decide) rfl dX6_heightAt_77 ?_
        refine k_i2l dX6_heightAt_80 (inI_mk (by omega) (by omega)) ?_
        refine k_aload_n 3 0 dX6_heightAt_81 rfl rfl ?_
        refine k_get 1 i_X6 q_419 cw rfl (by decide) rfl dX6_heightAt_82 ?_
        refine k_i2l dX6_heightAt_85 (inI_mk (by omega) (by omega)) ?_
        refine k_lmul dX6_heightAt_86 ?_
        have hav := arch_pos (r := r) (p := p) (v := (2 * (((t : Int) + o).tmod p))) hr0 (by omega) (by omega) (by omega)
        have hrp : r * (p * p) ≤ 5000 * 400000000 := Int.mul_le_mul hr1 hpp.2 (by omega) (by omega)
        refine k_ldiv dX6_heightAt_87 (inL_mk (by omega) (by omega)) (inL_mk (by omega) (by omega)) (by omega) ?_
        refine k_lstore [(6, .long (lI ((((4 * r) * (2 * (((t : Int) + o).tmod p))) * (p - (2 * (((t : Int) + o).tmod p)))).tdiv (p * p)))), (4, .long (lI (2 * (((t : Int) + o).tmod p)))), (3, .int (iI 1)), (2, .int (iI (2 * (((t : Int) + o).tmod p)))), (0, .ref w), (1, .int (iI (t : Int)))] dX6_heightAt_88 (by decide) rfl ?_
        refine k_iload_n 2 3 dX6_heightAt_90 rfl rfl ?_
        refine k_if_eq 99 dX6_heightAt_91 (by decide) (inI_mk (by omega) (by omega)) (fun h91 => ?_) (fun h91 => ?_)
        · omega
        · refine k_lload 0 dX6_heightAt_94 rfl ?_
          refine k_goto 102 dX6_heightAt_96 (by decide) ?_
          refine k_l2i dX6_heightAt_102 ?_
          exact k_iret dX6_heightAt_103 rfl (Nat.le_of_ble_eq_true rfl) (Nat.le_of_ble_eq_true rfl) (k_oki (by unfold wvH; rw [if_pos (by omega)]))
  · omega
set_option maxHeartbeats 4000000 in
set_option maxRecDepth 100000 in
theorem c_X5_heightAt (la : Launch) (κ : Kx) {L : List Nat} {f : Nat → wE} {td t : Nat} {τ : Td}  (hTd : TideR κ L f td τ) (hok : TdOk τ) (ht : t < 4320) : k_M la κ yX5_heightAt cX5_heightAt 4 (some .int) 4 0 0 [.ref td, .int (iI (t : Int))] L f (k_ro L f (.int (iI (hT τ t)))) := by
  refine k_head RX5 [(0, .ref td), (1, .int (iI (t : Int)))] rfl (by decide) (Nat.le_of_ble_eq_true rfl) rfl (fun θ hθ hin => ?_)
  obtain ⟨wl, wv, ctd, hL, hW, hinj⟩ := hTd
  obtain ⟨md1, E1, cwl⟩ := hL.cl
  have hn8 := hok.2.1
  refine k_aload_n 0 0 dX5_heightAt_0 rfl rfl ?_
  refine k_get 1 i_X5 q_104 ctd rfl (by decide) rfl dX5_heightAt_1 ?_
  refine k_istore_n 2 [(2, .int (iI τ.1)), (0, .ref td), (1, .int (iI (t : Int)))] dX5_heightAt_4 rfl (by decide) rfl ?_
  refine k_iconst dX5_heightAt_5 ?_
  refine k_istore_n 3 [(3, .int (iI 0)), (2, .int (iI τ.1)), (0, .ref td), (1, .int (iI (t : Int)))] dX5_heightAt_6 rfl (by decide) rfl ?_
  have lp7 : ∀ (fuel : Nat) (i : Nat), (i ≤ τ.2.1) → τ.2.1 - i < fuel → k_G θ κ cX5_heightAt 4 (some .int) RX5 (k_rm 4 0 0) (k_MQ θ κ (k_ro L f (.int (iI (hT τ t)))) 0 0) L f 0 0 7 [(0, .ref td), (1, .int (iI (t : Int))), (2, .int (iI (htw τ (t : Int) i))), (3, .int (iI (i : Int)))] [] := by
    intro fuel
    induction fuel with
    | zero =>
      intro i hi hfu
      exact absurd hfu (Nat.not_lt_zero _)
    | succ fuel ih =>
      intro i hi hfu
      refine k_iload_n 3 3 dX5_heightAt_7 rfl rfl ?_
      refine k_aload_n 0 0 dX5_heightAt_8 rfl rfl ?_
      refine k_get 0 i_X5 q_102 ctd rfl (by decide) rfl dX5_heightAt_9 ?_
      refine k_useR (k_runV (c_Jx4a65c_size_8abf5 θ.2.1 κ (n := τ.2.1) (l := wl) hL) w_X5_20 ⟨q_160, q_161⟩ rfl rfl cwl rfl ⟨(Nat.le_of_ble_eq_true rfl), (Nat.le_of_ble_eq_true rfl)⟩ (Nat.le_of_ble_eq_true rfl) dX5_heightAt_12) ⟨(Nat.le_of_ble_eq_true rfl), (Nat.le_of_ble_eq_true rfl)⟩ ?_
      refine k_icmp_ge 42 dX5_heightAt_15 (by decide) (inI_mk (by omega) (by omega)) (inI_mk (by omega) (by omega)) (fun h15 => ?_) (fun h15 => ?_)
      · refine k_iload_n 2 2 dX5_heightAt_42 rfl rfl ?_
        exact k_iret dX5_heightAt_43 rfl (Nat.le_of_ble_eq_true rfl) (Nat.le_of_ble_eq_true rfl) (k_oki (by rw [show i = τ.2.1 by omega, hT]))
      · have cw := hW i (by omega)
        refine k_iload_n 2 2 dX5_heightAt_18 rfl rfl ?_
        refine k_aload_n 0 0 dX5_heightAt_19 rfl rfl ?_
        refine k_get 0 i_X5 q_102 ctd rfl (by decide) rfl dX5_heightAt_20 ?_
        refine k_iload_n 3 3 dX5_heightAt_23 rfl rfl ?_
        refine k_useR (k_runV (c_Jx4a65c_get_915e3 θ.2.1 κ (n := τ.2.1) (g := wv) (l := wl) (i := i) hL (by omega)) w_X5_24 ⟨q_172, q_173⟩ rfl rfl cwl rfl ⟨(Nat.le_of_ble_eq_true rfl), (Nat.le_of_ble_eq_true rfl)⟩ (Nat.le_of_ble_eq_true rfl) dX5_heightAt_24) ⟨(Nat.le_of_ble_eq_true rfl), (Nat.le_of_ble_eq_true rfl)⟩ ?_
        refine k_castS q_192 cw rfl dX5_heightAt_27 ?_
        refine k_iload_n 1 1 dX5_heightAt_30 rfl rfl ?_
        refine k_useR (k_runV (c_X6_heightAt θ.2.1 κ (r := (τ.2.2.1 i)) (p := (τ.2.2.2.1 i)) (o := (τ.2.2.2.2 i)) (w := (wv i)) (t := t) cw (hok.2.2 i (by omega)) ht) w_X5_30 ⟨q_194, q_195⟩ rfl rfl cw rfl ⟨(Nat.le_of_ble_eq_true rfl), (Nat.le_of_ble_eq_true rfl)⟩ (Nat.le_of_ble_eq_true rfl) dX5_heightAt_31) ⟨(Nat.le_of_ble_eq_true rfl), (Nat.le_of_ble_eq_true rfl)⟩ ?_
        refine k_iadd dX5_heightAt_34 ?_
        refine k_istore_n 2 [(2, .int (iI ((htw τ (t : Int) i) + wvH (τ.2.2.1 i) (τ.2.2.2.1 i) (τ.2.2.2.2 i) (t : Int)))), (0, .ref td), (1, .int (iI (t : Int))), (3, .int (iI (i : Int)))] dX5_heightAt_35 rfl (by decide) rfl ?_
        refine k_iinc 3 [(3, .int (iI ((i : Int) + 1))), (2, .int (iI ((htw τ (t : Int) i) + wvH (τ.2.2.1 i) (τ.2.2.2.1 i) (τ.2.2.2.2 i) (t : Int)))), (0, .ref td), (1, .int (iI (t : Int)))] dX5_heightAt_36 rfl (by decide) rfl ?_
        refine k_goto 7 dX5_heightAt_39 (by decide) ?_
        refine k_perm [2, 3, 1, 0] [(0, .ref td), (1, .int (iI (t : Int))), (2, .int (iI ((htw τ (t : Int) i) + wvH (τ.2.2.1 i) (τ.2.2.2.1 i) (τ.2.2.2.2 i) (t : Int)))), (3, .int (iI ((i : Int) + 1)))] rfl ?_
        exact ih (i + 1) (by omega) (by omega)
  refine k_perm [2, 3, 1, 0] [(0, .ref td), (1, .int (iI (t : Int))), (2, .int (iI τ.1)), (3, .int (iI 0))] rfl ?_
  exact lp7 _ 0 (Nat.zero_le _) (Nat.lt_succ_self _)
end
section
/-! ===== finding the waters by the changes of the height ===== -/
theorem bI_inj {a b : Bool} (h : bI a = bI b) : a = b := by
  cases a <;> cases b <;> first | rfl | exact absurd h (by decide)
theorem nxt_run (h : Nat → Int) (v : Int) {e : Nat} (he : e ≤ 4320) (hend : e = 4320 ∨ h e ≠ v) : ∀ (m j : Nat), j ≤ e → e - j ≤ m → (∀ x, j ≤ x → x < e → h x = v) → nxt h v m j = e
  | 0, j, h1, h2, _ => by
    have : j = e := by omega
    subst this
    rfl
  | m + 1, j, h1, h2, h3 => by
    simp only [nxt]
    rcases Nat.lt_or_ge j e with q | q
    · rw [if_pos ⟨by omega, h3 j (Nat.le_refl _) q⟩]
      exact nxt_run h v he hend m (j + 1) (by omega) (by omega) (fun x hx1 hx2 => h3 x (by omega) hx2)
    · have : j = e := by omega
      subst this
      rw [if_neg]
      rintro ⟨q1, q2⟩
      rcases hend with e1 | e1
      · omega
      · exact e1 q2
theorem const_run {h : Nat → Int} {c i : Nat} (hc : ∀ j, c < j → j < i → h j = h (j - 1)) : ∀ d : Nat, c + d < i → h (c + d) = h c
  | 0, _ => rfl
  | d + 1, hd => by
    have h1 := hc (c + (d + 1)) (by omega) hd
    rw [show c + (d + 1) - 1 = c + d by omega] at h1
    rw [h1]
    exact const_run hc d (by omega)
theorem const_at {h : Nat → Int} {c i j : Nat} (hc : ∀ j, c < j → j < i → h j = h (j - 1)) (h1 : c ≤ j) (h2 : j < i) : h j = h c := by
  have := const_run hc (j - c) (by omega)
  rwa [show c + (j - c) = j by omega] at this
theorem isW_chg {h : Nat → Int} {t : Nat} (ht : isW h t = true) : h t ≠ h (t - 1) := by
  have := (of_decide_eq_true ht).2.2
  omega
theorem wc_run {h : Nat → Int} {a : Nat} : ∀ {b : Nat}, a ≤ b → (∀ j, a ≤ j → j < b → h j = h (j - 1)) → wc h b = wc h a
  | 0, hab, _ => by
    have : a = 0 := by omega
    subst this
    rfl
  | b + 1, hab, hn => by
    rcases Nat.lt_or_ge b a with q | q
    · have : a = b + 1 := by omega
      subst this
      rfl
    · rw [wc_no (fun e => isW_chg e (hn b q (by omega)))]
      exact wc_run q (fun j h1 h2 => hn j h1 (by omega))
def FW (h : Nat → Int) (i c n : Nat) (r : Bool) (WT WH : Nat → Int) (WI : Nat → Bool) : Prop := c < i ∧ (c = 0 ∨ (h c ≠ h (c - 1) ∧ r = decide (h (c - 1) < h c))) ∧ (∀ j, c < j → j < i → h j = h (j - 1)) ∧ n = wc h c ∧ ∀ k, k < n → WT k = (tm h k : Int) ∧ WH k = h (tm h k) ∧ WI k = hi h k
theorem FW.same {h : Nat → Int} {i c n : Nat} {r : Bool} {WT WH : Nat → Int} {WI : Nat → Bool} (F : FW h i c n r WT WH WI) (e : h i = h (i - 1)) : FW h (i + 1) c n r WT WH WI := by
  obtain ⟨h1, h2, h3, h4, h5⟩ := F
  refine ⟨by omega, h2, fun j hj1 hj2 => ?_, h4, h5⟩
  rcases Nat.lt_or_ge j i with q | q
  · exact h3 j hj1 q
  · have : j = i := by omega
    subst this
    exact e
theorem FW.nxc {h : Nat → Int} {i c n : Nat} {r : Bool} {WT WH : Nat → Int} {WI : Nat → Bool} (F : FW h i c n r WT WH WI) (hi4 : i ≤ 4320) (e : i = 4320 ∨ h i ≠ h (i - 1)) : nx h c = i := by
  obtain ⟨h1, h2, h3, h4, h5⟩ := F
  unfold nx
  refine nxt_run h (h c) hi4 (e.imp id (fun q q2 => q ?_)) 4320 (c + 1) (by omega) (by omega) (fun x hx1 hx2 => const_at h3 (by omega) hx2)
  rw [q2]
  exact (const_at h3 (by omega) (by omega)).symm
theorem FW.isw {h : Nat → Int} {i c n : Nat} {r : Bool} {WT WH : Nat → Int} {WI : Nat → Bool} (F : FW h i c n r WT WH WI) (hi4 : i < 4320) (e : h i ≠ h (i - 1)) : isW h c = true ↔ 0 < c ∧ r ≠ decide (h (i - 1) < h i) := by
  have hnx := F.nxc (Nat.le_of_lt hi4) (Or.inr e)
  obtain ⟨h1, h2, h3, h4, h5⟩ := F
  have hc : h (i - 1) = h c := const_at h3 (by omega) (by omega)
  unfold isW
  rw [decide_eq_true_iff, hnx, hc]
  rw [hc] at e
  constructor
  · rintro ⟨a1, a2, a3⟩
    refine ⟨by omega, ?_⟩
    rcases h2 with h2 | ⟨h2, hr⟩
    · omega
    · rw [hr]
      rcases a3 with ⟨b1, b2⟩ | ⟨b1, b2⟩
      · rw [decide_eq_true b1, decide_eq_false (by omega)]
        decide
      · rw [decide_eq_false (by omega), decide_eq_true (by omega)]
        decide
  · rintro ⟨a1, a2⟩
    refine ⟨by omega, hi4, ?_⟩
    rcases h2 with h2 | ⟨h2, hr⟩
    · omega
    · rw [hr] at a2
      rcases Int.lt_or_gt_of_ne h2 with q | q
      · refine Or.inr ⟨q, ?_⟩
        rw [decide_eq_false (by omega)] at a2
        have a3 := of_decide_eq_true ((Bool.not_eq_false _).mp (fun x => a2 x.symm))
        exact a3
      · refine Or.inl ⟨q, ?_⟩
        rw [decide_eq_true q] at a2
        have a3 := of_decide_eq_false ((Bool.not_eq_true _).mp (fun x => a2 x.symm))
        omega
theorem FW.no {h : Nat → Int} {i c n : Nat} {r : Bool} {WT WH : Nat → Int} {WI : Nat → Bool} (F : FW h i c n r WT WH WI) (hi4 : i < 4320) (e : h i ≠ h (i - 1)) (hno : ¬ (0 < c ∧ r ≠ decide (h (i - 1) < h i))) : FW h (i + 1) i n (decide (h (i - 1) < h i)) WT WH WI := by
  have hw := F.isw hi4 e
  obtain ⟨h1, h2, h3, h4, h5⟩ := F
  refine ⟨by omega, Or.inr ⟨e, rfl⟩, fun j hj1 hj2 => by omega, ?_, h5⟩
  rw [h4, wc_run (h := h) (a := c + 1) (b := i) (by omega) (fun j hj1 hj2 => h3 j (by omega) hj2), wc_no (fun q => hno (hw.mp q))]
theorem FW.yes {h : Nat → Int} {i c n : Nat} {r : Bool} {WT WH : Nat → Int} {WI : Nat → Bool} (F : FW h i c n r WT WH WI) (hi4 : i < 4320) (e : h i ≠ h (i - 1)) (hyes : 0 < c ∧ r ≠ decide (h (i - 1) < h i)) : FW h (i + 1) i (n + 1) (decide (h (i - 1) < h i)) (va_up WT n (c : Int)) (va_up WH n (h (i - 1))) (va_up WI n r) := by
  have hw := (F.isw hi4 e).mpr hyes
  obtain ⟨h1, h2, h3, h4, h5⟩ := F
  have hc : h (i - 1) = h c := const_at h3 (by omega) (by omega)
  have htm : tm h n = c := by
    rw [h4]
    exact tm_of hw (by omega)
  refine ⟨by omega, Or.inr ⟨e, rfl⟩, fun j hj1 hj2 => by omega, ?_, fun k hk => ?_⟩
  · rw [h4, wc_run (h := h) (a := c + 1) (b := i) (by omega) (fun j hj1 hj2 => h3 j (by omega) hj2), wc_yes hw]
  · by_cases q : k = n
    · subst q
      rw [va_up_self, va_up_self, va_up_self, htm]
      refine ⟨rfl, hc, ?_⟩
      unfold hi
      rw [htm]
      rcases h2 with h2 | ⟨h2, hr⟩
      · omega
      · exact hr
    · rw [va_up_ne WT _ q, va_up_ne WH _ q, va_up_ne WI _ q]
      exact h5 k (by omega)
theorem FW.fin {h : Nat → Int} {c n : Nat} {r : Bool} {WT WH : Nat → Int} {WI : Nat → Bool} (F : FW h 4320 c n r WT WH WI) : n = nW h ∧ ∀ k, k < nW h → WT k = (tm h k : Int) ∧ WH k = h (tm h k) ∧ WI k = hi h k := by
  have hnx := F.nxc (Nat.le_refl _) (Or.inl rfl)
  obtain ⟨h1, h2, h3, h4, h5⟩ := F
  have e : n = nW h := by
    unfold nW
    rw [h4, wc_run (h := h) (a := c + 1) (b := 4320) (by omega) (fun j hj1 hj2 => h3 j (by omega) hj2), wc_no]
    intro q
    have := (of_decide_eq_true q).2.1
    omega
  rw [← e]
  exact ⟨rfl, h5⟩
theorem mxh_bd {h : Nat → Int} (hb : ∀ t, -50000 ≤ h t ∧ h t ≤ 50000) : ∀ n, -50000 ≤ mxh h n ∧ mxh h n ≤ 50000
  | 0 => hb 0
  | n + 1 => by
    have h1 := mxh_bd hb n
    have h2 := hb n
    simp only [mxh]
    omega
theorem mnh_bd {h : Nat → Int} (hb : ∀ t, -50000 ≤ h t ∧ h t ≤ 50000) : ∀ n, -50000 ≤ mnh h n ∧ mnh h n ≤ 50000
  | 0 => hb 0
  | n + 1 => by
    have h1 := mnh_bd hb n
    have h2 := hb n
    simp only [mnh]
    omega
theorem sumW_bd {h : Nat → Int} (hb : ∀ t, -50000 ≤ h t ∧ h t ≤ 50000) (b : Bool) : ∀ n : Nat, -50000 * (n : Int) ≤ sumW h b n ∧ sumW h b n ≤ 50000 * (n : Int)
  | 0 => ⟨by simp only [sumW]; omega, by simp only [sumW]; omega⟩
  | n + 1 => by
    have h1 := sumW_bd hb b n
    have h2 := hb (tm h n)
    simp only [sumW]
    split <;> omega
theorem cntW_bd {h : Nat → Int} (b : Bool) : ∀ n : Nat, 0 ≤ cntW h b n ∧ cntW h b n ≤ (n : Int)
  | 0 => ⟨by simp only [cntW]; omega, by simp only [cntW]; omega⟩
  | n + 1 => by
    have h1 := cntW_bd (h := h) b n
    simp only [cntW]
    split <;> omega
theorem difW_bd {h : Nat → Int} (hb : ∀ t, -50000 ≤ h t ∧ h t ≤ 50000) : ∀ n : Nat, 0 ≤ difW h n ∧ difW h n ≤ 100000
  | 0 => ⟨by simp only [difW]; omega, by simp only [difW]; omega⟩
  | n + 1 => by
    have h1 := difW_bd hb n
    have h2 := hb (tm h n)
    have h3 := hb (tm h (n + 1))
    simp only [difW]
    omega
def ST (v : Nat) : Bool := v == 3 || (v == 7 || (v == 8 || (v == 9 || v == 10)))
theorem ST_3 : ∀ v, ST v = false → (v == 3) = false := fun v h => (Bool.or_eq_false_iff.mp h).1
theorem ST_7 : ∀ v, ST v = false → (v == 7) = false := fun v h => (Bool.or_eq_false_iff.mp (Bool.or_eq_false_iff.mp h).2).1
theorem ST_8 : ∀ v, ST v = false → (v == 8) = false := fun v h => (Bool.or_eq_false_iff.mp (Bool.or_eq_false_iff.mp (Bool.or_eq_false_iff.mp h).2).2).1
theorem ST_9 : ∀ v, ST v = false → (v == 9) = false := fun v h => (Bool.or_eq_false_iff.mp (Bool.or_eq_false_iff.mp (Bool.or_eq_false_iff.mp (Bool.or_eq_false_iff.mp h).2).2).2).1
theorem ST_10 : ∀ v, ST v = false → (v == 10) = false := fun v h => (Bool.or_eq_false_iff.mp (Bool.or_eq_false_iff.mp (Bool.or_eq_false_iff.mp (Bool.or_eq_false_iff.mp h).2).2).2).2
theorem TideR.cl {κ : Kx} {L : List Nat} {f : Nat → wE} {td : Nat} {τ : Td} (h : TideR κ L f td τ) : ∃ wl : Nat, Cl L f td (2, .inr (6, [.ref wl, .int (iI τ.1)])) := by
  obtain ⟨wl, wv, h1, h2⟩ := h
  exact ⟨wl, h1⟩
theorem idf : ∀ {S : Nat → Bool} v, S v = false → S v = false := fun _ h => h
end
section
set_option maxHeartbeats 4000000 in
set_option maxRecDepth 100000 in
theorem c_X3_hasWater (la : Launch) (κ : Kx) {L : List Nat} {f : Nat → wE} {tb : Nat} {h : Nat → Int} {z : Int}  (hTb : TblR κ L f tb h) (hz : inI z) : k_M la κ yX3_hasWater cX3_hasWater 2 (some .boolean) 1 0 0 [.ref tb, .int (iI z)] L f (k_ro L f (.int (iI (bI (decide (0 ≤ z ∧ z < (nW h : Int))))))) := by
  refine k_head RX3 [(0, .ref tb), (1, .int (iI z))] rfl (by decide) (Nat.le_of_ble_eq_true rfl) rfl (fun θ hθ hin => ?_)
  have hnn := nW_le h
  obtain ⟨hs, wt, wh, wi, ctb⟩ := hTb.cl
  refine k_iload_n 1 1 dX3_hasWater_0 rfl rfl ?_
  refine k_if_lt 16 dX3_hasWater_1 (by decide) hz (fun h1 => ?_) (fun h1 => ?_)
  · refine k_iconst dX3_hasWater_16 ?_
    exact k_zret (b := false) dX3_hasWater_17 rfl (Nat.le_of_ble_eq_true rfl) (Nat.le_of_ble_eq_true rfl) (k_okb ((decide_eq_false (by omega)).symm))
  · refine k_iload_n 1 1 dX3_hasWater_4 rfl rfl ?_
    refine k_aload_n 0 0 dX3_hasWater_5 rfl rfl ?_
    refine k_get 4 i_X3 q_121 ctb rfl (by decide) rfl dX3_hasWater_6 ?_
    refine k_icmp_ge 16 dX3_hasWater_9 (by decide) hz (inI_mk (by omega) (by omega)) (fun h9 => ?_) (fun h9 => ?_)
    · refine k_iconst dX3_hasWater_16 ?_
      exact k_zret (b := false) dX3_hasWater_17 rfl (Nat.le_of_ble_eq_true rfl) (Nat.le_of_ble_eq_true rfl) (k_okb ((decide_eq_false (by omega)).symm))
    · refine k_iconst dX3_hasWater_12 ?_
      refine k_goto 17 dX3_hasWater_13 (by decide) ?_
      exact k_zret (b := true) dX3_hasWater_17 rfl (Nat.le_of_ble_eq_true rfl) (Nat.le_of_ble_eq_true rfl) (k_okb ((decide_eq_true (by omega)).symm))
set_option maxHeartbeats 4000000 in
set_option maxRecDepth 100000 in
theorem c_X3_isBetweenWaters (la : Launch) (κ : Kx) {L : List Nat} {f : Nat → wE} {tb : Nat} {h : Nat → Int} {z : Int}  (hTb : TblR κ L f tb h) (hz : inI z) : k_M la κ yX3_isBetweenWaters cX3_isBetweenWaters 2 (some .boolean) 1 0 0 [.ref tb, .int (iI z)] L f (k_ro L f (.int (iI (bI (decide (0 ≤ z ∧ z < (nW h : Int) - 1)))))) := by
  refine k_head RX3 [(0, .ref tb), (1, .int (iI z))] rfl (by decide) (Nat.le_of_ble_eq_true rfl) rfl (fun θ hθ hin => ?_)
  have hnn := nW_le h
  obtain ⟨hs, wt, wh, wi, ctb⟩ := hTb.cl
  refine k_iload_n 1 1 dX3_isBetweenWaters_0 rfl rfl ?_
  refine k_if_lt 18 dX3_isBetweenWaters_1 (by decide) hz (fun h1 => ?_) (fun h1 => ?_)
  · refine k_iconst dX3_isBetweenWaters_18 ?_
    exact k_zret (b := false) dX3_isBetweenWaters_19 rfl (Nat.le_of_ble_eq_true rfl) (Nat.le_of_ble_eq_true rfl) (k_okb ((decide_eq_false (by omega)).symm))
  · refine k_iload_n 1 1 dX3_isBetweenWaters_4 rfl rfl ?_
    refine k_aload_n 0 0 dX3_isBetweenWaters_5 rfl rfl ?_
    refine k_get 4 i_X3 q_121 ctb rfl (by decide) rfl dX3_isBetweenWaters_6 ?_
    refine k_iconst dX3_isBetweenWaters_9 ?_
    refine k_isub dX3_isBetweenWaters_10 ?_
    refine k_icmp_ge 18 dX3_isBetweenWaters_11 (by decide) hz (inI_mk (by omega) (by omega)) (fun h11 => ?_) (fun h11 => ?_)
    · refine k_iconst dX3_isBetweenWaters_18 ?_
      exact k_zret (b := false) dX3_isBetweenWaters_19 rfl (Nat.le_of_ble_eq_true rfl) (Nat.le_of_ble_eq_true rfl) (k_okb ((decide_eq_false (by omega)).symm))
    · refine k_iconst dX3_isBetweenWaters_14 ?_
      refine k_goto 19 dX3_isBetweenWaters_15 (by decide) ?_
      exact k_zret (b := true) dX3_isBetweenWaters_19 rfl (Nat.le_of_ble_eq_true rfl) (Nat.le_of_ble_eq_true rfl) (k_okb ((decide_eq_true (by omega)).symm))
set_option maxHeartbeats 4000000 in
set_option maxRecDepth 100000 in
theorem c_X3_heightAt (la : Launch) (κ : Kx) {L : List Nat} {f : Nat → wE} {tb : Nat} {h : Nat → Int} {t : Nat}  (hTb : TblR κ L f tb h) (ht : t < 4320) : k_M la κ yX3_heightAt cX3_heightAt 2 (some .int) 3 0 0 [.ref tb, .int (iI (t : Int))] L f (k_ro L f (.int (iI (h t)))) := by
  refine k_head RX3 [(0, .ref tb), (1, .int (iI (t : Int)))] rfl (by decide) (Nat.le_of_ble_eq_true rfl) rfl (fun θ hθ hin => ?_)
  have hnn := nW_le h
  obtain ⟨hs, wt, wh, wi, HH, WT, WH, WI, ⟨ctb, chs, cwt, cwh, cwi⟩, hHH, hWW⟩ := id hTb
  refine k_iload_n 1 1 dX3_heightAt_0 rfl rfl ?_
  refine k_useR (k_runSN (c_X7_isMinute θ.2.1 κ (z := (t : Int)) (inI_mk (by omega) (by omega))) w_X3_42 q_528 rfl rfl ⟨(Nat.le_of_ble_eq_true rfl), (Nat.le_of_ble_eq_true rfl)⟩ (Nat.le_of_ble_eq_true rfl) dX3_heightAt_1) ⟨(Nat.le_of_ble_eq_true rfl), (Nat.le_of_ble_eq_true rfl)⟩ ?_
  refine k_ifb_eq 16 dX3_heightAt_4 (by decide) (fun h4 => ?_) (fun h4 => ?_)
  · exact (of_decide_eq_false h4 ⟨by omega, by omega⟩).elim
  · refine k_aload_n 0 0 dX3_heightAt_7 rfl rfl ?_
    refine k_get 0 i_X3 q_117 ctb rfl (by decide) rfl dX3_heightAt_8 ?_
    refine k_iload_n 1 1 dX3_heightAt_11 rfl rfl ?_
    refine k_iald t chs rfl (by omega) (by omega) dX3_heightAt_12 ?_
    refine k_goto 17 dX3_heightAt_13 (by decide) ?_
    exact k_iret dX3_heightAt_17 rfl (Nat.le_of_ble_eq_true rfl) (Nat.le_of_ble_eq_true rfl) (k_oki (hHH t ht))
set_option maxHeartbeats 4000000 in
set_option maxRecDepth 100000 in
theorem c_X3_timeOf (la : Launch) (κ : Kx) {L : List Nat} {f : Nat → wE} {tb : Nat} {h : Nat → Int} {k : Nat}  (hTb : TblR κ L f tb h) (hk : k < nW h) : k_M la κ yX3_timeOf cX3_timeOf 2 (some .int) 2 0 0 [.ref tb, .int (iI (k : Int))] L f (k_ro L f (.int (iI (tm h k : Int)))) := by
  refine k_head RX3 [(0, .ref tb), (1, .int (iI (k : Int)))] rfl (by decide) (Nat.le_of_ble_eq_true rfl) rfl (fun θ hθ hin => ?_)
  have hnn := nW_le h
  obtain ⟨hs, wt, wh, wi, HH, WT, WH, WI, ⟨ctb, chs, cwt, cwh, cwi⟩, hHH, hWW⟩ := id hTb
  refine k_aload_n 0 0 dX3_timeOf_0 rfl rfl ?_
  refine k_iload_n 1 1 dX3_timeOf_1 rfl rfl ?_
  refine k_useR (k_runV (c_X3_hasWater θ.2.1 κ (tb := tb) (z := (k : Int)) hTb (inI_mk (by omega) (by omega))) w_X3_46 ⟨q_244, q_245⟩ rfl rfl ctb rfl ⟨(Nat.le_of_ble_eq_true rfl), (Nat.le_of_ble_eq_true rfl)⟩ (Nat.le_of_ble_eq_true rfl) dX3_timeOf_2) ⟨(Nat.le_of_ble_eq_true rfl), (Nat.le_of_ble_eq_true rfl)⟩ ?_
  refine k_ifb_eq 17 dX3_timeOf_5 (by decide) (fun h5 => ?_) (fun h5 => ?_)
  · exact (of_decide_eq_false h5 ⟨by omega, by omega⟩).elim
  · refine k_aload_n 0 0 dX3_timeOf_8 rfl rfl ?_
    refine k_get 1 i_X3 q_118 ctb rfl (by decide) rfl dX3_timeOf_9 ?_
    refine k_iload_n 1 1 dX3_timeOf_12 rfl rfl ?_
    refine k_iald k cwt rfl (by omega) (by omega) dX3_timeOf_13 ?_
    refine k_goto 18 dX3_timeOf_14 (by decide) ?_
    exact k_iret dX3_timeOf_18 rfl (Nat.le_of_ble_eq_true rfl) (Nat.le_of_ble_eq_true rfl) (k_oki ((hWW k hk).1))
set_option maxHeartbeats 4000000 in
set_option maxRecDepth 100000 in
theorem c_X3_heightOf (la : Launch) (κ : Kx) {L : List Nat} {f : Nat → wE} {tb : Nat} {h : Nat → Int} {k : Nat}  (hTb : TblR κ L f tb h) (hk : k < nW h) : k_M la κ yX3_heightOf cX3_heightOf 2 (some .int) 2 0 0 [.ref tb, .int (iI (k : Int))] L f (k_ro L f (.int (iI (h (tm h k))))) := by
  refine k_head RX3 [(0, .ref tb), (1, .int (iI (k : Int)))] rfl (by decide) (Nat.le_of_ble_eq_true rfl) rfl (fun θ hθ hin => ?_)
  have hnn := nW_le h
  obtain ⟨hs, wt, wh, wi, HH, WT, WH, WI, ⟨ctb, chs, cwt, cwh, cwi⟩, hHH, hWW⟩ := id hTb
  refine k_aload_n 0 0 dX3_heightOf_0 rfl rfl ?_
  refine k_iload_n 1 1 dX3_heightOf_1 rfl rfl ?_
  refine k_useR (k_runV (c_X3_hasWater θ.2.1 κ (tb := tb) (z := (k : Int)) hTb (inI_mk (by omega) (by omega))) w_X3_46 ⟨q_244, q_245⟩ rfl rfl ctb rfl ⟨(Nat.le_of_ble_eq_true rfl), (Nat.le_of_ble_eq_true rfl)⟩ (Nat.le_of_ble_eq_true rfl) dX3_heightOf_2) ⟨(Nat.le_of_ble_eq_true rfl), (Nat.le_of_ble_eq_true rfl)⟩ ?_
  refine k_ifb_eq 17 dX3_heightOf_5 (by decide) (fun h5 => ?_) (fun h5 => ?_)
  · exact (of_decide_eq_false h5 ⟨by omega, by omega⟩).elim
  · refine k_aload_n 0 0 dX3_heightOf_8 rfl rfl ?_
    refine k_get 2 i_X3 q_119 ctb rfl (by decide) rfl dX3_heightOf_9 ?_
    refine k_iload_n 1 1 dX3_heightOf_12 rfl rfl ?_
    refine k_iald k cwh rfl (by omega) (by omega) dX3_heightOf_13 ?_
    refine k_goto 18 dX3_heightOf_14 (by decide) ?_
    exact k_iret dX3_heightOf_18 rfl (Nat.le_of_ble_eq_true rfl) (Nat.le_of_ble_eq_true rfl) (k_oki ((hWW k hk).2.1))
set_option maxHeartbeats 4000000 in
set_option maxRecDepth 100000 in
theorem c_X3_isHigh (la : Launch) (κ : Kx) {L : List Nat} {f : Nat → wE} {tb : Nat} {h : Nat → Int} {k : Nat}  (hTb : TblR κ L f tb h) (hk : k < nW h) : k_M la κ yX3_isHigh cX3_isHigh 2 (some .boolean) 2 0 0 [.ref tb, .int (iI (k : Int))] L f (k_ro L f (.int (iI (bI (hi h k))))) := by
  refine k_head RX3 [(0, .ref tb), (1, .int (iI (k : Int)))] rfl (by decide) (Nat.le_of_ble_eq_true rfl) rfl (fun θ hθ hin => ?_)
  have hnn := nW_le h
  obtain ⟨hs, wt, wh, wi, HH, WT, WH, WI, ⟨ctb, chs, cwt, cwh, cwi⟩, hHH, hWW⟩ := id hTb
  refine k_aload_n 0 0 dX3_isHigh_0 rfl rfl ?_
  refine k_iload_n 1 1 dX3_isHigh_1 rfl rfl ?_
  refine k_useR (k_runV (c_X3_hasWater θ.2.1 κ (tb := tb) (z := (k : Int)) hTb (inI_mk (by omega) (by omega))) w_X3_46 ⟨q_244, q_245⟩ rfl rfl ctb rfl ⟨(Nat.le_of_ble_eq_true rfl), (Nat.le_of_ble_eq_true rfl)⟩ (Nat.le_of_ble_eq_true rfl) dX3_isHigh_2) ⟨(Nat.le_of_ble_eq_true rfl), (Nat.le_of_ble_eq_true rfl)⟩ ?_
  refine k_ifb_eq 21 dX3_isHigh_5 (by decide) (fun h5 => ?_) (fun h5 => ?_)
  · exact (of_decide_eq_false h5 ⟨by omega, by omega⟩).elim
  · refine k_aload_n 0 0 dX3_isHigh_8 rfl rfl ?_
    refine k_get 3 i_X3 q_120 ctb rfl (by decide) rfl dX3_isHigh_9 ?_
    refine k_iload_n 1 1 dX3_isHigh_12 rfl rfl ?_
    refine k_zald k cwi rfl (by omega) (by omega) dX3_isHigh_13 ?_
    refine k_ifb_eq 21 dX3_isHigh_14 (by decide) (fun h14 => ?_) (fun h14 => ?_)
    · refine k_iconst dX3_isHigh_21 ?_
      exact k_zret (b := false) dX3_isHigh_22 rfl (Nat.le_of_ble_eq_true rfl) (Nat.le_of_ble_eq_true rfl) (k_okb (h14.symm.trans (hWW k hk).2.2))
    · refine k_iconst dX3_isHigh_17 ?_
      refine k_goto 22 dX3_isHigh_18 (by decide) ?_
      exact k_zret (b := true) dX3_isHigh_22 rfl (Nat.le_of_ble_eq_true rfl) (Nat.le_of_ble_eq_true rfl) (k_okb (h14.symm.trans (hWW k hk).2.2))
set_option maxHeartbeats 4000000 in
set_option maxRecDepth 100000 in
theorem c_X3_greatestHeight (la : Launch) (κ : Kx) {L : List Nat} {f : Nat → wE} {tb : Nat} {h : Nat → Int}   (hTb : TblR κ L f tb h) (hb : ∀ t, -50000 ≤ h t ∧ h t ≤ 50000) : k_M la κ yX3_greatestHeight cX3_greatestHeight 6 (some .int) 2 0 0 [.ref tb] L f (k_ro L f (.int (iI (mxh h 4320)))) := by
  refine k_head RX3 [(0, .ref tb)] rfl (by decide) (Nat.le_of_ble_eq_true rfl) rfl (fun θ hθ hin => ?_)
  have hnn := nW_le h
  obtain ⟨hs, wt, wh, wi, HH, WT, WH, WI, ⟨ctb, chs, cwt, cwh, cwi⟩, hHH, hWW⟩ := id hTb
  refine k_aload_n 0 0 dX3_greatestHeight_0 rfl rfl ?_
  refine k_get 0 i_X3 q_117 ctb rfl (by decide) rfl dX3_greatestHeight_1 ?_
  refine k_iconst dX3_greatestHeight_4 ?_
  refine k_iald 0 chs rfl (by omega) (by omega) dX3_greatestHeight_5 ?_
  refine k_topi (h 0) (hHH 0 (by omega)) ?_
  refine k_istore_n 1 [(1, .int (iI (h 0))), (0, .ref tb)] dX3_greatestHeight_6 rfl (by decide) rfl ?_
  refine k_aload_n 1 0 dX3_greatestHeight_7 rfl rfl ?_
  refine k_get 0 i_X3 q_117 ctb rfl (by decide) rfl dX3_greatestHeight_8 ?_
  refine k_astore_n 2 [(2, .ref hs), (1, .int (iI (h 0))), (0, .ref tb)] dX3_greatestHeight_11 rfl (by decide) rfl ?_
  refine k_aload_n 0 2 dX3_greatestHeight_12 rfl rfl ?_
  refine k_alen (t0 := 0) chs rfl dX3_greatestHeight_13 ?_
  refine k_istore_n 3 [(3, .int (iI 4320)), (2, .ref hs), (1, .int (iI (h 0))), (0, .ref tb)] dX3_greatestHeight_14 rfl (by decide) rfl ?_
  refine k_iconst dX3_greatestHeight_15 ?_
  refine k_istore [(4, .int (iI 0)), (3, .int (iI 4320)), (2, .ref hs), (1, .int (iI (h 0))), (0, .ref tb)] dX3_greatestHeight_16 (by decide) rfl ?_
  have lp18 : ∀ (fuel : Nat) (j : Nat), (j ≤ 4320) → 4320 - j < fuel → k_G θ κ cX3_greatestHeight 6 (some .int) RX3 (k_rm 2 0 0) (k_MQ θ κ (k_ro L f (.int (iI (mxh h 4320)))) 0 0) L f 0 0 18 [(0, .ref tb), (1, .int (iI (mxh h j))), (2, .ref hs), (3, .int (iI 4320)), (4, .int (iI (j : Int)))] [] := by
    intro fuel
    induction fuel with
    | zero =>
      intro j hj hfu
      exact absurd hfu (Nat.not_lt_zero _)
    | succ fuel ih =>
      intro j hj hfu
      have hm := mxh_bd hb j
      have hh := hb j
      refine k_iload 4 dX3_greatestHeight_18 rfl ?_
      refine k_iload_n 3 3 dX3_greatestHeight_20 rfl rfl ?_
      refine k_icmp_ge 43 dX3_greatestHeight_21 (by decide) (inI_mk (by omega) (by omega)) (inI_mk (by omega) (by omega)) (fun h21 => ?_) (fun h21 => ?_)
      · have e43 : j = 4320 := by omega
        subst e43
        refine k_iload_n 1 1 dX3_greatestHeight_43 rfl rfl ?_
        exact k_iret dX3_greatestHeight_44 rfl (Nat.le_of_ble_eq_true rfl) (Nat.le_of_ble_eq_true rfl) (k_oki rfl)
      · refine k_aload_n 2 2 dX3_greatestHeight_24 rfl rfl ?_
        refine k_iload 4 dX3_greatestHeight_25 rfl ?_
        refine k_iald j chs rfl (by omega) (by omega) dX3_greatestHeight_27 ?_
        refine k_topi (h j) (hHH j (by omega)) ?_
        refine k_istore [(5, .int (iI (h j))), (0, .ref tb), (1, .int (iI (mxh h j))), (2, .ref hs), (3, .int (iI 4320)), (4, .int (iI (j : Int)))] dX3_greatestHeight_28 (by decide) rfl ?_
        refine k_iload_n 2 1 dX3_greatestHeight_30 rfl rfl ?_
        refine k_iload 0 dX3_greatestHeight_31 rfl ?_
        refine k_max q_287 q_288 q_52 q_289 (inI_mk (by omega) (by omega)) (inI_mk (by omega) (by omega)) (Nat.le_of_ble_eq_true rfl) (Nat.le_of_ble_eq_true rfl) ⟨(Nat.le_of_ble_eq_true rfl), (Nat.le_of_ble_eq_true rfl)⟩ dX3_greatestHeight_33 ?_
        refine k_istore_n 1 [(1, .int (iI (max (mxh h j) (h j)))), (5, .int (iI (h j))), (0, .ref tb), (2, .ref hs), (3, .int (iI 4320)), (4, .int (iI (j : Int)))] dX3_greatestHeight_36 rfl (by decide) rfl ?_
        refine k_iinc 5 [(4, .int (iI ((j : Int) + 1))), (1, .int (iI (max (mxh h j) (h j)))), (5, .int (iI (h j))), (0, .ref tb), (2, .ref hs), (3, .int (iI 4320))] dX3_greatestHeight_37 rfl (by decide) rfl ?_
        refine k_goto 18 dX3_greatestHeight_40 (by decide) ?_
        refine k_perm [3, 1, 4, 5, 0] [(0, .ref tb), (1, .int (iI (max (mxh h j) (h j)))), (2, .ref hs), (3, .int (iI 4320)), (4, .int (iI ((j : Int) + 1)))] rfl ?_
        exact ih (j + 1) (by omega) (by omega)
  refine k_perm [4, 3, 2, 1, 0] [(0, .ref tb), (1, .int (iI (h 0))), (2, .ref hs), (3, .int (iI 4320)), (4, .int (iI 0))] rfl ?_
  exact lp18 _ 0 (Nat.zero_le _) (Nat.lt_succ_self _)
set_option maxHeartbeats 4000000 in
set_option maxRecDepth 100000 in
theorem c_X3_leastHeight (la : Launch) (κ : Kx) {L : List Nat} {f : Nat → wE} {tb : Nat} {h : Nat → Int}   (hTb : TblR κ L f tb h) (hb : ∀ t, -50000 ≤ h t ∧ h t ≤ 50000) : k_M la κ yX3_leastHeight cX3_leastHeight 6 (some .int) 2 0 0 [.ref tb] L f (k_ro L f (.int (iI (mnh h 4320)))) := by
  refine k_head RX3 [(0, .ref tb)] rfl (by decide) (Nat.le_of_ble_eq_true rfl) rfl (fun θ hθ hin => ?_)
  have hnn := nW_le h
  obtain ⟨hs, wt, wh, wi, HH, WT, WH, WI, ⟨ctb, chs, cwt, cwh, cwi⟩, hHH, hWW⟩ := id hTb
  refine k_aload_n 0 0 dX3_leastHeight_0 rfl rfl ?_
  refine k_get 0 i_X3 q_117 ctb rfl (by decide) rfl dX3_leastHeight_1 ?_
  refine k_iconst dX3_leastHeight_4 ?_
  refine k_iald 0 chs rfl (by omega) (by omega) dX3_leastHeight_5 ?_
  refine k_topi (h 0) (hHH 0 (by omega)) ?_
  refine k_istore_n 1 [(1, .int (iI (h 0))), (0, .ref tb)] dX3_leastHeight_6 rfl (by decide) rfl ?_
  refine k_aload_n 1 0 dX3_leastHeight_7 rfl rfl ?_
  refine k_get 0 i_X3 q_117 ctb rfl (by decide) rfl dX3_leastHeight_8 ?_
  refine k_astore_n 2 [(2, .ref hs), (1, .int (iI (h 0))), (0, .ref tb)] dX3_leastHeight_11 rfl (by decide) rfl ?_
  refine k_aload_n 0 2 dX3_leastHeight_12 rfl rfl ?_
  refine k_alen (t0 := 0) chs rfl dX3_leastHeight_13 ?_
  refine k_istore_n 3 [(3, .int (iI 4320)), (2, .ref hs), (1, .int (iI (h 0))), (0, .ref tb)] dX3_leastHeight_14 rfl (by decide) rfl ?_
  refine k_iconst dX3_leastHeight_15 ?_
  refine k_istore [(4, .int (iI 0)), (3, .int (iI 4320)), (2, .ref hs), (1, .int (iI (h 0))), (0, .ref tb)] dX3_leastHeight_16 (by decide) rfl ?_
  have lp18 : ∀ (fuel : Nat) (j : Nat), (j ≤ 4320) → 4320 - j < fuel → k_G θ κ cX3_leastHeight 6 (some .int) RX3 (k_rm 2 0 0) (k_MQ θ κ (k_ro L f (.int (iI (mnh h 4320)))) 0 0) L f 0 0 18 [(0, .ref tb), (1, .int (iI (mnh h j))), (2, .ref hs), (3, .int (iI 4320)), (4, .int (iI (j : Int)))] [] := by
    intro fuel
    induction fuel with
    | zero =>
      intro j hj hfu
      exact absurd hfu (Nat.not_lt_zero _)
    | succ fuel ih =>
      intro j hj hfu
      have hm := mnh_bd hb j
      have hh := hb j
      refine k_iload 4 dX3_leastHeight_18 rfl ?_
      refine k_iload_n 3 3 dX3_leastHeight_20 rfl rfl ?_
      refine k_icmp_ge 43 dX3_leastHeight_21 (by decide) (inI_mk (by omega) (by omega)) (inI_mk (by omega) (by omega)) (fun h21 => ?_) (fun h21 => ?_)
      · have e43 : j = 4320 := by omega
        subst e43
        refine k_iload_n 1 1 dX3_leastHeight_43 rfl rfl ?_
        exact k_iret dX3_leastHeight_44 rfl (Nat.le_of_ble_eq_true rfl) (Nat.le_of_ble_eq_true rfl) (k_oki rfl)
      · refine k_aload_n 2 2 dX3_leastHeight_24 rfl rfl ?_
        refine k_iload 4 dX3_leastHeight_25 rfl ?_
        refine k_iald j chs rfl (by omega) (by omega) dX3_leastHeight_27 ?_
        refine k_topi (h j) (hHH j (by omega)) ?_
        refine k_istore [(5, .int (iI (h j))), (0, .ref tb), (1, .int (iI (mnh h j))), (2, .ref hs), (3, .int (iI 4320)), (4, .int (iI (j : Int)))] dX3_leastHeight_28 (by decide) rfl ?_
        refine k_iload_n 2 1 dX3_leastHeight_30 rfl rfl ?_
        refine k_iload 0 dX3_leastHeight_31 rfl ?_
        refine k_min q_294 q_295 q_52 q_296 (inI_mk (by omega) (by omega)) (inI_mk (by omega) (by omega)) (Nat.le_of_ble_eq_true rfl) (Nat.le_of_ble_eq_true rfl) ⟨(Nat.le_of_ble_eq_true rfl), (Nat.le_of_ble_eq_true rfl)⟩ dX3_leastHeight_33 ?_
        refine k_istore_n 1 [(1, .int (iI (min (mnh h j) (h j)))), (5, .int (iI (h j))), (0, .ref tb), (2, .ref hs), (3, .int (iI 4320)), (4, .int (iI (j : Int)))] dX3_leastHeight_36 rfl (by decide) rfl ?_
        refine k_iinc 5 [(4, .int (iI ((j : Int) + 1))), (1, .int (iI (min (mnh h j) (h j)))), (5, .int (iI (h j))), (0, .ref tb), (2, .ref hs), (3, .int (iI 4320))] dX3_leastHeight_37 rfl (by decide) rfl ?_
        refine k_goto 18 dX3_leastHeight_40 (by decide) ?_
        refine k_perm [3, 1, 4, 5, 0] [(0, .ref tb), (1, .int (iI (min (mnh h j) (h j)))), (2, .ref hs), (3, .int (iI 4320)), (4, .int (iI ((j : Int) + 1)))] rfl ?_
        exact ih (j + 1) (by omega) (by omega)
  refine k_perm [4, 3, 2, 1, 0] [(0, .ref tb), (1, .int (iI (h 0))), (2, .ref hs), (3, .int (iI 4320)), (4, .int (iI 0))] rfl ?_
  exact lp18 _ 0 (Nat.zero_le _) (Nat.lt_succ_self _)
set_option maxHeartbeats 4000000 in
set_option maxRecDepth 100000 in
theorem c_X3_meanOfWaters (la : Launch) (κ : Kx) {L : List Nat} {f : Nat → wE} {tb : Nat} {h : Nat → Int} {b : Bool}  (hTb : TblR κ L f tb h) (hb : ∀ t, -50000 ≤ h t ∧ h t ≤ 50000) : k_M la κ yX3_meanOfWaters cX3_meanOfWaters 6 (some .int) 3 0 0 [.ref tb, .int (iI (bI b))] L f (k_ro L f (.int (iI (meanW h b)))) := by
  refine k_head RX3 [(0, .ref tb), (1, .int (iI (bI b)))] rfl (by decide) (Nat.le_of_ble_eq_true rfl) rfl (fun θ hθ hin => ?_)
  have hnn := nW_le h
  obtain ⟨hs, wt, wh, wi, ctb⟩ := hTb.cl
  refine k_lconst 0 dX3_meanOfWaters_0 (by decide) ?_
  refine k_lstore_n 2 [(2, .long (lI 0)), (0, .ref tb), (1, .int (iI (bI b)))] dX3_meanOfWaters_1 rfl (by decide) rfl ?_
  refine k_iconst dX3_meanOfWaters_2 ?_
  refine k_istore [(4, .int (iI 0)), (2, .long (lI 0)), (0, .ref tb), (1, .int (iI (bI b)))] dX3_meanOfWaters_3 (by decide) rfl ?_
  refine k_iconst dX3_meanOfWaters_5 ?_
  refine k_istore [(5, .int (iI 0)), (4, .int (iI 0)), (2, .long (lI 0)), (0, .ref tb), (1, .int (iI (bI b)))] dX3_meanOfWaters_6 (by decide) rfl ?_
  have lp8 : ∀ (fuel : Nat) (k : Nat) (sm cn : Int), (k ≤ nW h) → (sm = sumW h b k) → (cn = cntW h b k) → nW h - k < fuel → k_G θ κ cX3_meanOfWaters 6 (some .int) RX3 (k_rm 3 0 0) (k_MQ θ κ (k_ro L f (.int (iI (meanW h b)))) 0 0) L f 0 0 8 [(0, .ref tb), (1, .int (iI (bI b))), (2, .long (lI sm)), (4, .int (iI cn)), (5, .int (iI (k : Int)))] [] := by
    intro fuel
    induction fuel with
    | zero =>
      intro k sm cn hk hsm hcn hfu
      exact absurd hfu (Nat.not_lt_zero _)
    | succ fuel ih =>
      intro k sm cn hk hsm hcn hfu
      have hs1 := sumW_bd hb b k
      have hc1 := cntW_bd (h := h) b k
      have hh := hb (tm h k)
      refine k_iload 4 dX3_meanOfWaters_8 rfl ?_
      refine k_aload_n 0 0 dX3_meanOfWaters_10 rfl rfl ?_
      refine k_get 4 i_X3 q_121 ctb rfl (by decide) rfl dX3_meanOfWaters_11 ?_
      refine k_icmp_ge 46 dX3_meanOfWaters_14 (by decide) (inI_mk (by omega) (by omega)) (inI_mk (by omega) (by omega)) (fun h14 => ?_) (fun h14 => ?_)
      · have e46 : k = nW h := by omega
        subst e46
        refine k_lload_n 2 2 dX3_meanOfWaters_46 rfl rfl ?_
        refine k_iload 3 dX3_meanOfWaters_47 rfl ?_
        refine k_i2l dX3_meanOfWaters_49 (inI_mk (by omega) (by omega)) ?_
        refine k_useR (k_runSN (c_X7_quotient θ.2.1 κ (a := sm) (b := cn) (inL_mk (by omega) (by omega)) (inL_mk (by omega) (by omega))) w_X3_78 q_304 rfl rfl ⟨(Nat.le_of_ble_eq_true rfl), (Nat.le_of_ble_eq_true rfl)⟩ (Nat.le_of_ble_eq_true rfl) dX3_meanOfWaters_50) ⟨(Nat.le_of_ble_eq_true rfl), (Nat.le_of_ble_eq_true rfl)⟩ ?_
        refine k_l2i dX3_meanOfWaters_53 ?_
        exact k_iret dX3_meanOfWaters_54 rfl (Nat.le_of_ble_eq_true rfl) (Nat.le_of_ble_eq_true rfl) (k_oki (by rw [meanW, ← hsm, ← hcn]))
      · refine k_aload_n 0 0 dX3_meanOfWaters_17 rfl rfl ?_
        refine k_iload 4 dX3_meanOfWaters_18 rfl ?_
        refine k_useR (k_runV (c_X3_isHigh θ.2.1 κ (tb := tb) (k := k) hTb (by omega)) w_X3_72 ⟨q_252, q_253⟩ rfl rfl ctb rfl ⟨(Nat.le_of_ble_eq_true rfl), (Nat.le_of_ble_eq_true rfl)⟩ (Nat.le_of_ble_eq_true rfl) dX3_meanOfWaters_20) ⟨(Nat.le_of_ble_eq_true rfl), (Nat.le_of_ble_eq_true rfl)⟩ ?_
        refine k_iload_n 1 1 dX3_meanOfWaters_23 rfl rfl ?_
        refine k_icmp_ne 40 dX3_meanOfWaters_24 (by decide) (bI_in _) (bI_in _) (fun h24 => ?_) (fun h24 => ?_)
        · refine k_iinc 4 [(5, .int (iI ((k : Int) + 1))), (0, .ref tb), (1, .int (iI (bI b))), (2, .long (lI sm)), (4, .int (iI cn))] dX3_meanOfWaters_40 rfl (by decide) rfl ?_
          refine k_goto 8 dX3_meanOfWaters_43 (by decide) ?_
          refine k_perm [1, 2, 3, 4, 0] [(0, .ref tb), (1, .int (iI (bI b))), (2, .long (lI sm)), (4, .int (iI cn)), (5, .int (iI ((k : Int) + 1)))] rfl ?_
          exact ih (k + 1) sm cn (by omega) (by rw [sumW, if_neg (fun q => h24 (congrArg bI q)), hsm]) (by rw [cntW, if_neg (fun q => h24 (congrArg bI q)), hcn]) (by omega)
        · refine k_lload_n 2 2 dX3_meanOfWaters_27 rfl rfl ?_
          refine k_aload_n 0 0 dX3_meanOfWaters_28 rfl rfl ?_
          refine k_iload 4 dX3_meanOfWaters_29 rfl ?_
          refine k_useR (k_runV (c_X3_heightOf θ.2.1 κ (tb := tb) (k := k) hTb (by omega)) w_X3_75 ⟨q_248, q_249⟩ rfl rfl ctb rfl ⟨(Nat.le_of_ble_eq_true rfl), (Nat.le_of_ble_eq_true rfl)⟩ (Nat.le_of_ble_eq_true rfl) dX3_meanOfWaters_31) ⟨(Nat.le_of_ble_eq_true rfl), (Nat.le_of_ble_eq_true rfl)⟩ ?_
          refine k_i2l dX3_meanOfWaters_34 (inI_mk (by omega) (by omega)) ?_
          refine k_ladd dX3_meanOfWaters_35 ?_
          refine k_lstore_n 2 [(2, .long (lI (sm + h (tm h k)))), (0, .ref tb), (1, .int (iI (bI b))), (4, .int (iI cn)), (5, .int (iI (k : Int)))] dX3_meanOfWaters_36 rfl (by decide) rfl ?_
          refine k_iinc 3 [(4, .int (iI (cn + 1))), (2, .long (lI (sm + h (tm h k)))), (0, .ref tb), (1, .int (iI (bI b))), (5, .int (iI (k : Int)))] dX3_meanOfWaters_37 rfl (by decide) rfl ?_
          refine k_iinc 4 [(5, .int (iI ((k : Int) + 1))), (4, .int (iI (cn + 1))), (2, .long (lI (sm + h (tm h k)))), (0, .ref tb), (1, .int (iI (bI b)))] dX3_meanOfWaters_40 rfl (by decide) rfl ?_
          refine k_goto 8 dX3_meanOfWaters_43 (by decide) ?_
          refine k_perm [3, 4, 2, 1, 0] [(0, .ref tb), (1, .int (iI (bI b))), (2, .long (lI (sm + h (tm h k)))), (4, .int (iI (cn + 1))), (5, .int (iI ((k : Int) + 1)))] rfl ?_
          exact ih (k + 1) (sm + h (tm h k)) (cn + 1) (by omega) (by rw [sumW, if_pos (bI_inj h24), hsm]) (by rw [cntW, if_pos (bI_inj h24), hcn]) (by omega)
  refine k_perm [3, 4, 2, 1, 0] [(0, .ref tb), (1, .int (iI (bI b))), (2, .long (lI 0)), (4, .int (iI 0)), (5, .int (iI 0))] rfl ?_
  exact lp8 _ 0 0 0 (Nat.zero_le _) rfl rfl (Nat.lt_succ_self _)
set_option maxHeartbeats 4000000 in
set_option maxRecDepth 100000 in
theorem c_X3_greatestDifference (la : Launch) (κ : Kx) {L : List Nat} {f : Nat → wE} {tb : Nat} {h : Nat → Int}   (hTb : TblR κ L f tb h) (hb : ∀ t, -50000 ≤ h t ∧ h t ≤ 50000) : k_M la κ yX3_greatestDifference cX3_greatestDifference 4 (some .int) 3 0 0 [.ref tb] L f (k_ro L f (.int (iI (difW h (nW h - 1))))) := by
  refine k_head RX3 [(0, .ref tb)] rfl (by decide) (Nat.le_of_ble_eq_true rfl) rfl (fun θ hθ hin => ?_)
  have hnn := nW_le h
  obtain ⟨hs, wt, wh, wi, ctb⟩ := hTb.cl
  refine k_iconst dX3_greatestDifference_0 ?_
  refine k_istore_n 1 [(1, .int (iI 0)), (0, .ref tb)] dX3_greatestDifference_1 rfl (by decide) rfl ?_
  refine k_iconst dX3_greatestDifference_2 ?_
  refine k_istore_n 2 [(2, .int (iI 1)), (1, .int (iI 0)), (0, .ref tb)] dX3_greatestDifference_3 rfl (by decide) rfl ?_
  have lp4 : ∀ (fuel : Nat) (j : Nat) (gd : Int), (j + 1 ≤ nW h ∨ j = 0) → (gd = difW h j) → nW h - j < fuel → k_G θ κ cX3_greatestDifference 4 (some .int) RX3 (k_rm 3 0 0) (k_MQ θ κ (k_ro L f (.int (iI (difW h (nW h - 1))))) 0 0) L f 0 0 4 [(0, .ref tb), (1, .int (iI gd)), (2, .int (iI ((j + 1 : Nat) : Int)))] [] := by
    intro fuel
    induction fuel with
    | zero =>
      intro j gd hj hgd hfu
      exact absurd hfu (Nat.not_lt_zero _)
    | succ fuel ih =>
      intro j gd hj hgd hfu
      have hd1 := difW_bd hb j
      have hh := hb (tm h j)
      have hh1 := hb (tm h (j + 1))
      refine k_iload_n 2 2 dX3_greatestDifference_4 rfl rfl ?_
      refine k_aload_n 0 0 dX3_greatestDifference_5 rfl rfl ?_
      refine k_get 4 i_X3 q_121 ctb rfl (by decide) rfl dX3_greatestDifference_6 ?_
      refine k_icmp_ge 41 dX3_greatestDifference_9 (by decide) (inI_mk (by omega) (by omega)) (inI_mk (by omega) (by omega)) (fun h9 => ?_) (fun h9 => ?_)
      · refine k_iload_n 1 1 dX3_greatestDifference_41 rfl rfl ?_
        exact k_iret dX3_greatestDifference_42 rfl (Nat.le_of_ble_eq_true rfl) (Nat.le_of_ble_eq_true rfl) (k_oki (by rw [hgd, show nW h - 1 = j by omega]))
      · refine k_aload_n 0 0 dX3_greatestDifference_12 rfl rfl ?_
        refine k_iload_n 2 2 dX3_greatestDifference_13 rfl rfl ?_
        refine k_useR (k_runV (c_X3_heightOf θ.2.1 κ (k := (j + 1)) (tb := tb) hTb (by omega)) w_X3_75 ⟨q_248, q_249⟩ rfl rfl ctb rfl ⟨(Nat.le_of_ble_eq_true rfl), (Nat.le_of_ble_eq_true rfl)⟩ (Nat.le_of_ble_eq_true rfl) dX3_greatestDifference_14) ⟨(Nat.le_of_ble_eq_true rfl), (Nat.le_of_ble_eq_true rfl)⟩ ?_
        refine k_aload_n 0 0 dX3_greatestDifference_17 rfl rfl ?_
        refine k_iload_n 2 2 dX3_greatestDifference_18 rfl rfl ?_
        refine k_iconst dX3_greatestDifference_19 ?_
        refine k_isub dX3_greatestDifference_20 ?_
        refine k_topi (j : Int) (by omega) ?_
        refine k_useR (k_runV (c_X3_heightOf θ.2.1 κ (k := j) (tb := tb) hTb (by omega)) w_X3_75 ⟨q_248, q_249⟩ rfl rfl ctb rfl ⟨(Nat.le_of_ble_eq_true rfl), (Nat.le_of_ble_eq_true rfl)⟩ (Nat.le_of_ble_eq_true rfl) dX3_greatestDifference_21) ⟨(Nat.le_of_ble_eq_true rfl), (Nat.le_of_ble_eq_true rfl)⟩ ?_
        refine k_isub dX3_greatestDifference_24 ?_
        refine k_abs q_310 q_311 q_52 q_312 (inI_mk (by omega) (by omega)) (Nat.le_of_ble_eq_true rfl) (Nat.le_of_ble_eq_true rfl) ⟨(Nat.le_of_ble_eq_true rfl), (Nat.le_of_ble_eq_true rfl)⟩ dX3_greatestDifference_25 ?_
        refine k_istore_n 3 [(3, .int (iI ((Int.natAbs (h (tm h (j + 1)) - h (tm h j)) : Nat) : Int))), (0, .ref tb), (1, .int (iI gd)), (2, .int (iI ((j + 1 : Nat) : Int)))] dX3_greatestDifference_28 rfl (by decide) rfl ?_
        refine k_iload_n 2 1 dX3_greatestDifference_29 rfl rfl ?_
        refine k_iload_n 0 3 dX3_greatestDifference_30 rfl rfl ?_
        refine k_max q_287 q_288 q_52 q_289 (inI_mk (by omega) (by omega)) (inI_mk (by omega) (by omega)) (Nat.le_of_ble_eq_true rfl) (Nat.le_of_ble_eq_true rfl) ⟨(Nat.le_of_ble_eq_true rfl), (Nat.le_of_ble_eq_true rfl)⟩ dX3_greatestDifference_31 ?_
        refine k_istore_n 1 [(1, .int (iI (max gd ((Int.natAbs (h (tm h (j + 1)) - h (tm h j)) : Nat) : Int)))), (3, .int (iI ((Int.natAbs (h (tm h (j + 1)) - h (tm h j)) : Nat) : Int))), (0, .ref tb), (2, .int (iI ((j + 1 : Nat) : Int)))] dX3_greatestDifference_34 rfl (by decide) rfl ?_
        refine k_iinc 3 [(2, .int (iI (((j + 1 : Nat) : Int) + 1))), (1, .int (iI (max gd ((Int.natAbs (h (tm h (j + 1)) - h (tm h j)) : Nat) : Int)))), (3, .int (iI ((Int.natAbs (h (tm h (j + 1)) - h (tm h j)) : Nat) : Int))), (0, .ref tb)] dX3_greatestDifference_35 rfl (by decide) rfl ?_
        refine k_goto 4 dX3_greatestDifference_38 (by decide) ?_
        refine k_perm [3, 1, 0] [(0, .ref tb), (1, .int (iI (max gd ((Int.natAbs (h (tm h (j + 1)) - h (tm h j)) : Nat) : Int)))), (2, .int (iI (((j + 1 : Nat) : Int) + 1)))] rfl ?_
        exact ih (j + 1) (max gd ((Int.natAbs (h (tm h (j + 1)) - h (tm h j)) : Nat) : Int)) (Or.inl (by omega)) (by rw [difW, hgd]) (by omega)
  refine k_perm [2, 1, 0] [(0, .ref tb), (1, .int (iI 0)), (2, .int (iI 1))] rfl ?_
  exact lp4 _ 0 0 (Or.inr rfl) rfl (Nat.lt_succ_self _)
set_option maxHeartbeats 4000000 in
set_option maxRecDepth 100000 in
theorem c_X3_datumOf (la : Launch) (κ : Kx) {L : List Nat} {f : Nat → wE} {tb : Nat} {h : Nat → Int} {what : Int}  (hTb : TblR κ L f tb h) (hb : ∀ t, -50000 ≤ h t ∧ h t ≤ 50000) (hwh : 0 ≤ what ∧ what ≤ 4) : k_M la κ yX3_datumOf cX3_datumOf 2 (some .int) 4 0 0 [.ref tb, .int (iI what)] L f (k_ro L f (.int (iI (dat h what)))) := by
  refine k_head RX3 [(0, .ref tb), (1, .int (iI what))] rfl (by decide) (Nat.le_of_ble_eq_true rfl) rfl (fun θ hθ hin => ?_)
  have hnn := nW_le h
  obtain ⟨hs, wt, wh, wi, ctb⟩ := hTb.cl
  refine k_iload_n 1 1 dX3_datumOf_0 rfl rfl ?_
  rcases (by omega : what = 0 ∨ what = 1 ∨ what = 2 ∨ what = 3 ∨ (what < 0 ∨ 3 < what)) with h1 | h1 | h1 | h1 | h1
  · refine k_swIn 0 32 dX3_datumOf_1 (inI_mk (by omega) (by omega)) h1 (by decide) (by decide) rfl (by decide) ?_
    refine k_aload_n 0 0 dX3_datumOf_32 rfl rfl ?_
    refine k_useR (k_runV (c_X3_greatestHeight θ.2.1 κ (tb := tb) hTb hb) w_X3_49 ⟨q_285, q_6⟩ rfl rfl ctb rfl ⟨(Nat.le_of_ble_eq_true rfl), (Nat.le_of_ble_eq_true rfl)⟩ (Nat.le_of_ble_eq_true rfl) dX3_datumOf_33) ⟨(Nat.le_of_ble_eq_true rfl), (Nat.le_of_ble_eq_true rfl)⟩ ?_
    exact k_iret dX3_datumOf_36 rfl (Nat.le_of_ble_eq_true rfl) (Nat.le_of_ble_eq_true rfl) (k_oki (by rw [h1, dat, if_pos rfl]))
  · refine k_swIn 1 37 dX3_datumOf_1 (inI_mk (by omega) (by omega)) h1 (by decide) (by decide) rfl (by decide) ?_
    refine k_aload_n 0 0 dX3_datumOf_37 rfl rfl ?_
    refine k_useR (k_runV (c_X3_leastHeight θ.2.1 κ (tb := tb) hTb hb) w_X3_53 ⟨q_292, q_7⟩ rfl rfl ctb rfl ⟨(Nat.le_of_ble_eq_true rfl), (Nat.le_of_ble_eq_true rfl)⟩ (Nat.le_of_ble_eq_true rfl) dX3_datumOf_38) ⟨(Nat.le_of_ble_eq_true rfl), (Nat.le_of_ble_eq_true rfl)⟩ ?_
    exact k_iret dX3_datumOf_41 rfl (Nat.le_of_ble_eq_true rfl) (Nat.le_of_ble_eq_true rfl) (k_oki (by rw [h1, dat, if_neg (by decide), if_pos rfl]))
  · refine k_swIn 2 42 dX3_datumOf_1 (inI_mk (by omega) (by omega)) h1 (by decide) (by decide) rfl (by decide) ?_
    refine k_aload_n 0 0 dX3_datumOf_42 rfl rfl ?_
    refine k_iconst dX3_datumOf_43 ?_
    refine k_useR (k_runV (c_X3_meanOfWaters θ.2.1 κ (b := true) (tb := tb) hTb hb) w_X3_56 ⟨q_299, q_8⟩ rfl rfl ctb rfl ⟨(Nat.le_of_ble_eq_true rfl), (Nat.le_of_ble_eq_true rfl)⟩ (Nat.le_of_ble_eq_true rfl) dX3_datumOf_44) ⟨(Nat.le_of_ble_eq_true rfl), (Nat.le_of_ble_eq_true rfl)⟩ ?_
    exact k_iret dX3_datumOf_47 rfl (Nat.le_of_ble_eq_true rfl) (Nat.le_of_ble_eq_true rfl) (k_oki (by rw [h1, dat, if_neg (by decide), if_neg (by decide), if_pos rfl]))
  · refine k_swIn 3 48 dX3_datumOf_1 (inI_mk (by omega) (by omega)) h1 (by decide) (by decide) rfl (by decide) ?_
    refine k_aload_n 0 0 dX3_datumOf_48 rfl rfl ?_
    refine k_iconst dX3_datumOf_49 ?_
    refine k_useR (k_runV (c_X3_meanOfWaters θ.2.1 κ (b := false) (tb := tb) hTb hb) w_X3_56 ⟨q_299, q_8⟩ rfl rfl ctb rfl ⟨(Nat.le_of_ble_eq_true rfl), (Nat.le_of_ble_eq_true rfl)⟩ (Nat.le_of_ble_eq_true rfl) dX3_datumOf_50) ⟨(Nat.le_of_ble_eq_true rfl), (Nat.le_of_ble_eq_true rfl)⟩ ?_
    exact k_iret dX3_datumOf_53 rfl (Nat.le_of_ble_eq_true rfl) (Nat.le_of_ble_eq_true rfl) (k_oki (by rw [h1, dat, if_neg (by decide), if_neg (by decide), if_neg (by decide), if_pos rfl]))
  · refine k_swOut 54 dX3_datumOf_1 (inI_mk (by omega) (by omega)) h1 (by decide) ?_
    refine k_aload_n 0 0 dX3_datumOf_54 rfl rfl ?_
    refine k_useR (k_runV (c_X3_greatestDifference θ.2.1 κ (tb := tb) hTb hb) w_X3_60 ⟨q_308, q_9⟩ rfl rfl ctb rfl ⟨(Nat.le_of_ble_eq_true rfl), (Nat.le_of_ble_eq_true rfl)⟩ (Nat.le_of_ble_eq_true rfl) dX3_datumOf_55) ⟨(Nat.le_of_ble_eq_true rfl), (Nat.le_of_ble_eq_true rfl)⟩ ?_
    exact k_iret dX3_datumOf_58 rfl (Nat.le_of_ble_eq_true rfl) (Nat.le_of_ble_eq_true rfl) (k_oki (by rw [dat, if_neg (by omega), if_neg (by omega), if_neg (by omega), if_neg (by omega)]))
set_option maxHeartbeats 4000000 in
set_option maxRecDepth 100000 in
theorem c_X3_noteWater (la : Launch) (κ : Kx) {L : List Nat} {f : Nat → wE} {tb hs wt wh wi : Nat} {HH WT WH : Nat → Int} {WI : Nat → Bool} {n : Nat} {t v : Int} {r : Bool} (ctb : Cl L f tb (3, .inr (4, [.ref hs, .ref wt, .ref wh, .ref wi, .int (iI (n : Int))]))) (chs : Cl L f hs (7, .inl (κ.2.2.1 0, 4320, .inl (fun u9 => iI (HH u9))))) (cwt : Cl L f wt (8, .inl (κ.2.2.1 0, 4320, .inl (fun u9 => iI (WT u9))))) (cwh : Cl L f wh (9, .inl (κ.2.2.1 0, 4320, .inl (fun u9 => iI (WH u9))))) (cwi : Cl L f wi (10, .inl (κ.2.2.1 2, 4320, .inl (fun u9 => iI (bI (WI u9))))))  (hn : n < 4320) : k_M la κ yX3_noteWater cX3_noteWater 4 none 1 0 0 [.ref tb, .int (iI t), .int (iI v), .int (iI (bI r))] L f (k_ru (fun L' f' => L' = L ∧ k_fr ST L f L f' ∧ TblA κ L' f' tb hs wt wh wi ((n + 1 : Nat) : Int) HH (va_up WT n t) (va_up WH n v) (va_up WI n r))) := by
  refine k_head RX3 [(0, .ref tb), (1, .int (iI t)), (2, .int (iI v)), (3, .int (iI (bI r)))] rfl (by decide) (Nat.le_of_ble_eq_true rfl) rfl (fun θ hθ hin => ?_)
  refine k_aload_n 0 0 dX3_noteWater_0 rfl rfl ?_
  refine k_get 4 i_X3 q_121 ctb rfl (by decide) rfl dX3_noteWater_1 ?_
  refine k_sipush dX3_noteWater_4 (by decide) ?_
  refine k_icmp_ge 50 dX3_noteWater_7 (by decide) (inI_mk (by omega) (by omega)) (inI_mk (by omega) (by omega)) (fun h7 => ?_) (fun h7 => ?_)
  · omega
  · refine k_aload_n 0 0 dX3_noteWater_10 rfl rfl ?_
    refine k_get 1 i_X3 q_118 ctb rfl (by decide) rfl dX3_noteWater_11 ?_
    refine k_aload_n 0 0 dX3_noteWater_14 rfl rfl ?_
    refine k_get 4 i_X3 q_121 ctb rfl (by decide) rfl dX3_noteWater_15 ?_
    refine k_iload_n 1 1 dX3_noteWater_18 rfl rfl ?_
    refine k_iast n cwt rfl (by omega) (by omega) dX3_noteWater_19 (fun f1 hf1 hc1 => ?_)
    have hr1 := k_fr.put hf1 cwt
    replace ctb := ctb.fr hr1 rfl
    replace chs := chs.fr hr1 rfl
    replace cwh := cwh.fr hr1 rfl
    replace cwi := cwi.fr hr1 rfl
    replace cwt : Cl L f1 wt (8, .inl (κ.2.2.1 0, 4320, .inl (fun u9 => iI ((va_up WT n t) u9)))) := hc1
    refine k_aload_n 0 0 dX3_noteWater_20 rfl rfl ?_
    refine k_get 2 i_X3 q_119 ctb rfl (by decide) rfl dX3_noteWater_21 ?_
    refine k_aload_n 0 0 dX3_noteWater_24 rfl rfl ?_
    refine k_get 4 i_X3 q_121 ctb rfl (by decide) rfl dX3_noteWater_25 ?_
    refine k_iload_n 2 2 dX3_noteWater_28 rfl rfl ?_
    refine k_iast n cwh rfl (by omega) (by omega) dX3_noteWater_29 (fun f2 hf2 hc2 => ?_)
    have hr2 := k_fr.put hf2 cwh
    replace ctb := ctb.fr hr2 rfl
    replace chs := chs.fr hr2 rfl
    replace cwt := cwt.fr hr2 rfl
    replace cwi := cwi.fr hr2 rfl
    replace cwh : Cl L f2 wh (9, .inl (κ.2.2.1 0, 4320, .inl (fun u9 => iI ((va_up WH n v) u9)))) := hc2
    refine k_aload_n 0 0 dX3_noteWater_30 rfl rfl ?_
    refine k_get 3 i_X3 q_120 ctb rfl (by decide) rfl dX3_noteWater_31 ?_
    refine k_aload_n 0 0 dX3_noteWater_34 rfl rfl ?_
    refine k_get 4 i_X3 q_121 ctb rfl (by decide) rfl dX3_noteWater_35 ?_
    refine k_iload_n 3 3 dX3_noteWater_38 rfl rfl ?_
    refine k_zast n cwi rfl (by omega) (by omega) dX3_noteWater_39 (fun f3 hf3 hc3 => ?_)
    have hr3 := k_fr.put hf3 cwi
    replace ctb := ctb.fr hr3 rfl
    replace chs := chs.fr hr3 rfl
    replace cwt := cwt.fr hr3 rfl
    replace cwh := cwh.fr hr3 rfl
    replace cwi : Cl L f3 wi (10, .inl (κ.2.2.1 2, 4320, .inl (fun u9 => iI (bI ((va_up WI n r) u9))))) := hc3
    refine k_aload_n 0 0 dX3_noteWater_40 rfl rfl ?_
    refine k_dup dX3_noteWater_41 rfl ?_
    refine k_get 4 i_X3 q_121 ctb rfl (by decide) rfl dX3_noteWater_42 ?_
    refine k_iconst dX3_noteWater_45 ?_
    refine k_iadd dX3_noteWater_46 ?_
    refine k_put 4 [.ref hs, .ref wt, .ref wh, .ref wi, .int (iI ((n : Int) + 1))] i_X3 tyX3_ok nmX3 q_121 ctb rfl (by decide) rfl rfl rfl rfl (Nat.le_of_ble_eq_true rfl) rfl dX3_noteWater_47 (fun f4 hf4 hc4 => ?_)
    have hr4 := k_fr.put hf4 ctb
    replace chs := chs.fr hr4 rfl
    replace cwt := cwt.fr hr4 rfl
    replace cwh := cwh.fr hr4 rfl
    replace cwi := cwi.fr hr4 rfl
    replace ctb : Cl L f4 tb (3, .inr (4, [.ref hs, .ref wt, .ref wh, .ref wi, .int (iI ((n : Int) + 1))])) := hc4
    exact k_vret dX3_noteWater_50 rfl (Nat.le_of_ble_eq_true rfl) (Nat.le_of_ble_eq_true rfl) (⟨rfl, rfl, (k_fr.trans (k_fr.trans (k_fr.trans (k_fr.mono hr1 ST_8) hr2 idf ST_9) hr3 idf ST_10) hr4 idf ST_3), ctb, chs, cwt, cwh, cwi⟩)
set_option maxHeartbeats 4000000 in
set_option maxRecDepth 100000 in
theorem c_X3_findWaters (la : Launch) (κ : Kx) {L : List Nat} {f : Nat → wE} {tb hs wt wh wi : Nat} {HH WT WH : Nat → Int} {WI : Nat → Bool} {h : Nat → Int} {n0 : Int} (ctb : Cl L f tb (3, .inr (4, [.ref hs, .ref wt, .ref wh, .ref wi, .int (iI n0)]))) (chs : Cl L f hs (7, .inl (κ.2.2.1 0, 4320, .inl (fun u9 => iI (HH u9))))) (cwt : Cl L f wt (8, .inl (κ.2.2.1 0, 4320, .inl (fun u9 => iI (WT u9))))) (cwh : Cl L f wh (9, .inl (κ.2.2.1 0, 4320, .inl (fun u9 => iI (WH u9))))) (cwi : Cl L f wi (10, .inl (κ.2.2.1 2, 4320, .inl (fun u9 => iI (bI (WI u9))))))  (hHH : ∀ t, t < 4320 → HH t = h t) (hb : ∀ t, -50000 ≤ h t ∧ h t ≤ 50000) : k_M la κ yX3_findWaters cX3_findWaters 5 none 2 0 0 [.ref tb] L f (k_ru (fun L' f' => L' = L ∧ k_fr ST L f L f' ∧ TblR κ L' f' tb h)) := by
  refine k_head RX3 [(0, .ref tb)] rfl (by decide) (Nat.le_of_ble_eq_true rfl) rfl (fun θ hθ hin => ?_)
  have hHb : ∀ t, t < 4320 → inI (HH t) := fun t ht => by
    have e := hHH t ht
    have e1 := hb t
    exact inI_mk (by omega) (by omega)
  refine k_aload_n 0 0 dX3_findWaters_0 rfl rfl ?_
  refine k_iconst dX3_findWaters_1 ?_
  refine k_put 4 [.ref hs, .ref wt, .ref wh, .ref wi, .int (iI 0)] i_X3 tyX3_ok nmX3 q_121 ctb rfl (by decide) rfl rfl rfl rfl (Nat.le_of_ble_eq_true rfl) rfl dX3_findWaters_2 (fun f1 hf1 hc1 => ?_)
  have hr1 := k_fr.put hf1 ctb
  replace chs := chs.fr hr1 rfl
  replace cwt := cwt.fr hr1 rfl
  replace cwh := cwh.fr hr1 rfl
  replace cwi := cwi.fr hr1 rfl
  replace ctb : Cl L f1 tb (3, .inr (4, [.ref hs, .ref wt, .ref wh, .ref wi, .int (iI 0)])) := hc1
  refine k_iconst dX3_findWaters_5 ?_
  refine k_istore_n 1 [(1, .int (iI 0)), (0, .ref tb)] dX3_findWaters_6 rfl (by decide) rfl ?_
  refine k_iconst dX3_findWaters_7 ?_
  refine k_istore_n 2 [(2, .int (iI 0)), (1, .int (iI 0)), (0, .ref tb)] dX3_findWaters_8 rfl (by decide) rfl ?_
  refine k_iconst dX3_findWaters_9 ?_
  refine k_istore_n 3 [(3, .int (iI 1)), (2, .int (iI 0)), (1, .int (iI 0)), (0, .ref tb)] dX3_findWaters_10 rfl (by decide) rfl ?_
  have lp11 : ∀ (fuel : Nat) (f9 : Nat → wE) (i c n : Nat) (r : Bool) (WT9 WH9 : Nat → Int) (WI9 : Nat → Bool), (1 ≤ i ∧ i ≤ 4320) → (FW h i c n r WT9 WH9 WI9) → (k_fr ST L f L f9) → (Cl L f9 tb (3, .inr (4, [.ref hs, .ref wt, .ref wh, .ref wi, .int (iI (n : Int))]))) → (Cl L f9 hs (7, .inl (κ.2.2.1 0, 4320, .inl (fun u9 => iI (HH u9))))) → (Cl L f9 wt (8, .inl (κ.2.2.1 0, 4320, .inl (fun u9 => iI (WT9 u9))))) → (Cl L f9 wh (9, .inl (κ.2.2.1 0, 4320, .inl (fun u9 => iI (WH9 u9))))) → (Cl L f9 wi (10, .inl (κ.2.2.1 2, 4320, .inl (fun u9 => iI (bI (WI9 u9)))))) → 4320 - i < fuel → k_G θ κ cX3_findWaters 5 none RX3 (k_rm 2 0 0) (k_MQ θ κ (k_ru (fun L' f' => L' = L ∧ k_fr ST L f L f' ∧ TblR κ L' f' tb h)) 0 0) L f9 0 0 11 [(0, .ref tb), (1, .int (iI (c : Int))), (2, .int (iI (bI r))), (3, .int (iI (i : Int)))] [] := by
    intro fuel
    induction fuel with
    | zero =>
      intro f9 i c n r WT9 WH9 WI9 hi1 hF hfr ctb chs cwt cwh cwi hfu
      exact absurd hfu (Nat.not_lt_zero _)
    | succ fuel ih =>
      intro f9 i c n r WT9 WH9 WI9 hi1 hF hfr ctb chs cwt cwh cwi hfu
      have hci := hF.1
      have hnc : n ≤ c := by rw [hF.2.2.2.1]; exact wc_le h c
      refine k_iload_n 3 3 dX3_findWaters_11 rfl rfl ?_
      refine k_aload_n 0 0 dX3_findWaters_12 rfl rfl ?_
      refine k_get 0 i_X3 q_117 ctb rfl (by decide) rfl dX3_findWaters_13 ?_
      refine k_alen (t0 := 0) chs rfl dX3_findWaters_16 ?_
      refine k_icmp_ge 99 dX3_findWaters_17 (by decide) (inI_mk (by omega) (by omega)) (inI_mk (by omega) (by omega)) (fun h17 => ?_) (fun h17 => ?_)
      · have e99 : i = 4320 := by omega
        subst e99
        obtain ⟨en, hW2⟩ := hF.fin
        subst en
        exact k_vret dX3_findWaters_99 rfl (Nat.le_of_ble_eq_true rfl) (Nat.le_of_ble_eq_true rfl) (⟨rfl, rfl, hfr, hs, wt, wh, wi, HH, WT9, WH9, WI9, ⟨ctb, chs, cwt, cwh, cwi⟩, hHH, hW2⟩)
      · refine k_aload_n 0 0 dX3_findWaters_20 rfl rfl ?_
        refine k_get 0 i_X3 q_117 ctb rfl (by decide) rfl dX3_findWaters_21 ?_
        refine k_iload_n 3 3 dX3_findWaters_24 rfl rfl ?_
        refine k_iald i chs rfl (by omega) (by omega) dX3_findWaters_25 ?_
        refine k_aload_n 0 0 dX3_findWaters_26 rfl rfl ?_
        refine k_get 0 i_X3 q_117 ctb rfl (by decide) rfl dX3_findWaters_27 ?_
        refine k_iload_n 3 3 dX3_findWaters_30 rfl rfl ?_
        refine k_iconst dX3_findWaters_31 ?_
        refine k_isub dX3_findWaters_32 ?_
        refine k_iald (i - 1) chs (by omega) (by omega) (by omega) dX3_findWaters_33 ?_
        refine k_icmp_ne 40 dX3_findWaters_34 (by decide) (hHb i (by omega)) (hHb (i - 1) (by omega)) (fun h34 => ?_) (fun h34 => ?_)
        · rw [hHH i (by omega), hHH (i - 1) (by omega)] at h34
          refine k_aload_n 0 0 dX3_findWaters_40 rfl rfl ?_
          refine k_get 0 i_X3 q_117 ctb rfl (by decide) rfl dX3_findWaters_41 ?_
          refine k_iload_n 3 3 dX3_findWaters_44 rfl rfl ?_
          refine k_iald i chs rfl (by omega) (by omega) dX3_findWaters_45 ?_
          refine k_aload_n 0 0 dX3_findWaters_46 rfl rfl ?_
          refine k_get 0 i_X3 q_117 ctb rfl (by decide) rfl dX3_findWaters_47 ?_
          refine k_iload_n 3 3 dX3_findWaters_50 rfl rfl ?_
          refine k_iconst dX3_findWaters_51 ?_
          refine k_isub dX3_findWaters_52 ?_
          refine k_iald (i - 1) chs (by omega) (by omega) (by omega) dX3_findWaters_53 ?_
          refine k_icmp_le 61 dX3_findWaters_54 (by decide) (hHb i (by omega)) (hHb (i - 1) (by omega)) (fun h54 => ?_) (fun h54 => ?_)
          · rw [hHH i (by omega), hHH (i - 1) (by omega)] at h54
            refine k_iconst dX3_findWaters_61 ?_
            refine k_istore [(4, .int (iI 0)), (0, .ref tb), (1, .int (iI (c : Int))), (2, .int (iI (bI r))), (3, .int (iI (i : Int)))] dX3_findWaters_62 (by decide) rfl ?_
            refine k_iload_n 2 1 dX3_findWaters_64 rfl rfl ?_
            refine k_if_le 88 dX3_findWaters_65 (by decide) (inI_mk (by omega) (by omega)) (fun h65 => ?_) (fun h65 => ?_)
            · refine k_iload_n 4 3 dX3_findWaters_88 rfl rfl ?_
              refine k_istore_n 1 [(1, .int (iI (i : Int))), (4, .int (iI 0)), (0, .ref tb), (2, .int (iI (bI r))), (3, .int (iI (i : Int)))] dX3_findWaters_89 rfl (by decide) rfl ?_
              refine k_iload 1 dX3_findWaters_90 rfl ?_
              refine k_istore_n 2 [(2, .int (iI 0)), (1, .int (iI (i : Int))), (4, .int (iI 0)), (0, .ref tb), (3, .int (iI (i : Int)))] dX3_findWaters_92 rfl (by decide) rfl ?_
              refine k_iinc 4 [(3, .int (iI ((i : Int) + 1))), (2, .int (iI 0)), (1, .int (iI (i : Int))), (4, .int (iI 0)), (0, .ref tb)] dX3_findWaters_93 rfl (by decide) rfl ?_
              refine k_goto 11 dX3_findWaters_96 (by decide) ?_
              refine k_perm [4, 2, 1, 0] [(0, .ref tb), (1, .int (iI (i : Int))), (2, .int (iI 0)), (3, .int (iI ((i : Int) + 1)))] rfl ?_
              have hdc : decide (h (i - 1) < h i) = false := decide_eq_false (by omega)
              have hF2 := hF.no (by omega) h34 (fun q => absurd q.1 (by omega))
              rw [hdc] at hF2
              exact ih f9 (i + 1) i n false WT9 WH9 WI9 ⟨by omega, by omega⟩ hF2 hfr ctb chs cwt cwh cwi (by omega)
            · refine k_iload 0 dX3_findWaters_68 rfl ?_
              refine k_iload_n 3 2 dX3_findWaters_70 rfl rfl ?_
              refine k_icmp_eq 88 dX3_findWaters_71 (by decide) (inI_mk (by omega) (by omega)) (bI_in _) (fun h71 => ?_) (fun h71 => ?_)
              · refine k_iload_n 4 3 dX3_findWaters_88 rfl rfl ?_
                refine k_istore_n 1 [(1, .int (iI (i : Int))), (4, .int (iI 0)), (0, .ref tb), (2, .int (iI (bI r))), (3, .int (iI (i : Int)))] dX3_findWaters_89 rfl (by decide) rfl ?_
                refine k_iload 1 dX3_findWaters_90 rfl ?_
                refine k_istore_n 2 [(2, .int (iI 0)), (1, .int (iI (i : Int))), (4, .int (iI 0)), (0, .ref tb), (3, .int (iI (i : Int)))] dX3_findWaters_92 rfl (by decide) rfl ?_
                refine k_iinc 4 [(3, .int (iI ((i : Int) + 1))), (2, .int (iI 0)), (1, .int (iI (i : Int))), (4, .int (iI 0)), (0, .ref tb)] dX3_findWaters_93 rfl (by decide) rfl ?_
                refine k_goto 11 dX3_findWaters_96 (by decide) ?_
                refine k_perm [4, 2, 1, 0] [(0, .ref tb), (1, .int (iI (i : Int))), (2, .int (iI 0)), (3, .int (iI ((i : Int) + 1)))] rfl ?_
                have hdc : decide (h (i - 1) < h i) = false := decide_eq_false (by omega)
                have hF2 := hF.no (by omega) h34 (fun q => q.2 ((bI_inj (a := r) (b := false) h71.symm).trans hdc.symm))
                rw [hdc] at hF2
                exact ih f9 (i + 1) i n false WT9 WH9 WI9 ⟨by omega, by omega⟩ hF2 hfr ctb chs cwt cwh cwi (by omega)
              · refine k_aload_n 1 0 dX3_findWaters_74 rfl rfl ?_
                refine k_iload_n 2 1 dX3_findWaters_75 rfl rfl ?_
                refine k_aload_n 1 0 dX3_findWaters_76 rfl rfl ?_
                refine k_get 0 i_X3 q_117 ctb rfl (by decide) rfl dX3_findWaters_77 ?_
                refine k_iload_n 4 3 dX3_findWaters_80 rfl rfl ?_
                refine k_iconst dX3_findWaters_81 ?_
                refine k_isub dX3_findWaters_82 ?_
                refine k_iald (i - 1) chs (by omega) (by omega) (by omega) dX3_findWaters_83 ?_
                refine k_topi (h (i - 1)) (hHH (i - 1) (by omega)) ?_
                refine k_iload_n 3 2 dX3_findWaters_84 rfl rfl ?_
                refine k_useU (k_runV (c_X3_noteWater θ.2.1 κ (n := n) (tb := tb) (t := (c : Int)) (v := (h (i - 1))) (r := r) ctb chs cwt cwh cwi (by omega)) w_X3_38 ⟨q_225, q_4⟩ rfl rfl ctb rfl ⟨(Nat.le_of_ble_eq_true rfl), (Nat.le_of_ble_eq_true rfl)⟩ (Nat.le_of_ble_eq_true rfl) dX3_findWaters_85) ⟨(Nat.le_of_ble_eq_true rfl), (Nat.le_of_ble_eq_true rfl)⟩ (fun Ln fn hw => ?_)
                obtain ⟨en, hrn, ctb9, chs9, cwt9, cwh9, cwi9⟩ := hw
                replace en := en.symm
                subst en
                replace ctb := ctb9
                replace chs := chs9
                replace cwt := cwt9
                replace cwh := cwh9
                replace cwi := cwi9
                refine k_iload_n 4 3 dX3_findWaters_88 rfl rfl ?_
                refine k_istore_n 1 [(1, .int (iI (i : Int))), (4, .int (iI 0)), (0, .ref tb), (2, .int (iI (bI r))), (3, .int (iI (i : Int)))] dX3_findWaters_89 rfl (by decide) rfl ?_
                refine k_iload 1 dX3_findWaters_90 rfl ?_
                refine k_istore_n 2 [(2, .int (iI 0)), (1, .int (iI (i : Int))), (4, .int (iI 0)), (0, .ref tb), (3, .int (iI (i : Int)))] dX3_findWaters_92 rfl (by decide) rfl ?_
                refine k_iinc 4 [(3, .int (iI ((i : Int) + 1))), (2, .int (iI 0)), (1, .int (iI (i : Int))), (4, .int (iI 0)), (0, .ref tb)] dX3_findWaters_93 rfl (by decide) rfl ?_
                refine k_goto 11 dX3_findWaters_96 (by decide) ?_
                refine k_perm [4, 2, 1, 0] [(0, .ref tb), (1, .int (iI (i : Int))), (2, .int (iI 0)), (3, .int (iI ((i : Int) + 1)))] rfl ?_
                have hdc : decide (h (i - 1) < h i) = false := decide_eq_false (by omega)
                have hF2 := hF.yes (by omega) h34 ⟨by omega, fun q => h71 ((congrArg bI (q.trans hdc)).symm)⟩
                rw [hdc] at hF2
                exact ih fn (i + 1) i (n + 1) false (va_up WT9 n (c : Int)) (va_up WH9 n (h (i - 1))) (va_up WI9 n r) ⟨by omega, by omega⟩ hF2 (k_fr.trans hfr hrn idf idf) ctb chs cwt cwh cwi (by omega)
          · rw [hHH i (by omega), hHH (i - 1) (by omega)] at h54
            refine k_iconst dX3_findWaters_57 ?_
            refine k_goto 62 dX3_findWaters_58 (by decide) ?_
            refine k_istore [(4, .int (iI 1)), (0, .ref tb), (1, .int (iI (c : Int))), (2, .int (iI (bI r))), (3, .int (iI (i : Int)))] dX3_findWaters_62 (by decide) rfl ?_
            refine k_iload_n 2 1 dX3_findWaters_64 rfl rfl ?_
            refine k_if_le 88 dX3_findWaters_65 (by decide) (inI_mk (by omega) (by omega)) (fun h65 => ?_) (fun h65 => ?_)
            · refine k_iload_n 4 3 dX3_findWaters_88 rfl rfl ?_
              refine k_istore_n 1 [(1, .int (iI (i : Int))), (4, .int (iI 1)), (0, .ref tb), (2, .int (iI (bI r))), (3, .int (iI (i : Int)))] dX3_findWaters_89 rfl (by decide) rfl ?_
              refine k_iload 1 dX3_findWaters_90 rfl ?_
              refine k_istore_n 2 [(2, .int (iI 1)), (1, .int (iI (i : Int))), (4, .int (iI 1)), (0, .ref tb), (3, .int (iI (i : Int)))] dX3_findWaters_92 rfl (by decide) rfl ?_
              refine k_iinc 4 [(3, .int (iI ((i : Int) + 1))), (2, .int (iI 1)), (1, .int (iI (i : Int))), (4, .int (iI 1)), (0, .ref tb)] dX3_findWaters_93 rfl (by decide) rfl ?_
              refine k_goto 11 dX3_findWaters_96 (by decide) ?_
              refine k_perm [4, 2, 1, 0] [(0, .ref tb), (1, .int (iI (i : Int))), (2, .int (iI 1)), (3, .int (iI ((i : Int) + 1)))] rfl ?_
              have hdc : decide (h (i - 1) < h i) = true := decide_eq_true (by omega)
              have hF2 := hF.no (by omega) h34 (fun q => absurd q.1 (by omega))
              rw [hdc] at hF2
              exact ih f9 (i + 1) i n true WT9 WH9 WI9 ⟨by omega, by omega⟩ hF2 hfr ctb chs cwt cwh cwi (by omega)
            · refine k_iload 0 dX3_findWaters_68 rfl ?_
              refine k_iload_n 3 2 dX3_findWaters_70 rfl rfl ?_
              refine k_icmp_eq 88 dX3_findWaters_71 (by decide) (inI_mk (by omega) (by omega)) (bI_in _) (fun h71 => ?_) (fun h71 => ?_)
              · refine k_iload_n 4 3 dX3_findWaters_88 rfl rfl ?_
                refine k_istore_n 1 [(1, .int (iI (i : Int))), (4, .int (iI 1)), (0, .ref tb), (2, .int (iI (bI r))), (3, .int (iI (i : Int)))] dX3_findWaters_89 rfl (by decide) rfl ?_
                refine k_iload 1 dX3_findWaters_90 rfl ?_
                refine k_istore_n 2 [(2, .int (iI 1)), (1, .int (iI (i : Int))), (4, .int (iI 1)), (0, .ref tb), (3, .int (iI (i : Int)))] dX3_findWaters_92 rfl (by decide) rfl ?_
                refine k_iinc 4 [(3, .int (iI ((i : Int) + 1))), (2, .int (iI 1)), (1, .int (iI (i : Int))), (4, .int (iI 1)), (0, .ref tb)] dX3_findWaters_93 rfl (by decide) rfl ?_
                refine k_goto 11 dX3_findWaters_96 (by decide) ?_
                refine k_perm [4, 2, 1, 0] [(0, .ref tb), (1, .int (iI (i : Int))), (2, .int (iI 1)), (3, .int (iI ((i : Int) + 1)))] rfl ?_
                have hdc : decide (h (i - 1) < h i) = true := decide_eq_true (by omega)
                have hF2 := hF.no (by omega) h34 (fun q => q.2 ((bI_inj (a := r) (b := true) h71.symm).trans hdc.symm))
                rw [hdc] at hF2
                exact ih f9 (i + 1) i n true WT9 WH9 WI9 ⟨by omega, by omega⟩ hF2 hfr ctb chs cwt cwh cwi (by omega)
              · refine k_aload_n 1 0 dX3_findWaters_74 rfl rfl ?_
                refine k_iload_n 2 1 dX3_findWaters_75 rfl rfl ?_
                refine k_aload_n 1 0 dX3_findWaters_76 rfl rfl ?_
                refine k_get 0 i_X3 q_117 ctb rfl (by decide) rfl dX3_findWaters_77 ?_
                refine k_iload_n 4 3 dX3_findWaters_80 rfl rfl ?_
                refine k_iconst dX3_findWaters_81 ?_
                refine k_isub dX3_findWaters_82 ?_
                refine k_iald (i - 1) chs (by omega) (by omega) (by omega) dX3_findWaters_83 ?_
                refine k_topi (h (i - 1)) (hHH (i - 1) (by omega)) ?_
                refine k_iload_n 3 2 dX3_findWaters_84 rfl rfl ?_
                refine k_useU (k_runV (c_X3_noteWater θ.2.1 κ (n := n) (tb := tb) (t := (c : Int)) (v := (h (i - 1))) (r := r) ctb chs cwt cwh cwi (by omega)) w_X3_38 ⟨q_225, q_4⟩ rfl rfl ctb rfl ⟨(Nat.le_of_ble_eq_true rfl), (Nat.le_of_ble_eq_true rfl)⟩ (Nat.le_of_ble_eq_true rfl) dX3_findWaters_85) ⟨(Nat.le_of_ble_eq_true rfl), (Nat.le_of_ble_eq_true rfl)⟩ (fun Ln fn hw => ?_)
                obtain ⟨en, hrn, ctb9, chs9, cwt9, cwh9, cwi9⟩ := hw
                replace en := en.symm
                subst en
                replace ctb := ctb9
                replace chs := chs9
                replace cwt := cwt9
                replace cwh := cwh9
                replace cwi := cwi9
                refine k_iload_n 4 3 dX3_findWaters_88 rfl rfl ?_
                refine k_istore_n 1 [(1, .int (iI (i : Int))), (4, .int (iI 1)), (0, .ref tb), (2, .int (iI (bI r))), (3, .int (iI (i : Int)))] dX3_findWaters_89 rfl (by decide) rfl ?_
                refine k_iload 1 dX3_findWaters_90 rfl ?_
                refine k_istore_n 2 [(2, .int (iI 1)), (1, .int (iI (i : Int))), (4, .int (iI 1)), (0, .ref tb), (3, .int (iI (i : Int)))] dX3_findWaters_92 rfl (by decide) rfl ?_
                refine k_iinc 4 [(3, .int (iI ((i : Int) + 1))), (2, .int (iI 1)), (1, .int (iI (i : Int))), (4, .int (iI 1)), (0, .ref tb)] dX3_findWaters_93 rfl (by decide) rfl ?_
                refine k_goto 11 dX3_findWaters_96 (by decide) ?_
                refine k_perm [4, 2, 1, 0] [(0, .ref tb), (1, .int (iI (i : Int))), (2, .int (iI 1)), (3, .int (iI ((i : Int) + 1)))] rfl ?_
                have hdc : decide (h (i - 1) < h i) = true := decide_eq_true (by omega)
                have hF2 := hF.yes (by omega) h34 ⟨by omega, fun q => h71 ((congrArg bI (q.trans hdc)).symm)⟩
                rw [hdc] at hF2
                exact ih fn (i + 1) i (n + 1) true (va_up WT9 n (c : Int)) (va_up WH9 n (h (i - 1))) (va_up WI9 n r) ⟨by omega, by omega⟩ hF2 (k_fr.trans hfr hrn idf idf) ctb chs cwt cwh cwi (by omega)
        · rw [hHH i (by omega), hHH (i - 1) (by omega)] at h34
          refine k_goto 93 dX3_findWaters_37 (by decide) ?_
          refine k_iinc 3 [(3, .int (iI ((i : Int) + 1))), (0, .ref tb), (1, .int (iI (c : Int))), (2, .int (iI (bI r)))] dX3_findWaters_93 rfl (by decide) rfl ?_
          refine k_goto 11 dX3_findWaters_96 (by decide) ?_
          refine k_perm [1, 2, 3, 0] [(0, .ref tb), (1, .int (iI (c : Int))), (2, .int (iI (bI r))), (3, .int (iI ((i : Int) + 1)))] rfl ?_
          have hF2 := hF.same h34
          exact ih f9 (i + 1) c n r WT9 WH9 WI9 ⟨by omega, by omega⟩ hF2 hfr ctb chs cwt cwh cwi (by omega)
  refine k_perm [3, 2, 1, 0] [(0, .ref tb), (1, .int (iI 0)), (2, .int (iI 0)), (3, .int (iI 1))] rfl ?_
  exact lp11 _ f1 1 0 0 false WT WH WI ⟨by omega, by omega⟩ ⟨by omega, Or.inl rfl, fun j q1 q2 => absurd q2 (by omega), rfl, fun k hk => absurd hk (Nat.not_lt_zero _)⟩ (k_fr.mono hr1 ST_3) ctb chs cwt cwh cwi (Nat.lt_succ_self _)
set_option maxHeartbeats 4000000 in
set_option maxRecDepth 100000 in
theorem c_X3_fill (la : Launch) (κ : Kx) {L : List Nat} {f : Nat → wE} {tb td : Nat} {τ : Td}  (hX : TblX κ L f tb) (hTd : TideR κ L f td τ) (hok : TdOk τ) : k_M la κ yX3_fill cX3_fill 3 none 5 0 0 [.ref tb, .ref td] L f (k_ru (fun L' f' => L' = L ∧ k_fr ST L f L f' ∧ TblR κ L' f' tb (hT τ))) := by
  refine k_head RX3 [(0, .ref tb), (1, .ref td)] rfl (by decide) (Nat.le_of_ble_eq_true rfl) rfl (fun θ hθ hin => ?_)
  obtain ⟨hs, wt, wh, wi, n0, HH, WT, WH, WI, ctb, chs, cwt, cwh, cwi⟩ := hX
  refine k_iconst dX3_fill_0 ?_
  refine k_istore_n 2 [(2, .int (iI 0)), (0, .ref tb), (1, .ref td)] dX3_fill_1 rfl (by decide) rfl ?_
  have lp2 : ∀ (fuel : Nat) (f9 : Nat → wE) (i : Nat) (HH9 : Nat → Int), (i ≤ 4320) → (∀ t, t < i → HH9 t = hT τ t) → (k_fr ST L f L f9) → (Cl L f9 tb (3, .inr (4, [.ref hs, .ref wt, .ref wh, .ref wi, .int (iI n0)]))) → (Cl L f9 hs (7, .inl (κ.2.2.1 0, 4320, .inl (fun u9 => iI (HH9 u9))))) → (Cl L f9 wt (8, .inl (κ.2.2.1 0, 4320, .inl (fun u9 => iI (WT u9))))) → (Cl L f9 wh (9, .inl (κ.2.2.1 0, 4320, .inl (fun u9 => iI (WH u9))))) → (Cl L f9 wi (10, .inl (κ.2.2.1 2, 4320, .inl (fun u9 => iI (bI (WI u9)))))) → (TideR κ L f9 td τ) → 4320 - i < fuel → k_G θ κ cX3_fill 3 none RX3 (k_rm 5 0 0) (k_MQ θ κ (k_ru (fun L' f' => L' = L ∧ k_fr ST L f L f' ∧ TblR κ L' f' tb (hT τ))) 0 0) L f9 0 0 2 [(0, .ref tb), (1, .ref td), (2, .int (iI (i : Int)))] [] := by
    intro fuel
    induction fuel with
    | zero =>
      intro f9 i HH9 hi1 hH hfr ctb chs cwt cwh cwi hTd hfu
      exact absurd hfu (Nat.not_lt_zero _)
    | succ fuel ih =>
      intro f9 i HH9 hi1 hH hfr ctb chs cwt cwh cwi hTd hfu
      obtain ⟨wl9, ctd⟩ := hTd.cl
      refine k_iload_n 2 2 dX3_fill_2 rfl rfl ?_
      refine k_aload_n 0 0 dX3_fill_3 rfl rfl ?_
      refine k_get 0 i_X3 q_117 ctb rfl (by decide) rfl dX3_fill_4 ?_
      refine k_alen (t0 := 0) chs rfl dX3_fill_7 ?_
      refine k_icmp_ge 28 dX3_fill_8 (by decide) (inI_mk (by omega) (by omega)) (inI_mk (by omega) (by omega)) (fun h8 => ?_) (fun h8 => ?_)
      · refine k_aload_n 0 0 dX3_fill_28 rfl rfl ?_
        refine k_useU (k_runV (c_X3_findWaters θ.2.1 κ (h := (hT τ)) (tb := tb) ctb chs cwt cwh cwi (fun t ht => hH t (by omega)) (hT_bd hok)) w_X3_31 ⟨q_221, q_3⟩ rfl rfl ctb rfl ⟨(Nat.le_of_ble_eq_true rfl), (Nat.le_of_ble_eq_true rfl)⟩ (Nat.le_of_ble_eq_true rfl) dX3_fill_29) ⟨(Nat.le_of_ble_eq_true rfl), (Nat.le_of_ble_eq_true rfl)⟩ (fun Ln fn hw => ?_)
        obtain ⟨en, hrn, hTb⟩ := hw
        replace en := en.symm
        subst en
        exact k_vret dX3_fill_32 rfl (Nat.le_of_ble_eq_true rfl) (Nat.le_of_ble_eq_true rfl) (⟨rfl, rfl, k_fr.trans hfr hrn idf idf, hTb⟩)
      · refine k_aload_n 0 0 dX3_fill_11 rfl rfl ?_
        refine k_get 0 i_X3 q_117 ctb rfl (by decide) rfl dX3_fill_12 ?_
        refine k_iload_n 2 2 dX3_fill_15 rfl rfl ?_
        refine k_aload_n 1 1 dX3_fill_16 rfl rfl ?_
        refine k_iload_n 2 2 dX3_fill_17 rfl rfl ?_
        refine k_useR (k_runV (c_X5_heightAt θ.2.1 κ (td := td) (t := i) hTd hok (by omega)) w_X3_25 ⟨q_187, q_188⟩ rfl rfl ctd rfl ⟨(Nat.le_of_ble_eq_true rfl), (Nat.le_of_ble_eq_true rfl)⟩ (Nat.le_of_ble_eq_true rfl) dX3_fill_18) ⟨(Nat.le_of_ble_eq_true rfl), (Nat.le_of_ble_eq_true rfl)⟩ ?_
        refine k_iast i chs rfl (by omega) (by omega) dX3_fill_21 (fun f1 hf1 hc1 => ?_)
        have hr1 := k_fr.put hf1 chs
        replace ctb := ctb.fr hr1 rfl
        replace cwt := cwt.fr hr1 rfl
        replace cwh := cwh.fr hr1 rfl
        replace cwi := cwi.fr hr1 rfl
        replace hTd := hTd.fr hr1 rfl
        replace chs : Cl L f1 hs (7, .inl (κ.2.2.1 0, 4320, .inl (fun u9 => iI ((va_up HH9 i (hT τ i)) u9)))) := hc1
        refine k_iinc 2 [(2, .int (iI ((i : Int) + 1))), (0, .ref tb), (1, .ref td)] dX3_fill_22 rfl (by decide) rfl ?_
        refine k_goto 2 dX3_fill_25 (by decide) ?_
        refine k_perm [1, 2, 0] [(0, .ref tb), (1, .ref td), (2, .int (iI ((i : Int) + 1)))] rfl ?_
        have hH2 : ∀ t, t < i + 1 → (va_up HH9 i (hT τ i)) t = hT τ t := fun t ht => by
          by_cases q : t = i
          · subst q
            exact va_up_self _ _ _
          · rw [va_up_ne _ _ q]
            exact hH t (by omega)
        exact ih f1 (i + 1) (va_up HH9 i (hT τ i)) (by omega) hH2 (k_fr.trans hfr hr1 idf ST_7) ctb chs cwt cwh cwi hTd (by omega)
  refine k_perm [1, 2, 0] [(0, .ref tb), (1, .ref td), (2, .int (iI 0))] rfl ?_
  exact lp2 _ f 0 HH (Nat.zero_le _) (fun t ht => absurd ht (Nat.not_lt_zero _)) k_fr.refl ctb chs cwt cwh cwi hTd (Nat.lt_succ_self _)
set_option maxHeartbeats 4000000 in
set_option maxRecDepth 100000 in
theorem c_X3_init (la : Launch) (κ : Kx) {L : List Nat} {f : Nat → wE} {tb : Nat} (ctb : Cl L f tb (3, .inr (4, [.null, .null, .null, .null, .int (iI 0)])))   : k_M la κ yX3_init cX3_init 1 none 1 4 17280 [.ref tb] L f (k_ru (fun L' f' => TblX κ L' f' tb ∧ k_fr (fun u => u == 3) L f L' f')) := by
  refine k_head RX3 [(0, .ref tb)] rfl (by decide) (Nat.le_of_ble_eq_true rfl) rfl (fun θ hθ hin => ?_)
  refine k_aload_n 0 0 dX3_init_0 rfl rfl ?_
  refine k_objInit q_116 q_68 q_69 (Nat.le_of_ble_eq_true rfl) (Nat.le_of_ble_eq_true rfl) dX3_init_1 ?_
  refine k_aload_n 0 0 dX3_init_4 rfl rfl ?_
  refine k_sipush dX3_init_5 (by decide) ?_
  refine k_newai 7 4320 q_135 rfl (by omega) (Nat.le_of_ble_eq_true rfl) (Nat.le_of_ble_eq_true rfl) dX3_init_8 (fun hs L1 f1 hz1 hn1 hc1 => ?_)
  have hr1 := k_fr.new hz1
  replace ctb := ctb.fr hr1 rfl
  have cHs : Cl L1 f1 hs (7, .inl (κ.2.2.1 0, 4320, .inl (fun u9 => iI ((fun _ => 0) u9)))) := hc1
  refine k_putF 0 [.ref hs, .null, .null, .null, .int (iI 0)] i_X3 tyX3_ok nmX3 q_117 ctb rfl (by decide) rfl (hin rfl) rfl rfl rfl rfl (Nat.le_of_ble_eq_true rfl) rfl dX3_init_10 (fun f2 hf2 hc2 => ?_)
  have hr2 := k_fr.put hf2 ctb
  replace cHs := cHs.fr hr2 rfl
  replace ctb : Cl L1 f2 tb (3, .inr (4, [.ref hs, .null, .null, .null, .int (iI 0)])) := hc2
  refine k_aload_n 0 0 dX3_init_13 rfl rfl ?_
  refine k_sipush dX3_init_14 (by decide) ?_
  refine k_newai 8 4320 q_135 rfl (by omega) (Nat.le_of_ble_eq_true rfl) (Nat.le_of_ble_eq_true rfl) dX3_init_17 (fun wt L3 f3 hz3 hn3 hc3 => ?_)
  have hr3 := k_fr.new hz3
  replace ctb := ctb.fr hr3 rfl
  replace cHs := cHs.fr hr3 rfl
  have cWt : Cl L3 f3 wt (8, .inl (κ.2.2.1 0, 4320, .inl (fun u9 => iI ((fun _ => 0) u9)))) := hc3
  refine k_putF 1 [.ref hs, .ref wt, .null, .null, .int (iI 0)] i_X3 tyX3_ok nmX3 q_118 ctb rfl (by decide) rfl (hin rfl) rfl rfl rfl rfl (Nat.le_of_ble_eq_true rfl) rfl dX3_init_19 (fun f4 hf4 hc4 => ?_)
  have hr4 := k_fr.put hf4 ctb
  replace cHs := cHs.fr hr4 rfl
  replace cWt := cWt.fr hr4 rfl
  replace ctb : Cl L3 f4 tb (3, .inr (4, [.ref hs, .ref wt, .null, .null, .int (iI 0)])) := hc4
  refine k_aload_n 0 0 dX3_init_22 rfl rfl ?_
  refine k_sipush dX3_init_23 (by decide) ?_
  refine k_newai 9 4320 q_135 rfl (by omega) (Nat.le_of_ble_eq_true rfl) (Nat.le_of_ble_eq_true rfl) dX3_init_26 (fun wh L5 f5 hz5 hn5 hc5 => ?_)
  have hr5 := k_fr.new hz5
  replace ctb := ctb.fr hr5 rfl
  replace cHs := cHs.fr hr5 rfl
  replace cWt := cWt.fr hr5 rfl
  have cWh : Cl L5 f5 wh (9, .inl (κ.2.2.1 0, 4320, .inl (fun u9 => iI ((fun _ => 0) u9)))) := hc5
  refine k_putF 2 [.ref hs, .ref wt, .ref wh, .null, .int (iI 0)] i_X3 tyX3_ok nmX3 q_119 ctb rfl (by decide) rfl (hin rfl) rfl rfl rfl rfl (Nat.le_of_ble_eq_true rfl) rfl dX3_init_28 (fun f6 hf6 hc6 => ?_)
  have hr6 := k_fr.put hf6 ctb
  replace cHs := cHs.fr hr6 rfl
  replace cWt := cWt.fr hr6 rfl
  replace cWh := cWh.fr hr6 rfl
  replace ctb : Cl L5 f6 tb (3, .inr (4, [.ref hs, .ref wt, .ref wh, .null, .int (iI 0)])) := hc6
  refine k_aload_n 0 0 dX3_init_31 rfl rfl ?_
  refine k_sipush dX3_init_32 (by decide) ?_
  refine k_newaz 10 4320 q_136 rfl (by omega) (Nat.le_of_ble_eq_true rfl) (Nat.le_of_ble_eq_true rfl) dX3_init_35 (fun wi L7 f7 hz7 hn7 hc7 => ?_)
  have hr7 := k_fr.new hz7
  replace ctb := ctb.fr hr7 rfl
  replace cHs := cHs.fr hr7 rfl
  replace cWt := cWt.fr hr7 rfl
  replace cWh := cWh.fr hr7 rfl
  have cWi : Cl L7 f7 wi (10, .inl (κ.2.2.1 2, 4320, .inl (fun u9 => iI (bI ((fun _ => false) u9))))) := hc7
  refine k_putF 3 [.ref hs, .ref wt, .ref wh, .ref wi, .int (iI 0)] i_X3 tyX3_ok nmX3 q_120 ctb rfl (by decide) rfl (hin rfl) rfl rfl rfl rfl (Nat.le_of_ble_eq_true rfl) rfl dX3_init_37 (fun f8 hf8 hc8 => ?_)
  have hr8 := k_fr.put hf8 ctb
  replace cHs := cHs.fr hr8 rfl
  replace cWt := cWt.fr hr8 rfl
  replace cWh := cWh.fr hr8 rfl
  replace cWi := cWi.fr hr8 rfl
  replace ctb : Cl L7 f8 tb (3, .inr (4, [.ref hs, .ref wt, .ref wh, .ref wi, .int (iI 0)])) := hc8
  exact k_vret dX3_init_40 rfl (Nat.le_of_ble_eq_true rfl) (Nat.le_of_ble_eq_true rfl) (⟨rfl, ⟨hs, wt, wh, wi, 0, (fun _ => 0), (fun _ => 0), (fun _ => 0), (fun _ => false), ctb, cHs, cWt, cWh, cWi⟩, (k_fr.trans (k_fr.trans (k_fr.trans (k_fr.trans (k_fr.trans (k_fr.trans (k_fr.trans (k_fr.mono hr1 (fun _ _ => rfl)) hr2 idf idf) hr3 idf (fun _ _ => rfl)) hr4 idf idf) hr5 idf (fun _ _ => rfl)) hr6 idf idf) hr7 idf (fun _ _ => rfl)) hr8 idf idf)⟩)
end
