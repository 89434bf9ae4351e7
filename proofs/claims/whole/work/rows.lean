section
-- ===== PART A: goes FIRST, ahead of the names: the tables' words, and 'selects' of the private methods out of them =====
/-- a private method of a class that the tables say can be made, by its rows of tables_1 -/
def lw_okq (q : MethodName × Nat) : Prop := (q.1.cls ≠ "java/lang/invoke/MethodHandle" ∧ q.1.cls ≠ "java/lang/invoke/VarHandle") ∧ Cond.instantiable q.1.cls q.2 ∈ tables_1 ∧ Cond.privateMethod q.1 ∈ tables_1 ∧ Cond.instanceMethod q.1 ∈ tables_1
theorem lw_p0 : lw_okq (⟨"CuckooPages", "seedInUse", "(LCuckooPages$Image;)I"⟩, 10) := ⟨⟨by decide +kernel, by decide +kernel⟩, List.mem_of_getElem? (i := 14) (by decide +kernel), List.mem_of_getElem? (i := 97) (by decide +kernel), List.mem_of_getElem? (i := 98) (by decide +kernel)⟩
theorem lw_p1 : lw_okq (⟨"CuckooPages", "choose", "(LCuckooPages$Image;III)I"⟩, 10) := ⟨⟨by decide +kernel, by decide +kernel⟩, List.mem_of_getElem? (i := 14) (by decide +kernel), List.mem_of_getElem? (i := 108) (by decide +kernel), List.mem_of_getElem? (i := 109) (by decide +kernel)⟩
theorem lw_p2 : lw_okq (⟨"CuckooPages", "layPath", "(LCuckooPages$Image;IIII)Z"⟩, 10) := ⟨⟨by decide +kernel, by decide +kernel⟩, List.mem_of_getElem? (i := 14) (by decide +kernel), List.mem_of_getElem? (i := 160) (by decide +kernel), List.mem_of_getElem? (i := 161) (by decide +kernel)⟩
theorem lw_p3 : lw_okq (⟨"CuckooPages", "nextOnPath", "(II)I"⟩, 10) := ⟨⟨by decide +kernel, by decide +kernel⟩, List.mem_of_getElem? (i := 14) (by decide +kernel), List.mem_of_getElem? (i := 165) (by decide +kernel), List.mem_of_getElem? (i := 166) (by decide +kernel)⟩
theorem lw_p4 : lw_okq (⟨"CuckooPages", "fillTrial", "(III)Z"⟩, 10) := ⟨⟨by decide +kernel, by decide +kernel⟩, List.mem_of_getElem? (i := 14) (by decide +kernel), List.mem_of_getElem? (i := 192) (by decide +kernel), List.mem_of_getElem? (i := 193) (by decide +kernel)⟩
theorem lw_p5 : lw_okq (⟨"CuckooPages", "takeTrial", "()V"⟩, 10) := ⟨⟨by decide +kernel, by decide +kernel⟩, List.mem_of_getElem? (i := 14) (by decide +kernel), List.mem_of_getElem? (i := 231) (by decide +kernel), List.mem_of_getElem? (i := 232) (by decide +kernel)⟩
theorem lw_p6 : lw_okq (⟨"CuckooPages", "write", "(I)V"⟩, 10) := ⟨⟨by decide +kernel, by decide +kernel⟩, List.mem_of_getElem? (i := 14) (by decide +kernel), List.mem_of_getElem? (i := 245) (by decide +kernel), List.mem_of_getElem? (i := 246) (by decide +kernel)⟩
theorem lw_p7 : lw_okq (⟨"CuckooPages", "followPath", "()V"⟩, 10) := ⟨⟨by decide +kernel, by decide +kernel⟩, List.mem_of_getElem? (i := 14) (by decide +kernel), List.mem_of_getElem? (i := 262) (by decide +kernel), List.mem_of_getElem? (i := 263) (by decide +kernel)⟩
theorem lw_p8 : lw_okq (⟨"CuckooPages", "makeMoves", "()V"⟩, 10) := ⟨⟨by decide +kernel, by decide +kernel⟩, List.mem_of_getElem? (i := 14) (by decide +kernel), List.mem_of_getElem? (i := 270) (by decide +kernel), List.mem_of_getElem? (i := 271) (by decide +kernel)⟩
theorem lw_p9 : lw_okq (⟨"java/lang/Throwable", "fillInStackTrace", "(I)Ljava/lang/Throwable;"⟩, 6) := ⟨⟨by decide +kernel, by decide +kernel⟩, List.mem_of_getElem? (i := 359) (by decide +kernel), List.mem_of_getElem? (i := 357) (by decide +kernel), List.mem_of_getElem? (i := 358) (by decide +kernel)⟩
theorem lw_p10 : lw_okq (⟨"CuckooPages", "recover", "()V"⟩, 10) := ⟨⟨by decide +kernel, by decide +kernel⟩, List.mem_of_getElem? (i := 14) (by decide +kernel), List.mem_of_getElem? (i := 416) (by decide +kernel), List.mem_of_getElem? (i := 417) (by decide +kernel)⟩
theorem lw_p11 : lw_okq (⟨"CuckooPages", "allKeys", "()I"⟩, 10) := ⟨⟨by decide +kernel, by decide +kernel⟩, List.mem_of_getElem? (i := 14) (by decide +kernel), List.mem_of_getElem? (i := 442) (by decide +kernel), List.mem_of_getElem? (i := 443) (by decide +kernel)⟩
theorem lw_p12 : lw_okq (⟨"CuckooPagesModel", "place", "(III)I"⟩, 34) := ⟨⟨by decide +kernel, by decide +kernel⟩, List.mem_of_getElem? (i := 451) (by decide +kernel), List.mem_of_getElem? (i := 569) (by decide +kernel), List.mem_of_getElem? (i := 570) (by decide +kernel)⟩
theorem lw_p13 : lw_okq (⟨"CuckooPagesModel", "find", "(III)I"⟩, 34) := ⟨⟨by decide +kernel, by decide +kernel⟩, List.mem_of_getElem? (i := 451) (by decide +kernel), List.mem_of_getElem? (i := 582) (by decide +kernel), List.mem_of_getElem? (i := 583) (by decide +kernel)⟩
theorem lw_p14 : lw_okq (⟨"CuckooPagesModel", "fill", "(IIIZ)V"⟩, 34) := ⟨⟨by decide +kernel, by decide +kernel⟩, List.mem_of_getElem? (i := 451) (by decide +kernel), List.mem_of_getElem? (i := 589) (by decide +kernel), List.mem_of_getElem? (i := 590) (by decide +kernel)⟩
theorem lw_p15 : lw_okq (⟨"CuckooPagesModel", "writePage", "(I)V"⟩, 34) := ⟨⟨by decide +kernel, by decide +kernel⟩, List.mem_of_getElem? (i := 451) (by decide +kernel), List.mem_of_getElem? (i := 593) (by decide +kernel), List.mem_of_getElem? (i := 594) (by decide +kernel)⟩
def lw_privs_1 : List (MethodName × Nat) := [(⟨"CuckooPages", "seedInUse", "(LCuckooPages$Image;)I"⟩, 10), (⟨"CuckooPages", "choose", "(LCuckooPages$Image;III)I"⟩, 10), (⟨"CuckooPages", "layPath", "(LCuckooPages$Image;IIII)Z"⟩, 10), (⟨"CuckooPages", "nextOnPath", "(II)I"⟩, 10), (⟨"CuckooPages", "fillTrial", "(III)Z"⟩, 10), (⟨"CuckooPages", "takeTrial", "()V"⟩, 10), (⟨"CuckooPages", "write", "(I)V"⟩, 10), (⟨"CuckooPages", "followPath", "()V"⟩, 10), (⟨"CuckooPages", "makeMoves", "()V"⟩, 10), (⟨"java/lang/Throwable", "fillInStackTrace", "(I)Ljava/lang/Throwable;"⟩, 6), (⟨"CuckooPages", "recover", "()V"⟩, 10), (⟨"CuckooPages", "allKeys", "()I"⟩, 10), (⟨"CuckooPagesModel", "place", "(III)I"⟩, 34), (⟨"CuckooPagesModel", "find", "(III)I"⟩, 34), (⟨"CuckooPagesModel", "fill", "(IIIZ)V"⟩, 34), (⟨"CuckooPagesModel", "writePage", "(I)V"⟩, 34)]
theorem lw_r1 : ∀ q ∈ lw_privs_1, lw_okq q := List.forall_mem_cons.mpr ⟨lw_p0, List.forall_mem_cons.mpr ⟨lw_p1, List.forall_mem_cons.mpr ⟨lw_p2, List.forall_mem_cons.mpr ⟨lw_p3, List.forall_mem_cons.mpr ⟨lw_p4, List.forall_mem_cons.mpr ⟨lw_p5, List.forall_mem_cons.mpr ⟨lw_p6, List.forall_mem_cons.mpr ⟨lw_p7, List.forall_mem_cons.mpr ⟨lw_p8, List.forall_mem_cons.mpr ⟨lw_p9, List.forall_mem_cons.mpr ⟨lw_p10, List.forall_mem_cons.mpr ⟨lw_p11, List.forall_mem_cons.mpr ⟨lw_p12, List.forall_mem_cons.mpr ⟨lw_p13, List.forall_mem_cons.mpr ⟨lw_p14, List.forall_mem_cons.mpr ⟨lw_p15, fun _ h => absurd h List.not_mem_nil⟩⟩⟩⟩⟩⟩⟩⟩⟩⟩⟩⟩⟩⟩⟩⟩
theorem lw_p16 : lw_okq (⟨"CuckooPagesModel", "next", "(I)I"⟩, 34) := ⟨⟨by decide +kernel, by decide +kernel⟩, List.mem_of_getElem? (i := 451) (by decide +kernel), List.mem_of_getElem? (i := 597) (by decide +kernel), List.mem_of_getElem? (i := 598) (by decide +kernel)⟩
theorem lw_p17 : lw_okq (⟨"CuckooPagesModel", "flush", "()I"⟩, 34) := ⟨⟨by decide +kernel, by decide +kernel⟩, List.mem_of_getElem? (i := 451) (by decide +kernel), List.mem_of_getElem? (i := 601) (by decide +kernel), List.mem_of_getElem? (i := 602) (by decide +kernel)⟩
theorem lw_p18 : lw_okq (⟨"CuckooPagesModel", "finish", "(I)V"⟩, 34) := ⟨⟨by decide +kernel, by decide +kernel⟩, List.mem_of_getElem? (i := 451) (by decide +kernel), List.mem_of_getElem? (i := 605) (by decide +kernel), List.mem_of_getElem? (i := 606) (by decide +kernel)⟩
theorem lw_p19 : lw_okq (⟨"CuckooPagesModel", "putInto", "(IIIIZ)I"⟩, 34) := ⟨⟨by decide +kernel, by decide +kernel⟩, List.mem_of_getElem? (i := 451) (by decide +kernel), List.mem_of_getElem? (i := 609) (by decide +kernel), List.mem_of_getElem? (i := 610) (by decide +kernel)⟩
theorem lw_p20 : lw_okq (⟨"CuckooPagesModel", "empty", "(II)I"⟩, 34) := ⟨⟨by decide +kernel, by decide +kernel⟩, List.mem_of_getElem? (i := 451) (by decide +kernel), List.mem_of_getElem? (i := 613) (by decide +kernel), List.mem_of_getElem? (i := 614) (by decide +kernel)⟩
theorem lw_p21 : lw_okq (⟨"CuckooPagesModel", "hasPath", "(III)Z"⟩, 34) := ⟨⟨by decide +kernel, by decide +kernel⟩, List.mem_of_getElem? (i := 451) (by decide +kernel), List.mem_of_getElem? (i := 617) (by decide +kernel), List.mem_of_getElem? (i := 618) (by decide +kernel)⟩
theorem lw_p22 : lw_okq (⟨"CuckooPagesModel", "isOnPath", "(I)Z"⟩, 34) := ⟨⟨by decide +kernel, by decide +kernel⟩, List.mem_of_getElem? (i := 451) (by decide +kernel), List.mem_of_getElem? (i := 621) (by decide +kernel), List.mem_of_getElem? (i := 622) (by decide +kernel)⟩
theorem lw_p23 : lw_okq (⟨"CuckooPagesModel", "goAlong", "(IIZ)V"⟩, 34) := ⟨⟨by decide +kernel, by decide +kernel⟩, List.mem_of_getElem? (i := 451) (by decide +kernel), List.mem_of_getElem? (i := 625) (by decide +kernel), List.mem_of_getElem? (i := 626) (by decide +kernel)⟩
theorem lw_p24 : lw_okq (⟨"CuckooPagesModel", "writeJournal", "()V"⟩, 34) := ⟨⟨by decide +kernel, by decide +kernel⟩, List.mem_of_getElem? (i := 451) (by decide +kernel), List.mem_of_getElem? (i := 629) (by decide +kernel), List.mem_of_getElem? (i := 630) (by decide +kernel)⟩
theorem lw_p25 : lw_okq (⟨"CuckooPagesModel", "makeAnew", "(II)I"⟩, 34) := ⟨⟨by decide +kernel, by decide +kernel⟩, List.mem_of_getElem? (i := 451) (by decide +kernel), List.mem_of_getElem? (i := 633) (by decide +kernel), List.mem_of_getElem? (i := 634) (by decide +kernel)⟩
theorem lw_p26 : lw_okq (⟨"CuckooPagesModel", "fitsBy", "(III)Z"⟩, 34) := ⟨⟨by decide +kernel, by decide +kernel⟩, List.mem_of_getElem? (i := 451) (by decide +kernel), List.mem_of_getElem? (i := 637) (by decide +kernel), List.mem_of_getElem? (i := 638) (by decide +kernel)⟩
theorem lw_p27 : lw_okq (⟨"CuckooPagesModel", "writeRoot", "()V"⟩, 34) := ⟨⟨by decide +kernel, by decide +kernel⟩, List.mem_of_getElem? (i := 451) (by decide +kernel), List.mem_of_getElem? (i := 641) (by decide +kernel), List.mem_of_getElem? (i := 642) (by decide +kernel)⟩
theorem lw_p28 : lw_okq (⟨"CuckooPagesModel", "refused", "(I)Z"⟩, 34) := ⟨⟨by decide +kernel, by decide +kernel⟩, List.mem_of_getElem? (i := 451) (by decide +kernel), List.mem_of_getElem? (i := 661) (by decide +kernel), List.mem_of_getElem? (i := 662) (by decide +kernel)⟩
theorem lw_p29 : lw_okq (⟨"CuckooPagesModel", "usedFrom", "(II)I"⟩, 34) := ⟨⟨by decide +kernel, by decide +kernel⟩, List.mem_of_getElem? (i := 451) (by decide +kernel), List.mem_of_getElem? (i := 689) (by decide +kernel), List.mem_of_getElem? (i := 690) (by decide +kernel)⟩
def lw_privs_2 : List (MethodName × Nat) := [(⟨"CuckooPagesModel", "next", "(I)I"⟩, 34), (⟨"CuckooPagesModel", "flush", "()I"⟩, 34), (⟨"CuckooPagesModel", "finish", "(I)V"⟩, 34), (⟨"CuckooPagesModel", "putInto", "(IIIIZ)I"⟩, 34), (⟨"CuckooPagesModel", "empty", "(II)I"⟩, 34), (⟨"CuckooPagesModel", "hasPath", "(III)Z"⟩, 34), (⟨"CuckooPagesModel", "isOnPath", "(I)Z"⟩, 34), (⟨"CuckooPagesModel", "goAlong", "(IIZ)V"⟩, 34), (⟨"CuckooPagesModel", "writeJournal", "()V"⟩, 34), (⟨"CuckooPagesModel", "makeAnew", "(II)I"⟩, 34), (⟨"CuckooPagesModel", "fitsBy", "(III)Z"⟩, 34), (⟨"CuckooPagesModel", "writeRoot", "()V"⟩, 34), (⟨"CuckooPagesModel", "refused", "(I)Z"⟩, 34), (⟨"CuckooPagesModel", "usedFrom", "(II)I"⟩, 34)]
theorem lw_r2 : ∀ q ∈ lw_privs_2, lw_okq q := List.forall_mem_cons.mpr ⟨lw_p16, List.forall_mem_cons.mpr ⟨lw_p17, List.forall_mem_cons.mpr ⟨lw_p18, List.forall_mem_cons.mpr ⟨lw_p19, List.forall_mem_cons.mpr ⟨lw_p20, List.forall_mem_cons.mpr ⟨lw_p21, List.forall_mem_cons.mpr ⟨lw_p22, List.forall_mem_cons.mpr ⟨lw_p23, List.forall_mem_cons.mpr ⟨lw_p24, List.forall_mem_cons.mpr ⟨lw_p25, List.forall_mem_cons.mpr ⟨lw_p26, List.forall_mem_cons.mpr ⟨lw_p27, List.forall_mem_cons.mpr ⟨lw_p28, List.forall_mem_cons.mpr ⟨lw_p29, fun _ h => absurd h List.not_mem_nil⟩⟩⟩⟩⟩⟩⟩⟩⟩⟩⟩⟩⟩⟩
def lw_privs : List (MethodName × Nat) := lw_privs_1 ++ (lw_privs_2)
def lw_tbl : List Cond := k2_sels lw_privs ++ tables_1
theorem lw_privs_ok : ∀ q ∈ lw_privs, lw_okq q := by
  show ∀ q ∈ lw_privs_1 ++ (lw_privs_2), lw_okq q
  exact List.forall_mem_append.mpr ⟨lw_r1, lw_r2⟩
end
section
/-! ===== the words of the tables that stay: one list for all methods ===== -/
def TB : List Cond := lw_tbl.filter goodWord
theorem tb_of {w : Cond} (h : w ∈ lw_tbl) (hg : goodWord w = true) : w ∈ TB := List.mem_filter.mpr ⟨h, hg⟩
theorem tb_good : GoodIn TB TB := fun w h => ⟨h, good_of_word (List.mem_filter.mp h).2⟩
theorem tb_cons {w : Cond} {ws : List Cond} (h : w ∈ TB) (hg : GoodIn TB ws) : GoodIn TB (w :: ws) := fun z hz => (List.mem_cons.mp hz).elim (fun e => e ▸ tb_good w h) (hg z)
theorem tw_0 : (Jvm.Cond.initialized "CuckooPagesLaw") ∈ TB := tb_of (List.mem_append_right _ (List.mem_append_left _ (List.mem_of_getElem? (i := 0) rfl))) rfl
theorem tw_1 : (Jvm.Cond.initialized "CuckooPages") ∈ TB := tb_of (List.mem_append_right _ (List.mem_append_left _ (List.mem_of_getElem? (i := 1) rfl))) rfl
theorem tw_2 : (Jvm.Cond.initialized "CuckooPages$Image") ∈ TB := tb_of (List.mem_append_right _ (List.mem_append_left _ (List.mem_of_getElem? (i := 2) rfl))) rfl
theorem tw_3 : (Jvm.Cond.initialized "CuckooPages$Waiting") ∈ TB := tb_of (List.mem_append_right _ (List.mem_append_left _ (List.mem_of_getElem? (i := 3) rfl))) rfl
theorem tw_4 : (Jvm.Cond.initialized "CuckooPages$Moves") ∈ TB := tb_of (List.mem_append_right _ (List.mem_append_left _ (List.mem_of_getElem? (i := 4) rfl))) rfl
theorem tw_5 : (Jvm.Cond.initialized "CuckooPagesModel") ∈ TB := tb_of (List.mem_append_right _ (List.mem_append_left _ (List.mem_of_getElem? (i := 5) rfl))) rfl
theorem tw_6 : (Jvm.Cond.initialized "java/lang/Throwable") ∈ TB := tb_of (List.mem_append_right _ (List.mem_append_left _ (List.mem_of_getElem? (i := 6) rfl))) rfl
theorem tw_7 : (Jvm.Cond.initialized "java/lang/Exception") ∈ TB := tb_of (List.mem_append_right _ (List.mem_append_left _ (List.mem_of_getElem? (i := 7) rfl))) rfl
theorem tw_8 : (Jvm.Cond.initialized "java/lang/RuntimeException") ∈ TB := tb_of (List.mem_append_right _ (List.mem_append_left _ (List.mem_of_getElem? (i := 8) rfl))) rfl
theorem tw_9 : (Jvm.Cond.initialized "java/lang/IllegalArgumentException") ∈ TB := tb_of (List.mem_append_right _ (List.mem_append_left _ (List.mem_of_getElem? (i := 9) rfl))) rfl
theorem tw_10 : (Jvm.Cond.initialized "java/lang/IllegalStateException") ∈ TB := tb_of (List.mem_append_right _ (List.mem_append_left _ (List.mem_of_getElem? (i := 10) rfl))) rfl
theorem tw_11 : (Jvm.Cond.initialized "java/lang/System") ∈ TB := tb_of (List.mem_append_right _ (List.mem_append_left _ (List.mem_of_getElem? (i := 11) rfl))) rfl
theorem tw_12 : (Jvm.Cond.initialized "java/lang/Math") ∈ TB := tb_of (List.mem_append_right _ (List.mem_append_left _ (List.mem_of_getElem? (i := 12) rfl))) rfl
theorem tw_13 : (Jvm.Cond.classLink "CuckooPagesLaw" (8 : Nat) "CuckooPages") ∈ TB := tb_of (List.mem_append_right _ (List.mem_append_left _ (List.mem_of_getElem? (i := 13) rfl))) rfl
theorem tw_14 : (Jvm.Cond.instantiable "CuckooPages" (10 : Nat)) ∈ TB := tb_of (List.mem_append_right _ (List.mem_append_left _ (List.mem_of_getElem? (i := 14) rfl))) rfl
theorem tw_15 : (Jvm.Cond.methodLink "CuckooPagesLaw" (28 : Nat) ({ cls := "CuckooPages", name := "<init>", desc := "()V" } : Jvm.MethodName)) ∈ TB := tb_of (List.mem_append_right _ (List.mem_append_left _ (List.mem_of_getElem? (i := 15) rfl))) rfl
theorem tw_16 : (Jvm.Cond.instanceMethod ({ cls := "CuckooPages", name := "<init>", desc := "()V" } : Jvm.MethodName)) ∈ TB := tb_of (List.mem_append_right _ (List.mem_append_left _ (List.mem_of_getElem? (i := 16) rfl))) rfl
theorem tw_17 : (Jvm.Cond.code ({ cls := "CuckooPages", name := "<init>", desc := "()V" } : Jvm.MethodName) prog_1_method_1_code (1 : Nat) (Option.none : Option Jvm.ClassFile.FieldType)) ∈ TB := tb_of (List.mem_append_right _ (List.mem_append_left _ (List.mem_of_getElem? (i := 17) rfl))) rfl
theorem tw_18 : (Jvm.Cond.methodLink "CuckooPages" (3 : Nat) ({ cls := "java/lang/Object", name := "<init>", desc := "()V" } : Jvm.MethodName)) ∈ TB := tb_of (List.mem_append_right _ (List.mem_append_left _ (List.mem_of_getElem? (i := 18) rfl))) rfl
theorem tw_19 : (Jvm.Cond.instanceMethod ({ cls := "java/lang/Object", name := "<init>", desc := "()V" } : Jvm.MethodName)) ∈ TB := tb_of (List.mem_append_right _ (List.mem_append_left _ (List.mem_of_getElem? (i := 19) rfl))) rfl
theorem tw_20 : (Jvm.Cond.code ({ cls := "java/lang/Object", name := "<init>", desc := "()V" } : Jvm.MethodName) object_method_1_code (1 : Nat) (Option.none : Option Jvm.ClassFile.FieldType)) ∈ TB := tb_of (List.mem_append_right _ (List.mem_append_left _ (List.mem_of_getElem? (i := 20) rfl))) rfl
theorem tw_21 : (Jvm.Cond.classLink "CuckooPages" (13 : Nat) "CuckooPages$Image") ∈ TB := tb_of (List.mem_append_right _ (List.mem_append_left _ (List.mem_of_getElem? (i := 21) rfl))) rfl
theorem tw_22 : (Jvm.Cond.instantiable "CuckooPages$Image" (1 : Nat)) ∈ TB := tb_of (List.mem_append_right _ (List.mem_append_left _ (List.mem_of_getElem? (i := 22) rfl))) rfl
theorem tw_23 : (Jvm.Cond.methodLink "CuckooPages" (15 : Nat) ({ cls := "CuckooPages$Image", name := "<init>", desc := "()V" } : Jvm.MethodName)) ∈ TB := tb_of (List.mem_append_right _ (List.mem_append_left _ (List.mem_of_getElem? (i := 23) rfl))) rfl
theorem tw_24 : (Jvm.Cond.instanceMethod ({ cls := "CuckooPages$Image", name := "<init>", desc := "()V" } : Jvm.MethodName)) ∈ TB := tb_of (List.mem_append_right _ (List.mem_append_left _ (List.mem_of_getElem? (i := 24) rfl))) rfl
theorem tw_25 : (Jvm.Cond.code ({ cls := "CuckooPages$Image", name := "<init>", desc := "()V" } : Jvm.MethodName) prog_2_method_1_code (1 : Nat) (Option.none : Option Jvm.ClassFile.FieldType)) ∈ TB := tb_of (List.mem_append_right _ (List.mem_append_left _ (List.mem_of_getElem? (i := 25) rfl))) rfl
theorem tw_26 : (Jvm.Cond.methodLink "CuckooPages$Image" (3 : Nat) ({ cls := "java/lang/Object", name := "<init>", desc := "()V" } : Jvm.MethodName)) ∈ TB := tb_of (List.mem_append_right _ (List.mem_append_left _ (List.mem_of_getElem? (i := 26) rfl))) rfl
theorem tw_27 : (Jvm.Cond.fieldLink "CuckooPages$Image" (9 : Nat) "CuckooPages$Image" "cells" "[I") ∈ TB := tb_of (List.mem_append_right _ (List.mem_append_left _ (List.mem_of_getElem? (i := 27) rfl))) rfl
theorem tw_28 : (Jvm.Cond.fieldLink "CuckooPages$Waiting" (22 : Nat) "CuckooPages$Image" "cells" "[I") ∈ TB := tb_of (List.mem_append_right _ (List.mem_append_left _ (List.mem_of_getElem? (i := 28) rfl))) rfl
theorem tw_29 : (Jvm.Cond.fieldLink "CuckooPages$Moves" (34 : Nat) "CuckooPages$Image" "cells" "[I") ∈ TB := tb_of (List.mem_append_right _ (List.mem_append_left _ (List.mem_of_getElem? (i := 29) rfl))) rfl
theorem tw_30 : (Jvm.Cond.laysFinal "CuckooPages$Image" "CuckooPages$Image" "cells" "[I") ∈ TB := tb_of (List.mem_append_right _ (List.mem_append_left _ (List.mem_of_getElem? (i := 30) rfl))) rfl
theorem tw_33 : (Jvm.Cond.arrayClass Jvm.ClassFile.FieldType.int) ∈ TB := tb_of (List.mem_append_right _ (List.mem_append_left _ (List.mem_of_getElem? (i := 33) rfl))) rfl
theorem tw_34 : (Jvm.Cond.classLink "CuckooPages" (26 : Nat) "CuckooPages$Waiting") ∈ TB := tb_of (List.mem_append_right _ (List.mem_append_left _ (List.mem_of_getElem? (i := 34) rfl))) rfl
theorem tw_35 : (Jvm.Cond.instantiable "CuckooPages$Waiting" (3 : Nat)) ∈ TB := tb_of (List.mem_append_right _ (List.mem_append_left _ (List.mem_of_getElem? (i := 35) rfl))) rfl
theorem tw_36 : (Jvm.Cond.methodLink "CuckooPages" (28 : Nat) ({ cls := "CuckooPages$Waiting", name := "<init>", desc := "()V" } : Jvm.MethodName)) ∈ TB := tb_of (List.mem_append_right _ (List.mem_append_left _ (List.mem_of_getElem? (i := 36) rfl))) rfl
theorem tw_37 : (Jvm.Cond.instanceMethod ({ cls := "CuckooPages$Waiting", name := "<init>", desc := "()V" } : Jvm.MethodName)) ∈ TB := tb_of (List.mem_append_right _ (List.mem_append_left _ (List.mem_of_getElem? (i := 37) rfl))) rfl
theorem tw_38 : (Jvm.Cond.code ({ cls := "CuckooPages$Waiting", name := "<init>", desc := "()V" } : Jvm.MethodName) prog_4_method_1_code (1 : Nat) (Option.none : Option Jvm.ClassFile.FieldType)) ∈ TB := tb_of (List.mem_append_right _ (List.mem_append_left _ (List.mem_of_getElem? (i := 38) rfl))) rfl
theorem tw_39 : (Jvm.Cond.methodLink "CuckooPages$Waiting" (3 : Nat) ({ cls := "java/lang/Object", name := "<init>", desc := "()V" } : Jvm.MethodName)) ∈ TB := tb_of (List.mem_append_right _ (List.mem_append_left _ (List.mem_of_getElem? (i := 39) rfl))) rfl
theorem tw_40 : (Jvm.Cond.fieldLink "CuckooPages$Waiting" (9 : Nat) "CuckooPages$Waiting" "rows" "[I") ∈ TB := tb_of (List.mem_append_right _ (List.mem_append_left _ (List.mem_of_getElem? (i := 40) rfl))) rfl
theorem tw_41 : (Jvm.Cond.fieldLink "CuckooPages$Waiting" (15 : Nat) "CuckooPages$Waiting" "cells" "[I") ∈ TB := tb_of (List.mem_append_right _ (List.mem_append_left _ (List.mem_of_getElem? (i := 41) rfl))) rfl
theorem tw_42 : (Jvm.Cond.fieldLink "CuckooPages$Waiting" (18 : Nat) "CuckooPages$Waiting" "waits" "I") ∈ TB := tb_of (List.mem_append_right _ (List.mem_append_left _ (List.mem_of_getElem? (i := 42) rfl))) rfl
theorem tw_43 : (Jvm.Cond.laysFinal "CuckooPages$Waiting" "CuckooPages$Waiting" "rows" "[I") ∈ TB := tb_of (List.mem_append_right _ (List.mem_append_left _ (List.mem_of_getElem? (i := 43) rfl))) rfl
theorem tw_45 : (Jvm.Cond.laysFinal "CuckooPages$Waiting" "CuckooPages$Waiting" "cells" "[I") ∈ TB := tb_of (List.mem_append_right _ (List.mem_append_left _ (List.mem_of_getElem? (i := 45) rfl))) rfl
theorem tw_47 : (Jvm.Cond.lays "CuckooPages$Waiting" "CuckooPages$Waiting" "waits" "I") ∈ TB := tb_of (List.mem_append_right _ (List.mem_append_left _ (List.mem_of_getElem? (i := 47) rfl))) rfl
theorem tw_50 : (Jvm.Cond.classLink "CuckooPages" (33 : Nat) "CuckooPages$Moves") ∈ TB := tb_of (List.mem_append_right _ (List.mem_append_left _ (List.mem_of_getElem? (i := 50) rfl))) rfl
theorem tw_51 : (Jvm.Cond.instantiable "CuckooPages$Moves" (1 : Nat)) ∈ TB := tb_of (List.mem_append_right _ (List.mem_append_left _ (List.mem_of_getElem? (i := 51) rfl))) rfl
theorem tw_52 : (Jvm.Cond.methodLink "CuckooPages" (35 : Nat) ({ cls := "CuckooPages$Moves", name := "<init>", desc := "()V" } : Jvm.MethodName)) ∈ TB := tb_of (List.mem_append_right _ (List.mem_append_left _ (List.mem_of_getElem? (i := 52) rfl))) rfl
theorem tw_53 : (Jvm.Cond.instanceMethod ({ cls := "CuckooPages$Moves", name := "<init>", desc := "()V" } : Jvm.MethodName)) ∈ TB := tb_of (List.mem_append_right _ (List.mem_append_left _ (List.mem_of_getElem? (i := 53) rfl))) rfl
theorem tw_54 : (Jvm.Cond.code ({ cls := "CuckooPages$Moves", name := "<init>", desc := "()V" } : Jvm.MethodName) prog_3_method_1_code (1 : Nat) (Option.none : Option Jvm.ClassFile.FieldType)) ∈ TB := tb_of (List.mem_append_right _ (List.mem_append_left _ (List.mem_of_getElem? (i := 54) rfl))) rfl
theorem tw_55 : (Jvm.Cond.methodLink "CuckooPages$Moves" (3 : Nat) ({ cls := "java/lang/Object", name := "<init>", desc := "()V" } : Jvm.MethodName)) ∈ TB := tb_of (List.mem_append_right _ (List.mem_append_left _ (List.mem_of_getElem? (i := 55) rfl))) rfl
theorem tw_56 : (Jvm.Cond.fieldLink "CuckooPages$Moves" (9 : Nat) "CuckooPages$Moves" "cells" "[I") ∈ TB := tb_of (List.mem_append_right _ (List.mem_append_left _ (List.mem_of_getElem? (i := 56) rfl))) rfl
theorem tw_57 : (Jvm.Cond.fieldLink "CuckooPages$Image" (23 : Nat) "CuckooPages$Moves" "cells" "[I") ∈ TB := tb_of (List.mem_append_right _ (List.mem_append_left _ (List.mem_of_getElem? (i := 57) rfl))) rfl
theorem tw_58 : (Jvm.Cond.laysFinal "CuckooPages$Moves" "CuckooPages$Moves" "cells" "[I") ∈ TB := tb_of (List.mem_append_right _ (List.mem_append_left _ (List.mem_of_getElem? (i := 58) rfl))) rfl
theorem tw_61 : (Jvm.Cond.fieldLink "CuckooPages" (9 : Nat) "CuckooPages" "seeds" "[I") ∈ TB := tb_of (List.mem_append_right _ (List.mem_append_left _ (List.mem_of_getElem? (i := 61) rfl))) rfl
theorem tw_62 : (Jvm.Cond.fieldLink "CuckooPages" (16 : Nat) "CuckooPages" "now" "LCuckooPages$Image;") ∈ TB := tb_of (List.mem_append_right _ (List.mem_append_left _ (List.mem_of_getElem? (i := 62) rfl))) rfl
theorem tw_63 : (Jvm.Cond.fieldLink "CuckooPages" (20 : Nat) "CuckooPages" "disk" "LCuckooPages$Image;") ∈ TB := tb_of (List.mem_append_right _ (List.mem_append_left _ (List.mem_of_getElem? (i := 63) rfl))) rfl
theorem tw_64 : (Jvm.Cond.fieldLink "CuckooPages" (23 : Nat) "CuckooPages" "trial" "LCuckooPages$Image;") ∈ TB := tb_of (List.mem_append_right _ (List.mem_append_left _ (List.mem_of_getElem? (i := 64) rfl))) rfl
theorem tw_65 : (Jvm.Cond.fieldLink "CuckooPages" (29 : Nat) "CuckooPages" "waiting" "LCuckooPages$Waiting;") ∈ TB := tb_of (List.mem_append_right _ (List.mem_append_left _ (List.mem_of_getElem? (i := 65) rfl))) rfl
theorem tw_66 : (Jvm.Cond.fieldLink "CuckooPages" (36 : Nat) "CuckooPages" "moves" "LCuckooPages$Moves;") ∈ TB := tb_of (List.mem_append_right _ (List.mem_append_left _ (List.mem_of_getElem? (i := 66) rfl))) rfl
theorem tw_67 : (Jvm.Cond.fieldLink "CuckooPages" (47 : Nat) "CuckooPages" "writesEver" "I") ∈ TB := tb_of (List.mem_append_right _ (List.mem_append_left _ (List.mem_of_getElem? (i := 67) rfl))) rfl
theorem tw_68 : (Jvm.Cond.fieldLink "CuckooPages" (153 : Nat) "CuckooPages" "timesAnew" "I") ∈ TB := tb_of (List.mem_append_right _ (List.mem_append_left _ (List.mem_of_getElem? (i := 68) rfl))) rfl
theorem tw_69 : (Jvm.Cond.fieldLink "CuckooPages" (156 : Nat) "CuckooPages" "lastPath" "I") ∈ TB := tb_of (List.mem_append_right _ (List.mem_append_left _ (List.mem_of_getElem? (i := 69) rfl))) rfl
theorem tw_70 : (Jvm.Cond.fieldLink "CuckooPages" (159 : Nat) "CuckooPages" "lastRecovery" "I") ∈ TB := tb_of (List.mem_append_right _ (List.mem_append_left _ (List.mem_of_getElem? (i := 70) rfl))) rfl
theorem tw_71 : (Jvm.Cond.laysFinal "CuckooPages" "CuckooPages" "seeds" "[I") ∈ TB := tb_of (List.mem_append_right _ (List.mem_append_left _ (List.mem_of_getElem? (i := 71) rfl))) rfl
theorem tw_73 : (Jvm.Cond.laysFinal "CuckooPages" "CuckooPages" "now" "LCuckooPages$Image;") ∈ TB := tb_of (List.mem_append_right _ (List.mem_append_left _ (List.mem_of_getElem? (i := 73) rfl))) rfl
theorem tw_75 : (Jvm.Cond.laysFinal "CuckooPages" "CuckooPages" "disk" "LCuckooPages$Image;") ∈ TB := tb_of (List.mem_append_right _ (List.mem_append_left _ (List.mem_of_getElem? (i := 75) rfl))) rfl
theorem tw_77 : (Jvm.Cond.laysFinal "CuckooPages" "CuckooPages" "trial" "LCuckooPages$Image;") ∈ TB := tb_of (List.mem_append_right _ (List.mem_append_left _ (List.mem_of_getElem? (i := 77) rfl))) rfl
theorem tw_79 : (Jvm.Cond.laysFinal "CuckooPages" "CuckooPages" "waiting" "LCuckooPages$Waiting;") ∈ TB := tb_of (List.mem_append_right _ (List.mem_append_left _ (List.mem_of_getElem? (i := 79) rfl))) rfl
theorem tw_81 : (Jvm.Cond.laysFinal "CuckooPages" "CuckooPages" "moves" "LCuckooPages$Moves;") ∈ TB := tb_of (List.mem_append_right _ (List.mem_append_left _ (List.mem_of_getElem? (i := 81) rfl))) rfl
theorem tw_83 : (Jvm.Cond.lays "CuckooPages" "CuckooPages" "writesEver" "I") ∈ TB := tb_of (List.mem_append_right _ (List.mem_append_left _ (List.mem_of_getElem? (i := 83) rfl))) rfl
theorem tw_85 : (Jvm.Cond.lays "CuckooPages" "CuckooPages" "timesAnew" "I") ∈ TB := tb_of (List.mem_append_right _ (List.mem_append_left _ (List.mem_of_getElem? (i := 85) rfl))) rfl
theorem tw_87 : (Jvm.Cond.lays "CuckooPages" "CuckooPages" "lastPath" "I") ∈ TB := tb_of (List.mem_append_right _ (List.mem_append_left _ (List.mem_of_getElem? (i := 87) rfl))) rfl
theorem tw_89 : (Jvm.Cond.lays "CuckooPages" "CuckooPages" "lastRecovery" "I") ∈ TB := tb_of (List.mem_append_right _ (List.mem_append_left _ (List.mem_of_getElem? (i := 89) rfl))) rfl
theorem tw_92 : (Jvm.Cond.methodLink "CuckooPagesLaw" (42 : Nat) ({ cls := "CuckooPages", name := "put", desc := "(II)I" } : Jvm.MethodName)) ∈ TB := tb_of (List.mem_append_right _ (List.mem_append_left _ (List.mem_of_getElem? (i := 92) rfl))) rfl
theorem tw_93 : (Jvm.Cond.instanceMethod ({ cls := "CuckooPages", name := "put", desc := "(II)I" } : Jvm.MethodName)) ∈ TB := tb_of (List.mem_append_right _ (List.mem_append_left _ (List.mem_of_getElem? (i := 93) rfl))) rfl
theorem tw_94 : (Jvm.Cond.selects "CuckooPages" ({ cls := "CuckooPages", name := "put", desc := "(II)I" } : Jvm.MethodName) ({ cls := "CuckooPages", name := "put", desc := "(II)I" } : Jvm.MethodName)) ∈ TB := tb_of (List.mem_append_right _ (List.mem_append_left _ (List.mem_of_getElem? (i := 94) rfl))) rfl
theorem tw_95 : (Jvm.Cond.code ({ cls := "CuckooPages", name := "put", desc := "(II)I" } : Jvm.MethodName) prog_1_method_3_code (5 : Nat) (Option.some Jvm.ClassFile.FieldType.int)) ∈ TB := tb_of (List.mem_append_right _ (List.mem_append_left _ (List.mem_of_getElem? (i := 95) rfl))) rfl
theorem tw_96 : (Jvm.Cond.methodLink "CuckooPages" (56 : Nat) ({ cls := "CuckooPages", name := "seedInUse", desc := "(LCuckooPages$Image;)I" } : Jvm.MethodName)) ∈ TB := tb_of (List.mem_append_right _ (List.mem_append_left _ (List.mem_of_getElem? (i := 96) rfl))) rfl
theorem tw_98 : (Jvm.Cond.instanceMethod ({ cls := "CuckooPages", name := "seedInUse", desc := "(LCuckooPages$Image;)I" } : Jvm.MethodName)) ∈ TB := tb_of (List.mem_append_right _ (List.mem_append_left _ (List.mem_of_getElem? (i := 98) rfl))) rfl
theorem tw_99 : (Jvm.Cond.code ({ cls := "CuckooPages", name := "seedInUse", desc := "(LCuckooPages$Image;)I" } : Jvm.MethodName) prog_1_method_14_code (3 : Nat) (Option.some Jvm.ClassFile.FieldType.int)) ∈ TB := tb_of (List.mem_append_right _ (List.mem_append_left _ (List.mem_of_getElem? (i := 99) rfl))) rfl
theorem tw_100 : (Jvm.Cond.methodLink "CuckooPages" (64 : Nat) ({ cls := "CuckooPages$Image", name := "seedTold", desc := "()I" } : Jvm.MethodName)) ∈ TB := tb_of (List.mem_append_right _ (List.mem_append_left _ (List.mem_of_getElem? (i := 100) rfl))) rfl
theorem tw_101 : (Jvm.Cond.instanceMethod ({ cls := "CuckooPages$Image", name := "seedTold", desc := "()I" } : Jvm.MethodName)) ∈ TB := tb_of (List.mem_append_right _ (List.mem_append_left _ (List.mem_of_getElem? (i := 101) rfl))) rfl
theorem tw_102 : (Jvm.Cond.selects "CuckooPages$Image" ({ cls := "CuckooPages$Image", name := "seedTold", desc := "()I" } : Jvm.MethodName) ({ cls := "CuckooPages$Image", name := "seedTold", desc := "()I" } : Jvm.MethodName)) ∈ TB := tb_of (List.mem_append_right _ (List.mem_append_left _ (List.mem_of_getElem? (i := 102) rfl))) rfl
theorem tw_103 : (Jvm.Cond.code ({ cls := "CuckooPages$Image", name := "seedTold", desc := "()I" } : Jvm.MethodName) prog_2_method_3_code (1 : Nat) (Option.some Jvm.ClassFile.FieldType.int)) ∈ TB := tb_of (List.mem_append_right _ (List.mem_append_left _ (List.mem_of_getElem? (i := 103) rfl))) rfl
theorem tw_105 : (Jvm.Cond.static ({ cls := "CuckooPages", name := "cellAt", desc := "([III)I" } : Jvm.MethodName)) ∈ TB := tb_of (List.mem_append_right _ (List.mem_append_left _ (List.mem_of_getElem? (i := 105) rfl))) rfl
theorem tw_106 : (Jvm.Cond.code ({ cls := "CuckooPages", name := "cellAt", desc := "([III)I" } : Jvm.MethodName) prog_1_method_30_code (4 : Nat) (Option.some Jvm.ClassFile.FieldType.int)) ∈ TB := tb_of (List.mem_append_right _ (List.mem_append_left _ (List.mem_of_getElem? (i := 106) rfl))) rfl
theorem tw_107 : (Jvm.Cond.methodLink "CuckooPages" (60 : Nat) ({ cls := "CuckooPages", name := "choose", desc := "(LCuckooPages$Image;III)I" } : Jvm.MethodName)) ∈ TB := tb_of (List.mem_append_right _ (List.mem_append_left _ (List.mem_of_getElem? (i := 107) rfl))) rfl
theorem tw_109 : (Jvm.Cond.instanceMethod ({ cls := "CuckooPages", name := "choose", desc := "(LCuckooPages$Image;III)I" } : Jvm.MethodName)) ∈ TB := tb_of (List.mem_append_right _ (List.mem_append_left _ (List.mem_of_getElem? (i := 109) rfl))) rfl
theorem tw_110 : (Jvm.Cond.code ({ cls := "CuckooPages", name := "choose", desc := "(LCuckooPages$Image;III)I" } : Jvm.MethodName) prog_1_method_18_code (9 : Nat) (Option.some Jvm.ClassFile.FieldType.int)) ∈ TB := tb_of (List.mem_append_right _ (List.mem_append_left _ (List.mem_of_getElem? (i := 110) rfl))) rfl
theorem tw_111 : (Jvm.Cond.methodLink "CuckooPages" (81 : Nat) ({ cls := "CuckooPages", name := "find", desc := "(LCuckooPages$Image;II)I" } : Jvm.MethodName)) ∈ TB := tb_of (List.mem_append_right _ (List.mem_append_left _ (List.mem_of_getElem? (i := 111) rfl))) rfl
theorem tw_112 : (Jvm.Cond.static ({ cls := "CuckooPages", name := "find", desc := "(LCuckooPages$Image;II)I" } : Jvm.MethodName)) ∈ TB := tb_of (List.mem_append_right _ (List.mem_append_left _ (List.mem_of_getElem? (i := 112) rfl))) rfl
theorem tw_113 : (Jvm.Cond.code ({ cls := "CuckooPages", name := "find", desc := "(LCuckooPages$Image;II)I" } : Jvm.MethodName) prog_1_method_17_code (4 : Nat) (Option.some Jvm.ClassFile.FieldType.int)) ∈ TB := tb_of (List.mem_append_right _ (List.mem_append_left _ (List.mem_of_getElem? (i := 113) rfl))) rfl
theorem tw_114 : (Jvm.Cond.methodLink "CuckooPages" (136 : Nat) ({ cls := "CuckooPages", name := "homeBy", desc := "(IIZ)I" } : Jvm.MethodName)) ∈ TB := tb_of (List.mem_append_right _ (List.mem_append_left _ (List.mem_of_getElem? (i := 114) rfl))) rfl
theorem tw_115 : (Jvm.Cond.static ({ cls := "CuckooPages", name := "homeBy", desc := "(IIZ)I" } : Jvm.MethodName)) ∈ TB := tb_of (List.mem_append_right _ (List.mem_append_left _ (List.mem_of_getElem? (i := 115) rfl))) rfl
theorem tw_116 : (Jvm.Cond.code ({ cls := "CuckooPages", name := "homeBy", desc := "(IIZ)I" } : Jvm.MethodName) prog_1_method_15_code (8 : Nat) (Option.some Jvm.ClassFile.FieldType.int)) ∈ TB := tb_of (List.mem_append_right _ (List.mem_append_left _ (List.mem_of_getElem? (i := 116) rfl))) rfl
theorem tw_117 : (Jvm.Cond.constant "CuckooPages" (164 : Nat) (-1640531535 : Int32)) ∈ TB := tb_of (List.mem_append_right _ (List.mem_append_left _ (List.mem_of_getElem? (i := 117) rfl))) rfl
theorem tw_118 : (Jvm.Cond.constant "CuckooPages" (165 : Nat) (-2048144789 : Int32)) ∈ TB := tb_of (List.mem_append_right _ (List.mem_append_left _ (List.mem_of_getElem? (i := 118) rfl))) rfl
theorem tw_119 : (Jvm.Cond.constant "CuckooPages" (166 : Nat) (-1028477387 : Int32)) ∈ TB := tb_of (List.mem_append_right _ (List.mem_append_left _ (List.mem_of_getElem? (i := 119) rfl))) rfl
theorem tw_120 : (Jvm.Cond.methodLink "CuckooPages" (123 : Nat) ({ cls := "CuckooPages$Image", name := "rowInUse", desc := "(I)I" } : Jvm.MethodName)) ∈ TB := tb_of (List.mem_append_right _ (List.mem_append_left _ (List.mem_of_getElem? (i := 120) rfl))) rfl
theorem tw_121 : (Jvm.Cond.instanceMethod ({ cls := "CuckooPages$Image", name := "rowInUse", desc := "(I)I" } : Jvm.MethodName)) ∈ TB := tb_of (List.mem_append_right _ (List.mem_append_left _ (List.mem_of_getElem? (i := 121) rfl))) rfl
theorem tw_122 : (Jvm.Cond.selects "CuckooPages$Image" ({ cls := "CuckooPages$Image", name := "rowInUse", desc := "(I)I" } : Jvm.MethodName) ({ cls := "CuckooPages$Image", name := "rowInUse", desc := "(I)I" } : Jvm.MethodName)) ∈ TB := tb_of (List.mem_append_right _ (List.mem_append_left _ (List.mem_of_getElem? (i := 122) rfl))) rfl
theorem tw_123 : (Jvm.Cond.code ({ cls := "CuckooPages$Image", name := "rowInUse", desc := "(I)I" } : Jvm.MethodName) prog_2_method_7_code (2 : Nat) (Option.some Jvm.ClassFile.FieldType.int)) ∈ TB := tb_of (List.mem_append_right _ (List.mem_append_left _ (List.mem_of_getElem? (i := 123) rfl))) rfl
theorem tw_124 : (Jvm.Cond.methodLink "CuckooPages$Image" (30 : Nat) ({ cls := "CuckooPages$Image", name := "setTold", desc := "()I" } : Jvm.MethodName)) ∈ TB := tb_of (List.mem_append_right _ (List.mem_append_left _ (List.mem_of_getElem? (i := 124) rfl))) rfl
theorem tw_125 : (Jvm.Cond.instanceMethod ({ cls := "CuckooPages$Image", name := "setTold", desc := "()I" } : Jvm.MethodName)) ∈ TB := tb_of (List.mem_append_right _ (List.mem_append_left _ (List.mem_of_getElem? (i := 125) rfl))) rfl
theorem tw_126 : (Jvm.Cond.selects "CuckooPages$Image" ({ cls := "CuckooPages$Image", name := "setTold", desc := "()I" } : Jvm.MethodName) ({ cls := "CuckooPages$Image", name := "setTold", desc := "()I" } : Jvm.MethodName)) ∈ TB := tb_of (List.mem_append_right _ (List.mem_append_left _ (List.mem_of_getElem? (i := 126) rfl))) rfl
theorem tw_127 : (Jvm.Cond.code ({ cls := "CuckooPages$Image", name := "setTold", desc := "()I" } : Jvm.MethodName) prog_2_method_2_code (1 : Nat) (Option.some Jvm.ClassFile.FieldType.int)) ∈ TB := tb_of (List.mem_append_right _ (List.mem_append_left _ (List.mem_of_getElem? (i := 127) rfl))) rfl
theorem tw_128 : (Jvm.Cond.methodLink "CuckooPages" (167 : Nat) ({ cls := "CuckooPages$Image", name := "placeIn", desc := "(II)I" } : Jvm.MethodName)) ∈ TB := tb_of (List.mem_append_right _ (List.mem_append_left _ (List.mem_of_getElem? (i := 128) rfl))) rfl
theorem tw_129 : (Jvm.Cond.instanceMethod ({ cls := "CuckooPages$Image", name := "placeIn", desc := "(II)I" } : Jvm.MethodName)) ∈ TB := tb_of (List.mem_append_right _ (List.mem_append_left _ (List.mem_of_getElem? (i := 129) rfl))) rfl
theorem tw_130 : (Jvm.Cond.selects "CuckooPages$Image" ({ cls := "CuckooPages$Image", name := "placeIn", desc := "(II)I" } : Jvm.MethodName) ({ cls := "CuckooPages$Image", name := "placeIn", desc := "(II)I" } : Jvm.MethodName)) ∈ TB := tb_of (List.mem_append_right _ (List.mem_append_left _ (List.mem_of_getElem? (i := 130) rfl))) rfl
theorem tw_131 : (Jvm.Cond.code ({ cls := "CuckooPages$Image", name := "placeIn", desc := "(II)I" } : Jvm.MethodName) prog_2_method_16_code (5 : Nat) (Option.some Jvm.ClassFile.FieldType.int)) ∈ TB := tb_of (List.mem_append_right _ (List.mem_append_left _ (List.mem_of_getElem? (i := 131) rfl))) rfl
theorem tw_133 : (Jvm.Cond.static ({ cls := "CuckooPages", name := "placeOf", desc := "(II)I" } : Jvm.MethodName)) ∈ TB := tb_of (List.mem_append_right _ (List.mem_append_left _ (List.mem_of_getElem? (i := 133) rfl))) rfl
theorem tw_134 : (Jvm.Cond.code ({ cls := "CuckooPages", name := "placeOf", desc := "(II)I" } : Jvm.MethodName) prog_1_method_27_code (2 : Nat) (Option.some Jvm.ClassFile.FieldType.int)) ∈ TB := tb_of (List.mem_append_right _ (List.mem_append_left _ (List.mem_of_getElem? (i := 134) rfl))) rfl
theorem tw_135 : (Jvm.Cond.methodLink "CuckooPages" (170 : Nat) ({ cls := "CuckooPages$Moves", name := "tellOne", desc := "(III)V" } : Jvm.MethodName)) ∈ TB := tb_of (List.mem_append_right _ (List.mem_append_left _ (List.mem_of_getElem? (i := 135) rfl))) rfl
theorem tw_136 : (Jvm.Cond.instanceMethod ({ cls := "CuckooPages$Moves", name := "tellOne", desc := "(III)V" } : Jvm.MethodName)) ∈ TB := tb_of (List.mem_append_right _ (List.mem_append_left _ (List.mem_of_getElem? (i := 136) rfl))) rfl
theorem tw_137 : (Jvm.Cond.selects "CuckooPages$Moves" ({ cls := "CuckooPages$Moves", name := "tellOne", desc := "(III)V" } : Jvm.MethodName) ({ cls := "CuckooPages$Moves", name := "tellOne", desc := "(III)V" } : Jvm.MethodName)) ∈ TB := tb_of (List.mem_append_right _ (List.mem_append_left _ (List.mem_of_getElem? (i := 137) rfl))) rfl
theorem tw_138 : (Jvm.Cond.code ({ cls := "CuckooPages$Moves", name := "tellOne", desc := "(III)V" } : Jvm.MethodName) prog_3_method_8_code (4 : Nat) (Option.none : Option Jvm.ClassFile.FieldType)) ∈ TB := tb_of (List.mem_append_right _ (List.mem_append_left _ (List.mem_of_getElem? (i := 138) rfl))) rfl
theorem tw_139 : (Jvm.Cond.methodLink "CuckooPages$Moves" (23 : Nat) ({ cls := "CuckooPages$Moves", name := "tellNothing", desc := "()V" } : Jvm.MethodName)) ∈ TB := tb_of (List.mem_append_right _ (List.mem_append_left _ (List.mem_of_getElem? (i := 139) rfl))) rfl
theorem tw_140 : (Jvm.Cond.instanceMethod ({ cls := "CuckooPages$Moves", name := "tellNothing", desc := "()V" } : Jvm.MethodName)) ∈ TB := tb_of (List.mem_append_right _ (List.mem_append_left _ (List.mem_of_getElem? (i := 140) rfl))) rfl
theorem tw_141 : (Jvm.Cond.selects "CuckooPages$Moves" ({ cls := "CuckooPages$Moves", name := "tellNothing", desc := "()V" } : Jvm.MethodName) ({ cls := "CuckooPages$Moves", name := "tellNothing", desc := "()V" } : Jvm.MethodName)) ∈ TB := tb_of (List.mem_append_right _ (List.mem_append_left _ (List.mem_of_getElem? (i := 141) rfl))) rfl
theorem tw_142 : (Jvm.Cond.code ({ cls := "CuckooPages$Moves", name := "tellNothing", desc := "()V" } : Jvm.MethodName) prog_3_method_7_code (1 : Nat) (Option.none : Option Jvm.ClassFile.FieldType)) ∈ TB := tb_of (List.mem_append_right _ (List.mem_append_left _ (List.mem_of_getElem? (i := 142) rfl))) rfl
theorem tw_144 : (Jvm.Cond.static ({ cls := "CuckooPages", name := "tellCell", desc := "([IIII)V" } : Jvm.MethodName)) ∈ TB := tb_of (List.mem_append_right _ (List.mem_append_left _ (List.mem_of_getElem? (i := 144) rfl))) rfl
theorem tw_145 : (Jvm.Cond.code ({ cls := "CuckooPages", name := "tellCell", desc := "([IIII)V" } : Jvm.MethodName) prog_1_method_31_code (5 : Nat) (Option.none : Option Jvm.ClassFile.FieldType)) ∈ TB := tb_of (List.mem_append_right _ (List.mem_append_left _ (List.mem_of_getElem? (i := 145) rfl))) rfl
theorem tw_146 : (Jvm.Cond.methodLink "CuckooPages$Moves" (26 : Nat) ({ cls := "CuckooPages$Moves", name := "add", desc := "(III)V" } : Jvm.MethodName)) ∈ TB := tb_of (List.mem_append_right _ (List.mem_append_left _ (List.mem_of_getElem? (i := 146) rfl))) rfl
theorem tw_147 : (Jvm.Cond.instanceMethod ({ cls := "CuckooPages$Moves", name := "add", desc := "(III)V" } : Jvm.MethodName)) ∈ TB := tb_of (List.mem_append_right _ (List.mem_append_left _ (List.mem_of_getElem? (i := 147) rfl))) rfl
theorem tw_148 : (Jvm.Cond.selects "CuckooPages$Moves" ({ cls := "CuckooPages$Moves", name := "add", desc := "(III)V" } : Jvm.MethodName) ({ cls := "CuckooPages$Moves", name := "add", desc := "(III)V" } : Jvm.MethodName)) ∈ TB := tb_of (List.mem_append_right _ (List.mem_append_left _ (List.mem_of_getElem? (i := 148) rfl))) rfl
theorem tw_149 : (Jvm.Cond.code ({ cls := "CuckooPages$Moves", name := "add", desc := "(III)V" } : Jvm.MethodName) prog_3_method_9_code (5 : Nat) (Option.none : Option Jvm.ClassFile.FieldType)) ∈ TB := tb_of (List.mem_append_right _ (List.mem_append_left _ (List.mem_of_getElem? (i := 149) rfl))) rfl
theorem tw_150 : (Jvm.Cond.methodLink "CuckooPages$Moves" (30 : Nat) ({ cls := "CuckooPages$Moves", name := "size", desc := "()I" } : Jvm.MethodName)) ∈ TB := tb_of (List.mem_append_right _ (List.mem_append_left _ (List.mem_of_getElem? (i := 150) rfl))) rfl
theorem tw_151 : (Jvm.Cond.instanceMethod ({ cls := "CuckooPages$Moves", name := "size", desc := "()I" } : Jvm.MethodName)) ∈ TB := tb_of (List.mem_append_right _ (List.mem_append_left _ (List.mem_of_getElem? (i := 151) rfl))) rfl
theorem tw_152 : (Jvm.Cond.selects "CuckooPages$Moves" ({ cls := "CuckooPages$Moves", name := "size", desc := "()I" } : Jvm.MethodName) ({ cls := "CuckooPages$Moves", name := "size", desc := "()I" } : Jvm.MethodName)) ∈ TB := tb_of (List.mem_append_right _ (List.mem_append_left _ (List.mem_of_getElem? (i := 152) rfl))) rfl
theorem tw_153 : (Jvm.Cond.code ({ cls := "CuckooPages$Moves", name := "size", desc := "()I" } : Jvm.MethodName) prog_3_method_2_code (1 : Nat) (Option.some Jvm.ClassFile.FieldType.int)) ∈ TB := tb_of (List.mem_append_right _ (List.mem_append_left _ (List.mem_of_getElem? (i := 153) rfl))) rfl
theorem tw_155 : (Jvm.Cond.methodLink "CuckooPages" (174 : Nat) ({ cls := "CuckooPages$Image", name := "leastEmpty", desc := "(I)I" } : Jvm.MethodName)) ∈ TB := tb_of (List.mem_append_right _ (List.mem_append_left _ (List.mem_of_getElem? (i := 155) rfl))) rfl
theorem tw_156 : (Jvm.Cond.instanceMethod ({ cls := "CuckooPages$Image", name := "leastEmpty", desc := "(I)I" } : Jvm.MethodName)) ∈ TB := tb_of (List.mem_append_right _ (List.mem_append_left _ (List.mem_of_getElem? (i := 156) rfl))) rfl
theorem tw_157 : (Jvm.Cond.selects "CuckooPages$Image" ({ cls := "CuckooPages$Image", name := "leastEmpty", desc := "(I)I" } : Jvm.MethodName) ({ cls := "CuckooPages$Image", name := "leastEmpty", desc := "(I)I" } : Jvm.MethodName)) ∈ TB := tb_of (List.mem_append_right _ (List.mem_append_left _ (List.mem_of_getElem? (i := 157) rfl))) rfl
theorem tw_158 : (Jvm.Cond.code ({ cls := "CuckooPages$Image", name := "leastEmpty", desc := "(I)I" } : Jvm.MethodName) prog_2_method_15_code (3 : Nat) (Option.some Jvm.ClassFile.FieldType.int)) ∈ TB := tb_of (List.mem_append_right _ (List.mem_append_left _ (List.mem_of_getElem? (i := 158) rfl))) rfl
theorem tw_159 : (Jvm.Cond.methodLink "CuckooPages" (177 : Nat) ({ cls := "CuckooPages", name := "layPath", desc := "(LCuckooPages$Image;IIII)Z" } : Jvm.MethodName)) ∈ TB := tb_of (List.mem_append_right _ (List.mem_append_left _ (List.mem_of_getElem? (i := 159) rfl))) rfl
theorem tw_161 : (Jvm.Cond.instanceMethod ({ cls := "CuckooPages", name := "layPath", desc := "(LCuckooPages$Image;IIII)Z" } : Jvm.MethodName)) ∈ TB := tb_of (List.mem_append_right _ (List.mem_append_left _ (List.mem_of_getElem? (i := 161) rfl))) rfl
theorem tw_162 : (Jvm.Cond.code ({ cls := "CuckooPages", name := "layPath", desc := "(LCuckooPages$Image;IIII)Z" } : Jvm.MethodName) prog_1_method_19_code (12 : Nat) (Option.some Jvm.ClassFile.FieldType.boolean)) ∈ TB := tb_of (List.mem_append_right _ (List.mem_append_left _ (List.mem_of_getElem? (i := 162) rfl))) rfl
theorem tw_163 : (Jvm.Cond.methodLink "CuckooPages" (181 : Nat) ({ cls := "CuckooPages$Moves", name := "tellNothing", desc := "()V" } : Jvm.MethodName)) ∈ TB := tb_of (List.mem_append_right _ (List.mem_append_left _ (List.mem_of_getElem? (i := 163) rfl))) rfl
theorem tw_164 : (Jvm.Cond.methodLink "CuckooPages" (184 : Nat) ({ cls := "CuckooPages", name := "nextOnPath", desc := "(II)I" } : Jvm.MethodName)) ∈ TB := tb_of (List.mem_append_right _ (List.mem_append_left _ (List.mem_of_getElem? (i := 164) rfl))) rfl
theorem tw_166 : (Jvm.Cond.instanceMethod ({ cls := "CuckooPages", name := "nextOnPath", desc := "(II)I" } : Jvm.MethodName)) ∈ TB := tb_of (List.mem_append_right _ (List.mem_append_left _ (List.mem_of_getElem? (i := 166) rfl))) rfl
theorem tw_167 : (Jvm.Cond.code ({ cls := "CuckooPages", name := "nextOnPath", desc := "(II)I" } : Jvm.MethodName) prog_1_method_20_code (5 : Nat) (Option.some Jvm.ClassFile.FieldType.int)) ∈ TB := tb_of (List.mem_append_right _ (List.mem_append_left _ (List.mem_of_getElem? (i := 167) rfl))) rfl
theorem tw_168 : (Jvm.Cond.methodLink "CuckooPages" (126 : Nat) ({ cls := "CuckooPages", name := "placeOf", desc := "(II)I" } : Jvm.MethodName)) ∈ TB := tb_of (List.mem_append_right _ (List.mem_append_left _ (List.mem_of_getElem? (i := 168) rfl))) rfl
theorem tw_169 : (Jvm.Cond.methodLink "CuckooPages" (194 : Nat) ({ cls := "CuckooPages$Moves", name := "tellOf", desc := "(I)Z" } : Jvm.MethodName)) ∈ TB := tb_of (List.mem_append_right _ (List.mem_append_left _ (List.mem_of_getElem? (i := 169) rfl))) rfl
theorem tw_170 : (Jvm.Cond.instanceMethod ({ cls := "CuckooPages$Moves", name := "tellOf", desc := "(I)Z" } : Jvm.MethodName)) ∈ TB := tb_of (List.mem_append_right _ (List.mem_append_left _ (List.mem_of_getElem? (i := 170) rfl))) rfl
theorem tw_171 : (Jvm.Cond.selects "CuckooPages$Moves" ({ cls := "CuckooPages$Moves", name := "tellOf", desc := "(I)Z" } : Jvm.MethodName) ({ cls := "CuckooPages$Moves", name := "tellOf", desc := "(I)Z" } : Jvm.MethodName)) ∈ TB := tb_of (List.mem_append_right _ (List.mem_append_left _ (List.mem_of_getElem? (i := 171) rfl))) rfl
theorem tw_172 : (Jvm.Cond.code ({ cls := "CuckooPages$Moves", name := "tellOf", desc := "(I)Z" } : Jvm.MethodName) prog_3_method_6_code (4 : Nat) (Option.some Jvm.ClassFile.FieldType.boolean)) ∈ TB := tb_of (List.mem_append_right _ (List.mem_append_left _ (List.mem_of_getElem? (i := 172) rfl))) rfl
theorem tw_173 : (Jvm.Cond.methodLink "CuckooPages" (187 : Nat) ({ cls := "CuckooPages$Moves", name := "add", desc := "(III)V" } : Jvm.MethodName)) ∈ TB := tb_of (List.mem_append_right _ (List.mem_append_left _ (List.mem_of_getElem? (i := 173) rfl))) rfl
theorem tw_174 : (Jvm.Cond.methodLink "CuckooPages" (133 : Nat) ({ cls := "CuckooPages$Image", name := "keyAt", desc := "(I)I" } : Jvm.MethodName)) ∈ TB := tb_of (List.mem_append_right _ (List.mem_append_left _ (List.mem_of_getElem? (i := 174) rfl))) rfl
theorem tw_175 : (Jvm.Cond.instanceMethod ({ cls := "CuckooPages$Image", name := "keyAt", desc := "(I)I" } : Jvm.MethodName)) ∈ TB := tb_of (List.mem_append_right _ (List.mem_append_left _ (List.mem_of_getElem? (i := 175) rfl))) rfl
theorem tw_176 : (Jvm.Cond.selects "CuckooPages$Image" ({ cls := "CuckooPages$Image", name := "keyAt", desc := "(I)I" } : Jvm.MethodName) ({ cls := "CuckooPages$Image", name := "keyAt", desc := "(I)I" } : Jvm.MethodName)) ∈ TB := tb_of (List.mem_append_right _ (List.mem_append_left _ (List.mem_of_getElem? (i := 176) rfl))) rfl
theorem tw_177 : (Jvm.Cond.code ({ cls := "CuckooPages$Image", name := "keyAt", desc := "(I)I" } : Jvm.MethodName) prog_2_method_9_code (2 : Nat) (Option.some Jvm.ClassFile.FieldType.int)) ∈ TB := tb_of (List.mem_append_right _ (List.mem_append_left _ (List.mem_of_getElem? (i := 177) rfl))) rfl
theorem tw_179 : (Jvm.Cond.static ({ cls := "CuckooPages", name := "rowOf", desc := "(I)I" } : Jvm.MethodName)) ∈ TB := tb_of (List.mem_append_right _ (List.mem_append_left _ (List.mem_of_getElem? (i := 179) rfl))) rfl
theorem tw_180 : (Jvm.Cond.code ({ cls := "CuckooPages", name := "rowOf", desc := "(I)I" } : Jvm.MethodName) prog_1_method_28_code (1 : Nat) (Option.some Jvm.ClassFile.FieldType.int)) ∈ TB := tb_of (List.mem_append_right _ (List.mem_append_left _ (List.mem_of_getElem? (i := 180) rfl))) rfl
theorem tw_182 : (Jvm.Cond.static ({ cls := "CuckooPages", name := "columnOf", desc := "(I)I" } : Jvm.MethodName)) ∈ TB := tb_of (List.mem_append_right _ (List.mem_append_left _ (List.mem_of_getElem? (i := 182) rfl))) rfl
theorem tw_183 : (Jvm.Cond.code ({ cls := "CuckooPages", name := "columnOf", desc := "(I)I" } : Jvm.MethodName) prog_1_method_29_code (1 : Nat) (Option.some Jvm.ClassFile.FieldType.int)) ∈ TB := tb_of (List.mem_append_right _ (List.mem_append_left _ (List.mem_of_getElem? (i := 183) rfl))) rfl
theorem tw_184 : (Jvm.Cond.methodLink "CuckooPages" (85 : Nat) ({ cls := "CuckooPages$Image", name := "valueAt", desc := "(I)I" } : Jvm.MethodName)) ∈ TB := tb_of (List.mem_append_right _ (List.mem_append_left _ (List.mem_of_getElem? (i := 184) rfl))) rfl
theorem tw_185 : (Jvm.Cond.instanceMethod ({ cls := "CuckooPages$Image", name := "valueAt", desc := "(I)I" } : Jvm.MethodName)) ∈ TB := tb_of (List.mem_append_right _ (List.mem_append_left _ (List.mem_of_getElem? (i := 185) rfl))) rfl
theorem tw_186 : (Jvm.Cond.selects "CuckooPages$Image" ({ cls := "CuckooPages$Image", name := "valueAt", desc := "(I)I" } : Jvm.MethodName) ({ cls := "CuckooPages$Image", name := "valueAt", desc := "(I)I" } : Jvm.MethodName)) ∈ TB := tb_of (List.mem_append_right _ (List.mem_append_left _ (List.mem_of_getElem? (i := 186) rfl))) rfl
theorem tw_187 : (Jvm.Cond.code ({ cls := "CuckooPages$Image", name := "valueAt", desc := "(I)I" } : Jvm.MethodName) prog_2_method_10_code (2 : Nat) (Option.some Jvm.ClassFile.FieldType.int)) ∈ TB := tb_of (List.mem_append_right _ (List.mem_append_left _ (List.mem_of_getElem? (i := 187) rfl))) rfl
theorem tw_188 : (Jvm.Cond.methodLink "CuckooPages" (190 : Nat) ({ cls := "CuckooPages", name := "otherRow", desc := "(III)I" } : Jvm.MethodName)) ∈ TB := tb_of (List.mem_append_right _ (List.mem_append_left _ (List.mem_of_getElem? (i := 188) rfl))) rfl
theorem tw_189 : (Jvm.Cond.static ({ cls := "CuckooPages", name := "otherRow", desc := "(III)I" } : Jvm.MethodName)) ∈ TB := tb_of (List.mem_append_right _ (List.mem_append_left _ (List.mem_of_getElem? (i := 189) rfl))) rfl
theorem tw_190 : (Jvm.Cond.code ({ cls := "CuckooPages", name := "otherRow", desc := "(III)I" } : Jvm.MethodName) prog_1_method_16_code (5 : Nat) (Option.some Jvm.ClassFile.FieldType.int)) ∈ TB := tb_of (List.mem_append_right _ (List.mem_append_left _ (List.mem_of_getElem? (i := 190) rfl))) rfl
theorem tw_191 : (Jvm.Cond.methodLink "CuckooPages" (68 : Nat) ({ cls := "CuckooPages", name := "fillTrial", desc := "(III)Z" } : Jvm.MethodName)) ∈ TB := tb_of (List.mem_append_right _ (List.mem_append_left _ (List.mem_of_getElem? (i := 191) rfl))) rfl
theorem tw_193 : (Jvm.Cond.instanceMethod ({ cls := "CuckooPages", name := "fillTrial", desc := "(III)Z" } : Jvm.MethodName)) ∈ TB := tb_of (List.mem_append_right _ (List.mem_append_left _ (List.mem_of_getElem? (i := 193) rfl))) rfl
theorem tw_194 : (Jvm.Cond.code ({ cls := "CuckooPages", name := "fillTrial", desc := "(III)Z" } : Jvm.MethodName) prog_1_method_23_code (8 : Nat) (Option.some Jvm.ClassFile.FieldType.boolean)) ∈ TB := tb_of (List.mem_append_right _ (List.mem_append_left _ (List.mem_of_getElem? (i := 194) rfl))) rfl
theorem tw_195 : (Jvm.Cond.methodLink "CuckooPages" (213 : Nat) ({ cls := "CuckooPages$Image", name := "emptyAll", desc := "()V" } : Jvm.MethodName)) ∈ TB := tb_of (List.mem_append_right _ (List.mem_append_left _ (List.mem_of_getElem? (i := 195) rfl))) rfl
theorem tw_196 : (Jvm.Cond.instanceMethod ({ cls := "CuckooPages$Image", name := "emptyAll", desc := "()V" } : Jvm.MethodName)) ∈ TB := tb_of (List.mem_append_right _ (List.mem_append_left _ (List.mem_of_getElem? (i := 196) rfl))) rfl
theorem tw_197 : (Jvm.Cond.selects "CuckooPages$Image" ({ cls := "CuckooPages$Image", name := "emptyAll", desc := "()V" } : Jvm.MethodName) ({ cls := "CuckooPages$Image", name := "emptyAll", desc := "()V" } : Jvm.MethodName)) ∈ TB := tb_of (List.mem_append_right _ (List.mem_append_left _ (List.mem_of_getElem? (i := 197) rfl))) rfl
theorem tw_198 : (Jvm.Cond.code ({ cls := "CuckooPages$Image", name := "emptyAll", desc := "()V" } : Jvm.MethodName) prog_2_method_14_code (2 : Nat) (Option.none : Option Jvm.ClassFile.FieldType)) ∈ TB := tb_of (List.mem_append_right _ (List.mem_append_left _ (List.mem_of_getElem? (i := 198) rfl))) rfl
theorem tw_199 : (Jvm.Cond.methodLink "CuckooPages" (150 : Nat) ({ cls := "CuckooPages$Image", name := "setTold", desc := "()I" } : Jvm.MethodName)) ∈ TB := tb_of (List.mem_append_right _ (List.mem_append_left _ (List.mem_of_getElem? (i := 199) rfl))) rfl
theorem tw_200 : (Jvm.Cond.methodLink "CuckooPages" (216 : Nat) ({ cls := "CuckooPages$Image", name := "tellRoot", desc := "(II)V" } : Jvm.MethodName)) ∈ TB := tb_of (List.mem_append_right _ (List.mem_append_left _ (List.mem_of_getElem? (i := 200) rfl))) rfl
theorem tw_201 : (Jvm.Cond.instanceMethod ({ cls := "CuckooPages$Image", name := "tellRoot", desc := "(II)V" } : Jvm.MethodName)) ∈ TB := tb_of (List.mem_append_right _ (List.mem_append_left _ (List.mem_of_getElem? (i := 201) rfl))) rfl
theorem tw_202 : (Jvm.Cond.selects "CuckooPages$Image" ({ cls := "CuckooPages$Image", name := "tellRoot", desc := "(II)V" } : Jvm.MethodName) ({ cls := "CuckooPages$Image", name := "tellRoot", desc := "(II)V" } : Jvm.MethodName)) ∈ TB := tb_of (List.mem_append_right _ (List.mem_append_left _ (List.mem_of_getElem? (i := 202) rfl))) rfl
theorem tw_203 : (Jvm.Cond.code ({ cls := "CuckooPages$Image", name := "tellRoot", desc := "(II)V" } : Jvm.MethodName) prog_2_method_4_code (3 : Nat) (Option.none : Option Jvm.ClassFile.FieldType)) ∈ TB := tb_of (List.mem_append_right _ (List.mem_append_left _ (List.mem_of_getElem? (i := 203) rfl))) rfl
theorem tw_205 : (Jvm.Cond.methodLink "CuckooPages" (129 : Nat) ({ cls := "CuckooPages$Image", name := "holds", desc := "(I)Z" } : Jvm.MethodName)) ∈ TB := tb_of (List.mem_append_right _ (List.mem_append_left _ (List.mem_of_getElem? (i := 205) rfl))) rfl
theorem tw_206 : (Jvm.Cond.instanceMethod ({ cls := "CuckooPages$Image", name := "holds", desc := "(I)Z" } : Jvm.MethodName)) ∈ TB := tb_of (List.mem_append_right _ (List.mem_append_left _ (List.mem_of_getElem? (i := 206) rfl))) rfl
theorem tw_207 : (Jvm.Cond.selects "CuckooPages$Image" ({ cls := "CuckooPages$Image", name := "holds", desc := "(I)Z" } : Jvm.MethodName) ({ cls := "CuckooPages$Image", name := "holds", desc := "(I)Z" } : Jvm.MethodName)) ∈ TB := tb_of (List.mem_append_right _ (List.mem_append_left _ (List.mem_of_getElem? (i := 207) rfl))) rfl
theorem tw_208 : (Jvm.Cond.code ({ cls := "CuckooPages$Image", name := "holds", desc := "(I)Z" } : Jvm.MethodName) prog_2_method_8_code (2 : Nat) (Option.some Jvm.ClassFile.FieldType.boolean)) ∈ TB := tb_of (List.mem_append_right _ (List.mem_append_left _ (List.mem_of_getElem? (i := 208) rfl))) rfl
theorem tw_209 : (Jvm.Cond.methodLink "CuckooPages" (220 : Nat) ({ cls := "CuckooPages$Image", name := "fillAll", desc := "(LCuckooPages$Moves;)V" } : Jvm.MethodName)) ∈ TB := tb_of (List.mem_append_right _ (List.mem_append_left _ (List.mem_of_getElem? (i := 209) rfl))) rfl
theorem tw_210 : (Jvm.Cond.instanceMethod ({ cls := "CuckooPages$Image", name := "fillAll", desc := "(LCuckooPages$Moves;)V" } : Jvm.MethodName)) ∈ TB := tb_of (List.mem_append_right _ (List.mem_append_left _ (List.mem_of_getElem? (i := 210) rfl))) rfl
theorem tw_211 : (Jvm.Cond.selects "CuckooPages$Image" ({ cls := "CuckooPages$Image", name := "fillAll", desc := "(LCuckooPages$Moves;)V" } : Jvm.MethodName) ({ cls := "CuckooPages$Image", name := "fillAll", desc := "(LCuckooPages$Moves;)V" } : Jvm.MethodName)) ∈ TB := tb_of (List.mem_append_right _ (List.mem_append_left _ (List.mem_of_getElem? (i := 211) rfl))) rfl
theorem tw_212 : (Jvm.Cond.code ({ cls := "CuckooPages$Image", name := "fillAll", desc := "(LCuckooPages$Moves;)V" } : Jvm.MethodName) prog_2_method_12_code (3 : Nat) (Option.none : Option Jvm.ClassFile.FieldType)) ∈ TB := tb_of (List.mem_append_right _ (List.mem_append_left _ (List.mem_of_getElem? (i := 212) rfl))) rfl
theorem tw_213 : (Jvm.Cond.methodLink "CuckooPages$Image" (41 : Nat) ({ cls := "CuckooPages$Moves", name := "size", desc := "()I" } : Jvm.MethodName)) ∈ TB := tb_of (List.mem_append_right _ (List.mem_append_left _ (List.mem_of_getElem? (i := 213) rfl))) rfl
theorem tw_214 : (Jvm.Cond.methodLink "CuckooPages$Image" (44 : Nat) ({ cls := "CuckooPages$Moves", name := "placeAt", desc := "(I)I" } : Jvm.MethodName)) ∈ TB := tb_of (List.mem_append_right _ (List.mem_append_left _ (List.mem_of_getElem? (i := 214) rfl))) rfl
theorem tw_215 : (Jvm.Cond.instanceMethod ({ cls := "CuckooPages$Moves", name := "placeAt", desc := "(I)I" } : Jvm.MethodName)) ∈ TB := tb_of (List.mem_append_right _ (List.mem_append_left _ (List.mem_of_getElem? (i := 215) rfl))) rfl
theorem tw_216 : (Jvm.Cond.selects "CuckooPages$Moves" ({ cls := "CuckooPages$Moves", name := "placeAt", desc := "(I)I" } : Jvm.MethodName) ({ cls := "CuckooPages$Moves", name := "placeAt", desc := "(I)I" } : Jvm.MethodName)) ∈ TB := tb_of (List.mem_append_right _ (List.mem_append_left _ (List.mem_of_getElem? (i := 216) rfl))) rfl
theorem tw_217 : (Jvm.Cond.code ({ cls := "CuckooPages$Moves", name := "placeAt", desc := "(I)I" } : Jvm.MethodName) prog_3_method_3_code (2 : Nat) (Option.some Jvm.ClassFile.FieldType.int)) ∈ TB := tb_of (List.mem_append_right _ (List.mem_append_left _ (List.mem_of_getElem? (i := 217) rfl))) rfl
theorem tw_218 : (Jvm.Cond.methodLink "CuckooPages$Image" (47 : Nat) ({ cls := "CuckooPages$Moves", name := "keyAt", desc := "(I)I" } : Jvm.MethodName)) ∈ TB := tb_of (List.mem_append_right _ (List.mem_append_left _ (List.mem_of_getElem? (i := 218) rfl))) rfl
theorem tw_219 : (Jvm.Cond.instanceMethod ({ cls := "CuckooPages$Moves", name := "keyAt", desc := "(I)I" } : Jvm.MethodName)) ∈ TB := tb_of (List.mem_append_right _ (List.mem_append_left _ (List.mem_of_getElem? (i := 219) rfl))) rfl
theorem tw_220 : (Jvm.Cond.selects "CuckooPages$Moves" ({ cls := "CuckooPages$Moves", name := "keyAt", desc := "(I)I" } : Jvm.MethodName) ({ cls := "CuckooPages$Moves", name := "keyAt", desc := "(I)I" } : Jvm.MethodName)) ∈ TB := tb_of (List.mem_append_right _ (List.mem_append_left _ (List.mem_of_getElem? (i := 220) rfl))) rfl
theorem tw_221 : (Jvm.Cond.code ({ cls := "CuckooPages$Moves", name := "keyAt", desc := "(I)I" } : Jvm.MethodName) prog_3_method_4_code (2 : Nat) (Option.some Jvm.ClassFile.FieldType.int)) ∈ TB := tb_of (List.mem_append_right _ (List.mem_append_left _ (List.mem_of_getElem? (i := 221) rfl))) rfl
theorem tw_222 : (Jvm.Cond.methodLink "CuckooPages$Image" (50 : Nat) ({ cls := "CuckooPages$Moves", name := "valueAt", desc := "(I)I" } : Jvm.MethodName)) ∈ TB := tb_of (List.mem_append_right _ (List.mem_append_left _ (List.mem_of_getElem? (i := 222) rfl))) rfl
theorem tw_223 : (Jvm.Cond.instanceMethod ({ cls := "CuckooPages$Moves", name := "valueAt", desc := "(I)I" } : Jvm.MethodName)) ∈ TB := tb_of (List.mem_append_right _ (List.mem_append_left _ (List.mem_of_getElem? (i := 223) rfl))) rfl
theorem tw_224 : (Jvm.Cond.selects "CuckooPages$Moves" ({ cls := "CuckooPages$Moves", name := "valueAt", desc := "(I)I" } : Jvm.MethodName) ({ cls := "CuckooPages$Moves", name := "valueAt", desc := "(I)I" } : Jvm.MethodName)) ∈ TB := tb_of (List.mem_append_right _ (List.mem_append_left _ (List.mem_of_getElem? (i := 224) rfl))) rfl
theorem tw_225 : (Jvm.Cond.code ({ cls := "CuckooPages$Moves", name := "valueAt", desc := "(I)I" } : Jvm.MethodName) prog_3_method_5_code (2 : Nat) (Option.some Jvm.ClassFile.FieldType.int)) ∈ TB := tb_of (List.mem_append_right _ (List.mem_append_left _ (List.mem_of_getElem? (i := 225) rfl))) rfl
theorem tw_226 : (Jvm.Cond.methodLink "CuckooPages$Image" (53 : Nat) ({ cls := "CuckooPages$Image", name := "fill", desc := "(III)V" } : Jvm.MethodName)) ∈ TB := tb_of (List.mem_append_right _ (List.mem_append_left _ (List.mem_of_getElem? (i := 226) rfl))) rfl
theorem tw_227 : (Jvm.Cond.instanceMethod ({ cls := "CuckooPages$Image", name := "fill", desc := "(III)V" } : Jvm.MethodName)) ∈ TB := tb_of (List.mem_append_right _ (List.mem_append_left _ (List.mem_of_getElem? (i := 227) rfl))) rfl
theorem tw_228 : (Jvm.Cond.selects "CuckooPages$Image" ({ cls := "CuckooPages$Image", name := "fill", desc := "(III)V" } : Jvm.MethodName) ({ cls := "CuckooPages$Image", name := "fill", desc := "(III)V" } : Jvm.MethodName)) ∈ TB := tb_of (List.mem_append_right _ (List.mem_append_left _ (List.mem_of_getElem? (i := 228) rfl))) rfl
theorem tw_229 : (Jvm.Cond.code ({ cls := "CuckooPages$Image", name := "fill", desc := "(III)V" } : Jvm.MethodName) prog_2_method_11_code (6 : Nat) (Option.none : Option Jvm.ClassFile.FieldType)) ∈ TB := tb_of (List.mem_append_right _ (List.mem_append_left _ (List.mem_of_getElem? (i := 229) rfl))) rfl
theorem tw_230 : (Jvm.Cond.methodLink "CuckooPages" (72 : Nat) ({ cls := "CuckooPages", name := "takeTrial", desc := "()V" } : Jvm.MethodName)) ∈ TB := tb_of (List.mem_append_right _ (List.mem_append_left _ (List.mem_of_getElem? (i := 230) rfl))) rfl
theorem tw_232 : (Jvm.Cond.instanceMethod ({ cls := "CuckooPages", name := "takeTrial", desc := "()V" } : Jvm.MethodName)) ∈ TB := tb_of (List.mem_append_right _ (List.mem_append_left _ (List.mem_of_getElem? (i := 232) rfl))) rfl
theorem tw_233 : (Jvm.Cond.code ({ cls := "CuckooPages", name := "takeTrial", desc := "()V" } : Jvm.MethodName) prog_1_method_24_code (3 : Nat) (Option.none : Option Jvm.ClassFile.FieldType)) ∈ TB := tb_of (List.mem_append_right _ (List.mem_append_left _ (List.mem_of_getElem? (i := 233) rfl))) rfl
theorem tw_234 : (Jvm.Cond.methodLink "CuckooPages" (223 : Nat) ({ cls := "CuckooPages$Image", name := "takeRow", desc := "(LCuckooPages$Image;I)V" } : Jvm.MethodName)) ∈ TB := tb_of (List.mem_append_right _ (List.mem_append_left _ (List.mem_of_getElem? (i := 234) rfl))) rfl
theorem tw_235 : (Jvm.Cond.instanceMethod ({ cls := "CuckooPages$Image", name := "takeRow", desc := "(LCuckooPages$Image;I)V" } : Jvm.MethodName)) ∈ TB := tb_of (List.mem_append_right _ (List.mem_append_left _ (List.mem_of_getElem? (i := 235) rfl))) rfl
theorem tw_236 : (Jvm.Cond.selects "CuckooPages$Image" ({ cls := "CuckooPages$Image", name := "takeRow", desc := "(LCuckooPages$Image;I)V" } : Jvm.MethodName) ({ cls := "CuckooPages$Image", name := "takeRow", desc := "(LCuckooPages$Image;I)V" } : Jvm.MethodName)) ∈ TB := tb_of (List.mem_append_right _ (List.mem_append_left _ (List.mem_of_getElem? (i := 236) rfl))) rfl
theorem tw_237 : (Jvm.Cond.code ({ cls := "CuckooPages$Image", name := "takeRow", desc := "(LCuckooPages$Image;I)V" } : Jvm.MethodName) prog_2_method_18_code (3 : Nat) (Option.none : Option Jvm.ClassFile.FieldType)) ∈ TB := tb_of (List.mem_append_right _ (List.mem_append_left _ (List.mem_of_getElem? (i := 237) rfl))) rfl
theorem tw_239 : (Jvm.Cond.static ({ cls := "CuckooPages", name := "copyRow", desc := "([II[II)V" } : Jvm.MethodName)) ∈ TB := tb_of (List.mem_append_right _ (List.mem_append_left _ (List.mem_of_getElem? (i := 239) rfl))) rfl
theorem tw_240 : (Jvm.Cond.code ({ cls := "CuckooPages", name := "copyRow", desc := "([II[II)V" } : Jvm.MethodName) prog_1_method_32_code (6 : Nat) (Option.none : Option Jvm.ClassFile.FieldType)) ∈ TB := tb_of (List.mem_append_right _ (List.mem_append_right _ (List.mem_append_left _ (List.mem_of_getElem? (i := 0) rfl)))) rfl
theorem tw_241 : (Jvm.Cond.methodLink "CuckooPages" (233 : Nat) ({ cls := "java/lang/System", name := "arraycopy", desc := "(Ljava/lang/Object;ILjava/lang/Object;II)V" } : Jvm.MethodName)) ∈ TB := tb_of (List.mem_append_right _ (List.mem_append_right _ (List.mem_append_left _ (List.mem_of_getElem? (i := 1) rfl)))) rfl
theorem tw_242 : (Jvm.Cond.static ({ cls := "java/lang/System", name := "arraycopy", desc := "(Ljava/lang/Object;ILjava/lang/Object;II)V" } : Jvm.MethodName)) ∈ TB := tb_of (List.mem_append_right _ (List.mem_append_right _ (List.mem_append_left _ (List.mem_of_getElem? (i := 2) rfl)))) rfl
theorem tw_243 : (Jvm.Cond.native ({ cls := "java/lang/System", name := "arraycopy", desc := "(Ljava/lang/Object;ILjava/lang/Object;II)V" } : Jvm.MethodName)) ∈ TB := tb_of (List.mem_append_right _ (List.mem_append_right _ (List.mem_append_left _ (List.mem_of_getElem? (i := 3) rfl)))) rfl
theorem tw_244 : (Jvm.Cond.methodLink "CuckooPages" (96 : Nat) ({ cls := "CuckooPages", name := "write", desc := "(I)V" } : Jvm.MethodName)) ∈ TB := tb_of (List.mem_append_right _ (List.mem_append_right _ (List.mem_append_left _ (List.mem_of_getElem? (i := 4) rfl)))) rfl
theorem tw_246 : (Jvm.Cond.instanceMethod ({ cls := "CuckooPages", name := "write", desc := "(I)V" } : Jvm.MethodName)) ∈ TB := tb_of (List.mem_append_right _ (List.mem_append_right _ (List.mem_append_left _ (List.mem_of_getElem? (i := 6) rfl)))) rfl
theorem tw_247 : (Jvm.Cond.code ({ cls := "CuckooPages", name := "write", desc := "(I)V" } : Jvm.MethodName) prog_1_method_25_code (2 : Nat) (Option.none : Option Jvm.ClassFile.FieldType)) ∈ TB := tb_of (List.mem_append_right _ (List.mem_append_right _ (List.mem_append_left _ (List.mem_of_getElem? (i := 7) rfl)))) rfl
theorem tw_248 : (Jvm.Cond.methodLink "CuckooPages" (99 : Nat) ({ cls := "CuckooPages$Waiting", name := "size", desc := "()I" } : Jvm.MethodName)) ∈ TB := tb_of (List.mem_append_right _ (List.mem_append_right _ (List.mem_append_left _ (List.mem_of_getElem? (i := 8) rfl)))) rfl
theorem tw_249 : (Jvm.Cond.instanceMethod ({ cls := "CuckooPages$Waiting", name := "size", desc := "()I" } : Jvm.MethodName)) ∈ TB := tb_of (List.mem_append_right _ (List.mem_append_right _ (List.mem_append_left _ (List.mem_of_getElem? (i := 9) rfl)))) rfl
theorem tw_250 : (Jvm.Cond.selects "CuckooPages$Waiting" ({ cls := "CuckooPages$Waiting", name := "size", desc := "()I" } : Jvm.MethodName) ({ cls := "CuckooPages$Waiting", name := "size", desc := "()I" } : Jvm.MethodName)) ∈ TB := tb_of (List.mem_append_right _ (List.mem_append_right _ (List.mem_append_left _ (List.mem_of_getElem? (i := 10) rfl)))) rfl
theorem tw_251 : (Jvm.Cond.code ({ cls := "CuckooPages$Waiting", name := "size", desc := "()I" } : Jvm.MethodName) prog_4_method_2_code (1 : Nat) (Option.some Jvm.ClassFile.FieldType.int)) ∈ TB := tb_of (List.mem_append_right _ (List.mem_append_right _ (List.mem_append_left _ (List.mem_of_getElem? (i := 11) rfl)))) rfl
theorem tw_252 : (Jvm.Cond.methodLink "CuckooPages" (102 : Nat) ({ cls := "CuckooPages$Waiting", name := "doFirst", desc := "(ILCuckooPages$Image;)V" } : Jvm.MethodName)) ∈ TB := tb_of (List.mem_append_right _ (List.mem_append_right _ (List.mem_append_left _ (List.mem_of_getElem? (i := 12) rfl)))) rfl
theorem tw_253 : (Jvm.Cond.instanceMethod ({ cls := "CuckooPages$Waiting", name := "doFirst", desc := "(ILCuckooPages$Image;)V" } : Jvm.MethodName)) ∈ TB := tb_of (List.mem_append_right _ (List.mem_append_right _ (List.mem_append_left _ (List.mem_of_getElem? (i := 13) rfl)))) rfl
theorem tw_254 : (Jvm.Cond.selects "CuckooPages$Waiting" ({ cls := "CuckooPages$Waiting", name := "doFirst", desc := "(ILCuckooPages$Image;)V" } : Jvm.MethodName) ({ cls := "CuckooPages$Waiting", name := "doFirst", desc := "(ILCuckooPages$Image;)V" } : Jvm.MethodName)) ∈ TB := tb_of (List.mem_append_right _ (List.mem_append_right _ (List.mem_append_left _ (List.mem_of_getElem? (i := 14) rfl)))) rfl
theorem tw_255 : (Jvm.Cond.code ({ cls := "CuckooPages$Waiting", name := "doFirst", desc := "(ILCuckooPages$Image;)V" } : Jvm.MethodName) prog_4_method_4_code (4 : Nat) (Option.none : Option Jvm.ClassFile.FieldType)) ∈ TB := tb_of (List.mem_append_right _ (List.mem_append_right _ (List.mem_append_left _ (List.mem_of_getElem? (i := 15) rfl)))) rfl
theorem tw_257 : (Jvm.Cond.methodLink "CuckooPages" (227 : Nat) ({ cls := "CuckooPages$Waiting", name := "add", desc := "(LCuckooPages$Image;I)V" } : Jvm.MethodName)) ∈ TB := tb_of (List.mem_append_right _ (List.mem_append_right _ (List.mem_append_left _ (List.mem_of_getElem? (i := 17) rfl)))) rfl
theorem tw_258 : (Jvm.Cond.instanceMethod ({ cls := "CuckooPages$Waiting", name := "add", desc := "(LCuckooPages$Image;I)V" } : Jvm.MethodName)) ∈ TB := tb_of (List.mem_append_right _ (List.mem_append_right _ (List.mem_append_left _ (List.mem_of_getElem? (i := 18) rfl)))) rfl
theorem tw_259 : (Jvm.Cond.selects "CuckooPages$Waiting" ({ cls := "CuckooPages$Waiting", name := "add", desc := "(LCuckooPages$Image;I)V" } : Jvm.MethodName) ({ cls := "CuckooPages$Waiting", name := "add", desc := "(LCuckooPages$Image;I)V" } : Jvm.MethodName)) ∈ TB := tb_of (List.mem_append_right _ (List.mem_append_right _ (List.mem_append_left _ (List.mem_of_getElem? (i := 19) rfl)))) rfl
theorem tw_260 : (Jvm.Cond.code ({ cls := "CuckooPages$Waiting", name := "add", desc := "(LCuckooPages$Image;I)V" } : Jvm.MethodName) prog_4_method_3_code (3 : Nat) (Option.none : Option Jvm.ClassFile.FieldType)) ∈ TB := tb_of (List.mem_append_right _ (List.mem_append_right _ (List.mem_append_left _ (List.mem_of_getElem? (i := 20) rfl)))) rfl
theorem tw_261 : (Jvm.Cond.methodLink "CuckooPages" (75 : Nat) ({ cls := "CuckooPages", name := "followPath", desc := "()V" } : Jvm.MethodName)) ∈ TB := tb_of (List.mem_append_right _ (List.mem_append_right _ (List.mem_append_left _ (List.mem_of_getElem? (i := 21) rfl)))) rfl
theorem tw_263 : (Jvm.Cond.instanceMethod ({ cls := "CuckooPages", name := "followPath", desc := "()V" } : Jvm.MethodName)) ∈ TB := tb_of (List.mem_append_right _ (List.mem_append_right _ (List.mem_append_left _ (List.mem_of_getElem? (i := 23) rfl)))) rfl
theorem tw_264 : (Jvm.Cond.code ({ cls := "CuckooPages", name := "followPath", desc := "()V" } : Jvm.MethodName) prog_1_method_21_code (1 : Nat) (Option.none : Option Jvm.ClassFile.FieldType)) ∈ TB := tb_of (List.mem_append_right _ (List.mem_append_right _ (List.mem_append_left _ (List.mem_of_getElem? (i := 24) rfl)))) rfl
theorem tw_265 : (Jvm.Cond.methodLink "CuckooPages" (197 : Nat) ({ cls := "CuckooPages$Image", name := "tellJournal", desc := "(LCuckooPages$Moves;)V" } : Jvm.MethodName)) ∈ TB := tb_of (List.mem_append_right _ (List.mem_append_right _ (List.mem_append_left _ (List.mem_of_getElem? (i := 25) rfl)))) rfl
theorem tw_266 : (Jvm.Cond.instanceMethod ({ cls := "CuckooPages$Image", name := "tellJournal", desc := "(LCuckooPages$Moves;)V" } : Jvm.MethodName)) ∈ TB := tb_of (List.mem_append_right _ (List.mem_append_right _ (List.mem_append_left _ (List.mem_of_getElem? (i := 26) rfl)))) rfl
theorem tw_267 : (Jvm.Cond.selects "CuckooPages$Image" ({ cls := "CuckooPages$Image", name := "tellJournal", desc := "(LCuckooPages$Moves;)V" } : Jvm.MethodName) ({ cls := "CuckooPages$Image", name := "tellJournal", desc := "(LCuckooPages$Moves;)V" } : Jvm.MethodName)) ∈ TB := tb_of (List.mem_append_right _ (List.mem_append_right _ (List.mem_append_left _ (List.mem_of_getElem? (i := 27) rfl)))) rfl
theorem tw_268 : (Jvm.Cond.code ({ cls := "CuckooPages$Image", name := "tellJournal", desc := "(LCuckooPages$Moves;)V" } : Jvm.MethodName) prog_2_method_5_code (2 : Nat) (Option.none : Option Jvm.ClassFile.FieldType)) ∈ TB := tb_of (List.mem_append_right _ (List.mem_append_right _ (List.mem_append_left _ (List.mem_of_getElem? (i := 28) rfl)))) rfl
theorem tw_269 : (Jvm.Cond.methodLink "CuckooPages" (78 : Nat) ({ cls := "CuckooPages", name := "makeMoves", desc := "()V" } : Jvm.MethodName)) ∈ TB := tb_of (List.mem_append_right _ (List.mem_append_right _ (List.mem_append_left _ (List.mem_of_getElem? (i := 29) rfl)))) rfl
theorem tw_271 : (Jvm.Cond.instanceMethod ({ cls := "CuckooPages", name := "makeMoves", desc := "()V" } : Jvm.MethodName)) ∈ TB := tb_of (List.mem_append_right _ (List.mem_append_right _ (List.mem_append_left _ (List.mem_of_getElem? (i := 31) rfl)))) rfl
theorem tw_272 : (Jvm.Cond.code ({ cls := "CuckooPages", name := "makeMoves", desc := "()V" } : Jvm.MethodName) prog_1_method_22_code (3 : Nat) (Option.none : Option Jvm.ClassFile.FieldType)) ∈ TB := tb_of (List.mem_append_right _ (List.mem_append_right _ (List.mem_append_left _ (List.mem_of_getElem? (i := 32) rfl)))) rfl
theorem tw_273 : (Jvm.Cond.methodLink "CuckooPages" (204 : Nat) ({ cls := "CuckooPages$Moves", name := "size", desc := "()I" } : Jvm.MethodName)) ∈ TB := tb_of (List.mem_append_right _ (List.mem_append_right _ (List.mem_append_left _ (List.mem_of_getElem? (i := 33) rfl)))) rfl
theorem tw_274 : (Jvm.Cond.methodLink "CuckooPages" (205 : Nat) ({ cls := "CuckooPages$Moves", name := "placeAt", desc := "(I)I" } : Jvm.MethodName)) ∈ TB := tb_of (List.mem_append_right _ (List.mem_append_right _ (List.mem_append_left _ (List.mem_of_getElem? (i := 34) rfl)))) rfl
theorem tw_275 : (Jvm.Cond.methodLink "CuckooPages" (208 : Nat) ({ cls := "CuckooPages$Moves", name := "keyAt", desc := "(I)I" } : Jvm.MethodName)) ∈ TB := tb_of (List.mem_append_right _ (List.mem_append_right _ (List.mem_append_left _ (List.mem_of_getElem? (i := 35) rfl)))) rfl
theorem tw_276 : (Jvm.Cond.methodLink "CuckooPages" (209 : Nat) ({ cls := "CuckooPages$Moves", name := "valueAt", desc := "(I)I" } : Jvm.MethodName)) ∈ TB := tb_of (List.mem_append_right _ (List.mem_append_right _ (List.mem_append_left _ (List.mem_of_getElem? (i := 36) rfl)))) rfl
theorem tw_277 : (Jvm.Cond.methodLink "CuckooPages" (210 : Nat) ({ cls := "CuckooPages$Image", name := "fill", desc := "(III)V" } : Jvm.MethodName)) ∈ TB := tb_of (List.mem_append_right _ (List.mem_append_right _ (List.mem_append_left _ (List.mem_of_getElem? (i := 37) rfl)))) rfl
theorem tw_278 : (Jvm.Cond.methodLink "CuckooPages" (93 : Nat) ({ cls := "CuckooPages", name := "rowOf", desc := "(I)I" } : Jvm.MethodName)) ∈ TB := tb_of (List.mem_append_right _ (List.mem_append_right _ (List.mem_append_left _ (List.mem_of_getElem? (i := 38) rfl)))) rfl
theorem tw_279 : (Jvm.Cond.methodLink "CuckooPages" (201 : Nat) ({ cls := "CuckooPages$Image", name := "emptyJournal", desc := "()V" } : Jvm.MethodName)) ∈ TB := tb_of (List.mem_append_right _ (List.mem_append_right _ (List.mem_append_left _ (List.mem_of_getElem? (i := 39) rfl)))) rfl
theorem tw_280 : (Jvm.Cond.instanceMethod ({ cls := "CuckooPages$Image", name := "emptyJournal", desc := "()V" } : Jvm.MethodName)) ∈ TB := tb_of (List.mem_append_right _ (List.mem_append_right _ (List.mem_append_left _ (List.mem_of_getElem? (i := 40) rfl)))) rfl
theorem tw_281 : (Jvm.Cond.selects "CuckooPages$Image" ({ cls := "CuckooPages$Image", name := "emptyJournal", desc := "()V" } : Jvm.MethodName) ({ cls := "CuckooPages$Image", name := "emptyJournal", desc := "()V" } : Jvm.MethodName)) ∈ TB := tb_of (List.mem_append_right _ (List.mem_append_right _ (List.mem_append_left _ (List.mem_of_getElem? (i := 41) rfl)))) rfl
theorem tw_282 : (Jvm.Cond.code ({ cls := "CuckooPages$Image", name := "emptyJournal", desc := "()V" } : Jvm.MethodName) prog_2_method_6_code (1 : Nat) (Option.none : Option Jvm.ClassFile.FieldType)) ∈ TB := tb_of (List.mem_append_right _ (List.mem_append_right _ (List.mem_append_left _ (List.mem_of_getElem? (i := 42) rfl)))) rfl
theorem tw_283 : (Jvm.Cond.methodLink "CuckooPagesLaw" (47 : Nat) ({ cls := "CuckooPages", name := "has", desc := "(I)Z" } : Jvm.MethodName)) ∈ TB := tb_of (List.mem_append_right _ (List.mem_append_right _ (List.mem_append_left _ (List.mem_of_getElem? (i := 43) rfl)))) rfl
theorem tw_284 : (Jvm.Cond.instanceMethod ({ cls := "CuckooPages", name := "has", desc := "(I)Z" } : Jvm.MethodName)) ∈ TB := tb_of (List.mem_append_right _ (List.mem_append_right _ (List.mem_append_left _ (List.mem_of_getElem? (i := 44) rfl)))) rfl
theorem tw_285 : (Jvm.Cond.selects "CuckooPages" ({ cls := "CuckooPages", name := "has", desc := "(I)Z" } : Jvm.MethodName) ({ cls := "CuckooPages", name := "has", desc := "(I)Z" } : Jvm.MethodName)) ∈ TB := tb_of (List.mem_append_right _ (List.mem_append_right _ (List.mem_append_left _ (List.mem_of_getElem? (i := 45) rfl)))) rfl
theorem tw_286 : (Jvm.Cond.code ({ cls := "CuckooPages", name := "has", desc := "(I)Z" } : Jvm.MethodName) prog_1_method_4_code (2 : Nat) (Option.some Jvm.ClassFile.FieldType.boolean)) ∈ TB := tb_of (List.mem_append_right _ (List.mem_append_right _ (List.mem_append_left _ (List.mem_of_getElem? (i := 46) rfl)))) rfl
theorem tw_287 : (Jvm.Cond.methodLink "CuckooPagesLaw" (52 : Nat) ({ cls := "CuckooPages", name := "get", desc := "(I)I" } : Jvm.MethodName)) ∈ TB := tb_of (List.mem_append_right _ (List.mem_append_right _ (List.mem_append_left _ (List.mem_of_getElem? (i := 47) rfl)))) rfl
theorem tw_288 : (Jvm.Cond.instanceMethod ({ cls := "CuckooPages", name := "get", desc := "(I)I" } : Jvm.MethodName)) ∈ TB := tb_of (List.mem_append_right _ (List.mem_append_right _ (List.mem_append_left _ (List.mem_of_getElem? (i := 48) rfl)))) rfl
theorem tw_289 : (Jvm.Cond.selects "CuckooPages" ({ cls := "CuckooPages", name := "get", desc := "(I)I" } : Jvm.MethodName) ({ cls := "CuckooPages", name := "get", desc := "(I)I" } : Jvm.MethodName)) ∈ TB := tb_of (List.mem_append_right _ (List.mem_append_right _ (List.mem_append_left _ (List.mem_of_getElem? (i := 49) rfl)))) rfl
theorem tw_290 : (Jvm.Cond.code ({ cls := "CuckooPages", name := "get", desc := "(I)I" } : Jvm.MethodName) prog_1_method_5_code (3 : Nat) (Option.some Jvm.ClassFile.FieldType.int)) ∈ TB := tb_of (List.mem_append_right _ (List.mem_append_right _ (List.mem_append_left _ (List.mem_of_getElem? (i := 50) rfl)))) rfl
theorem tw_291 : (Jvm.Cond.methodLink "CuckooPagesLaw" (56 : Nat) ({ cls := "CuckooPages", name := "remove", desc := "(I)Z" } : Jvm.MethodName)) ∈ TB := tb_of (List.mem_append_right _ (List.mem_append_right _ (List.mem_append_left _ (List.mem_of_getElem? (i := 51) rfl)))) rfl
theorem tw_292 : (Jvm.Cond.instanceMethod ({ cls := "CuckooPages", name := "remove", desc := "(I)Z" } : Jvm.MethodName)) ∈ TB := tb_of (List.mem_append_right _ (List.mem_append_right _ (List.mem_append_left _ (List.mem_of_getElem? (i := 52) rfl)))) rfl
theorem tw_293 : (Jvm.Cond.selects "CuckooPages" ({ cls := "CuckooPages", name := "remove", desc := "(I)Z" } : Jvm.MethodName) ({ cls := "CuckooPages", name := "remove", desc := "(I)Z" } : Jvm.MethodName)) ∈ TB := tb_of (List.mem_append_right _ (List.mem_append_right _ (List.mem_append_left _ (List.mem_of_getElem? (i := 53) rfl)))) rfl
theorem tw_294 : (Jvm.Cond.code ({ cls := "CuckooPages", name := "remove", desc := "(I)Z" } : Jvm.MethodName) prog_1_method_6_code (3 : Nat) (Option.some Jvm.ClassFile.FieldType.boolean)) ∈ TB := tb_of (List.mem_append_right _ (List.mem_append_right _ (List.mem_append_left _ (List.mem_of_getElem? (i := 54) rfl)))) rfl
theorem tw_295 : (Jvm.Cond.methodLink "CuckooPages" (89 : Nat) ({ cls := "CuckooPages$Image", name := "empty", desc := "(I)V" } : Jvm.MethodName)) ∈ TB := tb_of (List.mem_append_right _ (List.mem_append_right _ (List.mem_append_left _ (List.mem_of_getElem? (i := 55) rfl)))) rfl
theorem tw_296 : (Jvm.Cond.instanceMethod ({ cls := "CuckooPages$Image", name := "empty", desc := "(I)V" } : Jvm.MethodName)) ∈ TB := tb_of (List.mem_append_right _ (List.mem_append_right _ (List.mem_append_left _ (List.mem_of_getElem? (i := 56) rfl)))) rfl
theorem tw_297 : (Jvm.Cond.selects "CuckooPages$Image" ({ cls := "CuckooPages$Image", name := "empty", desc := "(I)V" } : Jvm.MethodName) ({ cls := "CuckooPages$Image", name := "empty", desc := "(I)V" } : Jvm.MethodName)) ∈ TB := tb_of (List.mem_append_right _ (List.mem_append_right _ (List.mem_append_left _ (List.mem_of_getElem? (i := 57) rfl)))) rfl
theorem tw_298 : (Jvm.Cond.code ({ cls := "CuckooPages$Image", name := "empty", desc := "(I)V" } : Jvm.MethodName) prog_2_method_13_code (2 : Nat) (Option.none : Option Jvm.ClassFile.FieldType)) ∈ TB := tb_of (List.mem_append_right _ (List.mem_append_right _ (List.mem_append_left _ (List.mem_of_getElem? (i := 58) rfl)))) rfl
theorem tw_299 : (Jvm.Cond.methodLink "CuckooPagesLaw" (60 : Nat) ({ cls := "CuckooPages", name := "sync", desc := "()I" } : Jvm.MethodName)) ∈ TB := tb_of (List.mem_append_right _ (List.mem_append_right _ (List.mem_append_left _ (List.mem_of_getElem? (i := 59) rfl)))) rfl
theorem tw_300 : (Jvm.Cond.instanceMethod ({ cls := "CuckooPages", name := "sync", desc := "()I" } : Jvm.MethodName)) ∈ TB := tb_of (List.mem_append_right _ (List.mem_append_right _ (List.mem_append_left _ (List.mem_of_getElem? (i := 60) rfl)))) rfl
theorem tw_301 : (Jvm.Cond.selects "CuckooPages" ({ cls := "CuckooPages", name := "sync", desc := "()I" } : Jvm.MethodName) ({ cls := "CuckooPages", name := "sync", desc := "()I" } : Jvm.MethodName)) ∈ TB := tb_of (List.mem_append_right _ (List.mem_append_right _ (List.mem_append_left _ (List.mem_of_getElem? (i := 61) rfl)))) rfl
theorem tw_302 : (Jvm.Cond.code ({ cls := "CuckooPages", name := "sync", desc := "()I" } : Jvm.MethodName) prog_1_method_7_code (2 : Nat) (Option.some Jvm.ClassFile.FieldType.int)) ∈ TB := tb_of (List.mem_append_right _ (List.mem_append_right _ (List.mem_append_left _ (List.mem_of_getElem? (i := 62) rfl)))) rfl
theorem tw_303 : (Jvm.Cond.methodLink "CuckooPagesLaw" (72 : Nat) ({ cls := "CuckooPages", name := "home", desc := "(IZ)I" } : Jvm.MethodName)) ∈ TB := tb_of (List.mem_append_right _ (List.mem_append_right _ (List.mem_append_left _ (List.mem_of_getElem? (i := 63) rfl)))) rfl
theorem tw_304 : (Jvm.Cond.instanceMethod ({ cls := "CuckooPages", name := "home", desc := "(IZ)I" } : Jvm.MethodName)) ∈ TB := tb_of (List.mem_append_right _ (List.mem_append_right _ (List.mem_append_left _ (List.mem_of_getElem? (i := 64) rfl)))) rfl
theorem tw_305 : (Jvm.Cond.selects "CuckooPages" ({ cls := "CuckooPages", name := "home", desc := "(IZ)I" } : Jvm.MethodName) ({ cls := "CuckooPages", name := "home", desc := "(IZ)I" } : Jvm.MethodName)) ∈ TB := tb_of (List.mem_append_right _ (List.mem_append_right _ (List.mem_append_left _ (List.mem_of_getElem? (i := 65) rfl)))) rfl
theorem tw_306 : (Jvm.Cond.code ({ cls := "CuckooPages", name := "home", desc := "(IZ)I" } : Jvm.MethodName) prog_1_method_10_code (3 : Nat) (Option.some Jvm.ClassFile.FieldType.int)) ∈ TB := tb_of (List.mem_append_right _ (List.mem_append_right _ (List.mem_append_left _ (List.mem_of_getElem? (i := 66) rfl)))) rfl
theorem tw_307 : (Jvm.Cond.methodLink "CuckooPagesLaw" (77 : Nat) ({ cls := "CuckooPages", name := "reads", desc := "(I)I" } : Jvm.MethodName)) ∈ TB := tb_of (List.mem_append_right _ (List.mem_append_right _ (List.mem_append_left _ (List.mem_of_getElem? (i := 67) rfl)))) rfl
theorem tw_308 : (Jvm.Cond.instanceMethod ({ cls := "CuckooPages", name := "reads", desc := "(I)I" } : Jvm.MethodName)) ∈ TB := tb_of (List.mem_append_right _ (List.mem_append_right _ (List.mem_append_left _ (List.mem_of_getElem? (i := 68) rfl)))) rfl
theorem tw_309 : (Jvm.Cond.selects "CuckooPages" ({ cls := "CuckooPages", name := "reads", desc := "(I)I" } : Jvm.MethodName) ({ cls := "CuckooPages", name := "reads", desc := "(I)I" } : Jvm.MethodName)) ∈ TB := tb_of (List.mem_append_right _ (List.mem_append_right _ (List.mem_append_left _ (List.mem_of_getElem? (i := 69) rfl)))) rfl
theorem tw_310 : (Jvm.Cond.code ({ cls := "CuckooPages", name := "reads", desc := "(I)I" } : Jvm.MethodName) prog_1_method_11_code (3 : Nat) (Option.some Jvm.ClassFile.FieldType.int)) ∈ TB := tb_of (List.mem_append_right _ (List.mem_append_right _ (List.mem_append_left _ (List.mem_of_getElem? (i := 70) rfl)))) rfl
theorem tw_311 : (Jvm.Cond.methodLink "CuckooPages" (140 : Nat) ({ cls := "CuckooPages", name := "home", desc := "(IZ)I" } : Jvm.MethodName)) ∈ TB := tb_of (List.mem_append_right _ (List.mem_append_right _ (List.mem_append_left _ (List.mem_of_getElem? (i := 71) rfl)))) rfl
theorem tw_312 : (Jvm.Cond.methodLink "CuckooPagesLaw" (32 : Nat) ({ cls := "CuckooPagesLaw", name := "seed", desc := "(LCuckooPages;II)I" } : Jvm.MethodName)) ∈ TB := tb_of (List.mem_append_right _ (List.mem_append_right _ (List.mem_append_left _ (List.mem_of_getElem? (i := 72) rfl)))) rfl
theorem tw_313 : (Jvm.Cond.static ({ cls := "CuckooPagesLaw", name := "seed", desc := "(LCuckooPages;II)I" } : Jvm.MethodName)) ∈ TB := tb_of (List.mem_append_right _ (List.mem_append_right _ (List.mem_append_left _ (List.mem_of_getElem? (i := 73) rfl)))) rfl
theorem tw_314 : (Jvm.Cond.codeWith ({ cls := "CuckooPagesLaw", name := "seed", desc := "(LCuckooPages;II)I" } : Jvm.MethodName) method_3_code (4 : Nat) (Option.some Jvm.ClassFile.FieldType.int) [((0 : Nat), (6 : Nat), (9 : Nat), (13 : Nat)), ((0 : Nat), (6 : Nat), (12 : Nat), (15 : Nat))]) ∈ TB := tb_of (List.mem_append_right _ (List.mem_append_right _ (List.mem_append_left _ (List.mem_of_getElem? (i := 74) rfl)))) rfl
theorem tw_315 : (Jvm.Cond.classLink "CuckooPagesLaw" (13 : Nat) "java/lang/IllegalArgumentException") ∈ TB := tb_of (List.mem_append_right _ (List.mem_append_right _ (List.mem_append_left _ (List.mem_of_getElem? (i := 75) rfl)))) rfl
theorem tw_316 : (Jvm.Cond.classLink "CuckooPagesLaw" (15 : Nat) "java/lang/IllegalStateException") ∈ TB := tb_of (List.mem_append_right _ (List.mem_append_right _ (List.mem_append_left _ (List.mem_of_getElem? (i := 76) rfl)))) rfl
theorem tw_317 : (Jvm.Cond.methodLink "CuckooPagesLaw" (7 : Nat) ({ cls := "CuckooPages", name := "seed", desc := "(II)V" } : Jvm.MethodName)) ∈ TB := tb_of (List.mem_append_right _ (List.mem_append_right _ (List.mem_append_left _ (List.mem_of_getElem? (i := 77) rfl)))) rfl
theorem tw_318 : (Jvm.Cond.instanceMethod ({ cls := "CuckooPages", name := "seed", desc := "(II)V" } : Jvm.MethodName)) ∈ TB := tb_of (List.mem_append_right _ (List.mem_append_right _ (List.mem_append_left _ (List.mem_of_getElem? (i := 78) rfl)))) rfl
theorem tw_319 : (Jvm.Cond.selects "CuckooPages" ({ cls := "CuckooPages", name := "seed", desc := "(II)V" } : Jvm.MethodName) ({ cls := "CuckooPages", name := "seed", desc := "(II)V" } : Jvm.MethodName)) ∈ TB := tb_of (List.mem_append_right _ (List.mem_append_right _ (List.mem_append_left _ (List.mem_of_getElem? (i := 79) rfl)))) rfl
theorem tw_320 : (Jvm.Cond.code ({ cls := "CuckooPages", name := "seed", desc := "(II)V" } : Jvm.MethodName) prog_1_method_2_code (3 : Nat) (Option.none : Option Jvm.ClassFile.FieldType)) ∈ TB := tb_of (List.mem_append_right _ (List.mem_append_right _ (List.mem_append_left _ (List.mem_of_getElem? (i := 80) rfl)))) rfl
theorem tw_321 : (Jvm.Cond.classLink "CuckooPages" (40 : Nat) "java/lang/IllegalArgumentException") ∈ TB := tb_of (List.mem_append_right _ (List.mem_append_right _ (List.mem_append_left _ (List.mem_of_getElem? (i := 81) rfl)))) rfl
theorem tw_322 : (Jvm.Cond.instantiable "java/lang/IllegalArgumentException" (6 : Nat)) ∈ TB := tb_of (List.mem_append_right _ (List.mem_append_right _ (List.mem_append_left _ (List.mem_of_getElem? (i := 82) rfl)))) rfl
theorem tw_330 : (Jvm.Cond.selects "java/lang/IllegalArgumentException" ({ cls := "java/lang/Throwable", name := "fillInStackTrace", desc := "(I)Ljava/lang/Throwable;" } : Jvm.MethodName) ({ cls := "java/lang/Throwable", name := "fillInStackTrace", desc := "(I)Ljava/lang/Throwable;" } : Jvm.MethodName)) ∈ TB := tb_of (List.mem_append_right _ (List.mem_append_right _ (List.mem_append_left _ (List.mem_of_getElem? (i := 90) rfl)))) rfl
theorem tw_331 : (Jvm.Cond.selects "java/lang/IllegalArgumentException" ({ cls := "java/lang/Throwable", name := "fillInStackTrace", desc := "()Ljava/lang/Throwable;" } : Jvm.MethodName) ({ cls := "java/lang/Throwable", name := "fillInStackTrace", desc := "()Ljava/lang/Throwable;" } : Jvm.MethodName)) ∈ TB := tb_of (List.mem_append_right _ (List.mem_append_right _ (List.mem_append_left _ (List.mem_of_getElem? (i := 91) rfl)))) rfl
theorem tw_332 : (Jvm.Cond.lays "java/lang/IllegalArgumentException" "java/lang/Throwable" "cause" "Ljava/lang/Throwable;") ∈ TB := tb_of (List.mem_append_right _ (List.mem_append_right _ (List.mem_append_left _ (List.mem_of_getElem? (i := 92) rfl)))) rfl
theorem tw_333 : (Jvm.Cond.lays "java/lang/Throwable" "java/lang/Throwable" "cause" "Ljava/lang/Throwable;") ∈ TB := tb_of (List.mem_append_right _ (List.mem_append_right _ (List.mem_append_left _ (List.mem_of_getElem? (i := 93) rfl)))) rfl
theorem tw_334 : (Jvm.Cond.lays "java/lang/IllegalArgumentException" "java/lang/Throwable" "stackTrace" "[Ljava/lang/StackTraceElement;") ∈ TB := tb_of (List.mem_append_right _ (List.mem_append_right _ (List.mem_append_left _ (List.mem_of_getElem? (i := 94) rfl)))) rfl
theorem tw_335 : (Jvm.Cond.lays "java/lang/Throwable" "java/lang/Throwable" "stackTrace" "[Ljava/lang/StackTraceElement;") ∈ TB := tb_of (List.mem_append_right _ (List.mem_append_right _ (List.mem_append_left _ (List.mem_of_getElem? (i := 95) rfl)))) rfl
theorem tw_336 : (Jvm.Cond.lays "java/lang/IllegalArgumentException" "java/lang/Throwable" "suppressedExceptions" "Ljava/util/List;") ∈ TB := tb_of (List.mem_append_right _ (List.mem_append_right _ (List.mem_append_left _ (List.mem_of_getElem? (i := 96) rfl)))) rfl
theorem tw_337 : (Jvm.Cond.lays "java/lang/Throwable" "java/lang/Throwable" "suppressedExceptions" "Ljava/util/List;") ∈ TB := tb_of (List.mem_append_right _ (List.mem_append_right _ (List.mem_append_left _ (List.mem_of_getElem? (i := 97) rfl)))) rfl
theorem tw_338 : (Jvm.Cond.lays "java/lang/IllegalArgumentException" "java/lang/Throwable" "detailMessage" "Ljava/lang/String;") ∈ TB := tb_of (List.mem_append_right _ (List.mem_append_right _ (List.mem_append_left _ (List.mem_of_getElem? (i := 98) rfl)))) rfl
theorem tw_339 : (Jvm.Cond.lays "java/lang/Throwable" "java/lang/Throwable" "detailMessage" "Ljava/lang/String;") ∈ TB := tb_of (List.mem_append_right _ (List.mem_append_right _ (List.mem_append_left _ (List.mem_of_getElem? (i := 99) rfl)))) rfl
theorem tw_340 : (Jvm.Cond.lays "java/lang/IllegalArgumentException" "java/lang/Throwable" "backtrace" "Ljava/lang/Object;") ∈ TB := tb_of (List.mem_append_right _ (List.mem_append_right _ (List.mem_append_left _ (List.mem_of_getElem? (i := 100) rfl)))) rfl
theorem tw_341 : (Jvm.Cond.lays "java/lang/Throwable" "java/lang/Throwable" "backtrace" "Ljava/lang/Object;") ∈ TB := tb_of (List.mem_append_right _ (List.mem_append_right _ (List.mem_append_left _ (List.mem_of_getElem? (i := 101) rfl)))) rfl
theorem tw_342 : (Jvm.Cond.fieldLink "java/lang/Throwable" (198 : Nat) "java/lang/Throwable" "backtrace" "Ljava/lang/Object;") ∈ TB := tb_of (List.mem_append_right _ (List.mem_append_right _ (List.mem_append_left _ (List.mem_of_getElem? (i := 102) rfl)))) rfl
theorem tw_344 : (Jvm.Cond.instanceMethod ({ cls := "java/lang/Throwable", name := "<init>", desc := "()V" } : Jvm.MethodName)) ∈ TB := tb_of (List.mem_append_right _ (List.mem_append_right _ (List.mem_append_left _ (List.mem_of_getElem? (i := 104) rfl)))) rfl
theorem tw_345 : (Jvm.Cond.code ({ cls := "java/lang/Throwable", name := "<init>", desc := "()V" } : Jvm.MethodName) prog_14_method_1_code (1 : Nat) (Option.none : Option Jvm.ClassFile.FieldType)) ∈ TB := tb_of (List.mem_append_right _ (List.mem_append_right _ (List.mem_append_left _ (List.mem_of_getElem? (i := 105) rfl)))) rfl
theorem tw_346 : (Jvm.Cond.methodLink "java/lang/Throwable" (1 : Nat) ({ cls := "java/lang/Object", name := "<init>", desc := "()V" } : Jvm.MethodName)) ∈ TB := tb_of (List.mem_append_right _ (List.mem_append_right _ (List.mem_append_left _ (List.mem_of_getElem? (i := 106) rfl)))) rfl
theorem tw_347 : (Jvm.Cond.fieldLink "java/lang/Throwable" (13 : Nat) "java/lang/Throwable" "UNASSIGNED_STACK" "[Ljava/lang/StackTraceElement;") ∈ TB := tb_of (List.mem_append_right _ (List.mem_append_right _ (List.mem_append_left _ (List.mem_of_getElem? (i := 107) rfl)))) rfl
theorem tw_349 : (Jvm.Cond.fieldLink "java/lang/Throwable" (20 : Nat) "java/lang/Throwable" "SUPPRESSED_SENTINEL" "Ljava/util/List;") ∈ TB := tb_of (List.mem_append_right _ (List.mem_append_right _ (List.mem_append_left _ (List.mem_of_getElem? (i := 109) rfl)))) rfl
theorem tw_351 : (Jvm.Cond.methodLink "java/lang/Throwable" (27 : Nat) ({ cls := "java/lang/Throwable", name := "fillInStackTrace", desc := "()Ljava/lang/Throwable;" } : Jvm.MethodName)) ∈ TB := tb_of (List.mem_append_right _ (List.mem_append_right _ (List.mem_append_left _ (List.mem_of_getElem? (i := 111) rfl)))) rfl
theorem tw_352 : (Jvm.Cond.instanceMethod ({ cls := "java/lang/Throwable", name := "fillInStackTrace", desc := "()Ljava/lang/Throwable;" } : Jvm.MethodName)) ∈ TB := tb_of (List.mem_append_right _ (List.mem_append_right _ (List.mem_append_left _ (List.mem_of_getElem? (i := 112) rfl)))) rfl
theorem tw_354 : (Jvm.Cond.selects "java/lang/IllegalStateException" ({ cls := "java/lang/Throwable", name := "fillInStackTrace", desc := "()Ljava/lang/Throwable;" } : Jvm.MethodName) ({ cls := "java/lang/Throwable", name := "fillInStackTrace", desc := "()Ljava/lang/Throwable;" } : Jvm.MethodName)) ∈ TB := tb_of (List.mem_append_right _ (List.mem_append_right _ (List.mem_append_left _ (List.mem_of_getElem? (i := 114) rfl)))) rfl
theorem tw_356 : (Jvm.Cond.methodLink "java/lang/Throwable" (202 : Nat) ({ cls := "java/lang/Throwable", name := "fillInStackTrace", desc := "(I)Ljava/lang/Throwable;" } : Jvm.MethodName)) ∈ TB := tb_of (List.mem_append_right _ (List.mem_append_right _ (List.mem_append_left _ (List.mem_of_getElem? (i := 116) rfl)))) rfl
theorem tw_358 : (Jvm.Cond.instanceMethod ({ cls := "java/lang/Throwable", name := "fillInStackTrace", desc := "(I)Ljava/lang/Throwable;" } : Jvm.MethodName)) ∈ TB := tb_of (List.mem_append_right _ (List.mem_append_right _ (List.mem_append_left _ (List.mem_of_getElem? (i := 118) rfl)))) rfl
theorem tw_359 : (Jvm.Cond.instantiable "java/lang/Throwable" (6 : Nat)) ∈ TB := tb_of (List.mem_append_right _ (List.mem_append_right _ (List.mem_append_left _ (List.mem_of_getElem? (i := 119) rfl)))) rfl
theorem tw_360 : (Jvm.Cond.native ({ cls := "java/lang/Throwable", name := "fillInStackTrace", desc := "(I)Ljava/lang/Throwable;" } : Jvm.MethodName)) ∈ TB := tb_of (List.mem_append_right _ (List.mem_append_right _ (List.mem_append_left _ (List.mem_of_getElem? (i := 120) rfl)))) rfl
theorem tw_362 : (Jvm.Cond.methodLink "CuckooPages" (44 : Nat) ({ cls := "java/lang/IllegalArgumentException", name := "<init>", desc := "(Ljava/lang/String;)V" } : Jvm.MethodName)) ∈ TB := tb_of (List.mem_append_right _ (List.mem_append_right _ (List.mem_append_left _ (List.mem_of_getElem? (i := 122) rfl)))) rfl
theorem tw_363 : (Jvm.Cond.instanceMethod ({ cls := "java/lang/IllegalArgumentException", name := "<init>", desc := "(Ljava/lang/String;)V" } : Jvm.MethodName)) ∈ TB := tb_of (List.mem_append_right _ (List.mem_append_right _ (List.mem_append_left _ (List.mem_of_getElem? (i := 123) rfl)))) rfl
theorem tw_364 : (Jvm.Cond.code ({ cls := "java/lang/IllegalArgumentException", name := "<init>", desc := "(Ljava/lang/String;)V" } : Jvm.MethodName) prog_8_method_2_code (2 : Nat) (Option.none : Option Jvm.ClassFile.FieldType)) ∈ TB := tb_of (List.mem_append_right _ (List.mem_append_right _ (List.mem_append_left _ (List.mem_of_getElem? (i := 124) rfl)))) rfl
theorem tw_365 : (Jvm.Cond.methodLink "java/lang/IllegalArgumentException" (7 : Nat) ({ cls := "java/lang/RuntimeException", name := "<init>", desc := "(Ljava/lang/String;)V" } : Jvm.MethodName)) ∈ TB := tb_of (List.mem_append_right _ (List.mem_append_right _ (List.mem_append_left _ (List.mem_of_getElem? (i := 125) rfl)))) rfl
theorem tw_366 : (Jvm.Cond.instanceMethod ({ cls := "java/lang/RuntimeException", name := "<init>", desc := "(Ljava/lang/String;)V" } : Jvm.MethodName)) ∈ TB := tb_of (List.mem_append_right _ (List.mem_append_right _ (List.mem_append_left _ (List.mem_of_getElem? (i := 126) rfl)))) rfl
theorem tw_367 : (Jvm.Cond.code ({ cls := "java/lang/RuntimeException", name := "<init>", desc := "(Ljava/lang/String;)V" } : Jvm.MethodName) prog_11_method_2_code (2 : Nat) (Option.none : Option Jvm.ClassFile.FieldType)) ∈ TB := tb_of (List.mem_append_right _ (List.mem_append_right _ (List.mem_append_left _ (List.mem_of_getElem? (i := 127) rfl)))) rfl
theorem tw_368 : (Jvm.Cond.methodLink "java/lang/RuntimeException" (7 : Nat) ({ cls := "java/lang/Exception", name := "<init>", desc := "(Ljava/lang/String;)V" } : Jvm.MethodName)) ∈ TB := tb_of (List.mem_append_right _ (List.mem_append_right _ (List.mem_append_left _ (List.mem_of_getElem? (i := 128) rfl)))) rfl
theorem tw_369 : (Jvm.Cond.instanceMethod ({ cls := "java/lang/Exception", name := "<init>", desc := "(Ljava/lang/String;)V" } : Jvm.MethodName)) ∈ TB := tb_of (List.mem_append_right _ (List.mem_append_right _ (List.mem_append_left _ (List.mem_of_getElem? (i := 129) rfl)))) rfl
theorem tw_370 : (Jvm.Cond.code ({ cls := "java/lang/Exception", name := "<init>", desc := "(Ljava/lang/String;)V" } : Jvm.MethodName) prog_7_method_2_code (2 : Nat) (Option.none : Option Jvm.ClassFile.FieldType)) ∈ TB := tb_of (List.mem_append_right _ (List.mem_append_right _ (List.mem_append_left _ (List.mem_of_getElem? (i := 130) rfl)))) rfl
theorem tw_371 : (Jvm.Cond.methodLink "java/lang/Exception" (7 : Nat) ({ cls := "java/lang/Throwable", name := "<init>", desc := "(Ljava/lang/String;)V" } : Jvm.MethodName)) ∈ TB := tb_of (List.mem_append_right _ (List.mem_append_right _ (List.mem_append_left _ (List.mem_of_getElem? (i := 131) rfl)))) rfl
theorem tw_372 : (Jvm.Cond.instanceMethod ({ cls := "java/lang/Throwable", name := "<init>", desc := "(Ljava/lang/String;)V" } : Jvm.MethodName)) ∈ TB := tb_of (List.mem_append_right _ (List.mem_append_right _ (List.mem_append_left _ (List.mem_of_getElem? (i := 132) rfl)))) rfl
theorem tw_373 : (Jvm.Cond.code ({ cls := "java/lang/Throwable", name := "<init>", desc := "(Ljava/lang/String;)V" } : Jvm.MethodName) prog_14_method_2_code (2 : Nat) (Option.none : Option Jvm.ClassFile.FieldType)) ∈ TB := tb_of (List.mem_append_right _ (List.mem_append_right _ (List.mem_append_left _ (List.mem_of_getElem? (i := 133) rfl)))) rfl
theorem tw_374 : (Jvm.Cond.fieldLink "java/lang/Throwable" (198 : Nat) "java/lang/Throwable" "backtrace" "Ljava/lang/Object;") ∈ TB := tb_of (List.mem_append_right _ (List.mem_append_right _ (List.mem_append_left _ (List.mem_of_getElem? (i := 134) rfl)))) rfl
theorem tw_375 : (Jvm.Cond.fieldLink "java/lang/Throwable" (31 : Nat) "java/lang/Throwable" "detailMessage" "Ljava/lang/String;") ∈ TB := tb_of (List.mem_append_right _ (List.mem_append_right _ (List.mem_append_left _ (List.mem_of_getElem? (i := 135) rfl)))) rfl
theorem tw_376 : (Jvm.Cond.fieldLink "java/lang/Throwable" (7 : Nat) "java/lang/Throwable" "cause" "Ljava/lang/Throwable;") ∈ TB := tb_of (List.mem_append_right _ (List.mem_append_right _ (List.mem_append_left _ (List.mem_of_getElem? (i := 136) rfl)))) rfl
theorem tw_377 : (Jvm.Cond.fieldLink "java/lang/Throwable" (17 : Nat) "java/lang/Throwable" "stackTrace" "[Ljava/lang/StackTraceElement;") ∈ TB := tb_of (List.mem_append_right _ (List.mem_append_right _ (List.mem_append_left _ (List.mem_of_getElem? (i := 137) rfl)))) rfl
theorem tw_378 : (Jvm.Cond.fieldLink "java/lang/Throwable" (24 : Nat) "java/lang/Throwable" "suppressedExceptions" "Ljava/util/List;") ∈ TB := tb_of (List.mem_append_right _ (List.mem_append_right _ (List.mem_append_left _ (List.mem_of_getElem? (i := 138) rfl)))) rfl
theorem tw_383 : (Jvm.Cond.lays "java/lang/IllegalArgumentException" "java/lang/Throwable" "depth" "I") ∈ TB := tb_of (List.mem_append_right _ (List.mem_append_right _ (List.mem_append_left _ (List.mem_of_getElem? (i := 143) rfl)))) rfl
theorem tw_387 : (Jvm.Cond.arrayClass Jvm.ClassFile.FieldType.byte) ∈ TB := tb_of (List.mem_append_right _ (List.mem_append_right _ (List.mem_append_left _ (List.mem_of_getElem? (i := 147) rfl)))) rfl
theorem tw_388 : (Jvm.Cond.classLink "CuckooPages" (51 : Nat) "java/lang/IllegalStateException") ∈ TB := tb_of (List.mem_append_right _ (List.mem_append_right _ (List.mem_append_left _ (List.mem_of_getElem? (i := 148) rfl)))) rfl
theorem tw_389 : (Jvm.Cond.instantiable "java/lang/IllegalStateException" (6 : Nat)) ∈ TB := tb_of (List.mem_append_right _ (List.mem_append_right _ (List.mem_append_left _ (List.mem_of_getElem? (i := 149) rfl)))) rfl
theorem tw_391 : (Jvm.Cond.selects "java/lang/IllegalStateException" ({ cls := "java/lang/Throwable", name := "fillInStackTrace", desc := "(I)Ljava/lang/Throwable;" } : Jvm.MethodName) ({ cls := "java/lang/Throwable", name := "fillInStackTrace", desc := "(I)Ljava/lang/Throwable;" } : Jvm.MethodName)) ∈ TB := tb_of (List.mem_append_right _ (List.mem_append_right _ (List.mem_append_left _ (List.mem_of_getElem? (i := 151) rfl)))) rfl
theorem tw_392 : (Jvm.Cond.lays "java/lang/IllegalStateException" "java/lang/Throwable" "cause" "Ljava/lang/Throwable;") ∈ TB := tb_of (List.mem_append_right _ (List.mem_append_right _ (List.mem_append_left _ (List.mem_of_getElem? (i := 152) rfl)))) rfl
theorem tw_393 : (Jvm.Cond.lays "java/lang/IllegalStateException" "java/lang/Throwable" "stackTrace" "[Ljava/lang/StackTraceElement;") ∈ TB := tb_of (List.mem_append_right _ (List.mem_append_right _ (List.mem_append_left _ (List.mem_of_getElem? (i := 153) rfl)))) rfl
theorem tw_394 : (Jvm.Cond.lays "java/lang/IllegalStateException" "java/lang/Throwable" "suppressedExceptions" "Ljava/util/List;") ∈ TB := tb_of (List.mem_append_right _ (List.mem_append_right _ (List.mem_append_left _ (List.mem_of_getElem? (i := 154) rfl)))) rfl
theorem tw_395 : (Jvm.Cond.lays "java/lang/IllegalStateException" "java/lang/Throwable" "detailMessage" "Ljava/lang/String;") ∈ TB := tb_of (List.mem_append_right _ (List.mem_append_right _ (List.mem_append_left _ (List.mem_of_getElem? (i := 155) rfl)))) rfl
theorem tw_396 : (Jvm.Cond.lays "java/lang/IllegalStateException" "java/lang/Throwable" "backtrace" "Ljava/lang/Object;") ∈ TB := tb_of (List.mem_append_right _ (List.mem_append_right _ (List.mem_append_left _ (List.mem_of_getElem? (i := 156) rfl)))) rfl
theorem tw_398 : (Jvm.Cond.methodLink "CuckooPages" (55 : Nat) ({ cls := "java/lang/IllegalStateException", name := "<init>", desc := "(Ljava/lang/String;)V" } : Jvm.MethodName)) ∈ TB := tb_of (List.mem_append_right _ (List.mem_append_right _ (List.mem_append_left _ (List.mem_of_getElem? (i := 158) rfl)))) rfl
theorem tw_399 : (Jvm.Cond.instanceMethod ({ cls := "java/lang/IllegalStateException", name := "<init>", desc := "(Ljava/lang/String;)V" } : Jvm.MethodName)) ∈ TB := tb_of (List.mem_append_right _ (List.mem_append_right _ (List.mem_append_left _ (List.mem_of_getElem? (i := 159) rfl)))) rfl
theorem tw_400 : (Jvm.Cond.code ({ cls := "java/lang/IllegalStateException", name := "<init>", desc := "(Ljava/lang/String;)V" } : Jvm.MethodName) prog_9_method_2_code (2 : Nat) (Option.none : Option Jvm.ClassFile.FieldType)) ∈ TB := tb_of (List.mem_append_right _ (List.mem_append_right _ (List.mem_append_left _ (List.mem_of_getElem? (i := 160) rfl)))) rfl
theorem tw_401 : (Jvm.Cond.methodLink "java/lang/IllegalStateException" (7 : Nat) ({ cls := "java/lang/RuntimeException", name := "<init>", desc := "(Ljava/lang/String;)V" } : Jvm.MethodName)) ∈ TB := tb_of (List.mem_append_right _ (List.mem_append_right _ (List.mem_append_left _ (List.mem_of_getElem? (i := 161) rfl)))) rfl
theorem tw_402 : (Jvm.Cond.lays "java/lang/IllegalStateException" "java/lang/Throwable" "depth" "I") ∈ TB := tb_of (List.mem_append_right _ (List.mem_append_right _ (List.mem_append_left _ (List.mem_of_getElem? (i := 162) rfl)))) rfl
theorem tw_404 : (Jvm.Cond.methodLink "CuckooPagesLaw" (64 : Nat) ({ cls := "CuckooPagesLaw", name := "crash", desc := "(LCuckooPages;I[J)I" } : Jvm.MethodName)) ∈ TB := tb_of (List.mem_append_right _ (List.mem_append_right _ (List.mem_append_left _ (List.mem_of_getElem? (i := 164) rfl)))) rfl
theorem tw_405 : (Jvm.Cond.static ({ cls := "CuckooPagesLaw", name := "crash", desc := "(LCuckooPages;I[J)I" } : Jvm.MethodName)) ∈ TB := tb_of (List.mem_append_right _ (List.mem_append_right _ (List.mem_append_left _ (List.mem_of_getElem? (i := 165) rfl)))) rfl
theorem tw_406 : (Jvm.Cond.codeWith ({ cls := "CuckooPagesLaw", name := "crash", desc := "(LCuckooPages;I[J)I" } : Jvm.MethodName) method_4_code (4 : Nat) (Option.some Jvm.ClassFile.FieldType.int) [((0 : Nat), (9 : Nat), (12 : Nat), (13 : Nat))]) ∈ TB := tb_of (List.mem_append_right _ (List.mem_append_right _ (List.mem_append_left _ (List.mem_of_getElem? (i := 166) rfl)))) rfl
theorem tw_407 : (Jvm.Cond.methodLink "CuckooPagesLaw" (17 : Nat) ({ cls := "CuckooPages", name := "crash", desc := "(I)I" } : Jvm.MethodName)) ∈ TB := tb_of (List.mem_append_right _ (List.mem_append_right _ (List.mem_append_left _ (List.mem_of_getElem? (i := 167) rfl)))) rfl
theorem tw_408 : (Jvm.Cond.instanceMethod ({ cls := "CuckooPages", name := "crash", desc := "(I)I" } : Jvm.MethodName)) ∈ TB := tb_of (List.mem_append_right _ (List.mem_append_right _ (List.mem_append_left _ (List.mem_of_getElem? (i := 168) rfl)))) rfl
theorem tw_409 : (Jvm.Cond.selects "CuckooPages" ({ cls := "CuckooPages", name := "crash", desc := "(I)I" } : Jvm.MethodName) ({ cls := "CuckooPages", name := "crash", desc := "(I)I" } : Jvm.MethodName)) ∈ TB := tb_of (List.mem_append_right _ (List.mem_append_right _ (List.mem_append_left _ (List.mem_of_getElem? (i := 169) rfl)))) rfl
theorem tw_410 : (Jvm.Cond.code ({ cls := "CuckooPages", name := "crash", desc := "(I)I" } : Jvm.MethodName) prog_1_method_8_code (4 : Nat) (Option.some Jvm.ClassFile.FieldType.int)) ∈ TB := tb_of (List.mem_append_right _ (List.mem_append_right _ (List.mem_append_left _ (List.mem_of_getElem? (i := 170) rfl)))) rfl
theorem tw_412 : (Jvm.Cond.methodLink "CuckooPages" (108 : Nat) ({ cls := "java/lang/Math", name := "min", desc := "(II)I" } : Jvm.MethodName)) ∈ TB := tb_of (List.mem_append_right _ (List.mem_append_right _ (List.mem_append_left _ (List.mem_of_getElem? (i := 172) rfl)))) rfl
theorem tw_413 : (Jvm.Cond.static ({ cls := "java/lang/Math", name := "min", desc := "(II)I" } : Jvm.MethodName)) ∈ TB := tb_of (List.mem_append_right _ (List.mem_append_right _ (List.mem_append_left _ (List.mem_of_getElem? (i := 173) rfl)))) rfl
theorem tw_414 : (Jvm.Cond.code ({ cls := "java/lang/Math", name := "min", desc := "(II)I" } : Jvm.MethodName) prog_10_method_69_code (2 : Nat) (Option.some Jvm.ClassFile.FieldType.int)) ∈ TB := tb_of (List.mem_append_right _ (List.mem_append_right _ (List.mem_append_left _ (List.mem_of_getElem? (i := 174) rfl)))) rfl
theorem tw_415 : (Jvm.Cond.methodLink "CuckooPages" (114 : Nat) ({ cls := "CuckooPages", name := "recover", desc := "()V" } : Jvm.MethodName)) ∈ TB := tb_of (List.mem_append_right _ (List.mem_append_right _ (List.mem_append_left _ (List.mem_of_getElem? (i := 175) rfl)))) rfl
theorem tw_417 : (Jvm.Cond.instanceMethod ({ cls := "CuckooPages", name := "recover", desc := "()V" } : Jvm.MethodName)) ∈ TB := tb_of (List.mem_append_right _ (List.mem_append_right _ (List.mem_append_left _ (List.mem_of_getElem? (i := 177) rfl)))) rfl
theorem tw_418 : (Jvm.Cond.code ({ cls := "CuckooPages", name := "recover", desc := "()V" } : Jvm.MethodName) prog_1_method_26_code (2 : Nat) (Option.none : Option Jvm.ClassFile.FieldType)) ∈ TB := tb_of (List.mem_append_right _ (List.mem_append_right _ (List.mem_append_left _ (List.mem_of_getElem? (i := 178) rfl)))) rfl
theorem tw_419 : (Jvm.Cond.methodLink "CuckooPages" (229 : Nat) ({ cls := "CuckooPages$Moves", name := "takeJournal", desc := "(LCuckooPages$Image;)V" } : Jvm.MethodName)) ∈ TB := tb_of (List.mem_append_right _ (List.mem_append_right _ (List.mem_append_left _ (List.mem_of_getElem? (i := 179) rfl)))) rfl
theorem tw_420 : (Jvm.Cond.instanceMethod ({ cls := "CuckooPages$Moves", name := "takeJournal", desc := "(LCuckooPages$Image;)V" } : Jvm.MethodName)) ∈ TB := tb_of (List.mem_append_right _ (List.mem_append_right _ (List.mem_append_left _ (List.mem_of_getElem? (i := 180) rfl)))) rfl
theorem tw_421 : (Jvm.Cond.selects "CuckooPages$Moves" ({ cls := "CuckooPages$Moves", name := "takeJournal", desc := "(LCuckooPages$Image;)V" } : Jvm.MethodName) ({ cls := "CuckooPages$Moves", name := "takeJournal", desc := "(LCuckooPages$Image;)V" } : Jvm.MethodName)) ∈ TB := tb_of (List.mem_append_right _ (List.mem_append_right _ (List.mem_append_left _ (List.mem_of_getElem? (i := 181) rfl)))) rfl
theorem tw_422 : (Jvm.Cond.code ({ cls := "CuckooPages$Moves", name := "takeJournal", desc := "(LCuckooPages$Image;)V" } : Jvm.MethodName) prog_3_method_10_code (2 : Nat) (Option.none : Option Jvm.ClassFile.FieldType)) ∈ TB := tb_of (List.mem_append_right _ (List.mem_append_right _ (List.mem_append_left _ (List.mem_of_getElem? (i := 182) rfl)))) rfl
theorem tw_424 : (Jvm.Cond.methodLink "CuckooPagesLaw" (68 : Nat) ({ cls := "CuckooPagesLaw", name := "slot", desc := "(LCuckooPages;III[J)I" } : Jvm.MethodName)) ∈ TB := tb_of (List.mem_append_right _ (List.mem_append_right _ (List.mem_append_left _ (List.mem_of_getElem? (i := 184) rfl)))) rfl
theorem tw_425 : (Jvm.Cond.static ({ cls := "CuckooPagesLaw", name := "slot", desc := "(LCuckooPages;III[J)I" } : Jvm.MethodName)) ∈ TB := tb_of (List.mem_append_right _ (List.mem_append_right _ (List.mem_append_left _ (List.mem_of_getElem? (i := 185) rfl)))) rfl
theorem tw_426 : (Jvm.Cond.codeWith ({ cls := "CuckooPagesLaw", name := "slot", desc := "(LCuckooPages;III[J)I" } : Jvm.MethodName) method_5_code (6 : Nat) (Option.some Jvm.ClassFile.FieldType.int) [((0 : Nat), (12 : Nat), (15 : Nat), (13 : Nat))]) ∈ TB := tb_of (List.mem_append_right _ (List.mem_append_right _ (List.mem_append_left _ (List.mem_of_getElem? (i := 186) rfl)))) rfl
theorem tw_427 : (Jvm.Cond.methodLink "CuckooPagesLaw" (21 : Nat) ({ cls := "CuckooPages", name := "slot", desc := "(III)I" } : Jvm.MethodName)) ∈ TB := tb_of (List.mem_append_right _ (List.mem_append_right _ (List.mem_append_left _ (List.mem_of_getElem? (i := 187) rfl)))) rfl
theorem tw_428 : (Jvm.Cond.instanceMethod ({ cls := "CuckooPages", name := "slot", desc := "(III)I" } : Jvm.MethodName)) ∈ TB := tb_of (List.mem_append_right _ (List.mem_append_right _ (List.mem_append_left _ (List.mem_of_getElem? (i := 188) rfl)))) rfl
theorem tw_429 : (Jvm.Cond.selects "CuckooPages" ({ cls := "CuckooPages", name := "slot", desc := "(III)I" } : Jvm.MethodName) ({ cls := "CuckooPages", name := "slot", desc := "(III)I" } : Jvm.MethodName)) ∈ TB := tb_of (List.mem_append_right _ (List.mem_append_right _ (List.mem_append_left _ (List.mem_of_getElem? (i := 189) rfl)))) rfl
theorem tw_430 : (Jvm.Cond.code ({ cls := "CuckooPages", name := "slot", desc := "(III)I" } : Jvm.MethodName) prog_1_method_9_code (5 : Nat) (Option.some Jvm.ClassFile.FieldType.int)) ∈ TB := tb_of (List.mem_append_right _ (List.mem_append_right _ (List.mem_append_left _ (List.mem_of_getElem? (i := 190) rfl)))) rfl
theorem tw_434 : (Jvm.Cond.methodLink "CuckooPagesLaw" (81 : Nat) ({ cls := "CuckooPagesLaw", name := "count", desc := "(LCuckooPages;I[J)I" } : Jvm.MethodName)) ∈ TB := tb_of (List.mem_append_right _ (List.mem_append_right _ (List.mem_append_left _ (List.mem_of_getElem? (i := 194) rfl)))) rfl
theorem tw_435 : (Jvm.Cond.static ({ cls := "CuckooPagesLaw", name := "count", desc := "(LCuckooPages;I[J)I" } : Jvm.MethodName)) ∈ TB := tb_of (List.mem_append_right _ (List.mem_append_right _ (List.mem_append_left _ (List.mem_of_getElem? (i := 195) rfl)))) rfl
theorem tw_436 : (Jvm.Cond.codeWith ({ cls := "CuckooPagesLaw", name := "count", desc := "(LCuckooPages;I[J)I" } : Jvm.MethodName) method_6_code (4 : Nat) (Option.some Jvm.ClassFile.FieldType.int) [((0 : Nat), (9 : Nat), (12 : Nat), (13 : Nat))]) ∈ TB := tb_of (List.mem_append_right _ (List.mem_append_right _ (List.mem_append_left _ (List.mem_of_getElem? (i := 196) rfl)))) rfl
theorem tw_437 : (Jvm.Cond.methodLink "CuckooPagesLaw" (25 : Nat) ({ cls := "CuckooPages", name := "count", desc := "(I)I" } : Jvm.MethodName)) ∈ TB := tb_of (List.mem_append_right _ (List.mem_append_right _ (List.mem_append_left _ (List.mem_of_getElem? (i := 197) rfl)))) rfl
theorem tw_438 : (Jvm.Cond.instanceMethod ({ cls := "CuckooPages", name := "count", desc := "(I)I" } : Jvm.MethodName)) ∈ TB := tb_of (List.mem_append_right _ (List.mem_append_right _ (List.mem_append_left _ (List.mem_of_getElem? (i := 198) rfl)))) rfl
theorem tw_439 : (Jvm.Cond.selects "CuckooPages" ({ cls := "CuckooPages", name := "count", desc := "(I)I" } : Jvm.MethodName) ({ cls := "CuckooPages", name := "count", desc := "(I)I" } : Jvm.MethodName)) ∈ TB := tb_of (List.mem_append_right _ (List.mem_append_right _ (List.mem_append_left _ (List.mem_of_getElem? (i := 199) rfl)))) rfl
theorem tw_440 : (Jvm.Cond.code ({ cls := "CuckooPages", name := "count", desc := "(I)I" } : Jvm.MethodName) prog_1_method_12_code (2 : Nat) (Option.some Jvm.ClassFile.FieldType.int)) ∈ TB := tb_of (List.mem_append_right _ (List.mem_append_right _ (List.mem_append_left _ (List.mem_of_getElem? (i := 200) rfl)))) rfl
theorem tw_441 : (Jvm.Cond.methodLink "CuckooPages" (144 : Nat) ({ cls := "CuckooPages", name := "allKeys", desc := "()I" } : Jvm.MethodName)) ∈ TB := tb_of (List.mem_append_right _ (List.mem_append_right _ (List.mem_append_left _ (List.mem_of_getElem? (i := 201) rfl)))) rfl
theorem tw_443 : (Jvm.Cond.instanceMethod ({ cls := "CuckooPages", name := "allKeys", desc := "()I" } : Jvm.MethodName)) ∈ TB := tb_of (List.mem_append_right _ (List.mem_append_right _ (List.mem_append_left _ (List.mem_of_getElem? (i := 203) rfl)))) rfl
theorem tw_444 : (Jvm.Cond.code ({ cls := "CuckooPages", name := "allKeys", desc := "()I" } : Jvm.MethodName) prog_1_method_13_code (3 : Nat) (Option.some Jvm.ClassFile.FieldType.int)) ∈ TB := tb_of (List.mem_append_right _ (List.mem_append_right _ (List.mem_append_left _ (List.mem_of_getElem? (i := 204) rfl)))) rfl
theorem tw_445 : (Jvm.Cond.methodLink "CuckooPages" (147 : Nat) ({ cls := "CuckooPages$Image", name := "keysIn", desc := "(I)I" } : Jvm.MethodName)) ∈ TB := tb_of (List.mem_append_right _ (List.mem_append_right _ (List.mem_append_left _ (List.mem_of_getElem? (i := 205) rfl)))) rfl
theorem tw_446 : (Jvm.Cond.instanceMethod ({ cls := "CuckooPages$Image", name := "keysIn", desc := "(I)I" } : Jvm.MethodName)) ∈ TB := tb_of (List.mem_append_right _ (List.mem_append_right _ (List.mem_append_left _ (List.mem_of_getElem? (i := 206) rfl)))) rfl
theorem tw_447 : (Jvm.Cond.selects "CuckooPages$Image" ({ cls := "CuckooPages$Image", name := "keysIn", desc := "(I)I" } : Jvm.MethodName) ({ cls := "CuckooPages$Image", name := "keysIn", desc := "(I)I" } : Jvm.MethodName)) ∈ TB := tb_of (List.mem_append_right _ (List.mem_append_right _ (List.mem_append_left _ (List.mem_of_getElem? (i := 207) rfl)))) rfl
theorem tw_448 : (Jvm.Cond.code ({ cls := "CuckooPages$Image", name := "keysIn", desc := "(I)I" } : Jvm.MethodName) prog_2_method_17_code (4 : Nat) (Option.some Jvm.ClassFile.FieldType.int)) ∈ TB := tb_of (List.mem_append_right _ (List.mem_append_right _ (List.mem_append_left _ (List.mem_of_getElem? (i := 208) rfl)))) rfl
theorem tw_450 : (Jvm.Cond.classLink "CuckooPagesLaw" (29 : Nat) "CuckooPagesModel") ∈ TB := tb_of (List.mem_append_right _ (List.mem_append_right _ (List.mem_append_left _ (List.mem_of_getElem? (i := 210) rfl)))) rfl
theorem tw_451 : (Jvm.Cond.instantiable "CuckooPagesModel" (34 : Nat)) ∈ TB := tb_of (List.mem_append_right _ (List.mem_append_right _ (List.mem_append_left _ (List.mem_of_getElem? (i := 211) rfl)))) rfl
theorem tw_452 : (Jvm.Cond.methodLink "CuckooPagesLaw" (31 : Nat) ({ cls := "CuckooPagesModel", name := "<init>", desc := "()V" } : Jvm.MethodName)) ∈ TB := tb_of (List.mem_append_right _ (List.mem_append_right _ (List.mem_append_left _ (List.mem_of_getElem? (i := 212) rfl)))) rfl
theorem tw_453 : (Jvm.Cond.instanceMethod ({ cls := "CuckooPagesModel", name := "<init>", desc := "()V" } : Jvm.MethodName)) ∈ TB := tb_of (List.mem_append_right _ (List.mem_append_right _ (List.mem_append_left _ (List.mem_of_getElem? (i := 213) rfl)))) rfl
theorem tw_454 : (Jvm.Cond.code ({ cls := "CuckooPagesModel", name := "<init>", desc := "()V" } : Jvm.MethodName) prog_6_method_1_code (2 : Nat) (Option.none : Option Jvm.ClassFile.FieldType)) ∈ TB := tb_of (List.mem_append_right _ (List.mem_append_right _ (List.mem_append_left _ (List.mem_of_getElem? (i := 214) rfl)))) rfl
theorem tw_455 : (Jvm.Cond.methodLink "CuckooPagesModel" (1 : Nat) ({ cls := "java/lang/Object", name := "<init>", desc := "()V" } : Jvm.MethodName)) ∈ TB := tb_of (List.mem_append_right _ (List.mem_append_right _ (List.mem_append_left _ (List.mem_of_getElem? (i := 215) rfl)))) rfl
theorem tw_456 : (Jvm.Cond.fieldLink "CuckooPagesModel" (74 : Nat) "CuckooPagesModel" "refusal" "I") ∈ TB := tb_of (List.mem_append_right _ (List.mem_append_right _ (List.mem_append_left _ (List.mem_of_getElem? (i := 216) rfl)))) rfl
theorem tw_457 : (Jvm.Cond.fieldLink "CuckooPagesModel" (7 : Nat) "CuckooPagesModel" "isUsed" "[Z") ∈ TB := tb_of (List.mem_append_right _ (List.mem_append_right _ (List.mem_append_left _ (List.mem_of_getElem? (i := 217) rfl)))) rfl
theorem tw_458 : (Jvm.Cond.fieldLink "CuckooPagesModel" (13 : Nat) "CuckooPagesModel" "key" "[I") ∈ TB := tb_of (List.mem_append_right _ (List.mem_append_right _ (List.mem_append_left _ (List.mem_of_getElem? (i := 218) rfl)))) rfl
theorem tw_459 : (Jvm.Cond.fieldLink "CuckooPagesModel" (17 : Nat) "CuckooPagesModel" "value" "[I") ∈ TB := tb_of (List.mem_append_right _ (List.mem_append_right _ (List.mem_append_left _ (List.mem_of_getElem? (i := 219) rfl)))) rfl
theorem tw_460 : (Jvm.Cond.fieldLink "CuckooPagesModel" (20 : Nat) "CuckooPagesModel" "seeds" "[I") ∈ TB := tb_of (List.mem_append_right _ (List.mem_append_right _ (List.mem_append_left _ (List.mem_of_getElem? (i := 220) rfl)))) rfl
theorem tw_461 : (Jvm.Cond.fieldLink "CuckooPagesModel" (125 : Nat) "CuckooPagesModel" "set" "I") ∈ TB := tb_of (List.mem_append_right _ (List.mem_append_right _ (List.mem_append_left _ (List.mem_of_getElem? (i := 221) rfl)))) rfl
theorem tw_462 : (Jvm.Cond.fieldLink "CuckooPagesModel" (128 : Nat) "CuckooPagesModel" "seed" "I") ∈ TB := tb_of (List.mem_append_right _ (List.mem_append_right _ (List.mem_append_left _ (List.mem_of_getElem? (i := 222) rfl)))) rfl
theorem tw_463 : (Jvm.Cond.fieldLink "CuckooPagesModel" (122 : Nat) "CuckooPagesModel" "told" "I") ∈ TB := tb_of (List.mem_append_right _ (List.mem_append_right _ (List.mem_append_left _ (List.mem_of_getElem? (i := 223) rfl)))) rfl
theorem tw_464 : (Jvm.Cond.fieldLink "CuckooPagesModel" (23 : Nat) "CuckooPagesModel" "toldSlot" "[I") ∈ TB := tb_of (List.mem_append_right _ (List.mem_append_right _ (List.mem_append_left _ (List.mem_of_getElem? (i := 224) rfl)))) rfl
theorem tw_465 : (Jvm.Cond.fieldLink "CuckooPagesModel" (26 : Nat) "CuckooPagesModel" "toldKey" "[I") ∈ TB := tb_of (List.mem_append_right _ (List.mem_append_right _ (List.mem_append_left _ (List.mem_of_getElem? (i := 225) rfl)))) rfl
theorem tw_466 : (Jvm.Cond.fieldLink "CuckooPagesModel" (29 : Nat) "CuckooPagesModel" "toldValue" "[I") ∈ TB := tb_of (List.mem_append_right _ (List.mem_append_right _ (List.mem_append_left _ (List.mem_of_getElem? (i := 226) rfl)))) rfl
theorem tw_467 : (Jvm.Cond.fieldLink "CuckooPagesModel" (32 : Nat) "CuckooPagesModel" "diskUsed" "[Z") ∈ TB := tb_of (List.mem_append_right _ (List.mem_append_right _ (List.mem_append_left _ (List.mem_of_getElem? (i := 227) rfl)))) rfl
theorem tw_468 : (Jvm.Cond.fieldLink "CuckooPagesModel" (35 : Nat) "CuckooPagesModel" "diskKey" "[I") ∈ TB := tb_of (List.mem_append_right _ (List.mem_append_right _ (List.mem_append_left _ (List.mem_of_getElem? (i := 228) rfl)))) rfl
theorem tw_469 : (Jvm.Cond.fieldLink "CuckooPagesModel" (38 : Nat) "CuckooPagesModel" "diskValue" "[I") ∈ TB := tb_of (List.mem_append_right _ (List.mem_append_right _ (List.mem_append_left _ (List.mem_of_getElem? (i := 229) rfl)))) rfl
theorem tw_470 : (Jvm.Cond.fieldLink "CuckooPagesModel" (95 : Nat) "CuckooPagesModel" "diskSet" "I") ∈ TB := tb_of (List.mem_append_right _ (List.mem_append_right _ (List.mem_append_left _ (List.mem_of_getElem? (i := 230) rfl)))) rfl
theorem tw_471 : (Jvm.Cond.fieldLink "CuckooPagesModel" (98 : Nat) "CuckooPagesModel" "diskSeed" "I") ∈ TB := tb_of (List.mem_append_right _ (List.mem_append_right _ (List.mem_append_left _ (List.mem_of_getElem? (i := 231) rfl)))) rfl
theorem tw_472 : (Jvm.Cond.fieldLink "CuckooPagesModel" (101 : Nat) "CuckooPagesModel" "diskTold" "I") ∈ TB := tb_of (List.mem_append_right _ (List.mem_append_right _ (List.mem_append_left _ (List.mem_of_getElem? (i := 232) rfl)))) rfl
theorem tw_473 : (Jvm.Cond.fieldLink "CuckooPagesModel" (41 : Nat) "CuckooPagesModel" "diskSlot" "[I") ∈ TB := tb_of (List.mem_append_right _ (List.mem_append_right _ (List.mem_append_left _ (List.mem_of_getElem? (i := 233) rfl)))) rfl
theorem tw_474 : (Jvm.Cond.fieldLink "CuckooPagesModel" (44 : Nat) "CuckooPagesModel" "diskToldKey" "[I") ∈ TB := tb_of (List.mem_append_right _ (List.mem_append_right _ (List.mem_append_left _ (List.mem_of_getElem? (i := 234) rfl)))) rfl
theorem tw_475 : (Jvm.Cond.fieldLink "CuckooPagesModel" (47 : Nat) "CuckooPagesModel" "diskToldValue" "[I") ∈ TB := tb_of (List.mem_append_right _ (List.mem_append_right _ (List.mem_append_left _ (List.mem_of_getElem? (i := 235) rfl)))) rfl
theorem tw_476 : (Jvm.Cond.fieldLink "CuckooPagesModel" (104 : Nat) "CuckooPagesModel" "waiting" "I") ∈ TB := tb_of (List.mem_append_right _ (List.mem_append_right _ (List.mem_append_left _ (List.mem_of_getElem? (i := 236) rfl)))) rfl
theorem tw_477 : (Jvm.Cond.fieldLink "CuckooPagesModel" (115 : Nat) "CuckooPagesModel" "ever" "I") ∈ TB := tb_of (List.mem_append_right _ (List.mem_append_right _ (List.mem_append_left _ (List.mem_of_getElem? (i := 237) rfl)))) rfl
theorem tw_478 : (Jvm.Cond.fieldLink "CuckooPagesModel" (50 : Nat) "CuckooPagesModel" "kind" "[I") ∈ TB := tb_of (List.mem_append_right _ (List.mem_append_right _ (List.mem_append_left _ (List.mem_of_getElem? (i := 238) rfl)))) rfl
theorem tw_479 : (Jvm.Cond.fieldLink "CuckooPagesModel" (53 : Nat) "CuckooPagesModel" "where" "[I") ∈ TB := tb_of (List.mem_append_right _ (List.mem_append_right _ (List.mem_append_left _ (List.mem_of_getElem? (i := 239) rfl)))) rfl
theorem tw_480 : (Jvm.Cond.fieldLink "CuckooPagesModel" (56 : Nat) "CuckooPagesModel" "many" "[I") ∈ TB := tb_of (List.mem_append_right _ (List.mem_append_right _ (List.mem_append_right _ (List.mem_of_getElem? (i := 0) rfl)))) rfl
theorem tw_481 : (Jvm.Cond.fieldLink "CuckooPagesModel" (59 : Nat) "CuckooPagesModel" "keptUsed" "[Z") ∈ TB := tb_of (List.mem_append_right _ (List.mem_append_right _ (List.mem_append_right _ (List.mem_of_getElem? (i := 1) rfl)))) rfl
theorem tw_482 : (Jvm.Cond.fieldLink "CuckooPagesModel" (62 : Nat) "CuckooPagesModel" "keptSlot" "[I") ∈ TB := tb_of (List.mem_append_right _ (List.mem_append_right _ (List.mem_append_right _ (List.mem_of_getElem? (i := 2) rfl)))) rfl
theorem tw_483 : (Jvm.Cond.fieldLink "CuckooPagesModel" (65 : Nat) "CuckooPagesModel" "keptKey" "[I") ∈ TB := tb_of (List.mem_append_right _ (List.mem_append_right _ (List.mem_append_right _ (List.mem_of_getElem? (i := 3) rfl)))) rfl
theorem tw_484 : (Jvm.Cond.fieldLink "CuckooPagesModel" (68 : Nat) "CuckooPagesModel" "keptValue" "[I") ∈ TB := tb_of (List.mem_append_right _ (List.mem_append_right _ (List.mem_append_right _ (List.mem_of_getElem? (i := 4) rfl)))) rfl
theorem tw_485 : (Jvm.Cond.fieldLink "CuckooPagesModel" (134 : Nat) "CuckooPagesModel" "path" "I") ∈ TB := tb_of (List.mem_append_right _ (List.mem_append_right _ (List.mem_append_right _ (List.mem_of_getElem? (i := 5) rfl)))) rfl
theorem tw_486 : (Jvm.Cond.fieldLink "CuckooPagesModel" (71 : Nat) "CuckooPagesModel" "pathSlot" "[I") ∈ TB := tb_of (List.mem_append_right _ (List.mem_append_right _ (List.mem_append_right _ (List.mem_of_getElem? (i := 6) rfl)))) rfl
theorem tw_487 : (Jvm.Cond.fieldLink "CuckooPagesModel" (145 : Nat) "CuckooPagesModel" "lastPath" "I") ∈ TB := tb_of (List.mem_append_right _ (List.mem_append_right _ (List.mem_append_right _ (List.mem_of_getElem? (i := 7) rfl)))) rfl
theorem tw_488 : (Jvm.Cond.fieldLink "CuckooPagesModel" (173 : Nat) "CuckooPagesModel" "madeAnew" "I") ∈ TB := tb_of (List.mem_append_right _ (List.mem_append_right _ (List.mem_append_right _ (List.mem_of_getElem? (i := 8) rfl)))) rfl
theorem tw_489 : (Jvm.Cond.fieldLink "CuckooPagesModel" (185 : Nat) "CuckooPagesModel" "redone" "I") ∈ TB := tb_of (List.mem_append_right _ (List.mem_append_right _ (List.mem_append_right _ (List.mem_of_getElem? (i := 9) rfl)))) rfl
theorem tw_490 : (Jvm.Cond.lays "CuckooPagesModel" "CuckooPagesModel" "refusal" "I") ∈ TB := tb_of (List.mem_append_right _ (List.mem_append_right _ (List.mem_append_right _ (List.mem_of_getElem? (i := 10) rfl)))) rfl
theorem tw_492 : (Jvm.Cond.laysFinal "CuckooPagesModel" "CuckooPagesModel" "isUsed" "[Z") ∈ TB := tb_of (List.mem_append_right _ (List.mem_append_right _ (List.mem_append_right _ (List.mem_of_getElem? (i := 12) rfl)))) rfl
theorem tw_494 : (Jvm.Cond.laysFinal "CuckooPagesModel" "CuckooPagesModel" "key" "[I") ∈ TB := tb_of (List.mem_append_right _ (List.mem_append_right _ (List.mem_append_right _ (List.mem_of_getElem? (i := 14) rfl)))) rfl
theorem tw_496 : (Jvm.Cond.laysFinal "CuckooPagesModel" "CuckooPagesModel" "value" "[I") ∈ TB := tb_of (List.mem_append_right _ (List.mem_append_right _ (List.mem_append_right _ (List.mem_of_getElem? (i := 16) rfl)))) rfl
theorem tw_498 : (Jvm.Cond.laysFinal "CuckooPagesModel" "CuckooPagesModel" "seeds" "[I") ∈ TB := tb_of (List.mem_append_right _ (List.mem_append_right _ (List.mem_append_right _ (List.mem_of_getElem? (i := 18) rfl)))) rfl
theorem tw_500 : (Jvm.Cond.lays "CuckooPagesModel" "CuckooPagesModel" "set" "I") ∈ TB := tb_of (List.mem_append_right _ (List.mem_append_right _ (List.mem_append_right _ (List.mem_of_getElem? (i := 20) rfl)))) rfl
theorem tw_502 : (Jvm.Cond.lays "CuckooPagesModel" "CuckooPagesModel" "seed" "I") ∈ TB := tb_of (List.mem_append_right _ (List.mem_append_right _ (List.mem_append_right _ (List.mem_of_getElem? (i := 22) rfl)))) rfl
theorem tw_504 : (Jvm.Cond.lays "CuckooPagesModel" "CuckooPagesModel" "told" "I") ∈ TB := tb_of (List.mem_append_right _ (List.mem_append_right _ (List.mem_append_right _ (List.mem_of_getElem? (i := 24) rfl)))) rfl
theorem tw_506 : (Jvm.Cond.laysFinal "CuckooPagesModel" "CuckooPagesModel" "toldSlot" "[I") ∈ TB := tb_of (List.mem_append_right _ (List.mem_append_right _ (List.mem_append_right _ (List.mem_of_getElem? (i := 26) rfl)))) rfl
theorem tw_508 : (Jvm.Cond.laysFinal "CuckooPagesModel" "CuckooPagesModel" "toldKey" "[I") ∈ TB := tb_of (List.mem_append_right _ (List.mem_append_right _ (List.mem_append_right _ (List.mem_of_getElem? (i := 28) rfl)))) rfl
theorem tw_510 : (Jvm.Cond.laysFinal "CuckooPagesModel" "CuckooPagesModel" "toldValue" "[I") ∈ TB := tb_of (List.mem_append_right _ (List.mem_append_right _ (List.mem_append_right _ (List.mem_of_getElem? (i := 30) rfl)))) rfl
theorem tw_512 : (Jvm.Cond.laysFinal "CuckooPagesModel" "CuckooPagesModel" "diskUsed" "[Z") ∈ TB := tb_of (List.mem_append_right _ (List.mem_append_right _ (List.mem_append_right _ (List.mem_of_getElem? (i := 32) rfl)))) rfl
theorem tw_514 : (Jvm.Cond.laysFinal "CuckooPagesModel" "CuckooPagesModel" "diskKey" "[I") ∈ TB := tb_of (List.mem_append_right _ (List.mem_append_right _ (List.mem_append_right _ (List.mem_of_getElem? (i := 34) rfl)))) rfl
theorem tw_516 : (Jvm.Cond.laysFinal "CuckooPagesModel" "CuckooPagesModel" "diskValue" "[I") ∈ TB := tb_of (List.mem_append_right _ (List.mem_append_right _ (List.mem_append_right _ (List.mem_of_getElem? (i := 36) rfl)))) rfl
theorem tw_518 : (Jvm.Cond.lays "CuckooPagesModel" "CuckooPagesModel" "diskSet" "I") ∈ TB := tb_of (List.mem_append_right _ (List.mem_append_right _ (List.mem_append_right _ (List.mem_of_getElem? (i := 38) rfl)))) rfl
theorem tw_520 : (Jvm.Cond.lays "CuckooPagesModel" "CuckooPagesModel" "diskSeed" "I") ∈ TB := tb_of (List.mem_append_right _ (List.mem_append_right _ (List.mem_append_right _ (List.mem_of_getElem? (i := 40) rfl)))) rfl
theorem tw_522 : (Jvm.Cond.lays "CuckooPagesModel" "CuckooPagesModel" "diskTold" "I") ∈ TB := tb_of (List.mem_append_right _ (List.mem_append_right _ (List.mem_append_right _ (List.mem_of_getElem? (i := 42) rfl)))) rfl
theorem tw_524 : (Jvm.Cond.laysFinal "CuckooPagesModel" "CuckooPagesModel" "diskSlot" "[I") ∈ TB := tb_of (List.mem_append_right _ (List.mem_append_right _ (List.mem_append_right _ (List.mem_of_getElem? (i := 44) rfl)))) rfl
theorem tw_526 : (Jvm.Cond.laysFinal "CuckooPagesModel" "CuckooPagesModel" "diskToldKey" "[I") ∈ TB := tb_of (List.mem_append_right _ (List.mem_append_right _ (List.mem_append_right _ (List.mem_of_getElem? (i := 46) rfl)))) rfl
theorem tw_528 : (Jvm.Cond.laysFinal "CuckooPagesModel" "CuckooPagesModel" "diskToldValue" "[I") ∈ TB := tb_of (List.mem_append_right _ (List.mem_append_right _ (List.mem_append_right _ (List.mem_of_getElem? (i := 48) rfl)))) rfl
theorem tw_530 : (Jvm.Cond.lays "CuckooPagesModel" "CuckooPagesModel" "waiting" "I") ∈ TB := tb_of (List.mem_append_right _ (List.mem_append_right _ (List.mem_append_right _ (List.mem_of_getElem? (i := 50) rfl)))) rfl
theorem tw_532 : (Jvm.Cond.lays "CuckooPagesModel" "CuckooPagesModel" "ever" "I") ∈ TB := tb_of (List.mem_append_right _ (List.mem_append_right _ (List.mem_append_right _ (List.mem_of_getElem? (i := 52) rfl)))) rfl
theorem tw_534 : (Jvm.Cond.laysFinal "CuckooPagesModel" "CuckooPagesModel" "kind" "[I") ∈ TB := tb_of (List.mem_append_right _ (List.mem_append_right _ (List.mem_append_right _ (List.mem_of_getElem? (i := 54) rfl)))) rfl
theorem tw_536 : (Jvm.Cond.laysFinal "CuckooPagesModel" "CuckooPagesModel" "where" "[I") ∈ TB := tb_of (List.mem_append_right _ (List.mem_append_right _ (List.mem_append_right _ (List.mem_of_getElem? (i := 56) rfl)))) rfl
theorem tw_538 : (Jvm.Cond.laysFinal "CuckooPagesModel" "CuckooPagesModel" "many" "[I") ∈ TB := tb_of (List.mem_append_right _ (List.mem_append_right _ (List.mem_append_right _ (List.mem_of_getElem? (i := 58) rfl)))) rfl
theorem tw_540 : (Jvm.Cond.laysFinal "CuckooPagesModel" "CuckooPagesModel" "keptUsed" "[Z") ∈ TB := tb_of (List.mem_append_right _ (List.mem_append_right _ (List.mem_append_right _ (List.mem_of_getElem? (i := 60) rfl)))) rfl
theorem tw_542 : (Jvm.Cond.laysFinal "CuckooPagesModel" "CuckooPagesModel" "keptSlot" "[I") ∈ TB := tb_of (List.mem_append_right _ (List.mem_append_right _ (List.mem_append_right _ (List.mem_of_getElem? (i := 62) rfl)))) rfl
theorem tw_544 : (Jvm.Cond.laysFinal "CuckooPagesModel" "CuckooPagesModel" "keptKey" "[I") ∈ TB := tb_of (List.mem_append_right _ (List.mem_append_right _ (List.mem_append_right _ (List.mem_of_getElem? (i := 64) rfl)))) rfl
theorem tw_546 : (Jvm.Cond.laysFinal "CuckooPagesModel" "CuckooPagesModel" "keptValue" "[I") ∈ TB := tb_of (List.mem_append_right _ (List.mem_append_right _ (List.mem_append_right _ (List.mem_of_getElem? (i := 66) rfl)))) rfl
theorem tw_548 : (Jvm.Cond.lays "CuckooPagesModel" "CuckooPagesModel" "path" "I") ∈ TB := tb_of (List.mem_append_right _ (List.mem_append_right _ (List.mem_append_right _ (List.mem_of_getElem? (i := 68) rfl)))) rfl
theorem tw_550 : (Jvm.Cond.laysFinal "CuckooPagesModel" "CuckooPagesModel" "pathSlot" "[I") ∈ TB := tb_of (List.mem_append_right _ (List.mem_append_right _ (List.mem_append_right _ (List.mem_of_getElem? (i := 70) rfl)))) rfl
theorem tw_552 : (Jvm.Cond.lays "CuckooPagesModel" "CuckooPagesModel" "lastPath" "I") ∈ TB := tb_of (List.mem_append_right _ (List.mem_append_right _ (List.mem_append_right _ (List.mem_of_getElem? (i := 72) rfl)))) rfl
theorem tw_554 : (Jvm.Cond.lays "CuckooPagesModel" "CuckooPagesModel" "madeAnew" "I") ∈ TB := tb_of (List.mem_append_right _ (List.mem_append_right _ (List.mem_append_right _ (List.mem_of_getElem? (i := 74) rfl)))) rfl
theorem tw_556 : (Jvm.Cond.lays "CuckooPagesModel" "CuckooPagesModel" "redone" "I") ∈ TB := tb_of (List.mem_append_right _ (List.mem_append_right _ (List.mem_append_right _ (List.mem_of_getElem? (i := 76) rfl)))) rfl
theorem tw_559 : (Jvm.Cond.arrayClass Jvm.ClassFile.FieldType.boolean) ∈ TB := tb_of (List.mem_append_right _ (List.mem_append_right _ (List.mem_append_right _ (List.mem_of_getElem? (i := 79) rfl)))) rfl
theorem tw_560 : (Jvm.Cond.methodLink "CuckooPagesLaw" (38 : Nat) ({ cls := "CuckooPagesModel", name := "thrown", desc := "()I" } : Jvm.MethodName)) ∈ TB := tb_of (List.mem_append_right _ (List.mem_append_right _ (List.mem_append_right _ (List.mem_of_getElem? (i := 80) rfl)))) rfl
theorem tw_561 : (Jvm.Cond.instanceMethod ({ cls := "CuckooPagesModel", name := "thrown", desc := "()I" } : Jvm.MethodName)) ∈ TB := tb_of (List.mem_append_right _ (List.mem_append_right _ (List.mem_append_right _ (List.mem_of_getElem? (i := 81) rfl)))) rfl
theorem tw_562 : (Jvm.Cond.selects "CuckooPagesModel" ({ cls := "CuckooPagesModel", name := "thrown", desc := "()I" } : Jvm.MethodName) ({ cls := "CuckooPagesModel", name := "thrown", desc := "()I" } : Jvm.MethodName)) ∈ TB := tb_of (List.mem_append_right _ (List.mem_append_right _ (List.mem_append_right _ (List.mem_of_getElem? (i := 82) rfl)))) rfl
theorem tw_563 : (Jvm.Cond.code ({ cls := "CuckooPagesModel", name := "thrown", desc := "()I" } : Jvm.MethodName) prog_6_method_2_code (1 : Nat) (Option.some Jvm.ClassFile.FieldType.int)) ∈ TB := tb_of (List.mem_append_right _ (List.mem_append_right _ (List.mem_append_right _ (List.mem_of_getElem? (i := 83) rfl)))) rfl
theorem tw_564 : (Jvm.Cond.methodLink "CuckooPagesLaw" (46 : Nat) ({ cls := "CuckooPagesModel", name := "put", desc := "(II)I" } : Jvm.MethodName)) ∈ TB := tb_of (List.mem_append_right _ (List.mem_append_right _ (List.mem_append_right _ (List.mem_of_getElem? (i := 84) rfl)))) rfl
theorem tw_565 : (Jvm.Cond.instanceMethod ({ cls := "CuckooPagesModel", name := "put", desc := "(II)I" } : Jvm.MethodName)) ∈ TB := tb_of (List.mem_append_right _ (List.mem_append_right _ (List.mem_append_right _ (List.mem_of_getElem? (i := 85) rfl)))) rfl
theorem tw_566 : (Jvm.Cond.selects "CuckooPagesModel" ({ cls := "CuckooPagesModel", name := "put", desc := "(II)I" } : Jvm.MethodName) ({ cls := "CuckooPagesModel", name := "put", desc := "(II)I" } : Jvm.MethodName)) ∈ TB := tb_of (List.mem_append_right _ (List.mem_append_right _ (List.mem_append_right _ (List.mem_of_getElem? (i := 86) rfl)))) rfl
theorem tw_567 : (Jvm.Cond.code ({ cls := "CuckooPagesModel", name := "put", desc := "(II)I" } : Jvm.MethodName) prog_6_method_23_code (5 : Nat) (Option.some Jvm.ClassFile.FieldType.int)) ∈ TB := tb_of (List.mem_append_right _ (List.mem_append_right _ (List.mem_append_right _ (List.mem_of_getElem? (i := 87) rfl)))) rfl
theorem tw_568 : (Jvm.Cond.methodLink "CuckooPagesModel" (176 : Nat) ({ cls := "CuckooPagesModel", name := "place", desc := "(III)I" } : Jvm.MethodName)) ∈ TB := tb_of (List.mem_append_right _ (List.mem_append_right _ (List.mem_append_right _ (List.mem_of_getElem? (i := 88) rfl)))) rfl
theorem tw_570 : (Jvm.Cond.instanceMethod ({ cls := "CuckooPagesModel", name := "place", desc := "(III)I" } : Jvm.MethodName)) ∈ TB := tb_of (List.mem_append_right _ (List.mem_append_right _ (List.mem_append_right _ (List.mem_of_getElem? (i := 90) rfl)))) rfl
theorem tw_571 : (Jvm.Cond.code ({ cls := "CuckooPagesModel", name := "place", desc := "(III)I" } : Jvm.MethodName) prog_6_method_8_code (5 : Nat) (Option.some Jvm.ClassFile.FieldType.int)) ∈ TB := tb_of (List.mem_append_right _ (List.mem_append_right _ (List.mem_append_right _ (List.mem_of_getElem? (i := 91) rfl)))) rfl
theorem tw_572 : (Jvm.Cond.methodLink "CuckooPagesModel" (89 : Nat) ({ cls := "CuckooPagesModel", name := "homeBy", desc := "(IIZ)I" } : Jvm.MethodName)) ∈ TB := tb_of (List.mem_append_right _ (List.mem_append_right _ (List.mem_append_right _ (List.mem_of_getElem? (i := 92) rfl)))) rfl
theorem tw_573 : (Jvm.Cond.static ({ cls := "CuckooPagesModel", name := "homeBy", desc := "(IIZ)I" } : Jvm.MethodName)) ∈ TB := tb_of (List.mem_append_right _ (List.mem_append_right _ (List.mem_append_right _ (List.mem_of_getElem? (i := 93) rfl)))) rfl
theorem tw_574 : (Jvm.Cond.code ({ cls := "CuckooPagesModel", name := "homeBy", desc := "(IIZ)I" } : Jvm.MethodName) prog_6_method_5_code (5 : Nat) (Option.some Jvm.ClassFile.FieldType.int)) ∈ TB := tb_of (List.mem_append_right _ (List.mem_append_right _ (List.mem_append_right _ (List.mem_of_getElem? (i := 94) rfl)))) rfl
theorem tw_575 : (Jvm.Cond.methodLink "CuckooPagesModel" (81 : Nat) ({ cls := "CuckooPagesModel", name := "homeOf", desc := "(IIZ)I" } : Jvm.MethodName)) ∈ TB := tb_of (List.mem_append_right _ (List.mem_append_right _ (List.mem_append_right _ (List.mem_of_getElem? (i := 95) rfl)))) rfl
theorem tw_576 : (Jvm.Cond.static ({ cls := "CuckooPagesModel", name := "homeOf", desc := "(IIZ)I" } : Jvm.MethodName)) ∈ TB := tb_of (List.mem_append_right _ (List.mem_append_right _ (List.mem_append_right _ (List.mem_of_getElem? (i := 96) rfl)))) rfl
theorem tw_577 : (Jvm.Cond.code ({ cls := "CuckooPagesModel", name := "homeOf", desc := "(IIZ)I" } : Jvm.MethodName) prog_6_method_4_code (4 : Nat) (Option.some Jvm.ClassFile.FieldType.int)) ∈ TB := tb_of (List.mem_append_right _ (List.mem_append_right _ (List.mem_append_right _ (List.mem_of_getElem? (i := 97) rfl)))) rfl
theorem tw_578 : (Jvm.Cond.constant "CuckooPagesModel" (78 : Nat) (-1640531535 : Int32)) ∈ TB := tb_of (List.mem_append_right _ (List.mem_append_right _ (List.mem_append_right _ (List.mem_of_getElem? (i := 98) rfl)))) rfl
theorem tw_579 : (Jvm.Cond.constant "CuckooPagesModel" (79 : Nat) (-1028477387 : Int32)) ∈ TB := tb_of (List.mem_append_right _ (List.mem_append_right _ (List.mem_append_right _ (List.mem_of_getElem? (i := 99) rfl)))) rfl
theorem tw_580 : (Jvm.Cond.constant "CuckooPagesModel" (80 : Nat) (-2048144789 : Int32)) ∈ TB := tb_of (List.mem_append_right _ (List.mem_append_right _ (List.mem_append_right _ (List.mem_of_getElem? (i := 100) rfl)))) rfl
theorem tw_581 : (Jvm.Cond.methodLink "CuckooPagesModel" (92 : Nat) ({ cls := "CuckooPagesModel", name := "find", desc := "(III)I" } : Jvm.MethodName)) ∈ TB := tb_of (List.mem_append_right _ (List.mem_append_right _ (List.mem_append_right _ (List.mem_of_getElem? (i := 101) rfl)))) rfl
theorem tw_583 : (Jvm.Cond.instanceMethod ({ cls := "CuckooPagesModel", name := "find", desc := "(III)I" } : Jvm.MethodName)) ∈ TB := tb_of (List.mem_append_right _ (List.mem_append_right _ (List.mem_append_right _ (List.mem_of_getElem? (i := 103) rfl)))) rfl
theorem tw_584 : (Jvm.Cond.code ({ cls := "CuckooPagesModel", name := "find", desc := "(III)I" } : Jvm.MethodName) prog_6_method_7_code (6 : Nat) (Option.some Jvm.ClassFile.FieldType.int)) ∈ TB := tb_of (List.mem_append_right _ (List.mem_append_right _ (List.mem_append_right _ (List.mem_of_getElem? (i := 104) rfl)))) rfl
theorem tw_585 : (Jvm.Cond.methodLink "CuckooPagesModel" (85 : Nat) ({ cls := "CuckooPagesModel", name := "slotOf", desc := "(III)I" } : Jvm.MethodName)) ∈ TB := tb_of (List.mem_append_right _ (List.mem_append_right _ (List.mem_append_right _ (List.mem_of_getElem? (i := 105) rfl)))) rfl
theorem tw_586 : (Jvm.Cond.static ({ cls := "CuckooPagesModel", name := "slotOf", desc := "(III)I" } : Jvm.MethodName)) ∈ TB := tb_of (List.mem_append_right _ (List.mem_append_right _ (List.mem_append_right _ (List.mem_of_getElem? (i := 106) rfl)))) rfl
theorem tw_587 : (Jvm.Cond.code ({ cls := "CuckooPagesModel", name := "slotOf", desc := "(III)I" } : Jvm.MethodName) prog_6_method_6_code (3 : Nat) (Option.some Jvm.ClassFile.FieldType.int)) ∈ TB := tb_of (List.mem_append_right _ (List.mem_append_right _ (List.mem_append_right _ (List.mem_of_getElem? (i := 107) rfl)))) rfl
theorem tw_588 : (Jvm.Cond.methodLink "CuckooPagesModel" (151 : Nat) ({ cls := "CuckooPagesModel", name := "fill", desc := "(IIIZ)V" } : Jvm.MethodName)) ∈ TB := tb_of (List.mem_append_right _ (List.mem_append_right _ (List.mem_append_right _ (List.mem_of_getElem? (i := 108) rfl)))) rfl
theorem tw_590 : (Jvm.Cond.instanceMethod ({ cls := "CuckooPagesModel", name := "fill", desc := "(IIIZ)V" } : Jvm.MethodName)) ∈ TB := tb_of (List.mem_append_right _ (List.mem_append_right _ (List.mem_append_right _ (List.mem_of_getElem? (i := 110) rfl)))) rfl
theorem tw_591 : (Jvm.Cond.code ({ cls := "CuckooPagesModel", name := "fill", desc := "(IIIZ)V" } : Jvm.MethodName) prog_6_method_16_code (5 : Nat) (Option.none : Option Jvm.ClassFile.FieldType)) ∈ TB := tb_of (List.mem_append_right _ (List.mem_append_right _ (List.mem_append_right _ (List.mem_of_getElem? (i := 111) rfl)))) rfl
theorem tw_592 : (Jvm.Cond.methodLink "CuckooPagesModel" (131 : Nat) ({ cls := "CuckooPagesModel", name := "writePage", desc := "(I)V" } : Jvm.MethodName)) ∈ TB := tb_of (List.mem_append_right _ (List.mem_append_right _ (List.mem_append_right _ (List.mem_of_getElem? (i := 112) rfl)))) rfl
theorem tw_594 : (Jvm.Cond.instanceMethod ({ cls := "CuckooPagesModel", name := "writePage", desc := "(I)V" } : Jvm.MethodName)) ∈ TB := tb_of (List.mem_append_right _ (List.mem_append_right _ (List.mem_append_right _ (List.mem_of_getElem? (i := 114) rfl)))) rfl
theorem tw_595 : (Jvm.Cond.code ({ cls := "CuckooPagesModel", name := "writePage", desc := "(I)V" } : Jvm.MethodName) prog_6_method_13_code (5 : Nat) (Option.none : Option Jvm.ClassFile.FieldType)) ∈ TB := tb_of (List.mem_append_right _ (List.mem_append_right _ (List.mem_append_right _ (List.mem_of_getElem? (i := 115) rfl)))) rfl
theorem tw_596 : (Jvm.Cond.methodLink "CuckooPagesModel" (118 : Nat) ({ cls := "CuckooPagesModel", name := "next", desc := "(I)I" } : Jvm.MethodName)) ∈ TB := tb_of (List.mem_append_right _ (List.mem_append_right _ (List.mem_append_right _ (List.mem_of_getElem? (i := 116) rfl)))) rfl
theorem tw_598 : (Jvm.Cond.instanceMethod ({ cls := "CuckooPagesModel", name := "next", desc := "(I)I" } : Jvm.MethodName)) ∈ TB := tb_of (List.mem_append_right _ (List.mem_append_right _ (List.mem_append_right _ (List.mem_of_getElem? (i := 118) rfl)))) rfl
theorem tw_599 : (Jvm.Cond.code ({ cls := "CuckooPagesModel", name := "next", desc := "(I)I" } : Jvm.MethodName) prog_6_method_12_code (3 : Nat) (Option.some Jvm.ClassFile.FieldType.int)) ∈ TB := tb_of (List.mem_append_right _ (List.mem_append_right _ (List.mem_append_right _ (List.mem_of_getElem? (i := 119) rfl)))) rfl
theorem tw_600 : (Jvm.Cond.methodLink "CuckooPagesModel" (111 : Nat) ({ cls := "CuckooPagesModel", name := "flush", desc := "()I" } : Jvm.MethodName)) ∈ TB := tb_of (List.mem_append_right _ (List.mem_append_right _ (List.mem_append_right _ (List.mem_of_getElem? (i := 120) rfl)))) rfl
theorem tw_602 : (Jvm.Cond.instanceMethod ({ cls := "CuckooPagesModel", name := "flush", desc := "()I" } : Jvm.MethodName)) ∈ TB := tb_of (List.mem_append_right _ (List.mem_append_right _ (List.mem_append_right _ (List.mem_of_getElem? (i := 122) rfl)))) rfl
theorem tw_603 : (Jvm.Cond.code ({ cls := "CuckooPagesModel", name := "flush", desc := "()I" } : Jvm.MethodName) prog_6_method_11_code (3 : Nat) (Option.some Jvm.ClassFile.FieldType.int)) ∈ TB := tb_of (List.mem_append_right _ (List.mem_append_right _ (List.mem_append_right _ (List.mem_of_getElem? (i := 123) rfl)))) rfl
theorem tw_604 : (Jvm.Cond.methodLink "CuckooPagesModel" (107 : Nat) ({ cls := "CuckooPagesModel", name := "finish", desc := "(I)V" } : Jvm.MethodName)) ∈ TB := tb_of (List.mem_append_right _ (List.mem_append_right _ (List.mem_append_right _ (List.mem_of_getElem? (i := 124) rfl)))) rfl
theorem tw_606 : (Jvm.Cond.instanceMethod ({ cls := "CuckooPagesModel", name := "finish", desc := "(I)V" } : Jvm.MethodName)) ∈ TB := tb_of (List.mem_append_right _ (List.mem_append_right _ (List.mem_append_right _ (List.mem_of_getElem? (i := 126) rfl)))) rfl
theorem tw_607 : (Jvm.Cond.code ({ cls := "CuckooPagesModel", name := "finish", desc := "(I)V" } : Jvm.MethodName) prog_6_method_10_code (4 : Nat) (Option.none : Option Jvm.ClassFile.FieldType)) ∈ TB := tb_of (List.mem_append_right _ (List.mem_append_right _ (List.mem_append_right _ (List.mem_of_getElem? (i := 127) rfl)))) rfl
theorem tw_608 : (Jvm.Cond.methodLink "CuckooPagesModel" (163 : Nat) ({ cls := "CuckooPagesModel", name := "putInto", desc := "(IIIIZ)I" } : Jvm.MethodName)) ∈ TB := tb_of (List.mem_append_right _ (List.mem_append_right _ (List.mem_append_right _ (List.mem_of_getElem? (i := 128) rfl)))) rfl
theorem tw_610 : (Jvm.Cond.instanceMethod ({ cls := "CuckooPagesModel", name := "putInto", desc := "(IIIIZ)I" } : Jvm.MethodName)) ∈ TB := tb_of (List.mem_append_right _ (List.mem_append_right _ (List.mem_append_right _ (List.mem_of_getElem? (i := 130) rfl)))) rfl
theorem tw_611 : (Jvm.Cond.code ({ cls := "CuckooPagesModel", name := "putInto", desc := "(IIIIZ)I" } : Jvm.MethodName) prog_6_method_20_code (9 : Nat) (Option.some Jvm.ClassFile.FieldType.int)) ∈ TB := tb_of (List.mem_append_right _ (List.mem_append_right _ (List.mem_append_right _ (List.mem_of_getElem? (i := 131) rfl)))) rfl
theorem tw_612 : (Jvm.Cond.methodLink "CuckooPagesModel" (141 : Nat) ({ cls := "CuckooPagesModel", name := "empty", desc := "(II)I" } : Jvm.MethodName)) ∈ TB := tb_of (List.mem_append_right _ (List.mem_append_right _ (List.mem_append_right _ (List.mem_of_getElem? (i := 132) rfl)))) rfl
theorem tw_614 : (Jvm.Cond.instanceMethod ({ cls := "CuckooPagesModel", name := "empty", desc := "(II)I" } : Jvm.MethodName)) ∈ TB := tb_of (List.mem_append_right _ (List.mem_append_right _ (List.mem_append_right _ (List.mem_of_getElem? (i := 134) rfl)))) rfl
theorem tw_615 : (Jvm.Cond.code ({ cls := "CuckooPagesModel", name := "empty", desc := "(II)I" } : Jvm.MethodName) prog_6_method_9_code (4 : Nat) (Option.some Jvm.ClassFile.FieldType.int)) ∈ TB := tb_of (List.mem_append_right _ (List.mem_append_right _ (List.mem_append_right _ (List.mem_of_getElem? (i := 135) rfl)))) rfl
theorem tw_616 : (Jvm.Cond.methodLink "CuckooPagesModel" (155 : Nat) ({ cls := "CuckooPagesModel", name := "hasPath", desc := "(III)Z" } : Jvm.MethodName)) ∈ TB := tb_of (List.mem_append_right _ (List.mem_append_right _ (List.mem_append_right _ (List.mem_of_getElem? (i := 136) rfl)))) rfl
theorem tw_618 : (Jvm.Cond.instanceMethod ({ cls := "CuckooPagesModel", name := "hasPath", desc := "(III)Z" } : Jvm.MethodName)) ∈ TB := tb_of (List.mem_append_right _ (List.mem_append_right _ (List.mem_append_right _ (List.mem_of_getElem? (i := 138) rfl)))) rfl
theorem tw_619 : (Jvm.Cond.code ({ cls := "CuckooPagesModel", name := "hasPath", desc := "(III)Z" } : Jvm.MethodName) prog_6_method_18_code (9 : Nat) (Option.some Jvm.ClassFile.FieldType.boolean)) ∈ TB := tb_of (List.mem_append_right _ (List.mem_append_right _ (List.mem_append_right _ (List.mem_of_getElem? (i := 139) rfl)))) rfl
theorem tw_620 : (Jvm.Cond.methodLink "CuckooPagesModel" (137 : Nat) ({ cls := "CuckooPagesModel", name := "isOnPath", desc := "(I)Z" } : Jvm.MethodName)) ∈ TB := tb_of (List.mem_append_right _ (List.mem_append_right _ (List.mem_append_right _ (List.mem_of_getElem? (i := 140) rfl)))) rfl
theorem tw_622 : (Jvm.Cond.instanceMethod ({ cls := "CuckooPagesModel", name := "isOnPath", desc := "(I)Z" } : Jvm.MethodName)) ∈ TB := tb_of (List.mem_append_right _ (List.mem_append_right _ (List.mem_append_right _ (List.mem_of_getElem? (i := 142) rfl)))) rfl
theorem tw_623 : (Jvm.Cond.code ({ cls := "CuckooPagesModel", name := "isOnPath", desc := "(I)Z" } : Jvm.MethodName) prog_6_method_17_code (4 : Nat) (Option.some Jvm.ClassFile.FieldType.boolean)) ∈ TB := tb_of (List.mem_append_right _ (List.mem_append_right _ (List.mem_append_right _ (List.mem_of_getElem? (i := 143) rfl)))) rfl
theorem tw_624 : (Jvm.Cond.methodLink "CuckooPagesModel" (159 : Nat) ({ cls := "CuckooPagesModel", name := "goAlong", desc := "(IIZ)V" } : Jvm.MethodName)) ∈ TB := tb_of (List.mem_append_right _ (List.mem_append_right _ (List.mem_append_right _ (List.mem_of_getElem? (i := 144) rfl)))) rfl
theorem tw_626 : (Jvm.Cond.instanceMethod ({ cls := "CuckooPagesModel", name := "goAlong", desc := "(IIZ)V" } : Jvm.MethodName)) ∈ TB := tb_of (List.mem_append_right _ (List.mem_append_right _ (List.mem_append_right _ (List.mem_of_getElem? (i := 146) rfl)))) rfl
theorem tw_627 : (Jvm.Cond.code ({ cls := "CuckooPagesModel", name := "goAlong", desc := "(IIZ)V" } : Jvm.MethodName) prog_6_method_19_code (5 : Nat) (Option.none : Option Jvm.ClassFile.FieldType)) ∈ TB := tb_of (List.mem_append_right _ (List.mem_append_right _ (List.mem_append_right _ (List.mem_of_getElem? (i := 147) rfl)))) rfl
theorem tw_628 : (Jvm.Cond.methodLink "CuckooPagesModel" (148 : Nat) ({ cls := "CuckooPagesModel", name := "writeJournal", desc := "()V" } : Jvm.MethodName)) ∈ TB := tb_of (List.mem_append_right _ (List.mem_append_right _ (List.mem_append_right _ (List.mem_of_getElem? (i := 148) rfl)))) rfl
theorem tw_630 : (Jvm.Cond.instanceMethod ({ cls := "CuckooPagesModel", name := "writeJournal", desc := "()V" } : Jvm.MethodName)) ∈ TB := tb_of (List.mem_append_right _ (List.mem_append_right _ (List.mem_append_right _ (List.mem_of_getElem? (i := 150) rfl)))) rfl
theorem tw_631 : (Jvm.Cond.code ({ cls := "CuckooPagesModel", name := "writeJournal", desc := "()V" } : Jvm.MethodName) prog_6_method_14_code (3 : Nat) (Option.none : Option Jvm.ClassFile.FieldType)) ∈ TB := tb_of (List.mem_append_right _ (List.mem_append_right _ (List.mem_append_right _ (List.mem_of_getElem? (i := 151) rfl)))) rfl
theorem tw_632 : (Jvm.Cond.methodLink "CuckooPagesModel" (179 : Nat) ({ cls := "CuckooPagesModel", name := "makeAnew", desc := "(II)I" } : Jvm.MethodName)) ∈ TB := tb_of (List.mem_append_right _ (List.mem_append_right _ (List.mem_append_right _ (List.mem_of_getElem? (i := 152) rfl)))) rfl
theorem tw_634 : (Jvm.Cond.instanceMethod ({ cls := "CuckooPagesModel", name := "makeAnew", desc := "(II)I" } : Jvm.MethodName)) ∈ TB := tb_of (List.mem_append_right _ (List.mem_append_right _ (List.mem_append_right _ (List.mem_of_getElem? (i := 154) rfl)))) rfl
theorem tw_635 : (Jvm.Cond.code ({ cls := "CuckooPagesModel", name := "makeAnew", desc := "(II)I" } : Jvm.MethodName) prog_6_method_22_code (6 : Nat) (Option.some Jvm.ClassFile.FieldType.int)) ∈ TB := tb_of (List.mem_append_right _ (List.mem_append_right _ (List.mem_append_right _ (List.mem_of_getElem? (i := 155) rfl)))) rfl
theorem tw_636 : (Jvm.Cond.methodLink "CuckooPagesModel" (167 : Nat) ({ cls := "CuckooPagesModel", name := "fitsBy", desc := "(III)Z" } : Jvm.MethodName)) ∈ TB := tb_of (List.mem_append_right _ (List.mem_append_right _ (List.mem_append_right _ (List.mem_of_getElem? (i := 156) rfl)))) rfl
theorem tw_638 : (Jvm.Cond.instanceMethod ({ cls := "CuckooPagesModel", name := "fitsBy", desc := "(III)Z" } : Jvm.MethodName)) ∈ TB := tb_of (List.mem_append_right _ (List.mem_append_right _ (List.mem_append_right _ (List.mem_of_getElem? (i := 158) rfl)))) rfl
theorem tw_639 : (Jvm.Cond.code ({ cls := "CuckooPagesModel", name := "fitsBy", desc := "(III)Z" } : Jvm.MethodName) prog_6_method_21_code (6 : Nat) (Option.some Jvm.ClassFile.FieldType.boolean)) ∈ TB := tb_of (List.mem_append_right _ (List.mem_append_right _ (List.mem_append_right _ (List.mem_of_getElem? (i := 159) rfl)))) rfl
theorem tw_640 : (Jvm.Cond.methodLink "CuckooPagesModel" (170 : Nat) ({ cls := "CuckooPagesModel", name := "writeRoot", desc := "()V" } : Jvm.MethodName)) ∈ TB := tb_of (List.mem_append_right _ (List.mem_append_right _ (List.mem_append_right _ (List.mem_of_getElem? (i := 160) rfl)))) rfl
theorem tw_642 : (Jvm.Cond.instanceMethod ({ cls := "CuckooPagesModel", name := "writeRoot", desc := "()V" } : Jvm.MethodName)) ∈ TB := tb_of (List.mem_append_right _ (List.mem_append_right _ (List.mem_append_right _ (List.mem_of_getElem? (i := 162) rfl)))) rfl
theorem tw_643 : (Jvm.Cond.code ({ cls := "CuckooPagesModel", name := "writeRoot", desc := "()V" } : Jvm.MethodName) prog_6_method_15_code (2 : Nat) (Option.none : Option Jvm.ClassFile.FieldType)) ∈ TB := tb_of (List.mem_append_right _ (List.mem_append_right _ (List.mem_append_right _ (List.mem_of_getElem? (i := 163) rfl)))) rfl
theorem tw_644 : (Jvm.Cond.methodLink "CuckooPagesLaw" (51 : Nat) ({ cls := "CuckooPagesModel", name := "has", desc := "(I)Z" } : Jvm.MethodName)) ∈ TB := tb_of (List.mem_append_right _ (List.mem_append_right _ (List.mem_append_right _ (List.mem_of_getElem? (i := 164) rfl)))) rfl
theorem tw_645 : (Jvm.Cond.instanceMethod ({ cls := "CuckooPagesModel", name := "has", desc := "(I)Z" } : Jvm.MethodName)) ∈ TB := tb_of (List.mem_append_right _ (List.mem_append_right _ (List.mem_append_right _ (List.mem_of_getElem? (i := 165) rfl)))) rfl
theorem tw_646 : (Jvm.Cond.selects "CuckooPagesModel" ({ cls := "CuckooPagesModel", name := "has", desc := "(I)Z" } : Jvm.MethodName) ({ cls := "CuckooPagesModel", name := "has", desc := "(I)Z" } : Jvm.MethodName)) ∈ TB := tb_of (List.mem_append_right _ (List.mem_append_right _ (List.mem_append_right _ (List.mem_of_getElem? (i := 166) rfl)))) rfl
theorem tw_647 : (Jvm.Cond.code ({ cls := "CuckooPagesModel", name := "has", desc := "(I)Z" } : Jvm.MethodName) prog_6_method_24_code (2 : Nat) (Option.some Jvm.ClassFile.FieldType.boolean)) ∈ TB := tb_of (List.mem_append_right _ (List.mem_append_right _ (List.mem_append_right _ (List.mem_of_getElem? (i := 167) rfl)))) rfl
theorem tw_648 : (Jvm.Cond.methodLink "CuckooPagesLaw" (55 : Nat) ({ cls := "CuckooPagesModel", name := "get", desc := "(I)I" } : Jvm.MethodName)) ∈ TB := tb_of (List.mem_append_right _ (List.mem_append_right _ (List.mem_append_right _ (List.mem_of_getElem? (i := 168) rfl)))) rfl
theorem tw_649 : (Jvm.Cond.instanceMethod ({ cls := "CuckooPagesModel", name := "get", desc := "(I)I" } : Jvm.MethodName)) ∈ TB := tb_of (List.mem_append_right _ (List.mem_append_right _ (List.mem_append_right _ (List.mem_of_getElem? (i := 169) rfl)))) rfl
theorem tw_650 : (Jvm.Cond.selects "CuckooPagesModel" ({ cls := "CuckooPagesModel", name := "get", desc := "(I)I" } : Jvm.MethodName) ({ cls := "CuckooPagesModel", name := "get", desc := "(I)I" } : Jvm.MethodName)) ∈ TB := tb_of (List.mem_append_right _ (List.mem_append_right _ (List.mem_append_right _ (List.mem_of_getElem? (i := 170) rfl)))) rfl
theorem tw_651 : (Jvm.Cond.code ({ cls := "CuckooPagesModel", name := "get", desc := "(I)I" } : Jvm.MethodName) prog_6_method_25_code (3 : Nat) (Option.some Jvm.ClassFile.FieldType.int)) ∈ TB := tb_of (List.mem_append_right _ (List.mem_append_right _ (List.mem_append_right _ (List.mem_of_getElem? (i := 171) rfl)))) rfl
theorem tw_652 : (Jvm.Cond.methodLink "CuckooPagesLaw" (59 : Nat) ({ cls := "CuckooPagesModel", name := "remove", desc := "(I)Z" } : Jvm.MethodName)) ∈ TB := tb_of (List.mem_append_right _ (List.mem_append_right _ (List.mem_append_right _ (List.mem_of_getElem? (i := 172) rfl)))) rfl
theorem tw_653 : (Jvm.Cond.instanceMethod ({ cls := "CuckooPagesModel", name := "remove", desc := "(I)Z" } : Jvm.MethodName)) ∈ TB := tb_of (List.mem_append_right _ (List.mem_append_right _ (List.mem_append_right _ (List.mem_of_getElem? (i := 173) rfl)))) rfl
theorem tw_654 : (Jvm.Cond.selects "CuckooPagesModel" ({ cls := "CuckooPagesModel", name := "remove", desc := "(I)Z" } : Jvm.MethodName) ({ cls := "CuckooPagesModel", name := "remove", desc := "(I)Z" } : Jvm.MethodName)) ∈ TB := tb_of (List.mem_append_right _ (List.mem_append_right _ (List.mem_append_right _ (List.mem_of_getElem? (i := 174) rfl)))) rfl
theorem tw_655 : (Jvm.Cond.code ({ cls := "CuckooPagesModel", name := "remove", desc := "(I)Z" } : Jvm.MethodName) prog_6_method_26_code (3 : Nat) (Option.some Jvm.ClassFile.FieldType.boolean)) ∈ TB := tb_of (List.mem_append_right _ (List.mem_append_right _ (List.mem_append_right _ (List.mem_of_getElem? (i := 175) rfl)))) rfl
theorem tw_656 : (Jvm.Cond.methodLink "CuckooPagesLaw" (37 : Nat) ({ cls := "CuckooPagesModel", name := "seed", desc := "(II)V" } : Jvm.MethodName)) ∈ TB := tb_of (List.mem_append_right _ (List.mem_append_right _ (List.mem_append_right _ (List.mem_of_getElem? (i := 176) rfl)))) rfl
theorem tw_657 : (Jvm.Cond.instanceMethod ({ cls := "CuckooPagesModel", name := "seed", desc := "(II)V" } : Jvm.MethodName)) ∈ TB := tb_of (List.mem_append_right _ (List.mem_append_right _ (List.mem_append_right _ (List.mem_of_getElem? (i := 177) rfl)))) rfl
theorem tw_658 : (Jvm.Cond.selects "CuckooPagesModel" ({ cls := "CuckooPagesModel", name := "seed", desc := "(II)V" } : Jvm.MethodName) ({ cls := "CuckooPagesModel", name := "seed", desc := "(II)V" } : Jvm.MethodName)) ∈ TB := tb_of (List.mem_append_right _ (List.mem_append_right _ (List.mem_append_right _ (List.mem_of_getElem? (i := 178) rfl)))) rfl
theorem tw_659 : (Jvm.Cond.code ({ cls := "CuckooPagesModel", name := "seed", desc := "(II)V" } : Jvm.MethodName) prog_6_method_27_code (3 : Nat) (Option.none : Option Jvm.ClassFile.FieldType)) ∈ TB := tb_of (List.mem_append_right _ (List.mem_append_right _ (List.mem_append_right _ (List.mem_of_getElem? (i := 179) rfl)))) rfl
theorem tw_660 : (Jvm.Cond.methodLink "CuckooPagesModel" (182 : Nat) ({ cls := "CuckooPagesModel", name := "refused", desc := "(I)Z" } : Jvm.MethodName)) ∈ TB := tb_of (List.mem_append_right _ (List.mem_append_right _ (List.mem_append_right _ (List.mem_of_getElem? (i := 180) rfl)))) rfl
theorem tw_662 : (Jvm.Cond.instanceMethod ({ cls := "CuckooPagesModel", name := "refused", desc := "(I)Z" } : Jvm.MethodName)) ∈ TB := tb_of (List.mem_append_right _ (List.mem_append_right _ (List.mem_append_right _ (List.mem_of_getElem? (i := 182) rfl)))) rfl
theorem tw_663 : (Jvm.Cond.code ({ cls := "CuckooPagesModel", name := "refused", desc := "(I)Z" } : Jvm.MethodName) prog_6_method_3_code (2 : Nat) (Option.some Jvm.ClassFile.FieldType.boolean)) ∈ TB := tb_of (List.mem_append_right _ (List.mem_append_right _ (List.mem_append_right _ (List.mem_of_getElem? (i := 183) rfl)))) rfl
theorem tw_664 : (Jvm.Cond.methodLink "CuckooPagesLaw" (63 : Nat) ({ cls := "CuckooPagesModel", name := "sync", desc := "()I" } : Jvm.MethodName)) ∈ TB := tb_of (List.mem_append_right _ (List.mem_append_right _ (List.mem_append_right _ (List.mem_of_getElem? (i := 184) rfl)))) rfl
theorem tw_665 : (Jvm.Cond.instanceMethod ({ cls := "CuckooPagesModel", name := "sync", desc := "()I" } : Jvm.MethodName)) ∈ TB := tb_of (List.mem_append_right _ (List.mem_append_right _ (List.mem_append_right _ (List.mem_of_getElem? (i := 185) rfl)))) rfl
theorem tw_666 : (Jvm.Cond.selects "CuckooPagesModel" ({ cls := "CuckooPagesModel", name := "sync", desc := "()I" } : Jvm.MethodName) ({ cls := "CuckooPagesModel", name := "sync", desc := "()I" } : Jvm.MethodName)) ∈ TB := tb_of (List.mem_append_right _ (List.mem_append_right _ (List.mem_append_right _ (List.mem_of_getElem? (i := 186) rfl)))) rfl
theorem tw_667 : (Jvm.Cond.code ({ cls := "CuckooPagesModel", name := "sync", desc := "()I" } : Jvm.MethodName) prog_6_method_28_code (1 : Nat) (Option.some Jvm.ClassFile.FieldType.int)) ∈ TB := tb_of (List.mem_append_right _ (List.mem_append_right _ (List.mem_append_right _ (List.mem_of_getElem? (i := 187) rfl)))) rfl
theorem tw_668 : (Jvm.Cond.methodLink "CuckooPagesLaw" (67 : Nat) ({ cls := "CuckooPagesModel", name := "crash", desc := "(I)I" } : Jvm.MethodName)) ∈ TB := tb_of (List.mem_append_right _ (List.mem_append_right _ (List.mem_append_right _ (List.mem_of_getElem? (i := 188) rfl)))) rfl
theorem tw_669 : (Jvm.Cond.instanceMethod ({ cls := "CuckooPagesModel", name := "crash", desc := "(I)I" } : Jvm.MethodName)) ∈ TB := tb_of (List.mem_append_right _ (List.mem_append_right _ (List.mem_append_right _ (List.mem_of_getElem? (i := 189) rfl)))) rfl
theorem tw_670 : (Jvm.Cond.selects "CuckooPagesModel" ({ cls := "CuckooPagesModel", name := "crash", desc := "(I)I" } : Jvm.MethodName) ({ cls := "CuckooPagesModel", name := "crash", desc := "(I)I" } : Jvm.MethodName)) ∈ TB := tb_of (List.mem_append_right _ (List.mem_append_right _ (List.mem_append_right _ (List.mem_of_getElem? (i := 190) rfl)))) rfl
theorem tw_671 : (Jvm.Cond.code ({ cls := "CuckooPagesModel", name := "crash", desc := "(I)I" } : Jvm.MethodName) prog_6_method_29_code (4 : Nat) (Option.some Jvm.ClassFile.FieldType.int)) ∈ TB := tb_of (List.mem_append_right _ (List.mem_append_right _ (List.mem_append_right _ (List.mem_of_getElem? (i := 191) rfl)))) rfl
theorem tw_672 : (Jvm.Cond.methodLink "CuckooPagesLaw" (71 : Nat) ({ cls := "CuckooPagesModel", name := "slot", desc := "(III)I" } : Jvm.MethodName)) ∈ TB := tb_of (List.mem_append_right _ (List.mem_append_right _ (List.mem_append_right _ (List.mem_of_getElem? (i := 192) rfl)))) rfl
theorem tw_673 : (Jvm.Cond.instanceMethod ({ cls := "CuckooPagesModel", name := "slot", desc := "(III)I" } : Jvm.MethodName)) ∈ TB := tb_of (List.mem_append_right _ (List.mem_append_right _ (List.mem_append_right _ (List.mem_of_getElem? (i := 193) rfl)))) rfl
theorem tw_674 : (Jvm.Cond.selects "CuckooPagesModel" ({ cls := "CuckooPagesModel", name := "slot", desc := "(III)I" } : Jvm.MethodName) ({ cls := "CuckooPagesModel", name := "slot", desc := "(III)I" } : Jvm.MethodName)) ∈ TB := tb_of (List.mem_append_right _ (List.mem_append_right _ (List.mem_append_right _ (List.mem_of_getElem? (i := 194) rfl)))) rfl
theorem tw_675 : (Jvm.Cond.code ({ cls := "CuckooPagesModel", name := "slot", desc := "(III)I" } : Jvm.MethodName) prog_6_method_30_code (6 : Nat) (Option.some Jvm.ClassFile.FieldType.int)) ∈ TB := tb_of (List.mem_append_right _ (List.mem_append_right _ (List.mem_append_right _ (List.mem_of_getElem? (i := 195) rfl)))) rfl
theorem tw_676 : (Jvm.Cond.methodLink "CuckooPagesLaw" (76 : Nat) ({ cls := "CuckooPagesModel", name := "home", desc := "(IZ)I" } : Jvm.MethodName)) ∈ TB := tb_of (List.mem_append_right _ (List.mem_append_right _ (List.mem_append_right _ (List.mem_of_getElem? (i := 196) rfl)))) rfl
theorem tw_677 : (Jvm.Cond.instanceMethod ({ cls := "CuckooPagesModel", name := "home", desc := "(IZ)I" } : Jvm.MethodName)) ∈ TB := tb_of (List.mem_append_right _ (List.mem_append_right _ (List.mem_append_right _ (List.mem_of_getElem? (i := 197) rfl)))) rfl
theorem tw_678 : (Jvm.Cond.selects "CuckooPagesModel" ({ cls := "CuckooPagesModel", name := "home", desc := "(IZ)I" } : Jvm.MethodName) ({ cls := "CuckooPagesModel", name := "home", desc := "(IZ)I" } : Jvm.MethodName)) ∈ TB := tb_of (List.mem_append_right _ (List.mem_append_right _ (List.mem_append_right _ (List.mem_of_getElem? (i := 198) rfl)))) rfl
theorem tw_679 : (Jvm.Cond.code ({ cls := "CuckooPagesModel", name := "home", desc := "(IZ)I" } : Jvm.MethodName) prog_6_method_31_code (3 : Nat) (Option.some Jvm.ClassFile.FieldType.int)) ∈ TB := tb_of (List.mem_append_right _ (List.mem_append_right _ (List.mem_append_right _ (List.mem_of_getElem? (i := 199) rfl)))) rfl
theorem tw_680 : (Jvm.Cond.methodLink "CuckooPagesLaw" (80 : Nat) ({ cls := "CuckooPagesModel", name := "reads", desc := "(I)I" } : Jvm.MethodName)) ∈ TB := tb_of (List.mem_append_right _ (List.mem_append_right _ (List.mem_append_right _ (List.mem_of_getElem? (i := 200) rfl)))) rfl
theorem tw_681 : (Jvm.Cond.instanceMethod ({ cls := "CuckooPagesModel", name := "reads", desc := "(I)I" } : Jvm.MethodName)) ∈ TB := tb_of (List.mem_append_right _ (List.mem_append_right _ (List.mem_append_right _ (List.mem_of_getElem? (i := 201) rfl)))) rfl
theorem tw_682 : (Jvm.Cond.selects "CuckooPagesModel" ({ cls := "CuckooPagesModel", name := "reads", desc := "(I)I" } : Jvm.MethodName) ({ cls := "CuckooPagesModel", name := "reads", desc := "(I)I" } : Jvm.MethodName)) ∈ TB := tb_of (List.mem_append_right _ (List.mem_append_right _ (List.mem_append_right _ (List.mem_of_getElem? (i := 202) rfl)))) rfl
theorem tw_683 : (Jvm.Cond.code ({ cls := "CuckooPagesModel", name := "reads", desc := "(I)I" } : Jvm.MethodName) prog_6_method_32_code (2 : Nat) (Option.some Jvm.ClassFile.FieldType.int)) ∈ TB := tb_of (List.mem_append_right _ (List.mem_append_right _ (List.mem_append_right _ (List.mem_of_getElem? (i := 203) rfl)))) rfl
theorem tw_684 : (Jvm.Cond.methodLink "CuckooPagesLaw" (83 : Nat) ({ cls := "CuckooPagesModel", name := "count", desc := "(I)I" } : Jvm.MethodName)) ∈ TB := tb_of (List.mem_append_right _ (List.mem_append_right _ (List.mem_append_right _ (List.mem_of_getElem? (i := 204) rfl)))) rfl
theorem tw_685 : (Jvm.Cond.instanceMethod ({ cls := "CuckooPagesModel", name := "count", desc := "(I)I" } : Jvm.MethodName)) ∈ TB := tb_of (List.mem_append_right _ (List.mem_append_right _ (List.mem_append_right _ (List.mem_of_getElem? (i := 205) rfl)))) rfl
theorem tw_686 : (Jvm.Cond.selects "CuckooPagesModel" ({ cls := "CuckooPagesModel", name := "count", desc := "(I)I" } : Jvm.MethodName) ({ cls := "CuckooPagesModel", name := "count", desc := "(I)I" } : Jvm.MethodName)) ∈ TB := tb_of (List.mem_append_right _ (List.mem_append_right _ (List.mem_append_right _ (List.mem_of_getElem? (i := 206) rfl)))) rfl
theorem tw_687 : (Jvm.Cond.code ({ cls := "CuckooPagesModel", name := "count", desc := "(I)I" } : Jvm.MethodName) prog_6_method_34_code (2 : Nat) (Option.some Jvm.ClassFile.FieldType.int)) ∈ TB := tb_of (List.mem_append_right _ (List.mem_append_right _ (List.mem_append_right _ (List.mem_of_getElem? (i := 207) rfl)))) rfl
theorem tw_688 : (Jvm.Cond.methodLink "CuckooPagesModel" (188 : Nat) ({ cls := "CuckooPagesModel", name := "usedFrom", desc := "(II)I" } : Jvm.MethodName)) ∈ TB := tb_of (List.mem_append_right _ (List.mem_append_right _ (List.mem_append_right _ (List.mem_of_getElem? (i := 208) rfl)))) rfl
theorem tw_690 : (Jvm.Cond.instanceMethod ({ cls := "CuckooPagesModel", name := "usedFrom", desc := "(II)I" } : Jvm.MethodName)) ∈ TB := tb_of (List.mem_append_right _ (List.mem_append_right _ (List.mem_append_right _ (List.mem_of_getElem? (i := 210) rfl)))) rfl
theorem tw_691 : (Jvm.Cond.code ({ cls := "CuckooPagesModel", name := "usedFrom", desc := "(II)I" } : Jvm.MethodName) prog_6_method_33_code (5 : Nat) (Option.some Jvm.ClassFile.FieldType.int)) ∈ TB := tb_of (List.mem_append_right _ (List.mem_append_right _ (List.mem_append_right _ (List.mem_of_getElem? (i := 211) rfl)))) rfl
theorem tw_692 : (Jvm.Cond.arrayClass Jvm.ClassFile.FieldType.long) ∈ TB := tb_of (List.mem_append_right _ (List.mem_append_right _ (List.mem_append_right _ (List.mem_of_getElem? (i := 212) rfl)))) rfl
theorem ts_0 : Cond.selects "CuckooPages" ⟨"CuckooPages", "seedInUse", "(LCuckooPages$Image;)I"⟩ ⟨"CuckooPages", "seedInUse", "(LCuckooPages$Image;)I"⟩ ∈ TB := tb_of (List.mem_append_left _ (List.mem_of_getElem? (i := 0) rfl)) rfl
theorem ts_1 : Cond.selects "CuckooPages" ⟨"CuckooPages", "choose", "(LCuckooPages$Image;III)I"⟩ ⟨"CuckooPages", "choose", "(LCuckooPages$Image;III)I"⟩ ∈ TB := tb_of (List.mem_append_left _ (List.mem_of_getElem? (i := 1) rfl)) rfl
theorem ts_2 : Cond.selects "CuckooPages" ⟨"CuckooPages", "layPath", "(LCuckooPages$Image;IIII)Z"⟩ ⟨"CuckooPages", "layPath", "(LCuckooPages$Image;IIII)Z"⟩ ∈ TB := tb_of (List.mem_append_left _ (List.mem_of_getElem? (i := 2) rfl)) rfl
theorem ts_3 : Cond.selects "CuckooPages" ⟨"CuckooPages", "nextOnPath", "(II)I"⟩ ⟨"CuckooPages", "nextOnPath", "(II)I"⟩ ∈ TB := tb_of (List.mem_append_left _ (List.mem_of_getElem? (i := 3) rfl)) rfl
theorem ts_4 : Cond.selects "CuckooPages" ⟨"CuckooPages", "fillTrial", "(III)Z"⟩ ⟨"CuckooPages", "fillTrial", "(III)Z"⟩ ∈ TB := tb_of (List.mem_append_left _ (List.mem_of_getElem? (i := 4) rfl)) rfl
theorem ts_5 : Cond.selects "CuckooPages" ⟨"CuckooPages", "takeTrial", "()V"⟩ ⟨"CuckooPages", "takeTrial", "()V"⟩ ∈ TB := tb_of (List.mem_append_left _ (List.mem_of_getElem? (i := 5) rfl)) rfl
theorem ts_6 : Cond.selects "CuckooPages" ⟨"CuckooPages", "write", "(I)V"⟩ ⟨"CuckooPages", "write", "(I)V"⟩ ∈ TB := tb_of (List.mem_append_left _ (List.mem_of_getElem? (i := 6) rfl)) rfl
theorem ts_7 : Cond.selects "CuckooPages" ⟨"CuckooPages", "followPath", "()V"⟩ ⟨"CuckooPages", "followPath", "()V"⟩ ∈ TB := tb_of (List.mem_append_left _ (List.mem_of_getElem? (i := 7) rfl)) rfl
theorem ts_8 : Cond.selects "CuckooPages" ⟨"CuckooPages", "makeMoves", "()V"⟩ ⟨"CuckooPages", "makeMoves", "()V"⟩ ∈ TB := tb_of (List.mem_append_left _ (List.mem_of_getElem? (i := 8) rfl)) rfl
theorem ts_9 : Cond.selects "java/lang/Throwable" ⟨"java/lang/Throwable", "fillInStackTrace", "(I)Ljava/lang/Throwable;"⟩ ⟨"java/lang/Throwable", "fillInStackTrace", "(I)Ljava/lang/Throwable;"⟩ ∈ TB := tb_of (List.mem_append_left _ (List.mem_of_getElem? (i := 9) rfl)) rfl
theorem ts_10 : Cond.selects "CuckooPages" ⟨"CuckooPages", "recover", "()V"⟩ ⟨"CuckooPages", "recover", "()V"⟩ ∈ TB := tb_of (List.mem_append_left _ (List.mem_of_getElem? (i := 10) rfl)) rfl
theorem ts_11 : Cond.selects "CuckooPages" ⟨"CuckooPages", "allKeys", "()I"⟩ ⟨"CuckooPages", "allKeys", "()I"⟩ ∈ TB := tb_of (List.mem_append_left _ (List.mem_of_getElem? (i := 11) rfl)) rfl
theorem ts_12 : Cond.selects "CuckooPagesModel" ⟨"CuckooPagesModel", "place", "(III)I"⟩ ⟨"CuckooPagesModel", "place", "(III)I"⟩ ∈ TB := tb_of (List.mem_append_left _ (List.mem_of_getElem? (i := 12) rfl)) rfl
theorem ts_13 : Cond.selects "CuckooPagesModel" ⟨"CuckooPagesModel", "find", "(III)I"⟩ ⟨"CuckooPagesModel", "find", "(III)I"⟩ ∈ TB := tb_of (List.mem_append_left _ (List.mem_of_getElem? (i := 13) rfl)) rfl
theorem ts_14 : Cond.selects "CuckooPagesModel" ⟨"CuckooPagesModel", "fill", "(IIIZ)V"⟩ ⟨"CuckooPagesModel", "fill", "(IIIZ)V"⟩ ∈ TB := tb_of (List.mem_append_left _ (List.mem_of_getElem? (i := 14) rfl)) rfl
theorem ts_15 : Cond.selects "CuckooPagesModel" ⟨"CuckooPagesModel", "writePage", "(I)V"⟩ ⟨"CuckooPagesModel", "writePage", "(I)V"⟩ ∈ TB := tb_of (List.mem_append_left _ (List.mem_of_getElem? (i := 15) rfl)) rfl
theorem ts_16 : Cond.selects "CuckooPagesModel" ⟨"CuckooPagesModel", "next", "(I)I"⟩ ⟨"CuckooPagesModel", "next", "(I)I"⟩ ∈ TB := tb_of (List.mem_append_left _ (List.mem_of_getElem? (i := 16) rfl)) rfl
theorem ts_17 : Cond.selects "CuckooPagesModel" ⟨"CuckooPagesModel", "flush", "()I"⟩ ⟨"CuckooPagesModel", "flush", "()I"⟩ ∈ TB := tb_of (List.mem_append_left _ (List.mem_of_getElem? (i := 17) rfl)) rfl
theorem ts_18 : Cond.selects "CuckooPagesModel" ⟨"CuckooPagesModel", "finish", "(I)V"⟩ ⟨"CuckooPagesModel", "finish", "(I)V"⟩ ∈ TB := tb_of (List.mem_append_left _ (List.mem_of_getElem? (i := 18) rfl)) rfl
theorem ts_19 : Cond.selects "CuckooPagesModel" ⟨"CuckooPagesModel", "putInto", "(IIIIZ)I"⟩ ⟨"CuckooPagesModel", "putInto", "(IIIIZ)I"⟩ ∈ TB := tb_of (List.mem_append_left _ (List.mem_of_getElem? (i := 19) rfl)) rfl
theorem ts_20 : Cond.selects "CuckooPagesModel" ⟨"CuckooPagesModel", "empty", "(II)I"⟩ ⟨"CuckooPagesModel", "empty", "(II)I"⟩ ∈ TB := tb_of (List.mem_append_left _ (List.mem_of_getElem? (i := 20) rfl)) rfl
theorem ts_21 : Cond.selects "CuckooPagesModel" ⟨"CuckooPagesModel", "hasPath", "(III)Z"⟩ ⟨"CuckooPagesModel", "hasPath", "(III)Z"⟩ ∈ TB := tb_of (List.mem_append_left _ (List.mem_of_getElem? (i := 21) rfl)) rfl
theorem ts_22 : Cond.selects "CuckooPagesModel" ⟨"CuckooPagesModel", "isOnPath", "(I)Z"⟩ ⟨"CuckooPagesModel", "isOnPath", "(I)Z"⟩ ∈ TB := tb_of (List.mem_append_left _ (List.mem_of_getElem? (i := 22) rfl)) rfl
theorem ts_23 : Cond.selects "CuckooPagesModel" ⟨"CuckooPagesModel", "goAlong", "(IIZ)V"⟩ ⟨"CuckooPagesModel", "goAlong", "(IIZ)V"⟩ ∈ TB := tb_of (List.mem_append_left _ (List.mem_of_getElem? (i := 23) rfl)) rfl
theorem ts_24 : Cond.selects "CuckooPagesModel" ⟨"CuckooPagesModel", "writeJournal", "()V"⟩ ⟨"CuckooPagesModel", "writeJournal", "()V"⟩ ∈ TB := tb_of (List.mem_append_left _ (List.mem_of_getElem? (i := 24) rfl)) rfl
theorem ts_25 : Cond.selects "CuckooPagesModel" ⟨"CuckooPagesModel", "makeAnew", "(II)I"⟩ ⟨"CuckooPagesModel", "makeAnew", "(II)I"⟩ ∈ TB := tb_of (List.mem_append_left _ (List.mem_of_getElem? (i := 25) rfl)) rfl
theorem ts_26 : Cond.selects "CuckooPagesModel" ⟨"CuckooPagesModel", "fitsBy", "(III)Z"⟩ ⟨"CuckooPagesModel", "fitsBy", "(III)Z"⟩ ∈ TB := tb_of (List.mem_append_left _ (List.mem_of_getElem? (i := 26) rfl)) rfl
theorem ts_27 : Cond.selects "CuckooPagesModel" ⟨"CuckooPagesModel", "writeRoot", "()V"⟩ ⟨"CuckooPagesModel", "writeRoot", "()V"⟩ ∈ TB := tb_of (List.mem_append_left _ (List.mem_of_getElem? (i := 27) rfl)) rfl
theorem ts_28 : Cond.selects "CuckooPagesModel" ⟨"CuckooPagesModel", "refused", "(I)Z"⟩ ⟨"CuckooPagesModel", "refused", "(I)Z"⟩ ∈ TB := tb_of (List.mem_append_left _ (List.mem_of_getElem? (i := 28) rfl)) rfl
theorem ts_29 : Cond.selects "CuckooPagesModel" ⟨"CuckooPagesModel", "usedFrom", "(II)I"⟩ ⟨"CuckooPagesModel", "usedFrom", "(II)I"⟩ ∈ TB := tb_of (List.mem_append_left _ (List.mem_of_getElem? (i := 29) rfl)) rfl
end
section
def RX0 : String := "CuckooPages$Image"
def TX0 : u_T := fun k => match k with
  | _ => ("CuckooPages$Image", "cells", "[I", true)
def tyX0 : Nat → FieldType := fun k => match k with
  | _ => .array .int
theorem nmX0 : ∀ a, a < 1 → ∀ b, b < 1 → a ≠ b → (TX0 a).2.1 ≠ (TX0 b).2.1 := by decide +kernel
theorem tyX0_ok : ∀ k, k < 1 → parseFieldDescriptor (TX0 k).2.2.1 = some (tyX0 k) := by decide +kernel
abbrev cX0_init : ByteArray := prog_2_method_1_code
def yX0_init : MethodName := ⟨RX0, "<init>", "()V"⟩
abbrev cX0_setTold : ByteArray := prog_2_method_2_code
def yX0_setTold : MethodName := ⟨RX0, "setTold", "()I"⟩
abbrev cX0_seedTold : ByteArray := prog_2_method_3_code
def yX0_seedTold : MethodName := ⟨RX0, "seedTold", "()I"⟩
abbrev cX0_tellRoot : ByteArray := prog_2_method_4_code
def yX0_tellRoot : MethodName := ⟨RX0, "tellRoot", "(II)V"⟩
abbrev cX0_tellJournal : ByteArray := prog_2_method_5_code
def yX0_tellJournal : MethodName := ⟨RX0, "tellJournal", "(LCuckooPages$Moves;)V"⟩
abbrev cX0_emptyJournal : ByteArray := prog_2_method_6_code
def yX0_emptyJournal : MethodName := ⟨RX0, "emptyJournal", "()V"⟩
abbrev cX0_rowInUse : ByteArray := prog_2_method_7_code
def yX0_rowInUse : MethodName := ⟨RX0, "rowInUse", "(I)I"⟩
abbrev cX0_holds : ByteArray := prog_2_method_8_code
def yX0_holds : MethodName := ⟨RX0, "holds", "(I)Z"⟩
abbrev cX0_keyAt : ByteArray := prog_2_method_9_code
def yX0_keyAt : MethodName := ⟨RX0, "keyAt", "(I)I"⟩
abbrev cX0_valueAt : ByteArray := prog_2_method_10_code
def yX0_valueAt : MethodName := ⟨RX0, "valueAt", "(I)I"⟩
abbrev cX0_fill : ByteArray := prog_2_method_11_code
def yX0_fill : MethodName := ⟨RX0, "fill", "(III)V"⟩
abbrev cX0_fillAll : ByteArray := prog_2_method_12_code
def yX0_fillAll : MethodName := ⟨RX0, "fillAll", "(LCuckooPages$Moves;)V"⟩
abbrev cX0_empty : ByteArray := prog_2_method_13_code
def yX0_empty : MethodName := ⟨RX0, "empty", "(I)V"⟩
abbrev cX0_emptyAll : ByteArray := prog_2_method_14_code
def yX0_emptyAll : MethodName := ⟨RX0, "emptyAll", "()V"⟩
abbrev cX0_leastEmpty : ByteArray := prog_2_method_15_code
def yX0_leastEmpty : MethodName := ⟨RX0, "leastEmpty", "(I)I"⟩
abbrev cX0_placeIn : ByteArray := prog_2_method_16_code
def yX0_placeIn : MethodName := ⟨RX0, "placeIn", "(II)I"⟩
abbrev cX0_keysIn : ByteArray := prog_2_method_17_code
def yX0_keysIn : MethodName := ⟨RX0, "keysIn", "(I)I"⟩
abbrev cX0_takeRow : ByteArray := prog_2_method_18_code
def yX0_takeRow : MethodName := ⟨RX0, "takeRow", "(LCuckooPages$Image;I)V"⟩
def RX1 : String := "CuckooPages$Moves"
def TX1 : u_T := fun k => match k with
  | _ => ("CuckooPages$Moves", "cells", "[I", true)
def tyX1 : Nat → FieldType := fun k => match k with
  | _ => .array .int
theorem nmX1 : ∀ a, a < 1 → ∀ b, b < 1 → a ≠ b → (TX1 a).2.1 ≠ (TX1 b).2.1 := by decide +kernel
theorem tyX1_ok : ∀ k, k < 1 → parseFieldDescriptor (TX1 k).2.2.1 = some (tyX1 k) := by decide +kernel
abbrev cX1_init : ByteArray := prog_3_method_1_code
def yX1_init : MethodName := ⟨RX1, "<init>", "()V"⟩
abbrev cX1_size : ByteArray := prog_3_method_2_code
def yX1_size : MethodName := ⟨RX1, "size", "()I"⟩
abbrev cX1_placeAt : ByteArray := prog_3_method_3_code
def yX1_placeAt : MethodName := ⟨RX1, "placeAt", "(I)I"⟩
abbrev cX1_keyAt : ByteArray := prog_3_method_4_code
def yX1_keyAt : MethodName := ⟨RX1, "keyAt", "(I)I"⟩
abbrev cX1_valueAt : ByteArray := prog_3_method_5_code
def yX1_valueAt : MethodName := ⟨RX1, "valueAt", "(I)I"⟩
abbrev cX1_tellOf : ByteArray := prog_3_method_6_code
def yX1_tellOf : MethodName := ⟨RX1, "tellOf", "(I)Z"⟩
abbrev cX1_tellNothing : ByteArray := prog_3_method_7_code
def yX1_tellNothing : MethodName := ⟨RX1, "tellNothing", "()V"⟩
abbrev cX1_tellOne : ByteArray := prog_3_method_8_code
def yX1_tellOne : MethodName := ⟨RX1, "tellOne", "(III)V"⟩
abbrev cX1_add : ByteArray := prog_3_method_9_code
def yX1_add : MethodName := ⟨RX1, "add", "(III)V"⟩
abbrev cX1_takeJournal : ByteArray := prog_3_method_10_code
def yX1_takeJournal : MethodName := ⟨RX1, "takeJournal", "(LCuckooPages$Image;)V"⟩
def RX2 : String := "CuckooPages$Waiting"
def TX2 : u_T := fun k => match k with
  | 0 => ("CuckooPages$Waiting", "rows", "[I", true)
  | 1 => ("CuckooPages$Waiting", "cells", "[I", true)
  | _ => ("CuckooPages$Waiting", "waits", "I", false)
def tyX2 : Nat → FieldType := fun k => match k with
  | 0 => .array .int
  | 1 => .array .int
  | _ => .int
theorem nmX2 : ∀ a, a < 3 → ∀ b, b < 3 → a ≠ b → (TX2 a).2.1 ≠ (TX2 b).2.1 := by decide +kernel
theorem tyX2_ok : ∀ k, k < 3 → parseFieldDescriptor (TX2 k).2.2.1 = some (tyX2 k) := by decide +kernel
abbrev cX2_init : ByteArray := prog_4_method_1_code
def yX2_init : MethodName := ⟨RX2, "<init>", "()V"⟩
abbrev cX2_size : ByteArray := prog_4_method_2_code
def yX2_size : MethodName := ⟨RX2, "size", "()I"⟩
abbrev cX2_add : ByteArray := prog_4_method_3_code
def yX2_add : MethodName := ⟨RX2, "add", "(LCuckooPages$Image;I)V"⟩
abbrev cX2_doFirst : ByteArray := prog_4_method_4_code
def yX2_doFirst : MethodName := ⟨RX2, "doFirst", "(ILCuckooPages$Image;)V"⟩
def RX3 : String := "CuckooPages"
def TX3 : u_T := fun k => match k with
  | 0 => ("CuckooPages", "seeds", "[I", true)
  | 1 => ("CuckooPages", "now", "LCuckooPages$Image;", true)
  | 2 => ("CuckooPages", "disk", "LCuckooPages$Image;", true)
  | 3 => ("CuckooPages", "trial", "LCuckooPages$Image;", true)
  | 4 => ("CuckooPages", "waiting", "LCuckooPages$Waiting;", true)
  | 5 => ("CuckooPages", "moves", "LCuckooPages$Moves;", true)
  | 6 => ("CuckooPages", "writesEver", "I", false)
  | 7 => ("CuckooPages", "timesAnew", "I", false)
  | 8 => ("CuckooPages", "lastPath", "I", false)
  | _ => ("CuckooPages", "lastRecovery", "I", false)
def tyX3 : Nat → FieldType := fun k => match k with
  | 0 => .array .int
  | 1 => .object "CuckooPages$Image"
  | 2 => .object "CuckooPages$Image"
  | 3 => .object "CuckooPages$Image"
  | 4 => .object "CuckooPages$Waiting"
  | 5 => .object "CuckooPages$Moves"
  | 6 => .int
  | 7 => .int
  | 8 => .int
  | _ => .int
theorem nmX3 : ∀ a, a < 10 → ∀ b, b < 10 → a ≠ b → (TX3 a).2.1 ≠ (TX3 b).2.1 := by decide +kernel
theorem tyX3_ok : ∀ k, k < 10 → parseFieldDescriptor (TX3 k).2.2.1 = some (tyX3 k) := by decide +kernel
abbrev cX3_init : ByteArray := prog_1_method_1_code
def yX3_init : MethodName := ⟨RX3, "<init>", "()V"⟩
abbrev cX3_seed : ByteArray := prog_1_method_2_code
def yX3_seed : MethodName := ⟨RX3, "seed", "(II)V"⟩
abbrev cX3_put : ByteArray := prog_1_method_3_code
def yX3_put : MethodName := ⟨RX3, "put", "(II)I"⟩
abbrev cX3_has : ByteArray := prog_1_method_4_code
def yX3_has : MethodName := ⟨RX3, "has", "(I)Z"⟩
abbrev cX3_get : ByteArray := prog_1_method_5_code
def yX3_get : MethodName := ⟨RX3, "get", "(I)I"⟩
abbrev cX3_remove : ByteArray := prog_1_method_6_code
def yX3_remove : MethodName := ⟨RX3, "remove", "(I)Z"⟩
abbrev cX3_sync : ByteArray := prog_1_method_7_code
def yX3_sync : MethodName := ⟨RX3, "sync", "()I"⟩
abbrev cX3_crash : ByteArray := prog_1_method_8_code
def yX3_crash : MethodName := ⟨RX3, "crash", "(I)I"⟩
abbrev cX3_slot : ByteArray := prog_1_method_9_code
def yX3_slot : MethodName := ⟨RX3, "slot", "(III)I"⟩
abbrev cX3_home : ByteArray := prog_1_method_10_code
def yX3_home : MethodName := ⟨RX3, "home", "(IZ)I"⟩
abbrev cX3_reads : ByteArray := prog_1_method_11_code
def yX3_reads : MethodName := ⟨RX3, "reads", "(I)I"⟩
abbrev cX3_count : ByteArray := prog_1_method_12_code
def yX3_count : MethodName := ⟨RX3, "count", "(I)I"⟩
abbrev cX3_allKeys : ByteArray := prog_1_method_13_code
def yX3_allKeys : MethodName := ⟨RX3, "allKeys", "()I"⟩
abbrev cX3_seedInUse : ByteArray := prog_1_method_14_code
def yX3_seedInUse : MethodName := ⟨RX3, "seedInUse", "(LCuckooPages$Image;)I"⟩
abbrev cX3_homeBy : ByteArray := prog_1_method_15_code
def yX3_homeBy : MethodName := ⟨RX3, "homeBy", "(IIZ)I"⟩
abbrev cX3_otherRow : ByteArray := prog_1_method_16_code
def yX3_otherRow : MethodName := ⟨RX3, "otherRow", "(III)I"⟩
abbrev cX3_find : ByteArray := prog_1_method_17_code
def yX3_find : MethodName := ⟨RX3, "find", "(LCuckooPages$Image;II)I"⟩
abbrev cX3_choose : ByteArray := prog_1_method_18_code
def yX3_choose : MethodName := ⟨RX3, "choose", "(LCuckooPages$Image;III)I"⟩
abbrev cX3_layPath : ByteArray := prog_1_method_19_code
def yX3_layPath : MethodName := ⟨RX3, "layPath", "(LCuckooPages$Image;IIII)Z"⟩
abbrev cX3_nextOnPath : ByteArray := prog_1_method_20_code
def yX3_nextOnPath : MethodName := ⟨RX3, "nextOnPath", "(II)I"⟩
abbrev cX3_followPath : ByteArray := prog_1_method_21_code
def yX3_followPath : MethodName := ⟨RX3, "followPath", "()V"⟩
abbrev cX3_makeMoves : ByteArray := prog_1_method_22_code
def yX3_makeMoves : MethodName := ⟨RX3, "makeMoves", "()V"⟩
abbrev cX3_fillTrial : ByteArray := prog_1_method_23_code
def yX3_fillTrial : MethodName := ⟨RX3, "fillTrial", "(III)Z"⟩
abbrev cX3_takeTrial : ByteArray := prog_1_method_24_code
def yX3_takeTrial : MethodName := ⟨RX3, "takeTrial", "()V"⟩
abbrev cX3_write : ByteArray := prog_1_method_25_code
def yX3_write : MethodName := ⟨RX3, "write", "(I)V"⟩
abbrev cX3_recover : ByteArray := prog_1_method_26_code
def yX3_recover : MethodName := ⟨RX3, "recover", "()V"⟩
abbrev cX3_placeOf : ByteArray := prog_1_method_27_code
def yX3_placeOf : MethodName := ⟨RX3, "placeOf", "(II)I"⟩
abbrev cX3_rowOf : ByteArray := prog_1_method_28_code
def yX3_rowOf : MethodName := ⟨RX3, "rowOf", "(I)I"⟩
abbrev cX3_columnOf : ByteArray := prog_1_method_29_code
def yX3_columnOf : MethodName := ⟨RX3, "columnOf", "(I)I"⟩
abbrev cX3_cellAt : ByteArray := prog_1_method_30_code
def yX3_cellAt : MethodName := ⟨RX3, "cellAt", "([III)I"⟩
abbrev cX3_tellCell : ByteArray := prog_1_method_31_code
def yX3_tellCell : MethodName := ⟨RX3, "tellCell", "([IIII)V"⟩
abbrev cX3_copyRow : ByteArray := prog_1_method_32_code
def yX3_copyRow : MethodName := ⟨RX3, "copyRow", "([II[II)V"⟩
def RX4 : String := "CuckooPagesModel"
def TX4 : u_T := fun k => match k with
  | 0 => ("CuckooPagesModel", "refusal", "I", false)
  | 1 => ("CuckooPagesModel", "isUsed", "[Z", true)
  | 2 => ("CuckooPagesModel", "key", "[I", true)
  | 3 => ("CuckooPagesModel", "value", "[I", true)
  | 4 => ("CuckooPagesModel", "seeds", "[I", true)
  | 5 => ("CuckooPagesModel", "set", "I", false)
  | 6 => ("CuckooPagesModel", "seed", "I", false)
  | 7 => ("CuckooPagesModel", "told", "I", false)
  | 8 => ("CuckooPagesModel", "toldSlot", "[I", true)
  | 9 => ("CuckooPagesModel", "toldKey", "[I", true)
  | 10 => ("CuckooPagesModel", "toldValue", "[I", true)
  | 11 => ("CuckooPagesModel", "diskUsed", "[Z", true)
  | 12 => ("CuckooPagesModel", "diskKey", "[I", true)
  | 13 => ("CuckooPagesModel", "diskValue", "[I", true)
  | 14 => ("CuckooPagesModel", "diskSet", "I", false)
  | 15 => ("CuckooPagesModel", "diskSeed", "I", false)
  | 16 => ("CuckooPagesModel", "diskTold", "I", false)
  | 17 => ("CuckooPagesModel", "diskSlot", "[I", true)
  | 18 => ("CuckooPagesModel", "diskToldKey", "[I", true)
  | 19 => ("CuckooPagesModel", "diskToldValue", "[I", true)
  | 20 => ("CuckooPagesModel", "waiting", "I", false)
  | 21 => ("CuckooPagesModel", "ever", "I", false)
  | 22 => ("CuckooPagesModel", "kind", "[I", true)
  | 23 => ("CuckooPagesModel", "where", "[I", true)
  | 24 => ("CuckooPagesModel", "many", "[I", true)
  | 25 => ("CuckooPagesModel", "keptUsed", "[Z", true)
  | 26 => ("CuckooPagesModel", "keptSlot", "[I", true)
  | 27 => ("CuckooPagesModel", "keptKey", "[I", true)
  | 28 => ("CuckooPagesModel", "keptValue", "[I", true)
  | 29 => ("CuckooPagesModel", "path", "I", false)
  | 30 => ("CuckooPagesModel", "pathSlot", "[I", true)
  | 31 => ("CuckooPagesModel", "lastPath", "I", false)
  | 32 => ("CuckooPagesModel", "madeAnew", "I", false)
  | _ => ("CuckooPagesModel", "redone", "I", false)
def tyX4 : Nat → FieldType := fun k => match k with
  | 0 => .int
  | 1 => .array .boolean
  | 2 => .array .int
  | 3 => .array .int
  | 4 => .array .int
  | 5 => .int
  | 6 => .int
  | 7 => .int
  | 8 => .array .int
  | 9 => .array .int
  | 10 => .array .int
  | 11 => .array .boolean
  | 12 => .array .int
  | 13 => .array .int
  | 14 => .int
  | 15 => .int
  | 16 => .int
  | 17 => .array .int
  | 18 => .array .int
  | 19 => .array .int
  | 20 => .int
  | 21 => .int
  | 22 => .array .int
  | 23 => .array .int
  | 24 => .array .int
  | 25 => .array .boolean
  | 26 => .array .int
  | 27 => .array .int
  | 28 => .array .int
  | 29 => .int
  | 30 => .array .int
  | 31 => .int
  | 32 => .int
  | _ => .int
theorem nmX4 : ∀ a, a < 34 → ∀ b, b < 34 → a ≠ b → (TX4 a).2.1 ≠ (TX4 b).2.1 := by decide +kernel
theorem tyX4_ok : ∀ k, k < 34 → parseFieldDescriptor (TX4 k).2.2.1 = some (tyX4 k) := by decide +kernel
abbrev cX4_init : ByteArray := prog_6_method_1_code
def yX4_init : MethodName := ⟨RX4, "<init>", "()V"⟩
abbrev cX4_thrown : ByteArray := prog_6_method_2_code
def yX4_thrown : MethodName := ⟨RX4, "thrown", "()I"⟩
abbrev cX4_refused : ByteArray := prog_6_method_3_code
def yX4_refused : MethodName := ⟨RX4, "refused", "(I)Z"⟩
abbrev cX4_homeOf : ByteArray := prog_6_method_4_code
def yX4_homeOf : MethodName := ⟨RX4, "homeOf", "(IIZ)I"⟩
abbrev cX4_homeBy : ByteArray := prog_6_method_5_code
def yX4_homeBy : MethodName := ⟨RX4, "homeBy", "(IIZ)I"⟩
abbrev cX4_slotOf : ByteArray := prog_6_method_6_code
def yX4_slotOf : MethodName := ⟨RX4, "slotOf", "(III)I"⟩
abbrev cX4_find : ByteArray := prog_6_method_7_code
def yX4_find : MethodName := ⟨RX4, "find", "(III)I"⟩
abbrev cX4_place : ByteArray := prog_6_method_8_code
def yX4_place : MethodName := ⟨RX4, "place", "(III)I"⟩
abbrev cX4_empty : ByteArray := prog_6_method_9_code
def yX4_empty : MethodName := ⟨RX4, "empty", "(II)I"⟩
abbrev cX4_finish : ByteArray := prog_6_method_10_code
def yX4_finish : MethodName := ⟨RX4, "finish", "(I)V"⟩
abbrev cX4_flush : ByteArray := prog_6_method_11_code
def yX4_flush : MethodName := ⟨RX4, "flush", "()I"⟩
abbrev cX4_next : ByteArray := prog_6_method_12_code
def yX4_next : MethodName := ⟨RX4, "next", "(I)I"⟩
abbrev cX4_writePage : ByteArray := prog_6_method_13_code
def yX4_writePage : MethodName := ⟨RX4, "writePage", "(I)V"⟩
abbrev cX4_writeJournal : ByteArray := prog_6_method_14_code
def yX4_writeJournal : MethodName := ⟨RX4, "writeJournal", "()V"⟩
abbrev cX4_writeRoot : ByteArray := prog_6_method_15_code
def yX4_writeRoot : MethodName := ⟨RX4, "writeRoot", "()V"⟩
abbrev cX4_fill : ByteArray := prog_6_method_16_code
def yX4_fill : MethodName := ⟨RX4, "fill", "(IIIZ)V"⟩
abbrev cX4_isOnPath : ByteArray := prog_6_method_17_code
def yX4_isOnPath : MethodName := ⟨RX4, "isOnPath", "(I)Z"⟩
abbrev cX4_hasPath : ByteArray := prog_6_method_18_code
def yX4_hasPath : MethodName := ⟨RX4, "hasPath", "(III)Z"⟩
abbrev cX4_goAlong : ByteArray := prog_6_method_19_code
def yX4_goAlong : MethodName := ⟨RX4, "goAlong", "(IIZ)V"⟩
abbrev cX4_putInto : ByteArray := prog_6_method_20_code
def yX4_putInto : MethodName := ⟨RX4, "putInto", "(IIIIZ)I"⟩
abbrev cX4_fitsBy : ByteArray := prog_6_method_21_code
def yX4_fitsBy : MethodName := ⟨RX4, "fitsBy", "(III)Z"⟩
abbrev cX4_makeAnew : ByteArray := prog_6_method_22_code
def yX4_makeAnew : MethodName := ⟨RX4, "makeAnew", "(II)I"⟩
abbrev cX4_put : ByteArray := prog_6_method_23_code
def yX4_put : MethodName := ⟨RX4, "put", "(II)I"⟩
abbrev cX4_has : ByteArray := prog_6_method_24_code
def yX4_has : MethodName := ⟨RX4, "has", "(I)Z"⟩
abbrev cX4_get : ByteArray := prog_6_method_25_code
def yX4_get : MethodName := ⟨RX4, "get", "(I)I"⟩
abbrev cX4_remove : ByteArray := prog_6_method_26_code
def yX4_remove : MethodName := ⟨RX4, "remove", "(I)Z"⟩
abbrev cX4_seed : ByteArray := prog_6_method_27_code
def yX4_seed : MethodName := ⟨RX4, "seed", "(II)V"⟩
abbrev cX4_sync : ByteArray := prog_6_method_28_code
def yX4_sync : MethodName := ⟨RX4, "sync", "()I"⟩
abbrev cX4_crash : ByteArray := prog_6_method_29_code
def yX4_crash : MethodName := ⟨RX4, "crash", "(I)I"⟩
abbrev cX4_slot : ByteArray := prog_6_method_30_code
def yX4_slot : MethodName := ⟨RX4, "slot", "(III)I"⟩
abbrev cX4_home : ByteArray := prog_6_method_31_code
def yX4_home : MethodName := ⟨RX4, "home", "(IZ)I"⟩
abbrev cX4_reads : ByteArray := prog_6_method_32_code
def yX4_reads : MethodName := ⟨RX4, "reads", "(I)I"⟩
abbrev cX4_usedFrom : ByteArray := prog_6_method_33_code
def yX4_usedFrom : MethodName := ⟨RX4, "usedFrom", "(II)I"⟩
abbrev cX4_count : ByteArray := prog_6_method_34_code
def yX4_count : MethodName := ⟨RX4, "count", "(I)I"⟩
def RL : String := "CuckooPagesLaw"
abbrev cL_seed : ByteArray := method_3_code
def yL_seed : MethodName := ⟨RL, "seed", "(LCuckooPages;II)I"⟩
abbrev cL_crash : ByteArray := method_4_code
def yL_crash : MethodName := ⟨RL, "crash", "(LCuckooPages;I[J)I"⟩
abbrev cL_slot : ByteArray := method_5_code
def yL_slot : MethodName := ⟨RL, "slot", "(LCuckooPages;III[J)I"⟩
abbrev cL_count : ByteArray := method_6_code
def yL_count : MethodName := ⟨RL, "count", "(LCuckooPages;I[J)I"⟩
abbrev cL_law : ByteArray := code
def yL_law : MethodName := ⟨RL, "law", "([I)Z"⟩
abbrev vwCl : List vw_C := [(RX0, TX0, 1), (RX1, TX1, 1), (RX2, TX2, 3), (RX3, TX3, 10), (RX4, TX4, 34)]
theorem ui_X0_at (k : Nat) (hk : k < 1) : u_lay RX0 TX0 k ∈ TB := match k, hk with
  | 0, _ => tw_30
  | k + 1, h => absurd h (by omega)
theorem ui_X0 : ∀ w ∈ u_ws RX0 TX0 1, w ∈ TB := fun w h => by
  obtain ⟨k, hk, rfl⟩ := List.mem_map.mp h
  exact ui_X0_at k (List.mem_range.mp hk)
theorem ui_X1_at (k : Nat) (hk : k < 1) : u_lay RX1 TX1 k ∈ TB := match k, hk with
  | 0, _ => tw_58
  | k + 1, h => absurd h (by omega)
theorem ui_X1 : ∀ w ∈ u_ws RX1 TX1 1, w ∈ TB := fun w h => by
  obtain ⟨k, hk, rfl⟩ := List.mem_map.mp h
  exact ui_X1_at k (List.mem_range.mp hk)
theorem ui_X2_at (k : Nat) (hk : k < 3) : u_lay RX2 TX2 k ∈ TB := match k, hk with
  | 0, _ => tw_43
  | 1, _ => tw_45
  | 2, _ => tw_47
  | k + 3, h => absurd h (by omega)
theorem ui_X2 : ∀ w ∈ u_ws RX2 TX2 3, w ∈ TB := fun w h => by
  obtain ⟨k, hk, rfl⟩ := List.mem_map.mp h
  exact ui_X2_at k (List.mem_range.mp hk)
theorem ui_X3_at (k : Nat) (hk : k < 10) : u_lay RX3 TX3 k ∈ TB := match k, hk with
  | 0, _ => tw_71
  | 1, _ => tw_73
  | 2, _ => tw_75
  | 3, _ => tw_77
  | 4, _ => tw_79
  | 5, _ => tw_81
  | 6, _ => tw_83
  | 7, _ => tw_85
  | 8, _ => tw_87
  | 9, _ => tw_89
  | k + 10, h => absurd h (by omega)
theorem ui_X3 : ∀ w ∈ u_ws RX3 TX3 10, w ∈ TB := fun w h => by
  obtain ⟨k, hk, rfl⟩ := List.mem_map.mp h
  exact ui_X3_at k (List.mem_range.mp hk)
theorem ui_X4_at (k : Nat) (hk : k < 34) : u_lay RX4 TX4 k ∈ TB := match k, hk with
  | 0, _ => tw_490
  | 1, _ => tw_492
  | 2, _ => tw_494
  | 3, _ => tw_496
  | 4, _ => tw_498
  | 5, _ => tw_500
  | 6, _ => tw_502
  | 7, _ => tw_504
  | 8, _ => tw_506
  | 9, _ => tw_508
  | 10, _ => tw_510
  | 11, _ => tw_512
  | 12, _ => tw_514
  | 13, _ => tw_516
  | 14, _ => tw_518
  | 15, _ => tw_520
  | 16, _ => tw_522
  | 17, _ => tw_524
  | 18, _ => tw_526
  | 19, _ => tw_528
  | 20, _ => tw_530
  | 21, _ => tw_532
  | 22, _ => tw_534
  | 23, _ => tw_536
  | 24, _ => tw_538
  | 25, _ => tw_540
  | 26, _ => tw_542
  | 27, _ => tw_544
  | 28, _ => tw_546
  | 29, _ => tw_548
  | 30, _ => tw_550
  | 31, _ => tw_552
  | 32, _ => tw_554
  | 33, _ => tw_556
  | k + 34, h => absurd h (by omega)
theorem ui_X4 : ∀ w ∈ u_ws RX4 TX4 34, w ∈ TB := fun w h => by
  obtain ⟨k, hk, rfl⟩ := List.mem_map.mp h
  exact ui_X4_at k (List.mem_range.mp hk)
end
section
theorem dX0_init_0 : decode cX0_init 0 = .ok (.aload_n 0, 1) := by decide +kernel
theorem dX0_init_1 : decode cX0_init 1 = .ok (.invokespecial 3, 3) := by decide +kernel
theorem dX0_init_4 : decode cX0_init 4 = .ok (.aload_n 0, 1) := by decide +kernel
theorem dX0_init_5 : decode cX0_init 5 = .ok (.sipush 440, 3) := by decide +kernel
theorem dX0_init_8 : decode cX0_init 8 = .ok (.newarray .int, 2) := by decide +kernel
theorem dX0_init_10 : decode cX0_init 10 = .ok (.putfield 9, 3) := by decide +kernel
theorem dX0_init_13 : decode cX0_init 13 = .ok (.return_, 1) := by decide +kernel
theorem dX0_setTold_0 : decode cX0_setTold 0 = .ok (.aload_n 0, 1) := by decide +kernel
theorem dX0_setTold_1 : decode cX0_setTold 1 = .ok (.getfield 9, 3) := by decide +kernel
theorem dX0_setTold_4 : decode cX0_setTold 4 = .ok (.bipush 18, 2) := by decide +kernel
theorem dX0_setTold_6 : decode cX0_setTold 6 = .ok (.iconst 0, 1) := by decide +kernel
theorem dX0_setTold_7 : decode cX0_setTold 7 = .ok (.invokestatic 15, 3) := by decide +kernel
theorem dX0_setTold_10 : decode cX0_setTold 10 = .ok (.ireturn, 1) := by decide +kernel
theorem dX0_seedTold_0 : decode cX0_seedTold 0 = .ok (.aload_n 0, 1) := by decide +kernel
theorem dX0_seedTold_1 : decode cX0_seedTold 1 = .ok (.getfield 9, 3) := by decide +kernel
theorem dX0_seedTold_4 : decode cX0_seedTold 4 = .ok (.bipush 18, 2) := by decide +kernel
theorem dX0_seedTold_6 : decode cX0_seedTold 6 = .ok (.iconst 1, 1) := by decide +kernel
theorem dX0_seedTold_7 : decode cX0_seedTold 7 = .ok (.invokestatic 15, 3) := by decide +kernel
theorem dX0_seedTold_10 : decode cX0_seedTold 10 = .ok (.ireturn, 1) := by decide +kernel
theorem dX0_tellRoot_0 : decode cX0_tellRoot 0 = .ok (.aload_n 0, 1) := by decide +kernel
theorem dX0_tellRoot_1 : decode cX0_tellRoot 1 = .ok (.getfield 9, 3) := by decide +kernel
theorem dX0_tellRoot_4 : decode cX0_tellRoot 4 = .ok (.bipush 18, 2) := by decide +kernel
theorem dX0_tellRoot_6 : decode cX0_tellRoot 6 = .ok (.iconst 0, 1) := by decide +kernel
theorem dX0_tellRoot_7 : decode cX0_tellRoot 7 = .ok (.iload_n 1, 1) := by decide +kernel
theorem dX0_tellRoot_8 : decode cX0_tellRoot 8 = .ok (.invokestatic 19, 3) := by decide +kernel
theorem dX0_tellRoot_11 : decode cX0_tellRoot 11 = .ok (.aload_n 0, 1) := by decide +kernel
theorem dX0_tellRoot_12 : decode cX0_tellRoot 12 = .ok (.getfield 9, 3) := by decide +kernel
theorem dX0_tellRoot_15 : decode cX0_tellRoot 15 = .ok (.bipush 18, 2) := by decide +kernel
theorem dX0_tellRoot_17 : decode cX0_tellRoot 17 = .ok (.iconst 1, 1) := by decide +kernel
theorem dX0_tellRoot_18 : decode cX0_tellRoot 18 = .ok (.iload_n 2, 1) := by decide +kernel
theorem dX0_tellRoot_19 : decode cX0_tellRoot 19 = .ok (.invokestatic 19, 3) := by decide +kernel
theorem dX0_tellRoot_22 : decode cX0_tellRoot 22 = .ok (.return_, 1) := by decide +kernel
theorem dX0_tellJournal_0 : decode cX0_tellJournal 0 = .ok (.aload_n 1, 1) := by decide +kernel
theorem dX0_tellJournal_1 : decode cX0_tellJournal 1 = .ok (.getfield 23, 3) := by decide +kernel
theorem dX0_tellJournal_4 : decode cX0_tellJournal 4 = .ok (.iconst 0, 1) := by decide +kernel
theorem dX0_tellJournal_5 : decode cX0_tellJournal 5 = .ok (.aload_n 0, 1) := by decide +kernel
theorem dX0_tellJournal_6 : decode cX0_tellJournal 6 = .ok (.getfield 9, 3) := by decide +kernel
theorem dX0_tellJournal_9 : decode cX0_tellJournal 9 = .ok (.bipush 19, 2) := by decide +kernel
theorem dX0_tellJournal_11 : decode cX0_tellJournal 11 = .ok (.invokestatic 26, 3) := by decide +kernel
theorem dX0_tellJournal_14 : decode cX0_tellJournal 14 = .ok (.return_, 1) := by decide +kernel
theorem dX0_emptyJournal_0 : decode cX0_emptyJournal 0 = .ok (.aload_n 0, 1) := by decide +kernel
theorem dX0_emptyJournal_1 : decode cX0_emptyJournal 1 = .ok (.getfield 9, 3) := by decide +kernel
theorem dX0_emptyJournal_4 : decode cX0_emptyJournal 4 = .ok (.bipush 19, 2) := by decide +kernel
theorem dX0_emptyJournal_6 : decode cX0_emptyJournal 6 = .ok (.iconst 0, 1) := by decide +kernel
theorem dX0_emptyJournal_7 : decode cX0_emptyJournal 7 = .ok (.iconst 0, 1) := by decide +kernel
theorem dX0_emptyJournal_8 : decode cX0_emptyJournal 8 = .ok (.invokestatic 19, 3) := by decide +kernel
theorem dX0_emptyJournal_11 : decode cX0_emptyJournal 11 = .ok (.return_, 1) := by decide +kernel
theorem dX0_rowInUse_0 : decode cX0_rowInUse 0 = .ok (.aload_n 0, 1) := by decide +kernel
theorem dX0_rowInUse_1 : decode cX0_rowInUse 1 = .ok (.invokevirtual 30, 3) := by decide +kernel
theorem dX0_rowInUse_4 : decode cX0_rowInUse 4 = .ok (.bipush 9, 2) := by decide +kernel
theorem dX0_rowInUse_6 : decode cX0_rowInUse 6 = .ok (.imul, 1) := by decide +kernel
theorem dX0_rowInUse_7 : decode cX0_rowInUse 7 = .ok (.iload_n 1, 1) := by decide +kernel
theorem dX0_rowInUse_8 : decode cX0_rowInUse 8 = .ok (.iadd, 1) := by decide +kernel
theorem dX0_rowInUse_9 : decode cX0_rowInUse 9 = .ok (.ireturn, 1) := by decide +kernel
theorem dX0_holds_0 : decode cX0_holds 0 = .ok (.aload_n 0, 1) := by decide +kernel
theorem dX0_holds_1 : decode cX0_holds 1 = .ok (.getfield 9, 3) := by decide +kernel
theorem dX0_holds_4 : decode cX0_holds 4 = .ok (.iload_n 1, 1) := by decide +kernel
theorem dX0_holds_5 : decode cX0_holds 5 = .ok (.invokestatic 34, 3) := by decide +kernel
theorem dX0_holds_8 : decode cX0_holds 8 = .ok (.iload_n 1, 1) := by decide +kernel
theorem dX0_holds_9 : decode cX0_holds 9 = .ok (.invokestatic 38, 3) := by decide +kernel
theorem dX0_holds_12 : decode cX0_holds 12 = .ok (.invokestatic 15, 3) := by decide +kernel
theorem dX0_holds_15 : decode cX0_holds 15 = .ok (.ifCond .eq 7, 3) := by decide +kernel
theorem dX0_holds_18 : decode cX0_holds 18 = .ok (.iconst 1, 1) := by decide +kernel
theorem dX0_holds_19 : decode cX0_holds 19 = .ok (.goto 4, 3) := by decide +kernel
theorem dX0_holds_22 : decode cX0_holds 22 = .ok (.iconst 0, 1) := by decide +kernel
theorem dX0_holds_23 : decode cX0_holds 23 = .ok (.ireturn, 1) := by decide +kernel
theorem dX0_keyAt_0 : decode cX0_keyAt 0 = .ok (.aload_n 0, 1) := by decide +kernel
theorem dX0_keyAt_1 : decode cX0_keyAt 1 = .ok (.getfield 9, 3) := by decide +kernel
theorem dX0_keyAt_4 : decode cX0_keyAt 4 = .ok (.iload_n 1, 1) := by decide +kernel
theorem dX0_keyAt_5 : decode cX0_keyAt 5 = .ok (.invokestatic 34, 3) := by decide +kernel
theorem dX0_keyAt_8 : decode cX0_keyAt 8 = .ok (.iload_n 1, 1) := by decide +kernel
theorem dX0_keyAt_9 : decode cX0_keyAt 9 = .ok (.invokestatic 38, 3) := by decide +kernel
theorem dX0_keyAt_12 : decode cX0_keyAt 12 = .ok (.iconst 1, 1) := by decide +kernel
theorem dX0_keyAt_13 : decode cX0_keyAt 13 = .ok (.iadd, 1) := by decide +kernel
theorem dX0_keyAt_14 : decode cX0_keyAt 14 = .ok (.invokestatic 15, 3) := by decide +kernel
theorem dX0_keyAt_17 : decode cX0_keyAt 17 = .ok (.ireturn, 1) := by decide +kernel
theorem dX0_valueAt_0 : decode cX0_valueAt 0 = .ok (.aload_n 0, 1) := by decide +kernel
theorem dX0_valueAt_1 : decode cX0_valueAt 1 = .ok (.getfield 9, 3) := by decide +kernel
theorem dX0_valueAt_4 : decode cX0_valueAt 4 = .ok (.iload_n 1, 1) := by decide +kernel
theorem dX0_valueAt_5 : decode cX0_valueAt 5 = .ok (.invokestatic 34, 3) := by decide +kernel
theorem dX0_valueAt_8 : decode cX0_valueAt 8 = .ok (.iload_n 1, 1) := by decide +kernel
theorem dX0_valueAt_9 : decode cX0_valueAt 9 = .ok (.invokestatic 38, 3) := by decide +kernel
theorem dX0_valueAt_12 : decode cX0_valueAt 12 = .ok (.iconst 2, 1) := by decide +kernel
theorem dX0_valueAt_13 : decode cX0_valueAt 13 = .ok (.iadd, 1) := by decide +kernel
theorem dX0_valueAt_14 : decode cX0_valueAt 14 = .ok (.invokestatic 15, 3) := by decide +kernel
theorem dX0_valueAt_17 : decode cX0_valueAt 17 = .ok (.ireturn, 1) := by decide +kernel
theorem dX0_fill_0 : decode cX0_fill 0 = .ok (.iload_n 1, 1) := by decide +kernel
theorem dX0_fill_1 : decode cX0_fill 1 = .ok (.invokestatic 34, 3) := by decide +kernel
theorem dX0_fill_4 : decode cX0_fill 4 = .ok (.istore 4, 2) := by decide +kernel
theorem dX0_fill_6 : decode cX0_fill 6 = .ok (.iload_n 1, 1) := by decide +kernel
theorem dX0_fill_7 : decode cX0_fill 7 = .ok (.invokestatic 38, 3) := by decide +kernel
theorem dX0_fill_10 : decode cX0_fill 10 = .ok (.istore 5, 2) := by decide +kernel
theorem dX0_fill_12 : decode cX0_fill 12 = .ok (.aload_n 0, 1) := by decide +kernel
theorem dX0_fill_13 : decode cX0_fill 13 = .ok (.getfield 9, 3) := by decide +kernel
theorem dX0_fill_16 : decode cX0_fill 16 = .ok (.iload 4, 2) := by decide +kernel
theorem dX0_fill_18 : decode cX0_fill 18 = .ok (.iload 5, 2) := by decide +kernel
theorem dX0_fill_20 : decode cX0_fill 20 = .ok (.iconst 1, 1) := by decide +kernel
theorem dX0_fill_21 : decode cX0_fill 21 = .ok (.invokestatic 19, 3) := by decide +kernel
theorem dX0_fill_24 : decode cX0_fill 24 = .ok (.aload_n 0, 1) := by decide +kernel
theorem dX0_fill_25 : decode cX0_fill 25 = .ok (.getfield 9, 3) := by decide +kernel
theorem dX0_fill_28 : decode cX0_fill 28 = .ok (.iload 4, 2) := by decide +kernel
theorem dX0_fill_30 : decode cX0_fill 30 = .ok (.iload 5, 2) := by decide +kernel
theorem dX0_fill_32 : decode cX0_fill 32 = .ok (.iconst 1, 1) := by decide +kernel
theorem dX0_fill_33 : decode cX0_fill 33 = .ok (.iadd, 1) := by decide +kernel
theorem dX0_fill_34 : decode cX0_fill 34 = .ok (.iload_n 2, 1) := by decide +kernel
theorem dX0_fill_35 : decode cX0_fill 35 = .ok (.invokestatic 19, 3) := by decide +kernel
theorem dX0_fill_38 : decode cX0_fill 38 = .ok (.aload_n 0, 1) := by decide +kernel
theorem dX0_fill_39 : decode cX0_fill 39 = .ok (.getfield 9, 3) := by decide +kernel
theorem dX0_fill_42 : decode cX0_fill 42 = .ok (.iload 4, 2) := by decide +kernel
theorem dX0_fill_44 : decode cX0_fill 44 = .ok (.iload 5, 2) := by decide +kernel
theorem dX0_fill_46 : decode cX0_fill 46 = .ok (.iconst 2, 1) := by decide +kernel
theorem dX0_fill_47 : decode cX0_fill 47 = .ok (.iadd, 1) := by decide +kernel
theorem dX0_fill_48 : decode cX0_fill 48 = .ok (.iload_n 3, 1) := by decide +kernel
theorem dX0_fill_49 : decode cX0_fill 49 = .ok (.invokestatic 19, 3) := by decide +kernel
theorem dX0_fill_52 : decode cX0_fill 52 = .ok (.return_, 1) := by decide +kernel
theorem dX0_fillAll_0 : decode cX0_fillAll 0 = .ok (.iconst 0, 1) := by decide +kernel
theorem dX0_fillAll_1 : decode cX0_fillAll 1 = .ok (.istore_n 2, 1) := by decide +kernel
theorem dX0_fillAll_2 : decode cX0_fillAll 2 = .ok (.iload_n 2, 1) := by decide +kernel
theorem dX0_fillAll_3 : decode cX0_fillAll 3 = .ok (.bipush 7, 2) := by decide +kernel
theorem dX0_fillAll_5 : decode cX0_fillAll 5 = .ok (.if_icmp .ge 36, 3) := by decide +kernel
theorem dX0_fillAll_8 : decode cX0_fillAll 8 = .ok (.iload_n 2, 1) := by decide +kernel
theorem dX0_fillAll_9 : decode cX0_fillAll 9 = .ok (.aload_n 1, 1) := by decide +kernel
theorem dX0_fillAll_10 : decode cX0_fillAll 10 = .ok (.invokevirtual 41, 3) := by decide +kernel
theorem dX0_fillAll_13 : decode cX0_fillAll 13 = .ok (.if_icmp .ge 28, 3) := by decide +kernel
theorem dX0_fillAll_16 : decode cX0_fillAll 16 = .ok (.aload_n 0, 1) := by decide +kernel
theorem dX0_fillAll_17 : decode cX0_fillAll 17 = .ok (.aload_n 1, 1) := by decide +kernel
theorem dX0_fillAll_18 : decode cX0_fillAll 18 = .ok (.iload_n 2, 1) := by decide +kernel
theorem dX0_fillAll_19 : decode cX0_fillAll 19 = .ok (.invokevirtual 44, 3) := by decide +kernel
theorem dX0_fillAll_22 : decode cX0_fillAll 22 = .ok (.aload_n 1, 1) := by decide +kernel
theorem dX0_fillAll_23 : decode cX0_fillAll 23 = .ok (.iload_n 2, 1) := by decide +kernel
theorem dX0_fillAll_24 : decode cX0_fillAll 24 = .ok (.invokevirtual 47, 3) := by decide +kernel
theorem dX0_fillAll_27 : decode cX0_fillAll 27 = .ok (.aload_n 1, 1) := by decide +kernel
theorem dX0_fillAll_28 : decode cX0_fillAll 28 = .ok (.iload_n 2, 1) := by decide +kernel
theorem dX0_fillAll_29 : decode cX0_fillAll 29 = .ok (.invokevirtual 50, 3) := by decide +kernel
theorem dX0_fillAll_32 : decode cX0_fillAll 32 = .ok (.invokevirtual 53, 3) := by decide +kernel
theorem dX0_fillAll_35 : decode cX0_fillAll 35 = .ok (.iinc 2 1, 3) := by decide +kernel
theorem dX0_fillAll_38 : decode cX0_fillAll 38 = .ok (.goto (-36), 3) := by decide +kernel
theorem dX0_fillAll_41 : decode cX0_fillAll 41 = .ok (.return_, 1) := by decide +kernel
theorem dX0_empty_0 : decode cX0_empty 0 = .ok (.aload_n 0, 1) := by decide +kernel
theorem dX0_empty_1 : decode cX0_empty 1 = .ok (.getfield 9, 3) := by decide +kernel
theorem dX0_empty_4 : decode cX0_empty 4 = .ok (.iload_n 1, 1) := by decide +kernel
theorem dX0_empty_5 : decode cX0_empty 5 = .ok (.invokestatic 34, 3) := by decide +kernel
theorem dX0_empty_8 : decode cX0_empty 8 = .ok (.iload_n 1, 1) := by decide +kernel
theorem dX0_empty_9 : decode cX0_empty 9 = .ok (.invokestatic 38, 3) := by decide +kernel
theorem dX0_empty_12 : decode cX0_empty 12 = .ok (.iconst 0, 1) := by decide +kernel
theorem dX0_empty_13 : decode cX0_empty 13 = .ok (.invokestatic 19, 3) := by decide +kernel
theorem dX0_empty_16 : decode cX0_empty 16 = .ok (.return_, 1) := by decide +kernel
theorem dX0_emptyAll_0 : decode cX0_emptyAll 0 = .ok (.iconst 0, 1) := by decide +kernel
theorem dX0_emptyAll_1 : decode cX0_emptyAll 1 = .ok (.istore_n 1, 1) := by decide +kernel
theorem dX0_emptyAll_2 : decode cX0_emptyAll 2 = .ok (.iload_n 1, 1) := by decide +kernel
theorem dX0_emptyAll_3 : decode cX0_emptyAll 3 = .ok (.aload_n 0, 1) := by decide +kernel
theorem dX0_emptyAll_4 : decode cX0_emptyAll 4 = .ok (.getfield 9, 3) := by decide +kernel
theorem dX0_emptyAll_7 : decode cX0_emptyAll 7 = .ok (.arraylength, 1) := by decide +kernel
theorem dX0_emptyAll_8 : decode cX0_emptyAll 8 = .ok (.if_icmp .ge 16, 3) := by decide +kernel
theorem dX0_emptyAll_11 : decode cX0_emptyAll 11 = .ok (.aload_n 0, 1) := by decide +kernel
theorem dX0_emptyAll_12 : decode cX0_emptyAll 12 = .ok (.getfield 9, 3) := by decide +kernel
theorem dX0_emptyAll_15 : decode cX0_emptyAll 15 = .ok (.iload_n 1, 1) := by decide +kernel
theorem dX0_emptyAll_16 : decode cX0_emptyAll 16 = .ok (.iconst 0, 1) := by decide +kernel
theorem dX0_emptyAll_17 : decode cX0_emptyAll 17 = .ok (.iastore, 1) := by decide +kernel
theorem dX0_emptyAll_18 : decode cX0_emptyAll 18 = .ok (.iinc 1 1, 3) := by decide +kernel
theorem dX0_emptyAll_21 : decode cX0_emptyAll 21 = .ok (.goto (-19), 3) := by decide +kernel
theorem dX0_emptyAll_24 : decode cX0_emptyAll 24 = .ok (.return_, 1) := by decide +kernel
theorem dX0_leastEmpty_0 : decode cX0_leastEmpty 0 = .ok (.iconst 0, 1) := by decide +kernel
theorem dX0_leastEmpty_1 : decode cX0_leastEmpty 1 = .ok (.istore_n 2, 1) := by decide +kernel
theorem dX0_leastEmpty_2 : decode cX0_leastEmpty 2 = .ok (.iload_n 2, 1) := by decide +kernel
theorem dX0_leastEmpty_3 : decode cX0_leastEmpty 3 = .ok (.iconst 4, 1) := by decide +kernel
theorem dX0_leastEmpty_4 : decode cX0_leastEmpty 4 = .ok (.if_icmp .ge 29, 3) := by decide +kernel
theorem dX0_leastEmpty_7 : decode cX0_leastEmpty 7 = .ok (.aload_n 0, 1) := by decide +kernel
theorem dX0_leastEmpty_8 : decode cX0_leastEmpty 8 = .ok (.getfield 9, 3) := by decide +kernel
theorem dX0_leastEmpty_11 : decode cX0_leastEmpty 11 = .ok (.iload_n 1, 1) := by decide +kernel
theorem dX0_leastEmpty_12 : decode cX0_leastEmpty 12 = .ok (.iload_n 2, 1) := by decide +kernel
theorem dX0_leastEmpty_13 : decode cX0_leastEmpty 13 = .ok (.iconst 3, 1) := by decide +kernel
theorem dX0_leastEmpty_14 : decode cX0_leastEmpty 14 = .ok (.imul, 1) := by decide +kernel
theorem dX0_leastEmpty_15 : decode cX0_leastEmpty 15 = .ok (.invokestatic 15, 3) := by decide +kernel
theorem dX0_leastEmpty_18 : decode cX0_leastEmpty 18 = .ok (.ifCond .ne 9, 3) := by decide +kernel
theorem dX0_leastEmpty_21 : decode cX0_leastEmpty 21 = .ok (.iload_n 1, 1) := by decide +kernel
theorem dX0_leastEmpty_22 : decode cX0_leastEmpty 22 = .ok (.iload_n 2, 1) := by decide +kernel
theorem dX0_leastEmpty_23 : decode cX0_leastEmpty 23 = .ok (.invokestatic 57, 3) := by decide +kernel
theorem dX0_leastEmpty_26 : decode cX0_leastEmpty 26 = .ok (.ireturn, 1) := by decide +kernel
theorem dX0_leastEmpty_27 : decode cX0_leastEmpty 27 = .ok (.iinc 2 1, 3) := by decide +kernel
theorem dX0_leastEmpty_30 : decode cX0_leastEmpty 30 = .ok (.goto (-28), 3) := by decide +kernel
theorem dX0_leastEmpty_33 : decode cX0_leastEmpty 33 = .ok (.iconst (-1), 1) := by decide +kernel
theorem dX0_leastEmpty_34 : decode cX0_leastEmpty 34 = .ok (.ireturn, 1) := by decide +kernel
theorem dX0_placeIn_0 : decode cX0_placeIn 0 = .ok (.iconst 0, 1) := by decide +kernel
theorem dX0_placeIn_1 : decode cX0_placeIn 1 = .ok (.istore_n 3, 1) := by decide +kernel
theorem dX0_placeIn_2 : decode cX0_placeIn 2 = .ok (.iload_n 3, 1) := by decide +kernel
theorem dX0_placeIn_3 : decode cX0_placeIn 3 = .ok (.iconst 4, 1) := by decide +kernel
theorem dX0_placeIn_4 : decode cX0_placeIn 4 = .ok (.if_icmp .ge 58, 3) := by decide +kernel
theorem dX0_placeIn_7 : decode cX0_placeIn 7 = .ok (.aload_n 0, 1) := by decide +kernel
theorem dX0_placeIn_8 : decode cX0_placeIn 8 = .ok (.getfield 9, 3) := by decide +kernel
theorem dX0_placeIn_11 : decode cX0_placeIn 11 = .ok (.iload_n 1, 1) := by decide +kernel
theorem dX0_placeIn_12 : decode cX0_placeIn 12 = .ok (.iload_n 3, 1) := by decide +kernel
theorem dX0_placeIn_13 : decode cX0_placeIn 13 = .ok (.iconst 3, 1) := by decide +kernel
theorem dX0_placeIn_14 : decode cX0_placeIn 14 = .ok (.imul, 1) := by decide +kernel
theorem dX0_placeIn_15 : decode cX0_placeIn 15 = .ok (.invokestatic 15, 3) := by decide +kernel
theorem dX0_placeIn_18 : decode cX0_placeIn 18 = .ok (.ifCond .eq 7, 3) := by decide +kernel
theorem dX0_placeIn_21 : decode cX0_placeIn 21 = .ok (.iconst 1, 1) := by decide +kernel
theorem dX0_placeIn_22 : decode cX0_placeIn 22 = .ok (.goto 4, 3) := by decide +kernel
theorem dX0_placeIn_25 : decode cX0_placeIn 25 = .ok (.iconst 0, 1) := by decide +kernel
theorem dX0_placeIn_26 : decode cX0_placeIn 26 = .ok (.istore 4, 2) := by decide +kernel
theorem dX0_placeIn_28 : decode cX0_placeIn 28 = .ok (.iload 4, 2) := by decide +kernel
theorem dX0_placeIn_30 : decode cX0_placeIn 30 = .ok (.ifCond .eq 26, 3) := by decide +kernel
theorem dX0_placeIn_33 : decode cX0_placeIn 33 = .ok (.aload_n 0, 1) := by decide +kernel
theorem dX0_placeIn_34 : decode cX0_placeIn 34 = .ok (.getfield 9, 3) := by decide +kernel
theorem dX0_placeIn_37 : decode cX0_placeIn 37 = .ok (.iload_n 1, 1) := by decide +kernel
theorem dX0_placeIn_38 : decode cX0_placeIn 38 = .ok (.iload_n 3, 1) := by decide +kernel
theorem dX0_placeIn_39 : decode cX0_placeIn 39 = .ok (.iconst 3, 1) := by decide +kernel
theorem dX0_placeIn_40 : decode cX0_placeIn 40 = .ok (.imul, 1) := by decide +kernel
theorem dX0_placeIn_41 : decode cX0_placeIn 41 = .ok (.iconst 1, 1) := by decide +kernel
theorem dX0_placeIn_42 : decode cX0_placeIn 42 = .ok (.iadd, 1) := by decide +kernel
theorem dX0_placeIn_43 : decode cX0_placeIn 43 = .ok (.invokestatic 15, 3) := by decide +kernel
theorem dX0_placeIn_46 : decode cX0_placeIn 46 = .ok (.iload_n 2, 1) := by decide +kernel
theorem dX0_placeIn_47 : decode cX0_placeIn 47 = .ok (.if_icmp .ne 9, 3) := by decide +kernel
theorem dX0_placeIn_50 : decode cX0_placeIn 50 = .ok (.iload_n 1, 1) := by decide +kernel
theorem dX0_placeIn_51 : decode cX0_placeIn 51 = .ok (.iload_n 3, 1) := by decide +kernel
theorem dX0_placeIn_52 : decode cX0_placeIn 52 = .ok (.invokestatic 57, 3) := by decide +kernel
theorem dX0_placeIn_55 : decode cX0_placeIn 55 = .ok (.ireturn, 1) := by decide +kernel
theorem dX0_placeIn_56 : decode cX0_placeIn 56 = .ok (.iinc 3 1, 3) := by decide +kernel
theorem dX0_placeIn_59 : decode cX0_placeIn 59 = .ok (.goto (-57), 3) := by decide +kernel
theorem dX0_placeIn_62 : decode cX0_placeIn 62 = .ok (.iconst (-1), 1) := by decide +kernel
theorem dX0_placeIn_63 : decode cX0_placeIn 63 = .ok (.ireturn, 1) := by decide +kernel
theorem dX0_keysIn_0 : decode cX0_keysIn 0 = .ok (.iconst 0, 1) := by decide +kernel
theorem dX0_keysIn_1 : decode cX0_keysIn 1 = .ok (.istore_n 2, 1) := by decide +kernel
theorem dX0_keysIn_2 : decode cX0_keysIn 2 = .ok (.iconst 0, 1) := by decide +kernel
theorem dX0_keysIn_3 : decode cX0_keysIn 3 = .ok (.istore_n 3, 1) := by decide +kernel
theorem dX0_keysIn_4 : decode cX0_keysIn 4 = .ok (.iload_n 3, 1) := by decide +kernel
theorem dX0_keysIn_5 : decode cX0_keysIn 5 = .ok (.iconst 4, 1) := by decide +kernel
theorem dX0_keysIn_6 : decode cX0_keysIn 6 = .ok (.if_icmp .ge 26, 3) := by decide +kernel
theorem dX0_keysIn_9 : decode cX0_keysIn 9 = .ok (.aload_n 0, 1) := by decide +kernel
theorem dX0_keysIn_10 : decode cX0_keysIn 10 = .ok (.getfield 9, 3) := by decide +kernel
theorem dX0_keysIn_13 : decode cX0_keysIn 13 = .ok (.iload_n 1, 1) := by decide +kernel
theorem dX0_keysIn_14 : decode cX0_keysIn 14 = .ok (.iload_n 3, 1) := by decide +kernel
theorem dX0_keysIn_15 : decode cX0_keysIn 15 = .ok (.iconst 3, 1) := by decide +kernel
theorem dX0_keysIn_16 : decode cX0_keysIn 16 = .ok (.imul, 1) := by decide +kernel
theorem dX0_keysIn_17 : decode cX0_keysIn 17 = .ok (.invokestatic 15, 3) := by decide +kernel
theorem dX0_keysIn_20 : decode cX0_keysIn 20 = .ok (.ifCond .eq 6, 3) := by decide +kernel
theorem dX0_keysIn_23 : decode cX0_keysIn 23 = .ok (.iinc 2 1, 3) := by decide +kernel
theorem dX0_keysIn_26 : decode cX0_keysIn 26 = .ok (.iinc 3 1, 3) := by decide +kernel
theorem dX0_keysIn_29 : decode cX0_keysIn 29 = .ok (.goto (-25), 3) := by decide +kernel
theorem dX0_keysIn_32 : decode cX0_keysIn 32 = .ok (.iload_n 2, 1) := by decide +kernel
theorem dX0_keysIn_33 : decode cX0_keysIn 33 = .ok (.ireturn, 1) := by decide +kernel
theorem dX0_takeRow_0 : decode cX0_takeRow 0 = .ok (.aload_n 1, 1) := by decide +kernel
theorem dX0_takeRow_1 : decode cX0_takeRow 1 = .ok (.getfield 9, 3) := by decide +kernel
theorem dX0_takeRow_4 : decode cX0_takeRow 4 = .ok (.iload_n 2, 1) := by decide +kernel
theorem dX0_takeRow_5 : decode cX0_takeRow 5 = .ok (.aload_n 0, 1) := by decide +kernel
theorem dX0_takeRow_6 : decode cX0_takeRow 6 = .ok (.getfield 9, 3) := by decide +kernel
theorem dX0_takeRow_9 : decode cX0_takeRow 9 = .ok (.iload_n 2, 1) := by decide +kernel
theorem dX0_takeRow_10 : decode cX0_takeRow 10 = .ok (.invokestatic 26, 3) := by decide +kernel
theorem dX0_takeRow_13 : decode cX0_takeRow 13 = .ok (.return_, 1) := by decide +kernel
theorem dX1_init_0 : decode cX1_init 0 = .ok (.aload_n 0, 1) := by decide +kernel
theorem dX1_init_1 : decode cX1_init 1 = .ok (.invokespecial 3, 3) := by decide +kernel
theorem dX1_init_4 : decode cX1_init 4 = .ok (.aload_n 0, 1) := by decide +kernel
theorem dX1_init_5 : decode cX1_init 5 = .ok (.bipush 22, 2) := by decide +kernel
theorem dX1_init_7 : decode cX1_init 7 = .ok (.newarray .int, 2) := by decide +kernel
theorem dX1_init_9 : decode cX1_init 9 = .ok (.putfield 9, 3) := by decide +kernel
theorem dX1_init_12 : decode cX1_init 12 = .ok (.return_, 1) := by decide +kernel
theorem dX1_size_0 : decode cX1_size 0 = .ok (.aload_n 0, 1) := by decide +kernel
theorem dX1_size_1 : decode cX1_size 1 = .ok (.getfield 9, 3) := by decide +kernel
theorem dX1_size_4 : decode cX1_size 4 = .ok (.iconst 0, 1) := by decide +kernel
theorem dX1_size_5 : decode cX1_size 5 = .ok (.iconst 0, 1) := by decide +kernel
theorem dX1_size_6 : decode cX1_size 6 = .ok (.invokestatic 15, 3) := by decide +kernel
theorem dX1_size_9 : decode cX1_size 9 = .ok (.ireturn, 1) := by decide +kernel
theorem dX1_placeAt_0 : decode cX1_placeAt 0 = .ok (.aload_n 0, 1) := by decide +kernel
theorem dX1_placeAt_1 : decode cX1_placeAt 1 = .ok (.getfield 9, 3) := by decide +kernel
theorem dX1_placeAt_4 : decode cX1_placeAt 4 = .ok (.iconst 0, 1) := by decide +kernel
theorem dX1_placeAt_5 : decode cX1_placeAt 5 = .ok (.iconst 1, 1) := by decide +kernel
theorem dX1_placeAt_6 : decode cX1_placeAt 6 = .ok (.iload_n 1, 1) := by decide +kernel
theorem dX1_placeAt_7 : decode cX1_placeAt 7 = .ok (.iconst 3, 1) := by decide +kernel
theorem dX1_placeAt_8 : decode cX1_placeAt 8 = .ok (.imul, 1) := by decide +kernel
theorem dX1_placeAt_9 : decode cX1_placeAt 9 = .ok (.iadd, 1) := by decide +kernel
theorem dX1_placeAt_10 : decode cX1_placeAt 10 = .ok (.invokestatic 15, 3) := by decide +kernel
theorem dX1_placeAt_13 : decode cX1_placeAt 13 = .ok (.ireturn, 1) := by decide +kernel
theorem dX1_keyAt_0 : decode cX1_keyAt 0 = .ok (.aload_n 0, 1) := by decide +kernel
theorem dX1_keyAt_1 : decode cX1_keyAt 1 = .ok (.getfield 9, 3) := by decide +kernel
theorem dX1_keyAt_4 : decode cX1_keyAt 4 = .ok (.iconst 0, 1) := by decide +kernel
theorem dX1_keyAt_5 : decode cX1_keyAt 5 = .ok (.iconst 2, 1) := by decide +kernel
theorem dX1_keyAt_6 : decode cX1_keyAt 6 = .ok (.iload_n 1, 1) := by decide +kernel
theorem dX1_keyAt_7 : decode cX1_keyAt 7 = .ok (.iconst 3, 1) := by decide +kernel
theorem dX1_keyAt_8 : decode cX1_keyAt 8 = .ok (.imul, 1) := by decide +kernel
theorem dX1_keyAt_9 : decode cX1_keyAt 9 = .ok (.iadd, 1) := by decide +kernel
theorem dX1_keyAt_10 : decode cX1_keyAt 10 = .ok (.invokestatic 15, 3) := by decide +kernel
theorem dX1_keyAt_13 : decode cX1_keyAt 13 = .ok (.ireturn, 1) := by decide +kernel
theorem dX1_valueAt_0 : decode cX1_valueAt 0 = .ok (.aload_n 0, 1) := by decide +kernel
theorem dX1_valueAt_1 : decode cX1_valueAt 1 = .ok (.getfield 9, 3) := by decide +kernel
theorem dX1_valueAt_4 : decode cX1_valueAt 4 = .ok (.iconst 0, 1) := by decide +kernel
theorem dX1_valueAt_5 : decode cX1_valueAt 5 = .ok (.iconst 3, 1) := by decide +kernel
theorem dX1_valueAt_6 : decode cX1_valueAt 6 = .ok (.iload_n 1, 1) := by decide +kernel
theorem dX1_valueAt_7 : decode cX1_valueAt 7 = .ok (.iconst 3, 1) := by decide +kernel
theorem dX1_valueAt_8 : decode cX1_valueAt 8 = .ok (.imul, 1) := by decide +kernel
theorem dX1_valueAt_9 : decode cX1_valueAt 9 = .ok (.iadd, 1) := by decide +kernel
theorem dX1_valueAt_10 : decode cX1_valueAt 10 = .ok (.invokestatic 15, 3) := by decide +kernel
theorem dX1_valueAt_13 : decode cX1_valueAt 13 = .ok (.ireturn, 1) := by decide +kernel
theorem dX1_tellOf_0 : decode cX1_tellOf 0 = .ok (.aload_n 0, 1) := by decide +kernel
theorem dX1_tellOf_1 : decode cX1_tellOf 1 = .ok (.getfield 9, 3) := by decide +kernel
theorem dX1_tellOf_4 : decode cX1_tellOf 4 = .ok (.iconst 0, 1) := by decide +kernel
theorem dX1_tellOf_5 : decode cX1_tellOf 5 = .ok (.iconst 0, 1) := by decide +kernel
theorem dX1_tellOf_6 : decode cX1_tellOf 6 = .ok (.invokestatic 15, 3) := by decide +kernel
theorem dX1_tellOf_9 : decode cX1_tellOf 9 = .ok (.istore_n 2, 1) := by decide +kernel
theorem dX1_tellOf_10 : decode cX1_tellOf 10 = .ok (.iconst 0, 1) := by decide +kernel
theorem dX1_tellOf_11 : decode cX1_tellOf 11 = .ok (.istore_n 3, 1) := by decide +kernel
theorem dX1_tellOf_12 : decode cX1_tellOf 12 = .ok (.iload_n 3, 1) := by decide +kernel
theorem dX1_tellOf_13 : decode cX1_tellOf 13 = .ok (.bipush 7, 2) := by decide +kernel
theorem dX1_tellOf_15 : decode cX1_tellOf 15 = .ok (.if_icmp .ge 33, 3) := by decide +kernel
theorem dX1_tellOf_18 : decode cX1_tellOf 18 = .ok (.iload_n 3, 1) := by decide +kernel
theorem dX1_tellOf_19 : decode cX1_tellOf 19 = .ok (.iload_n 2, 1) := by decide +kernel
theorem dX1_tellOf_20 : decode cX1_tellOf 20 = .ok (.if_icmp .ge 28, 3) := by decide +kernel
theorem dX1_tellOf_23 : decode cX1_tellOf 23 = .ok (.aload_n 0, 1) := by decide +kernel
theorem dX1_tellOf_24 : decode cX1_tellOf 24 = .ok (.getfield 9, 3) := by decide +kernel
theorem dX1_tellOf_27 : decode cX1_tellOf 27 = .ok (.iconst 0, 1) := by decide +kernel
theorem dX1_tellOf_28 : decode cX1_tellOf 28 = .ok (.iconst 1, 1) := by decide +kernel
theorem dX1_tellOf_29 : decode cX1_tellOf 29 = .ok (.iload_n 3, 1) := by decide +kernel
theorem dX1_tellOf_30 : decode cX1_tellOf 30 = .ok (.iconst 3, 1) := by decide +kernel
theorem dX1_tellOf_31 : decode cX1_tellOf 31 = .ok (.imul, 1) := by decide +kernel
theorem dX1_tellOf_32 : decode cX1_tellOf 32 = .ok (.iadd, 1) := by decide +kernel
theorem dX1_tellOf_33 : decode cX1_tellOf 33 = .ok (.invokestatic 15, 3) := by decide +kernel
theorem dX1_tellOf_36 : decode cX1_tellOf 36 = .ok (.iload_n 1, 1) := by decide +kernel
theorem dX1_tellOf_37 : decode cX1_tellOf 37 = .ok (.if_icmp .ne 5, 3) := by decide +kernel
theorem dX1_tellOf_40 : decode cX1_tellOf 40 = .ok (.iconst 1, 1) := by decide +kernel
theorem dX1_tellOf_41 : decode cX1_tellOf 41 = .ok (.ireturn, 1) := by decide +kernel
theorem dX1_tellOf_42 : decode cX1_tellOf 42 = .ok (.iinc 3 1, 3) := by decide +kernel
theorem dX1_tellOf_45 : decode cX1_tellOf 45 = .ok (.goto (-33), 3) := by decide +kernel
theorem dX1_tellOf_48 : decode cX1_tellOf 48 = .ok (.iconst 0, 1) := by decide +kernel
theorem dX1_tellOf_49 : decode cX1_tellOf 49 = .ok (.ireturn, 1) := by decide +kernel
theorem dX1_tellNothing_0 : decode cX1_tellNothing 0 = .ok (.aload_n 0, 1) := by decide +kernel
theorem dX1_tellNothing_1 : decode cX1_tellNothing 1 = .ok (.getfield 9, 3) := by decide +kernel
theorem dX1_tellNothing_4 : decode cX1_tellNothing 4 = .ok (.iconst 0, 1) := by decide +kernel
theorem dX1_tellNothing_5 : decode cX1_tellNothing 5 = .ok (.iconst 0, 1) := by decide +kernel
theorem dX1_tellNothing_6 : decode cX1_tellNothing 6 = .ok (.iconst 0, 1) := by decide +kernel
theorem dX1_tellNothing_7 : decode cX1_tellNothing 7 = .ok (.invokestatic 19, 3) := by decide +kernel
theorem dX1_tellNothing_10 : decode cX1_tellNothing 10 = .ok (.return_, 1) := by decide +kernel
theorem dX1_tellOne_0 : decode cX1_tellOne 0 = .ok (.aload_n 0, 1) := by decide +kernel
theorem dX1_tellOne_1 : decode cX1_tellOne 1 = .ok (.invokevirtual 23, 3) := by decide +kernel
theorem dX1_tellOne_4 : decode cX1_tellOne 4 = .ok (.aload_n 0, 1) := by decide +kernel
theorem dX1_tellOne_5 : decode cX1_tellOne 5 = .ok (.iload_n 1, 1) := by decide +kernel
theorem dX1_tellOne_6 : decode cX1_tellOne 6 = .ok (.iload_n 2, 1) := by decide +kernel
theorem dX1_tellOne_7 : decode cX1_tellOne 7 = .ok (.iload_n 3, 1) := by decide +kernel
theorem dX1_tellOne_8 : decode cX1_tellOne 8 = .ok (.invokevirtual 26, 3) := by decide +kernel
theorem dX1_tellOne_11 : decode cX1_tellOne 11 = .ok (.return_, 1) := by decide +kernel
theorem dX1_add_0 : decode cX1_add 0 = .ok (.aload_n 0, 1) := by decide +kernel
theorem dX1_add_1 : decode cX1_add 1 = .ok (.invokevirtual 30, 3) := by decide +kernel
theorem dX1_add_4 : decode cX1_add 4 = .ok (.istore 4, 2) := by decide +kernel
theorem dX1_add_6 : decode cX1_add 6 = .ok (.iload 4, 2) := by decide +kernel
theorem dX1_add_8 : decode cX1_add 8 = .ok (.bipush 7, 2) := by decide +kernel
theorem dX1_add_10 : decode cX1_add 10 = .ok (.if_icmp .ge 61, 3) := by decide +kernel
theorem dX1_add_13 : decode cX1_add 13 = .ok (.aload_n 0, 1) := by decide +kernel
theorem dX1_add_14 : decode cX1_add 14 = .ok (.getfield 9, 3) := by decide +kernel
theorem dX1_add_17 : decode cX1_add 17 = .ok (.iconst 0, 1) := by decide +kernel
theorem dX1_add_18 : decode cX1_add 18 = .ok (.iconst 1, 1) := by decide +kernel
theorem dX1_add_19 : decode cX1_add 19 = .ok (.iload 4, 2) := by decide +kernel
theorem dX1_add_21 : decode cX1_add 21 = .ok (.iconst 3, 1) := by decide +kernel
theorem dX1_add_22 : decode cX1_add 22 = .ok (.imul, 1) := by decide +kernel
theorem dX1_add_23 : decode cX1_add 23 = .ok (.iadd, 1) := by decide +kernel
theorem dX1_add_24 : decode cX1_add 24 = .ok (.iload_n 1, 1) := by decide +kernel
theorem dX1_add_25 : decode cX1_add 25 = .ok (.invokestatic 19, 3) := by decide +kernel
theorem dX1_add_28 : decode cX1_add 28 = .ok (.aload_n 0, 1) := by decide +kernel
theorem dX1_add_29 : decode cX1_add 29 = .ok (.getfield 9, 3) := by decide +kernel
theorem dX1_add_32 : decode cX1_add 32 = .ok (.iconst 0, 1) := by decide +kernel
theorem dX1_add_33 : decode cX1_add 33 = .ok (.iconst 2, 1) := by decide +kernel
theorem dX1_add_34 : decode cX1_add 34 = .ok (.iload 4, 2) := by decide +kernel
theorem dX1_add_36 : decode cX1_add 36 = .ok (.iconst 3, 1) := by decide +kernel
theorem dX1_add_37 : decode cX1_add 37 = .ok (.imul, 1) := by decide +kernel
theorem dX1_add_38 : decode cX1_add 38 = .ok (.iadd, 1) := by decide +kernel
theorem dX1_add_39 : decode cX1_add 39 = .ok (.iload_n 2, 1) := by decide +kernel
theorem dX1_add_40 : decode cX1_add 40 = .ok (.invokestatic 19, 3) := by decide +kernel
theorem dX1_add_43 : decode cX1_add 43 = .ok (.aload_n 0, 1) := by decide +kernel
theorem dX1_add_44 : decode cX1_add 44 = .ok (.getfield 9, 3) := by decide +kernel
theorem dX1_add_47 : decode cX1_add 47 = .ok (.iconst 0, 1) := by decide +kernel
theorem dX1_add_48 : decode cX1_add 48 = .ok (.iconst 3, 1) := by decide +kernel
theorem dX1_add_49 : decode cX1_add 49 = .ok (.iload 4, 2) := by decide +kernel
theorem dX1_add_51 : decode cX1_add 51 = .ok (.iconst 3, 1) := by decide +kernel
theorem dX1_add_52 : decode cX1_add 52 = .ok (.imul, 1) := by decide +kernel
theorem dX1_add_53 : decode cX1_add 53 = .ok (.iadd, 1) := by decide +kernel
theorem dX1_add_54 : decode cX1_add 54 = .ok (.iload_n 3, 1) := by decide +kernel
theorem dX1_add_55 : decode cX1_add 55 = .ok (.invokestatic 19, 3) := by decide +kernel
theorem dX1_add_58 : decode cX1_add 58 = .ok (.aload_n 0, 1) := by decide +kernel
theorem dX1_add_59 : decode cX1_add 59 = .ok (.getfield 9, 3) := by decide +kernel
theorem dX1_add_62 : decode cX1_add 62 = .ok (.iconst 0, 1) := by decide +kernel
theorem dX1_add_63 : decode cX1_add 63 = .ok (.iconst 0, 1) := by decide +kernel
theorem dX1_add_64 : decode cX1_add 64 = .ok (.iload 4, 2) := by decide +kernel
theorem dX1_add_66 : decode cX1_add 66 = .ok (.iconst 1, 1) := by decide +kernel
theorem dX1_add_67 : decode cX1_add 67 = .ok (.iadd, 1) := by decide +kernel
theorem dX1_add_68 : decode cX1_add 68 = .ok (.invokestatic 19, 3) := by decide +kernel
theorem dX1_add_71 : decode cX1_add 71 = .ok (.return_, 1) := by decide +kernel
theorem dX1_takeJournal_0 : decode cX1_takeJournal 0 = .ok (.aload_n 1, 1) := by decide +kernel
theorem dX1_takeJournal_1 : decode cX1_takeJournal 1 = .ok (.getfield 34, 3) := by decide +kernel
theorem dX1_takeJournal_4 : decode cX1_takeJournal 4 = .ok (.bipush 19, 2) := by decide +kernel
theorem dX1_takeJournal_6 : decode cX1_takeJournal 6 = .ok (.aload_n 0, 1) := by decide +kernel
theorem dX1_takeJournal_7 : decode cX1_takeJournal 7 = .ok (.getfield 9, 3) := by decide +kernel
theorem dX1_takeJournal_10 : decode cX1_takeJournal 10 = .ok (.iconst 0, 1) := by decide +kernel
theorem dX1_takeJournal_11 : decode cX1_takeJournal 11 = .ok (.invokestatic 37, 3) := by decide +kernel
theorem dX1_takeJournal_14 : decode cX1_takeJournal 14 = .ok (.return_, 1) := by decide +kernel
theorem dX2_init_0 : decode cX2_init 0 = .ok (.aload_n 0, 1) := by decide +kernel
theorem dX2_init_1 : decode cX2_init 1 = .ok (.invokespecial 3, 3) := by decide +kernel
theorem dX2_init_4 : decode cX2_init 4 = .ok (.aload_n 0, 1) := by decide +kernel
theorem dX2_init_5 : decode cX2_init 5 = .ok (.bipush 40, 2) := by decide +kernel
theorem dX2_init_7 : decode cX2_init 7 = .ok (.newarray .int, 2) := by decide +kernel
theorem dX2_init_9 : decode cX2_init 9 = .ok (.putfield 9, 3) := by decide +kernel
theorem dX2_init_12 : decode cX2_init 12 = .ok (.aload_n 0, 1) := by decide +kernel
theorem dX2_init_13 : decode cX2_init 13 = .ok (.sipush 880, 3) := by decide +kernel
theorem dX2_init_16 : decode cX2_init 16 = .ok (.newarray .int, 2) := by decide +kernel
theorem dX2_init_18 : decode cX2_init 18 = .ok (.putfield 15, 3) := by decide +kernel
theorem dX2_init_21 : decode cX2_init 21 = .ok (.return_, 1) := by decide +kernel
theorem dX2_size_0 : decode cX2_size 0 = .ok (.aload_n 0, 1) := by decide +kernel
theorem dX2_size_1 : decode cX2_size 1 = .ok (.getfield 18, 3) := by decide +kernel
theorem dX2_size_4 : decode cX2_size 4 = .ok (.ireturn, 1) := by decide +kernel
theorem dX2_add_0 : decode cX2_add 0 = .ok (.aload_n 0, 1) := by decide +kernel
theorem dX2_add_1 : decode cX2_add 1 = .ok (.getfield 18, 3) := by decide +kernel
theorem dX2_add_4 : decode cX2_add 4 = .ok (.ifCond .lt 51, 3) := by decide +kernel
theorem dX2_add_7 : decode cX2_add 7 = .ok (.aload_n 0, 1) := by decide +kernel
theorem dX2_add_8 : decode cX2_add 8 = .ok (.getfield 18, 3) := by decide +kernel
theorem dX2_add_11 : decode cX2_add 11 = .ok (.aload_n 0, 1) := by decide +kernel
theorem dX2_add_12 : decode cX2_add 12 = .ok (.getfield 9, 3) := by decide +kernel
theorem dX2_add_15 : decode cX2_add 15 = .ok (.arraylength, 1) := by decide +kernel
theorem dX2_add_16 : decode cX2_add 16 = .ok (.if_icmp .ge 39, 3) := by decide +kernel
theorem dX2_add_19 : decode cX2_add 19 = .ok (.aload_n 0, 1) := by decide +kernel
theorem dX2_add_20 : decode cX2_add 20 = .ok (.getfield 9, 3) := by decide +kernel
theorem dX2_add_23 : decode cX2_add 23 = .ok (.aload_n 0, 1) := by decide +kernel
theorem dX2_add_24 : decode cX2_add 24 = .ok (.getfield 18, 3) := by decide +kernel
theorem dX2_add_27 : decode cX2_add 27 = .ok (.iload_n 2, 1) := by decide +kernel
theorem dX2_add_28 : decode cX2_add 28 = .ok (.iastore, 1) := by decide +kernel
end
section
theorem dX2_add_29 : decode cX2_add 29 = .ok (.aload_n 1, 1) := by decide +kernel
theorem dX2_add_30 : decode cX2_add 30 = .ok (.getfield 22, 3) := by decide +kernel
theorem dX2_add_33 : decode cX2_add 33 = .ok (.iload_n 2, 1) := by decide +kernel
theorem dX2_add_34 : decode cX2_add 34 = .ok (.aload_n 0, 1) := by decide +kernel
theorem dX2_add_35 : decode cX2_add 35 = .ok (.getfield 15, 3) := by decide +kernel
theorem dX2_add_38 : decode cX2_add 38 = .ok (.aload_n 0, 1) := by decide +kernel
theorem dX2_add_39 : decode cX2_add 39 = .ok (.getfield 18, 3) := by decide +kernel
theorem dX2_add_42 : decode cX2_add 42 = .ok (.invokestatic 25, 3) := by decide +kernel
theorem dX2_add_45 : decode cX2_add 45 = .ok (.aload_n 0, 1) := by decide +kernel
theorem dX2_add_46 : decode cX2_add 46 = .ok (.dup, 1) := by decide +kernel
theorem dX2_add_47 : decode cX2_add 47 = .ok (.getfield 18, 3) := by decide +kernel
theorem dX2_add_50 : decode cX2_add 50 = .ok (.iconst 1, 1) := by decide +kernel
theorem dX2_add_51 : decode cX2_add 51 = .ok (.iadd, 1) := by decide +kernel
theorem dX2_add_52 : decode cX2_add 52 = .ok (.putfield 18, 3) := by decide +kernel
theorem dX2_add_55 : decode cX2_add 55 = .ok (.return_, 1) := by decide +kernel
theorem dX2_doFirst_0 : decode cX2_doFirst 0 = .ok (.iconst 0, 1) := by decide +kernel
theorem dX2_doFirst_1 : decode cX2_doFirst 1 = .ok (.istore_n 3, 1) := by decide +kernel
theorem dX2_doFirst_2 : decode cX2_doFirst 2 = .ok (.iload_n 3, 1) := by decide +kernel
theorem dX2_doFirst_3 : decode cX2_doFirst 3 = .ok (.iload_n 1, 1) := by decide +kernel
theorem dX2_doFirst_4 : decode cX2_doFirst 4 = .ok (.if_icmp .ge 36, 3) := by decide +kernel
theorem dX2_doFirst_7 : decode cX2_doFirst 7 = .ok (.iload_n 3, 1) := by decide +kernel
theorem dX2_doFirst_8 : decode cX2_doFirst 8 = .ok (.aload_n 0, 1) := by decide +kernel
theorem dX2_doFirst_9 : decode cX2_doFirst 9 = .ok (.getfield 9, 3) := by decide +kernel
theorem dX2_doFirst_12 : decode cX2_doFirst 12 = .ok (.arraylength, 1) := by decide +kernel
theorem dX2_doFirst_13 : decode cX2_doFirst 13 = .ok (.if_icmp .ge 27, 3) := by decide +kernel
theorem dX2_doFirst_16 : decode cX2_doFirst 16 = .ok (.aload_n 0, 1) := by decide +kernel
theorem dX2_doFirst_17 : decode cX2_doFirst 17 = .ok (.getfield 15, 3) := by decide +kernel
theorem dX2_doFirst_20 : decode cX2_doFirst 20 = .ok (.iload_n 3, 1) := by decide +kernel
theorem dX2_doFirst_21 : decode cX2_doFirst 21 = .ok (.aload_n 2, 1) := by decide +kernel
theorem dX2_doFirst_22 : decode cX2_doFirst 22 = .ok (.getfield 22, 3) := by decide +kernel
theorem dX2_doFirst_25 : decode cX2_doFirst 25 = .ok (.aload_n 0, 1) := by decide +kernel
theorem dX2_doFirst_26 : decode cX2_doFirst 26 = .ok (.getfield 9, 3) := by decide +kernel
theorem dX2_doFirst_29 : decode cX2_doFirst 29 = .ok (.iload_n 3, 1) := by decide +kernel
theorem dX2_doFirst_30 : decode cX2_doFirst 30 = .ok (.iaload, 1) := by decide +kernel
theorem dX2_doFirst_31 : decode cX2_doFirst 31 = .ok (.invokestatic 25, 3) := by decide +kernel
theorem dX2_doFirst_34 : decode cX2_doFirst 34 = .ok (.iinc 3 1, 3) := by decide +kernel
theorem dX2_doFirst_37 : decode cX2_doFirst 37 = .ok (.goto (-35), 3) := by decide +kernel
theorem dX2_doFirst_40 : decode cX2_doFirst 40 = .ok (.aload_n 0, 1) := by decide +kernel
theorem dX2_doFirst_41 : decode cX2_doFirst 41 = .ok (.iconst 0, 1) := by decide +kernel
theorem dX2_doFirst_42 : decode cX2_doFirst 42 = .ok (.putfield 18, 3) := by decide +kernel
theorem dX2_doFirst_45 : decode cX2_doFirst 45 = .ok (.return_, 1) := by decide +kernel
theorem dX3_init_0 : decode cX3_init 0 = .ok (.aload_n 0, 1) := by decide +kernel
theorem dX3_init_1 : decode cX3_init 1 = .ok (.invokespecial 3, 3) := by decide +kernel
theorem dX3_init_4 : decode cX3_init 4 = .ok (.aload_n 0, 1) := by decide +kernel
theorem dX3_init_5 : decode cX3_init 5 = .ok (.iconst 4, 1) := by decide +kernel
theorem dX3_init_6 : decode cX3_init 6 = .ok (.newarray .int, 2) := by decide +kernel
theorem dX3_init_8 : decode cX3_init 8 = .ok (.dup, 1) := by decide +kernel
theorem dX3_init_9 : decode cX3_init 9 = .ok (.iconst 0, 1) := by decide +kernel
theorem dX3_init_10 : decode cX3_init 10 = .ok (.iconst 1, 1) := by decide +kernel
theorem dX3_init_11 : decode cX3_init 11 = .ok (.iastore, 1) := by decide +kernel
theorem dX3_init_12 : decode cX3_init 12 = .ok (.dup, 1) := by decide +kernel
theorem dX3_init_13 : decode cX3_init 13 = .ok (.iconst 1, 1) := by decide +kernel
theorem dX3_init_14 : decode cX3_init 14 = .ok (.iconst 2, 1) := by decide +kernel
theorem dX3_init_15 : decode cX3_init 15 = .ok (.iastore, 1) := by decide +kernel
theorem dX3_init_16 : decode cX3_init 16 = .ok (.dup, 1) := by decide +kernel
theorem dX3_init_17 : decode cX3_init 17 = .ok (.iconst 2, 1) := by decide +kernel
theorem dX3_init_18 : decode cX3_init 18 = .ok (.iconst 3, 1) := by decide +kernel
theorem dX3_init_19 : decode cX3_init 19 = .ok (.iastore, 1) := by decide +kernel
theorem dX3_init_20 : decode cX3_init 20 = .ok (.dup, 1) := by decide +kernel
theorem dX3_init_21 : decode cX3_init 21 = .ok (.iconst 3, 1) := by decide +kernel
theorem dX3_init_22 : decode cX3_init 22 = .ok (.iconst 4, 1) := by decide +kernel
theorem dX3_init_23 : decode cX3_init 23 = .ok (.iastore, 1) := by decide +kernel
theorem dX3_init_24 : decode cX3_init 24 = .ok (.putfield 9, 3) := by decide +kernel
theorem dX3_init_27 : decode cX3_init 27 = .ok (.aload_n 0, 1) := by decide +kernel
theorem dX3_init_28 : decode cX3_init 28 = .ok (.new 13, 3) := by decide +kernel
theorem dX3_init_31 : decode cX3_init 31 = .ok (.dup, 1) := by decide +kernel
theorem dX3_init_32 : decode cX3_init 32 = .ok (.invokespecial 15, 3) := by decide +kernel
theorem dX3_init_35 : decode cX3_init 35 = .ok (.putfield 16, 3) := by decide +kernel
theorem dX3_init_38 : decode cX3_init 38 = .ok (.aload_n 0, 1) := by decide +kernel
theorem dX3_init_39 : decode cX3_init 39 = .ok (.new 13, 3) := by decide +kernel
theorem dX3_init_42 : decode cX3_init 42 = .ok (.dup, 1) := by decide +kernel
theorem dX3_init_43 : decode cX3_init 43 = .ok (.invokespecial 15, 3) := by decide +kernel
theorem dX3_init_46 : decode cX3_init 46 = .ok (.putfield 20, 3) := by decide +kernel
theorem dX3_init_49 : decode cX3_init 49 = .ok (.aload_n 0, 1) := by decide +kernel
theorem dX3_init_50 : decode cX3_init 50 = .ok (.new 13, 3) := by decide +kernel
theorem dX3_init_53 : decode cX3_init 53 = .ok (.dup, 1) := by decide +kernel
theorem dX3_init_54 : decode cX3_init 54 = .ok (.invokespecial 15, 3) := by decide +kernel
theorem dX3_init_57 : decode cX3_init 57 = .ok (.putfield 23, 3) := by decide +kernel
theorem dX3_init_60 : decode cX3_init 60 = .ok (.aload_n 0, 1) := by decide +kernel
theorem dX3_init_61 : decode cX3_init 61 = .ok (.new 26, 3) := by decide +kernel
theorem dX3_init_64 : decode cX3_init 64 = .ok (.dup, 1) := by decide +kernel
theorem dX3_init_65 : decode cX3_init 65 = .ok (.invokespecial 28, 3) := by decide +kernel
theorem dX3_init_68 : decode cX3_init 68 = .ok (.putfield 29, 3) := by decide +kernel
theorem dX3_init_71 : decode cX3_init 71 = .ok (.aload_n 0, 1) := by decide +kernel
theorem dX3_init_72 : decode cX3_init 72 = .ok (.new 33, 3) := by decide +kernel
theorem dX3_init_75 : decode cX3_init 75 = .ok (.dup, 1) := by decide +kernel
theorem dX3_init_76 : decode cX3_init 76 = .ok (.invokespecial 35, 3) := by decide +kernel
theorem dX3_init_79 : decode cX3_init 79 = .ok (.putfield 36, 3) := by decide +kernel
theorem dX3_init_82 : decode cX3_init 82 = .ok (.return_, 1) := by decide +kernel
theorem dX3_seed_0 : decode cX3_seed 0 = .ok (.iload_n 1, 1) := by decide +kernel
theorem dX3_seed_1 : decode cX3_seed 1 = .ok (.ifCond .lt 12, 3) := by decide +kernel
theorem dX3_seed_4 : decode cX3_seed 4 = .ok (.iload_n 1, 1) := by decide +kernel
theorem dX3_seed_5 : decode cX3_seed 5 = .ok (.aload_n 0, 1) := by decide +kernel
theorem dX3_seed_6 : decode cX3_seed 6 = .ok (.getfield 9, 3) := by decide +kernel
theorem dX3_seed_9 : decode cX3_seed 9 = .ok (.arraylength, 1) := by decide +kernel
theorem dX3_seed_10 : decode cX3_seed 10 = .ok (.if_icmp .lt 13, 3) := by decide +kernel
theorem dX3_seed_13 : decode cX3_seed 13 = .ok (.new 40, 3) := by decide +kernel
theorem dX3_seed_16 : decode cX3_seed 16 = .ok (.dup, 1) := by decide +kernel
theorem dX3_seed_17 : decode cX3_seed 17 = .ok (.ldc 42, 2) := by decide +kernel
theorem dX3_seed_19 : decode cX3_seed 19 = .ok (.invokespecial 44, 3) := by decide +kernel
theorem dX3_seed_22 : decode cX3_seed 22 = .ok (.athrow, 1) := by decide +kernel
theorem dX3_seed_23 : decode cX3_seed 23 = .ok (.aload_n 0, 1) := by decide +kernel
theorem dX3_seed_24 : decode cX3_seed 24 = .ok (.getfield 47, 3) := by decide +kernel
theorem dX3_seed_27 : decode cX3_seed 27 = .ok (.ifCond .eq 13, 3) := by decide +kernel
theorem dX3_seed_30 : decode cX3_seed 30 = .ok (.new 51, 3) := by decide +kernel
theorem dX3_seed_33 : decode cX3_seed 33 = .ok (.dup, 1) := by decide +kernel
theorem dX3_seed_34 : decode cX3_seed 34 = .ok (.ldc 53, 2) := by decide +kernel
theorem dX3_seed_36 : decode cX3_seed 36 = .ok (.invokespecial 55, 3) := by decide +kernel
theorem dX3_seed_39 : decode cX3_seed 39 = .ok (.athrow, 1) := by decide +kernel
theorem dX3_seed_40 : decode cX3_seed 40 = .ok (.aload_n 0, 1) := by decide +kernel
theorem dX3_seed_41 : decode cX3_seed 41 = .ok (.getfield 9, 3) := by decide +kernel
theorem dX3_seed_44 : decode cX3_seed 44 = .ok (.iload_n 1, 1) := by decide +kernel
theorem dX3_seed_45 : decode cX3_seed 45 = .ok (.iload_n 2, 1) := by decide +kernel
theorem dX3_seed_46 : decode cX3_seed 46 = .ok (.iastore, 1) := by decide +kernel
theorem dX3_seed_47 : decode cX3_seed 47 = .ok (.return_, 1) := by decide +kernel
theorem dX3_put_0 : decode cX3_put 0 = .ok (.aload_n 0, 1) := by decide +kernel
theorem dX3_put_1 : decode cX3_put 1 = .ok (.aload_n 0, 1) := by decide +kernel
theorem dX3_put_2 : decode cX3_put 2 = .ok (.getfield 16, 3) := by decide +kernel
theorem dX3_put_5 : decode cX3_put 5 = .ok (.aload_n 0, 1) := by decide +kernel
theorem dX3_put_6 : decode cX3_put 6 = .ok (.aload_n 0, 1) := by decide +kernel
theorem dX3_put_7 : decode cX3_put 7 = .ok (.getfield 16, 3) := by decide +kernel
theorem dX3_put_10 : decode cX3_put 10 = .ok (.invokevirtual 56, 3) := by decide +kernel
theorem dX3_put_13 : decode cX3_put 13 = .ok (.iload_n 1, 1) := by decide +kernel
theorem dX3_put_14 : decode cX3_put 14 = .ok (.iload_n 2, 1) := by decide +kernel
theorem dX3_put_15 : decode cX3_put 15 = .ok (.invokevirtual 60, 3) := by decide +kernel
theorem dX3_put_18 : decode cX3_put 18 = .ok (.istore_n 3, 1) := by decide +kernel
theorem dX3_put_19 : decode cX3_put 19 = .ok (.iconst 1, 1) := by decide +kernel
theorem dX3_put_20 : decode cX3_put 20 = .ok (.istore 4, 2) := by decide +kernel
theorem dX3_put_22 : decode cX3_put 22 = .ok (.iload 4, 2) := by decide +kernel
theorem dX3_put_24 : decode cX3_put 24 = .ok (.iconst 4, 1) := by decide +kernel
theorem dX3_put_25 : decode cX3_put 25 = .ok (.if_icmp .ge 38, 3) := by decide +kernel
theorem dX3_put_28 : decode cX3_put 28 = .ok (.iload_n 3, 1) := by decide +kernel
theorem dX3_put_29 : decode cX3_put 29 = .ok (.bipush (-2), 2) := by decide +kernel
theorem dX3_put_31 : decode cX3_put 31 = .ok (.if_icmp .ne 32, 3) := by decide +kernel
theorem dX3_put_34 : decode cX3_put 34 = .ok (.aload_n 0, 1) := by decide +kernel
theorem dX3_put_35 : decode cX3_put 35 = .ok (.aload_n 0, 1) := by decide +kernel
theorem dX3_put_36 : decode cX3_put 36 = .ok (.getfield 16, 3) := by decide +kernel
theorem dX3_put_39 : decode cX3_put 39 = .ok (.invokevirtual 64, 3) := by decide +kernel
theorem dX3_put_42 : decode cX3_put 42 = .ok (.iload 4, 2) := by decide +kernel
theorem dX3_put_44 : decode cX3_put 44 = .ok (.iadd, 1) := by decide +kernel
theorem dX3_put_45 : decode cX3_put 45 = .ok (.iconst 4, 1) := by decide +kernel
theorem dX3_put_46 : decode cX3_put 46 = .ok (.irem, 1) := by decide +kernel
theorem dX3_put_47 : decode cX3_put 47 = .ok (.iload_n 1, 1) := by decide +kernel
theorem dX3_put_48 : decode cX3_put 48 = .ok (.iload_n 2, 1) := by decide +kernel
theorem dX3_put_49 : decode cX3_put 49 = .ok (.invokevirtual 68, 3) := by decide +kernel
theorem dX3_put_52 : decode cX3_put 52 = .ok (.ifCond .eq 5, 3) := by decide +kernel
theorem dX3_put_55 : decode cX3_put 55 = .ok (.iconst 4, 1) := by decide +kernel
theorem dX3_put_56 : decode cX3_put 56 = .ok (.istore_n 3, 1) := by decide +kernel
theorem dX3_put_57 : decode cX3_put 57 = .ok (.iinc 4 1, 3) := by decide +kernel
theorem dX3_put_60 : decode cX3_put 60 = .ok (.goto (-38), 3) := by decide +kernel
theorem dX3_put_63 : decode cX3_put 63 = .ok (.iload_n 3, 1) := by decide +kernel
theorem dX3_put_64 : decode cX3_put 64 = .ok (.iconst 4, 1) := by decide +kernel
theorem dX3_put_65 : decode cX3_put 65 = .ok (.if_icmp .ne 10, 3) := by decide +kernel
theorem dX3_put_68 : decode cX3_put 68 = .ok (.aload_n 0, 1) := by decide +kernel
theorem dX3_put_69 : decode cX3_put 69 = .ok (.invokevirtual 72, 3) := by decide +kernel
theorem dX3_put_72 : decode cX3_put 72 = .ok (.goto 25, 3) := by decide +kernel
theorem dX3_put_75 : decode cX3_put 75 = .ok (.iload_n 3, 1) := by decide +kernel
theorem dX3_put_76 : decode cX3_put 76 = .ok (.iconst 2, 1) := by decide +kernel
theorem dX3_put_77 : decode cX3_put 77 = .ok (.if_icmp .ne 10, 3) := by decide +kernel
theorem dX3_put_80 : decode cX3_put 80 = .ok (.aload_n 0, 1) := by decide +kernel
theorem dX3_put_81 : decode cX3_put 81 = .ok (.invokevirtual 75, 3) := by decide +kernel
theorem dX3_put_84 : decode cX3_put 84 = .ok (.goto 13, 3) := by decide +kernel
theorem dX3_put_87 : decode cX3_put 87 = .ok (.iload_n 3, 1) := by decide +kernel
theorem dX3_put_88 : decode cX3_put 88 = .ok (.bipush (-2), 2) := by decide +kernel
theorem dX3_put_90 : decode cX3_put 90 = .ok (.if_icmp .eq 7, 3) := by decide +kernel
theorem dX3_put_93 : decode cX3_put 93 = .ok (.aload_n 0, 1) := by decide +kernel
theorem dX3_put_94 : decode cX3_put 94 = .ok (.invokevirtual 78, 3) := by decide +kernel
theorem dX3_put_97 : decode cX3_put 97 = .ok (.iload_n 3, 1) := by decide +kernel
theorem dX3_put_98 : decode cX3_put 98 = .ok (.ireturn, 1) := by decide +kernel
theorem dX3_has_0 : decode cX3_has 0 = .ok (.aload_n 0, 1) := by decide +kernel
theorem dX3_has_1 : decode cX3_has 1 = .ok (.getfield 16, 3) := by decide +kernel
theorem dX3_has_4 : decode cX3_has 4 = .ok (.aload_n 0, 1) := by decide +kernel
theorem dX3_has_5 : decode cX3_has 5 = .ok (.aload_n 0, 1) := by decide +kernel
theorem dX3_has_6 : decode cX3_has 6 = .ok (.getfield 16, 3) := by decide +kernel
theorem dX3_has_9 : decode cX3_has 9 = .ok (.invokevirtual 56, 3) := by decide +kernel
theorem dX3_has_12 : decode cX3_has 12 = .ok (.iload_n 1, 1) := by decide +kernel
theorem dX3_has_13 : decode cX3_has 13 = .ok (.invokestatic 81, 3) := by decide +kernel
theorem dX3_has_16 : decode cX3_has 16 = .ok (.iconst (-1), 1) := by decide +kernel
theorem dX3_has_17 : decode cX3_has 17 = .ok (.if_icmp .eq 7, 3) := by decide +kernel
theorem dX3_has_20 : decode cX3_has 20 = .ok (.iconst 1, 1) := by decide +kernel
theorem dX3_has_21 : decode cX3_has 21 = .ok (.goto 4, 3) := by decide +kernel
theorem dX3_has_24 : decode cX3_has 24 = .ok (.iconst 0, 1) := by decide +kernel
theorem dX3_has_25 : decode cX3_has 25 = .ok (.ireturn, 1) := by decide +kernel
theorem dX3_get_0 : decode cX3_get 0 = .ok (.aload_n 0, 1) := by decide +kernel
theorem dX3_get_1 : decode cX3_get 1 = .ok (.getfield 16, 3) := by decide +kernel
theorem dX3_get_4 : decode cX3_get 4 = .ok (.aload_n 0, 1) := by decide +kernel
theorem dX3_get_5 : decode cX3_get 5 = .ok (.aload_n 0, 1) := by decide +kernel
theorem dX3_get_6 : decode cX3_get 6 = .ok (.getfield 16, 3) := by decide +kernel
theorem dX3_get_9 : decode cX3_get 9 = .ok (.invokevirtual 56, 3) := by decide +kernel
theorem dX3_get_12 : decode cX3_get 12 = .ok (.iload_n 1, 1) := by decide +kernel
theorem dX3_get_13 : decode cX3_get 13 = .ok (.invokestatic 81, 3) := by decide +kernel
theorem dX3_get_16 : decode cX3_get 16 = .ok (.istore_n 2, 1) := by decide +kernel
theorem dX3_get_17 : decode cX3_get 17 = .ok (.iload_n 2, 1) := by decide +kernel
theorem dX3_get_18 : decode cX3_get 18 = .ok (.iconst (-1), 1) := by decide +kernel
theorem dX3_get_19 : decode cX3_get 19 = .ok (.if_icmp .ne 7, 3) := by decide +kernel
theorem dX3_get_22 : decode cX3_get 22 = .ok (.iconst 0, 1) := by decide +kernel
theorem dX3_get_23 : decode cX3_get 23 = .ok (.goto 11, 3) := by decide +kernel
theorem dX3_get_26 : decode cX3_get 26 = .ok (.aload_n 0, 1) := by decide +kernel
theorem dX3_get_27 : decode cX3_get 27 = .ok (.getfield 16, 3) := by decide +kernel
theorem dX3_get_30 : decode cX3_get 30 = .ok (.iload_n 2, 1) := by decide +kernel
theorem dX3_get_31 : decode cX3_get 31 = .ok (.invokevirtual 85, 3) := by decide +kernel
theorem dX3_get_34 : decode cX3_get 34 = .ok (.ireturn, 1) := by decide +kernel
theorem dX3_remove_0 : decode cX3_remove 0 = .ok (.aload_n 0, 1) := by decide +kernel
theorem dX3_remove_1 : decode cX3_remove 1 = .ok (.getfield 16, 3) := by decide +kernel
theorem dX3_remove_4 : decode cX3_remove 4 = .ok (.aload_n 0, 1) := by decide +kernel
theorem dX3_remove_5 : decode cX3_remove 5 = .ok (.aload_n 0, 1) := by decide +kernel
theorem dX3_remove_6 : decode cX3_remove 6 = .ok (.getfield 16, 3) := by decide +kernel
theorem dX3_remove_9 : decode cX3_remove 9 = .ok (.invokevirtual 56, 3) := by decide +kernel
theorem dX3_remove_12 : decode cX3_remove 12 = .ok (.iload_n 1, 1) := by decide +kernel
theorem dX3_remove_13 : decode cX3_remove 13 = .ok (.invokestatic 81, 3) := by decide +kernel
theorem dX3_remove_16 : decode cX3_remove 16 = .ok (.istore_n 2, 1) := by decide +kernel
theorem dX3_remove_17 : decode cX3_remove 17 = .ok (.iload_n 2, 1) := by decide +kernel
theorem dX3_remove_18 : decode cX3_remove 18 = .ok (.iconst (-1), 1) := by decide +kernel
theorem dX3_remove_19 : decode cX3_remove 19 = .ok (.if_icmp .ne 5, 3) := by decide +kernel
theorem dX3_remove_22 : decode cX3_remove 22 = .ok (.iconst 0, 1) := by decide +kernel
theorem dX3_remove_23 : decode cX3_remove 23 = .ok (.ireturn, 1) := by decide +kernel
theorem dX3_remove_24 : decode cX3_remove 24 = .ok (.aload_n 0, 1) := by decide +kernel
theorem dX3_remove_25 : decode cX3_remove 25 = .ok (.getfield 16, 3) := by decide +kernel
theorem dX3_remove_28 : decode cX3_remove 28 = .ok (.iload_n 2, 1) := by decide +kernel
theorem dX3_remove_29 : decode cX3_remove 29 = .ok (.invokevirtual 89, 3) := by decide +kernel
theorem dX3_remove_32 : decode cX3_remove 32 = .ok (.aload_n 0, 1) := by decide +kernel
theorem dX3_remove_33 : decode cX3_remove 33 = .ok (.iload_n 2, 1) := by decide +kernel
theorem dX3_remove_34 : decode cX3_remove 34 = .ok (.invokestatic 93, 3) := by decide +kernel
theorem dX3_remove_37 : decode cX3_remove 37 = .ok (.invokevirtual 96, 3) := by decide +kernel
theorem dX3_remove_40 : decode cX3_remove 40 = .ok (.iconst 1, 1) := by decide +kernel
theorem dX3_remove_41 : decode cX3_remove 41 = .ok (.ireturn, 1) := by decide +kernel
theorem dX3_sync_0 : decode cX3_sync 0 = .ok (.aload_n 0, 1) := by decide +kernel
theorem dX3_sync_1 : decode cX3_sync 1 = .ok (.getfield 29, 3) := by decide +kernel
theorem dX3_sync_4 : decode cX3_sync 4 = .ok (.invokevirtual 99, 3) := by decide +kernel
theorem dX3_sync_7 : decode cX3_sync 7 = .ok (.istore_n 1, 1) := by decide +kernel
theorem dX3_sync_8 : decode cX3_sync 8 = .ok (.aload_n 0, 1) := by decide +kernel
theorem dX3_sync_9 : decode cX3_sync 9 = .ok (.getfield 29, 3) := by decide +kernel
theorem dX3_sync_12 : decode cX3_sync 12 = .ok (.iload_n 1, 1) := by decide +kernel
theorem dX3_sync_13 : decode cX3_sync 13 = .ok (.aload_n 0, 1) := by decide +kernel
theorem dX3_sync_14 : decode cX3_sync 14 = .ok (.getfield 20, 3) := by decide +kernel
theorem dX3_sync_17 : decode cX3_sync 17 = .ok (.invokevirtual 102, 3) := by decide +kernel
theorem dX3_sync_20 : decode cX3_sync 20 = .ok (.iload_n 1, 1) := by decide +kernel
theorem dX3_sync_21 : decode cX3_sync 21 = .ok (.ireturn, 1) := by decide +kernel
theorem dX3_crash_0 : decode cX3_crash 0 = .ok (.iload_n 1, 1) := by decide +kernel
theorem dX3_crash_1 : decode cX3_crash 1 = .ok (.ifCond .ge 13, 3) := by decide +kernel
theorem dX3_crash_4 : decode cX3_crash 4 = .ok (.new 40, 3) := by decide +kernel
theorem dX3_crash_7 : decode cX3_crash 7 = .ok (.dup, 1) := by decide +kernel
theorem dX3_crash_8 : decode cX3_crash 8 = .ok (.ldc 106, 2) := by decide +kernel
theorem dX3_crash_10 : decode cX3_crash 10 = .ok (.invokespecial 44, 3) := by decide +kernel
theorem dX3_crash_13 : decode cX3_crash 13 = .ok (.athrow, 1) := by decide +kernel
theorem dX3_crash_14 : decode cX3_crash 14 = .ok (.aload_n 0, 1) := by decide +kernel
theorem dX3_crash_15 : decode cX3_crash 15 = .ok (.getfield 29, 3) := by decide +kernel
theorem dX3_crash_18 : decode cX3_crash 18 = .ok (.invokevirtual 99, 3) := by decide +kernel
theorem dX3_crash_21 : decode cX3_crash 21 = .ok (.istore_n 2, 1) := by decide +kernel
theorem dX3_crash_22 : decode cX3_crash 22 = .ok (.iload_n 1, 1) := by decide +kernel
theorem dX3_crash_23 : decode cX3_crash 23 = .ok (.iload_n 2, 1) := by decide +kernel
theorem dX3_crash_24 : decode cX3_crash 24 = .ok (.invokestatic 108, 3) := by decide +kernel
theorem dX3_crash_27 : decode cX3_crash 27 = .ok (.istore_n 3, 1) := by decide +kernel
theorem dX3_crash_28 : decode cX3_crash 28 = .ok (.aload_n 0, 1) := by decide +kernel
theorem dX3_crash_29 : decode cX3_crash 29 = .ok (.getfield 29, 3) := by decide +kernel
theorem dX3_crash_32 : decode cX3_crash 32 = .ok (.iload_n 3, 1) := by decide +kernel
theorem dX3_crash_33 : decode cX3_crash 33 = .ok (.aload_n 0, 1) := by decide +kernel
theorem dX3_crash_34 : decode cX3_crash 34 = .ok (.getfield 20, 3) := by decide +kernel
theorem dX3_crash_37 : decode cX3_crash 37 = .ok (.invokevirtual 102, 3) := by decide +kernel
theorem dX3_crash_40 : decode cX3_crash 40 = .ok (.aload_n 0, 1) := by decide +kernel
theorem dX3_crash_41 : decode cX3_crash 41 = .ok (.invokevirtual 114, 3) := by decide +kernel
theorem dX3_crash_44 : decode cX3_crash 44 = .ok (.iload_n 2, 1) := by decide +kernel
theorem dX3_crash_45 : decode cX3_crash 45 = .ok (.iload_n 3, 1) := by decide +kernel
theorem dX3_crash_46 : decode cX3_crash 46 = .ok (.isub, 1) := by decide +kernel
theorem dX3_crash_47 : decode cX3_crash 47 = .ok (.ireturn, 1) := by decide +kernel
theorem dX3_slot_0 : decode cX3_slot 0 = .ok (.iload_n 1, 1) := by decide +kernel
theorem dX3_slot_1 : decode cX3_slot 1 = .ok (.ifCond .lt 9, 3) := by decide +kernel
theorem dX3_slot_4 : decode cX3_slot 4 = .ok (.iload_n 1, 1) := by decide +kernel
theorem dX3_slot_5 : decode cX3_slot 5 = .ok (.bipush 9, 2) := by decide +kernel
theorem dX3_slot_7 : decode cX3_slot 7 = .ok (.if_icmp .lt 13, 3) := by decide +kernel
theorem dX3_slot_10 : decode cX3_slot 10 = .ok (.new 40, 3) := by decide +kernel
theorem dX3_slot_13 : decode cX3_slot 13 = .ok (.dup, 1) := by decide +kernel
theorem dX3_slot_14 : decode cX3_slot 14 = .ok (.ldc 117, 2) := by decide +kernel
theorem dX3_slot_16 : decode cX3_slot 16 = .ok (.invokespecial 44, 3) := by decide +kernel
theorem dX3_slot_19 : decode cX3_slot 19 = .ok (.athrow, 1) := by decide +kernel
theorem dX3_slot_20 : decode cX3_slot 20 = .ok (.iload_n 2, 1) := by decide +kernel
theorem dX3_slot_21 : decode cX3_slot 21 = .ok (.ifCond .lt 8, 3) := by decide +kernel
theorem dX3_slot_24 : decode cX3_slot 24 = .ok (.iload_n 2, 1) := by decide +kernel
theorem dX3_slot_25 : decode cX3_slot 25 = .ok (.iconst 4, 1) := by decide +kernel
theorem dX3_slot_26 : decode cX3_slot 26 = .ok (.if_icmp .lt 13, 3) := by decide +kernel
theorem dX3_slot_29 : decode cX3_slot 29 = .ok (.new 40, 3) := by decide +kernel
theorem dX3_slot_32 : decode cX3_slot 32 = .ok (.dup, 1) := by decide +kernel
theorem dX3_slot_33 : decode cX3_slot 33 = .ok (.ldc 119, 2) := by decide +kernel
theorem dX3_slot_35 : decode cX3_slot 35 = .ok (.invokespecial 44, 3) := by decide +kernel
theorem dX3_slot_38 : decode cX3_slot 38 = .ok (.athrow, 1) := by decide +kernel
theorem dX3_slot_39 : decode cX3_slot 39 = .ok (.iload_n 3, 1) := by decide +kernel
theorem dX3_slot_40 : decode cX3_slot 40 = .ok (.ifCond .lt 8, 3) := by decide +kernel
theorem dX3_slot_43 : decode cX3_slot 43 = .ok (.iload_n 3, 1) := by decide +kernel
theorem dX3_slot_44 : decode cX3_slot 44 = .ok (.iconst 2, 1) := by decide +kernel
theorem dX3_slot_45 : decode cX3_slot 45 = .ok (.if_icmp .le 13, 3) := by decide +kernel
theorem dX3_slot_48 : decode cX3_slot 48 = .ok (.new 40, 3) := by decide +kernel
theorem dX3_slot_51 : decode cX3_slot 51 = .ok (.dup, 1) := by decide +kernel
theorem dX3_slot_52 : decode cX3_slot 52 = .ok (.ldc 121, 2) := by decide +kernel
theorem dX3_slot_54 : decode cX3_slot 54 = .ok (.invokespecial 44, 3) := by decide +kernel
theorem dX3_slot_57 : decode cX3_slot 57 = .ok (.athrow, 1) := by decide +kernel
theorem dX3_slot_58 : decode cX3_slot 58 = .ok (.aload_n 0, 1) := by decide +kernel
theorem dX3_slot_59 : decode cX3_slot 59 = .ok (.getfield 16, 3) := by decide +kernel
theorem dX3_slot_62 : decode cX3_slot 62 = .ok (.iload_n 1, 1) := by decide +kernel
theorem dX3_slot_63 : decode cX3_slot 63 = .ok (.invokevirtual 123, 3) := by decide +kernel
theorem dX3_slot_66 : decode cX3_slot 66 = .ok (.iload_n 2, 1) := by decide +kernel
theorem dX3_slot_67 : decode cX3_slot 67 = .ok (.invokestatic 126, 3) := by decide +kernel
theorem dX3_slot_70 : decode cX3_slot 70 = .ok (.istore 4, 2) := by decide +kernel
theorem dX3_slot_72 : decode cX3_slot 72 = .ok (.aload_n 0, 1) := by decide +kernel
theorem dX3_slot_73 : decode cX3_slot 73 = .ok (.getfield 16, 3) := by decide +kernel
theorem dX3_slot_76 : decode cX3_slot 76 = .ok (.iload 4, 2) := by decide +kernel
theorem dX3_slot_78 : decode cX3_slot 78 = .ok (.invokevirtual 129, 3) := by decide +kernel
theorem dX3_slot_81 : decode cX3_slot 81 = .ok (.ifCond .ne 5, 3) := by decide +kernel
theorem dX3_slot_84 : decode cX3_slot 84 = .ok (.iconst 0, 1) := by decide +kernel
theorem dX3_slot_85 : decode cX3_slot 85 = .ok (.ireturn, 1) := by decide +kernel
theorem dX3_slot_86 : decode cX3_slot 86 = .ok (.iload_n 3, 1) := by decide +kernel
theorem dX3_slot_87 : decode cX3_slot 87 = .ok (.ifCond .ne 5, 3) := by decide +kernel
theorem dX3_slot_90 : decode cX3_slot 90 = .ok (.iconst 1, 1) := by decide +kernel
theorem dX3_slot_91 : decode cX3_slot 91 = .ok (.ireturn, 1) := by decide +kernel
theorem dX3_slot_92 : decode cX3_slot 92 = .ok (.iload_n 3, 1) := by decide +kernel
theorem dX3_slot_93 : decode cX3_slot 93 = .ok (.iconst 1, 1) := by decide +kernel
theorem dX3_slot_94 : decode cX3_slot 94 = .ok (.if_icmp .ne 15, 3) := by decide +kernel
theorem dX3_slot_97 : decode cX3_slot 97 = .ok (.aload_n 0, 1) := by decide +kernel
theorem dX3_slot_98 : decode cX3_slot 98 = .ok (.getfield 16, 3) := by decide +kernel
theorem dX3_slot_101 : decode cX3_slot 101 = .ok (.iload 4, 2) := by decide +kernel
theorem dX3_slot_103 : decode cX3_slot 103 = .ok (.invokevirtual 133, 3) := by decide +kernel
theorem dX3_slot_106 : decode cX3_slot 106 = .ok (.goto 12, 3) := by decide +kernel
theorem dX3_slot_109 : decode cX3_slot 109 = .ok (.aload_n 0, 1) := by decide +kernel
theorem dX3_slot_110 : decode cX3_slot 110 = .ok (.getfield 16, 3) := by decide +kernel
theorem dX3_slot_113 : decode cX3_slot 113 = .ok (.iload 4, 2) := by decide +kernel
theorem dX3_slot_115 : decode cX3_slot 115 = .ok (.invokevirtual 85, 3) := by decide +kernel
theorem dX3_slot_118 : decode cX3_slot 118 = .ok (.ireturn, 1) := by decide +kernel
theorem dX3_home_0 : decode cX3_home 0 = .ok (.aload_n 0, 1) := by decide +kernel
theorem dX3_home_1 : decode cX3_home 1 = .ok (.aload_n 0, 1) := by decide +kernel
theorem dX3_home_2 : decode cX3_home 2 = .ok (.getfield 16, 3) := by decide +kernel
theorem dX3_home_5 : decode cX3_home 5 = .ok (.invokevirtual 56, 3) := by decide +kernel
theorem dX3_home_8 : decode cX3_home 8 = .ok (.iload_n 1, 1) := by decide +kernel
theorem dX3_home_9 : decode cX3_home 9 = .ok (.iload_n 2, 1) := by decide +kernel
theorem dX3_home_10 : decode cX3_home 10 = .ok (.invokestatic 136, 3) := by decide +kernel
theorem dX3_home_13 : decode cX3_home 13 = .ok (.ireturn, 1) := by decide +kernel
theorem dX3_reads_0 : decode cX3_reads 0 = .ok (.aload_n 0, 1) := by decide +kernel
theorem dX3_reads_1 : decode cX3_reads 1 = .ok (.getfield 16, 3) := by decide +kernel
theorem dX3_reads_4 : decode cX3_reads 4 = .ok (.aload_n 0, 1) := by decide +kernel
theorem dX3_reads_5 : decode cX3_reads 5 = .ok (.aload_n 0, 1) := by decide +kernel
theorem dX3_reads_6 : decode cX3_reads 6 = .ok (.getfield 16, 3) := by decide +kernel
theorem dX3_reads_9 : decode cX3_reads 9 = .ok (.invokevirtual 56, 3) := by decide +kernel
theorem dX3_reads_12 : decode cX3_reads 12 = .ok (.iload_n 1, 1) := by decide +kernel
theorem dX3_reads_13 : decode cX3_reads 13 = .ok (.invokestatic 81, 3) := by decide +kernel
theorem dX3_reads_16 : decode cX3_reads 16 = .ok (.istore_n 2, 1) := by decide +kernel
theorem dX3_reads_17 : decode cX3_reads 17 = .ok (.iload_n 2, 1) := by decide +kernel
theorem dX3_reads_18 : decode cX3_reads 18 = .ok (.iconst (-1), 1) := by decide +kernel
theorem dX3_reads_19 : decode cX3_reads 19 = .ok (.if_icmp .eq 19, 3) := by decide +kernel
theorem dX3_reads_22 : decode cX3_reads 22 = .ok (.iload_n 2, 1) := by decide +kernel
theorem dX3_reads_23 : decode cX3_reads 23 = .ok (.invokestatic 93, 3) := by decide +kernel
theorem dX3_reads_26 : decode cX3_reads 26 = .ok (.aload_n 0, 1) := by decide +kernel
theorem dX3_reads_27 : decode cX3_reads 27 = .ok (.getfield 16, 3) := by decide +kernel
theorem dX3_reads_30 : decode cX3_reads 30 = .ok (.bipush 8, 2) := by decide +kernel
theorem dX3_reads_32 : decode cX3_reads 32 = .ok (.invokevirtual 123, 3) := by decide +kernel
theorem dX3_reads_35 : decode cX3_reads 35 = .ok (.if_icmp .ne 5, 3) := by decide +kernel
theorem dX3_reads_38 : decode cX3_reads 38 = .ok (.iconst 3, 1) := by decide +kernel
theorem dX3_reads_39 : decode cX3_reads 39 = .ok (.ireturn, 1) := by decide +kernel
theorem dX3_reads_40 : decode cX3_reads 40 = .ok (.iload_n 2, 1) := by decide +kernel
theorem dX3_reads_41 : decode cX3_reads 41 = .ok (.invokestatic 93, 3) := by decide +kernel
theorem dX3_reads_44 : decode cX3_reads 44 = .ok (.aload_n 0, 1) := by decide +kernel
theorem dX3_reads_45 : decode cX3_reads 45 = .ok (.getfield 16, 3) := by decide +kernel
theorem dX3_reads_48 : decode cX3_reads 48 = .ok (.aload_n 0, 1) := by decide +kernel
theorem dX3_reads_49 : decode cX3_reads 49 = .ok (.iload_n 1, 1) := by decide +kernel
theorem dX3_reads_50 : decode cX3_reads 50 = .ok (.iconst 0, 1) := by decide +kernel
theorem dX3_reads_51 : decode cX3_reads 51 = .ok (.invokevirtual 140, 3) := by decide +kernel
theorem dX3_reads_54 : decode cX3_reads 54 = .ok (.invokevirtual 123, 3) := by decide +kernel
theorem dX3_reads_57 : decode cX3_reads 57 = .ok (.if_icmp .ne 7, 3) := by decide +kernel
theorem dX3_reads_60 : decode cX3_reads 60 = .ok (.iconst 1, 1) := by decide +kernel
theorem dX3_reads_61 : decode cX3_reads 61 = .ok (.goto 4, 3) := by decide +kernel
theorem dX3_reads_64 : decode cX3_reads 64 = .ok (.iconst 2, 1) := by decide +kernel
theorem dX3_reads_65 : decode cX3_reads 65 = .ok (.ireturn, 1) := by decide +kernel
theorem dX3_count_0 : decode cX3_count 0 = .ok (.iload_n 1, 1) := by decide +kernel
theorem dX3_count_1 : decode cX3_count 1 = .ok (.tableswitch 117 0 8 #[51, 56, 64, 69, 86, 94, 102, 107, 112], 51) := by decide +kernel
theorem dX3_count_52 : decode cX3_count 52 = .ok (.aload_n 0, 1) := by decide +kernel
theorem dX3_count_53 : decode cX3_count 53 = .ok (.invokevirtual 144, 3) := by decide +kernel
theorem dX3_count_56 : decode cX3_count 56 = .ok (.ireturn, 1) := by decide +kernel
theorem dX3_count_57 : decode cX3_count 57 = .ok (.aload_n 0, 1) := by decide +kernel
theorem dX3_count_58 : decode cX3_count 58 = .ok (.getfield 29, 3) := by decide +kernel
theorem dX3_count_61 : decode cX3_count 61 = .ok (.invokevirtual 99, 3) := by decide +kernel
theorem dX3_count_64 : decode cX3_count 64 = .ok (.ireturn, 1) := by decide +kernel
theorem dX3_count_65 : decode cX3_count 65 = .ok (.aload_n 0, 1) := by decide +kernel
theorem dX3_count_66 : decode cX3_count 66 = .ok (.getfield 47, 3) := by decide +kernel
theorem dX3_count_69 : decode cX3_count 69 = .ok (.ireturn, 1) := by decide +kernel
theorem dX3_count_70 : decode cX3_count 70 = .ok (.aload_n 0, 1) := by decide +kernel
theorem dX3_count_71 : decode cX3_count 71 = .ok (.getfield 16, 3) := by decide +kernel
theorem dX3_count_74 : decode cX3_count 74 = .ok (.aload_n 0, 1) := by decide +kernel
theorem dX3_count_75 : decode cX3_count 75 = .ok (.getfield 16, 3) := by decide +kernel
theorem dX3_count_78 : decode cX3_count 78 = .ok (.bipush 8, 2) := by decide +kernel
theorem dX3_count_80 : decode cX3_count 80 = .ok (.invokevirtual 123, 3) := by decide +kernel
theorem dX3_count_83 : decode cX3_count 83 = .ok (.invokevirtual 147, 3) := by decide +kernel
theorem dX3_count_86 : decode cX3_count 86 = .ok (.ireturn, 1) := by decide +kernel
theorem dX3_count_87 : decode cX3_count 87 = .ok (.aload_n 0, 1) := by decide +kernel
theorem dX3_count_88 : decode cX3_count 88 = .ok (.getfield 16, 3) := by decide +kernel
theorem dX3_count_91 : decode cX3_count 91 = .ok (.invokevirtual 150, 3) := by decide +kernel
theorem dX3_count_94 : decode cX3_count 94 = .ok (.ireturn, 1) := by decide +kernel
theorem dX3_count_95 : decode cX3_count 95 = .ok (.aload_n 0, 1) := by decide +kernel
theorem dX3_count_96 : decode cX3_count 96 = .ok (.getfield 16, 3) := by decide +kernel
theorem dX3_count_99 : decode cX3_count 99 = .ok (.invokevirtual 64, 3) := by decide +kernel
theorem dX3_count_102 : decode cX3_count 102 = .ok (.ireturn, 1) := by decide +kernel
theorem dX3_count_103 : decode cX3_count 103 = .ok (.aload_n 0, 1) := by decide +kernel
theorem dX3_count_104 : decode cX3_count 104 = .ok (.getfield 153, 3) := by decide +kernel
theorem dX3_count_107 : decode cX3_count 107 = .ok (.ireturn, 1) := by decide +kernel
theorem dX3_count_108 : decode cX3_count 108 = .ok (.aload_n 0, 1) := by decide +kernel
theorem dX3_count_109 : decode cX3_count 109 = .ok (.getfield 156, 3) := by decide +kernel
theorem dX3_count_112 : decode cX3_count 112 = .ok (.ireturn, 1) := by decide +kernel
theorem dX3_count_113 : decode cX3_count 113 = .ok (.aload_n 0, 1) := by decide +kernel
theorem dX3_count_114 : decode cX3_count 114 = .ok (.getfield 159, 3) := by decide +kernel
theorem dX3_count_117 : decode cX3_count 117 = .ok (.ireturn, 1) := by decide +kernel
theorem dX3_count_118 : decode cX3_count 118 = .ok (.new 40, 3) := by decide +kernel
theorem dX3_count_121 : decode cX3_count 121 = .ok (.dup, 1) := by decide +kernel
theorem dX3_count_122 : decode cX3_count 122 = .ok (.ldc 162, 2) := by decide +kernel
theorem dX3_count_124 : decode cX3_count 124 = .ok (.invokespecial 44, 3) := by decide +kernel
theorem dX3_count_127 : decode cX3_count 127 = .ok (.athrow, 1) := by decide +kernel
theorem dX3_allKeys_0 : decode cX3_allKeys 0 = .ok (.iconst 0, 1) := by decide +kernel
theorem dX3_allKeys_1 : decode cX3_allKeys 1 = .ok (.istore_n 1, 1) := by decide +kernel
theorem dX3_allKeys_2 : decode cX3_allKeys 2 = .ok (.iconst 0, 1) := by decide +kernel
theorem dX3_allKeys_3 : decode cX3_allKeys 3 = .ok (.istore_n 2, 1) := by decide +kernel
theorem dX3_allKeys_4 : decode cX3_allKeys 4 = .ok (.iload_n 2, 1) := by decide +kernel
theorem dX3_allKeys_5 : decode cX3_allKeys 5 = .ok (.bipush 9, 2) := by decide +kernel
theorem dX3_allKeys_7 : decode cX3_allKeys 7 = .ok (.if_icmp .ge 27, 3) := by decide +kernel
theorem dX3_allKeys_10 : decode cX3_allKeys 10 = .ok (.iload_n 1, 1) := by decide +kernel
theorem dX3_allKeys_11 : decode cX3_allKeys 11 = .ok (.aload_n 0, 1) := by decide +kernel
end
section
theorem dX3_allKeys_12 : decode cX3_allKeys 12 = .ok (.getfield 16, 3) := by decide +kernel
theorem dX3_allKeys_15 : decode cX3_allKeys 15 = .ok (.aload_n 0, 1) := by decide +kernel
theorem dX3_allKeys_16 : decode cX3_allKeys 16 = .ok (.getfield 16, 3) := by decide +kernel
theorem dX3_allKeys_19 : decode cX3_allKeys 19 = .ok (.iload_n 2, 1) := by decide +kernel
theorem dX3_allKeys_20 : decode cX3_allKeys 20 = .ok (.invokevirtual 123, 3) := by decide +kernel
theorem dX3_allKeys_23 : decode cX3_allKeys 23 = .ok (.invokevirtual 147, 3) := by decide +kernel
theorem dX3_allKeys_26 : decode cX3_allKeys 26 = .ok (.iadd, 1) := by decide +kernel
theorem dX3_allKeys_27 : decode cX3_allKeys 27 = .ok (.istore_n 1, 1) := by decide +kernel
theorem dX3_allKeys_28 : decode cX3_allKeys 28 = .ok (.iinc 2 1, 3) := by decide +kernel
theorem dX3_allKeys_31 : decode cX3_allKeys 31 = .ok (.goto (-27), 3) := by decide +kernel
theorem dX3_allKeys_34 : decode cX3_allKeys 34 = .ok (.iload_n 1, 1) := by decide +kernel
theorem dX3_allKeys_35 : decode cX3_allKeys 35 = .ok (.ireturn, 1) := by decide +kernel
theorem dX3_seedInUse_0 : decode cX3_seedInUse 0 = .ok (.aload_n 1, 1) := by decide +kernel
theorem dX3_seedInUse_1 : decode cX3_seedInUse 1 = .ok (.invokevirtual 64, 3) := by decide +kernel
theorem dX3_seedInUse_4 : decode cX3_seedInUse 4 = .ok (.istore_n 2, 1) := by decide +kernel
theorem dX3_seedInUse_5 : decode cX3_seedInUse 5 = .ok (.iload_n 2, 1) := by decide +kernel
theorem dX3_seedInUse_6 : decode cX3_seedInUse 6 = .ok (.ifCond .lt 21, 3) := by decide +kernel
theorem dX3_seedInUse_9 : decode cX3_seedInUse 9 = .ok (.iload_n 2, 1) := by decide +kernel
theorem dX3_seedInUse_10 : decode cX3_seedInUse 10 = .ok (.aload_n 0, 1) := by decide +kernel
theorem dX3_seedInUse_11 : decode cX3_seedInUse 11 = .ok (.getfield 9, 3) := by decide +kernel
theorem dX3_seedInUse_14 : decode cX3_seedInUse 14 = .ok (.arraylength, 1) := by decide +kernel
theorem dX3_seedInUse_15 : decode cX3_seedInUse 15 = .ok (.if_icmp .ge 12, 3) := by decide +kernel
theorem dX3_seedInUse_18 : decode cX3_seedInUse 18 = .ok (.aload_n 0, 1) := by decide +kernel
theorem dX3_seedInUse_19 : decode cX3_seedInUse 19 = .ok (.getfield 9, 3) := by decide +kernel
theorem dX3_seedInUse_22 : decode cX3_seedInUse 22 = .ok (.iload_n 2, 1) := by decide +kernel
theorem dX3_seedInUse_23 : decode cX3_seedInUse 23 = .ok (.iaload, 1) := by decide +kernel
theorem dX3_seedInUse_24 : decode cX3_seedInUse 24 = .ok (.goto 4, 3) := by decide +kernel
theorem dX3_seedInUse_27 : decode cX3_seedInUse 27 = .ok (.iconst 0, 1) := by decide +kernel
theorem dX3_seedInUse_28 : decode cX3_seedInUse 28 = .ok (.ireturn, 1) := by decide +kernel
theorem dX3_homeBy_0 : decode cX3_homeBy 0 = .ok (.ldc 164, 2) := by decide +kernel
theorem dX3_homeBy_2 : decode cX3_homeBy 2 = .ok (.iload_n 1, 1) := by decide +kernel
theorem dX3_homeBy_3 : decode cX3_homeBy 3 = .ok (.imul, 1) := by decide +kernel
theorem dX3_homeBy_4 : decode cX3_homeBy 4 = .ok (.iload_n 0, 1) := by decide +kernel
theorem dX3_homeBy_5 : decode cX3_homeBy 5 = .ok (.iadd, 1) := by decide +kernel
theorem dX3_homeBy_6 : decode cX3_homeBy 6 = .ok (.istore_n 3, 1) := by decide +kernel
theorem dX3_homeBy_7 : decode cX3_homeBy 7 = .ok (.iload_n 3, 1) := by decide +kernel
theorem dX3_homeBy_8 : decode cX3_homeBy 8 = .ok (.iload_n 3, 1) := by decide +kernel
theorem dX3_homeBy_9 : decode cX3_homeBy 9 = .ok (.bipush 15, 2) := by decide +kernel
theorem dX3_homeBy_11 : decode cX3_homeBy 11 = .ok (.iushr, 1) := by decide +kernel
theorem dX3_homeBy_12 : decode cX3_homeBy 12 = .ok (.ixor, 1) := by decide +kernel
theorem dX3_homeBy_13 : decode cX3_homeBy 13 = .ok (.istore_n 3, 1) := by decide +kernel
theorem dX3_homeBy_14 : decode cX3_homeBy 14 = .ok (.iload_n 3, 1) := by decide +kernel
theorem dX3_homeBy_15 : decode cX3_homeBy 15 = .ok (.ldc 165, 2) := by decide +kernel
theorem dX3_homeBy_17 : decode cX3_homeBy 17 = .ok (.imul, 1) := by decide +kernel
theorem dX3_homeBy_18 : decode cX3_homeBy 18 = .ok (.istore 4, 2) := by decide +kernel
theorem dX3_homeBy_20 : decode cX3_homeBy 20 = .ok (.iload 4, 2) := by decide +kernel
theorem dX3_homeBy_22 : decode cX3_homeBy 22 = .ok (.iload 4, 2) := by decide +kernel
theorem dX3_homeBy_24 : decode cX3_homeBy 24 = .ok (.bipush 13, 2) := by decide +kernel
theorem dX3_homeBy_26 : decode cX3_homeBy 26 = .ok (.iushr, 1) := by decide +kernel
theorem dX3_homeBy_27 : decode cX3_homeBy 27 = .ok (.ixor, 1) := by decide +kernel
theorem dX3_homeBy_28 : decode cX3_homeBy 28 = .ok (.bipush 7, 2) := by decide +kernel
theorem dX3_homeBy_30 : decode cX3_homeBy 30 = .ok (.iand, 1) := by decide +kernel
theorem dX3_homeBy_31 : decode cX3_homeBy 31 = .ok (.istore 5, 2) := by decide +kernel
theorem dX3_homeBy_33 : decode cX3_homeBy 33 = .ok (.iload_n 2, 1) := by decide +kernel
theorem dX3_homeBy_34 : decode cX3_homeBy 34 = .ok (.ifCond .ne 6, 3) := by decide +kernel
theorem dX3_homeBy_37 : decode cX3_homeBy 37 = .ok (.iload 5, 2) := by decide +kernel
theorem dX3_homeBy_39 : decode cX3_homeBy 39 = .ok (.ireturn, 1) := by decide +kernel
theorem dX3_homeBy_40 : decode cX3_homeBy 40 = .ok (.iload_n 3, 1) := by decide +kernel
theorem dX3_homeBy_41 : decode cX3_homeBy 41 = .ok (.ldc 166, 2) := by decide +kernel
theorem dX3_homeBy_43 : decode cX3_homeBy 43 = .ok (.imul, 1) := by decide +kernel
theorem dX3_homeBy_44 : decode cX3_homeBy 44 = .ok (.istore 6, 2) := by decide +kernel
theorem dX3_homeBy_46 : decode cX3_homeBy 46 = .ok (.iload 6, 2) := by decide +kernel
theorem dX3_homeBy_48 : decode cX3_homeBy 48 = .ok (.iload 6, 2) := by decide +kernel
theorem dX3_homeBy_50 : decode cX3_homeBy 50 = .ok (.bipush 13, 2) := by decide +kernel
theorem dX3_homeBy_52 : decode cX3_homeBy 52 = .ok (.iushr, 1) := by decide +kernel
theorem dX3_homeBy_53 : decode cX3_homeBy 53 = .ok (.ixor, 1) := by decide +kernel
theorem dX3_homeBy_54 : decode cX3_homeBy 54 = .ok (.bipush 7, 2) := by decide +kernel
theorem dX3_homeBy_56 : decode cX3_homeBy 56 = .ok (.iand, 1) := by decide +kernel
theorem dX3_homeBy_57 : decode cX3_homeBy 57 = .ok (.istore 7, 2) := by decide +kernel
theorem dX3_homeBy_59 : decode cX3_homeBy 59 = .ok (.iload 7, 2) := by decide +kernel
theorem dX3_homeBy_61 : decode cX3_homeBy 61 = .ok (.iload 5, 2) := by decide +kernel
theorem dX3_homeBy_63 : decode cX3_homeBy 63 = .ok (.if_icmp .ne 13, 3) := by decide +kernel
theorem dX3_homeBy_66 : decode cX3_homeBy 66 = .ok (.iload 5, 2) := by decide +kernel
theorem dX3_homeBy_68 : decode cX3_homeBy 68 = .ok (.iconst 1, 1) := by decide +kernel
theorem dX3_homeBy_69 : decode cX3_homeBy 69 = .ok (.iadd, 1) := by decide +kernel
theorem dX3_homeBy_70 : decode cX3_homeBy 70 = .ok (.bipush 8, 2) := by decide +kernel
theorem dX3_homeBy_72 : decode cX3_homeBy 72 = .ok (.irem, 1) := by decide +kernel
theorem dX3_homeBy_73 : decode cX3_homeBy 73 = .ok (.goto 5, 3) := by decide +kernel
theorem dX3_homeBy_76 : decode cX3_homeBy 76 = .ok (.iload 7, 2) := by decide +kernel
theorem dX3_homeBy_78 : decode cX3_homeBy 78 = .ok (.ireturn, 1) := by decide +kernel
theorem dX3_otherRow_0 : decode cX3_otherRow 0 = .ok (.iload_n 0, 1) := by decide +kernel
theorem dX3_otherRow_1 : decode cX3_otherRow 1 = .ok (.iload_n 0, 1) := by decide +kernel
theorem dX3_otherRow_2 : decode cX3_otherRow 2 = .ok (.bipush 9, 2) := by decide +kernel
theorem dX3_otherRow_4 : decode cX3_otherRow 4 = .ok (.irem, 1) := by decide +kernel
theorem dX3_otherRow_5 : decode cX3_otherRow 5 = .ok (.isub, 1) := by decide +kernel
theorem dX3_otherRow_6 : decode cX3_otherRow 6 = .ok (.istore_n 3, 1) := by decide +kernel
theorem dX3_otherRow_7 : decode cX3_otherRow 7 = .ok (.iload_n 3, 1) := by decide +kernel
theorem dX3_otherRow_8 : decode cX3_otherRow 8 = .ok (.iload_n 1, 1) := by decide +kernel
theorem dX3_otherRow_9 : decode cX3_otherRow 9 = .ok (.iload_n 2, 1) := by decide +kernel
theorem dX3_otherRow_10 : decode cX3_otherRow 10 = .ok (.iconst 0, 1) := by decide +kernel
theorem dX3_otherRow_11 : decode cX3_otherRow 11 = .ok (.invokestatic 136, 3) := by decide +kernel
theorem dX3_otherRow_14 : decode cX3_otherRow 14 = .ok (.iadd, 1) := by decide +kernel
theorem dX3_otherRow_15 : decode cX3_otherRow 15 = .ok (.istore 4, 2) := by decide +kernel
theorem dX3_otherRow_17 : decode cX3_otherRow 17 = .ok (.iload_n 0, 1) := by decide +kernel
theorem dX3_otherRow_18 : decode cX3_otherRow 18 = .ok (.iload 4, 2) := by decide +kernel
theorem dX3_otherRow_20 : decode cX3_otherRow 20 = .ok (.if_icmp .ne 14, 3) := by decide +kernel
theorem dX3_otherRow_23 : decode cX3_otherRow 23 = .ok (.iload_n 3, 1) := by decide +kernel
theorem dX3_otherRow_24 : decode cX3_otherRow 24 = .ok (.iload_n 1, 1) := by decide +kernel
theorem dX3_otherRow_25 : decode cX3_otherRow 25 = .ok (.iload_n 2, 1) := by decide +kernel
theorem dX3_otherRow_26 : decode cX3_otherRow 26 = .ok (.iconst 1, 1) := by decide +kernel
theorem dX3_otherRow_27 : decode cX3_otherRow 27 = .ok (.invokestatic 136, 3) := by decide +kernel
theorem dX3_otherRow_30 : decode cX3_otherRow 30 = .ok (.iadd, 1) := by decide +kernel
theorem dX3_otherRow_31 : decode cX3_otherRow 31 = .ok (.goto 5, 3) := by decide +kernel
theorem dX3_otherRow_34 : decode cX3_otherRow 34 = .ok (.iload 4, 2) := by decide +kernel
theorem dX3_otherRow_36 : decode cX3_otherRow 36 = .ok (.ireturn, 1) := by decide +kernel
theorem dX3_find_0 : decode cX3_find 0 = .ok (.aload_n 0, 1) := by decide +kernel
theorem dX3_find_1 : decode cX3_find 1 = .ok (.aload_n 0, 1) := by decide +kernel
theorem dX3_find_2 : decode cX3_find 2 = .ok (.iload_n 1, 1) := by decide +kernel
theorem dX3_find_3 : decode cX3_find 3 = .ok (.iload_n 2, 1) := by decide +kernel
theorem dX3_find_4 : decode cX3_find 4 = .ok (.iconst 0, 1) := by decide +kernel
theorem dX3_find_5 : decode cX3_find 5 = .ok (.invokestatic 136, 3) := by decide +kernel
theorem dX3_find_8 : decode cX3_find 8 = .ok (.invokevirtual 123, 3) := by decide +kernel
theorem dX3_find_11 : decode cX3_find 11 = .ok (.iload_n 2, 1) := by decide +kernel
theorem dX3_find_12 : decode cX3_find 12 = .ok (.invokevirtual 167, 3) := by decide +kernel
theorem dX3_find_15 : decode cX3_find 15 = .ok (.istore_n 3, 1) := by decide +kernel
theorem dX3_find_16 : decode cX3_find 16 = .ok (.iload_n 3, 1) := by decide +kernel
theorem dX3_find_17 : decode cX3_find 17 = .ok (.iconst (-1), 1) := by decide +kernel
theorem dX3_find_18 : decode cX3_find 18 = .ok (.if_icmp .ne 19, 3) := by decide +kernel
theorem dX3_find_21 : decode cX3_find 21 = .ok (.aload_n 0, 1) := by decide +kernel
theorem dX3_find_22 : decode cX3_find 22 = .ok (.aload_n 0, 1) := by decide +kernel
theorem dX3_find_23 : decode cX3_find 23 = .ok (.iload_n 1, 1) := by decide +kernel
theorem dX3_find_24 : decode cX3_find 24 = .ok (.iload_n 2, 1) := by decide +kernel
theorem dX3_find_25 : decode cX3_find 25 = .ok (.iconst 1, 1) := by decide +kernel
theorem dX3_find_26 : decode cX3_find 26 = .ok (.invokestatic 136, 3) := by decide +kernel
theorem dX3_find_29 : decode cX3_find 29 = .ok (.invokevirtual 123, 3) := by decide +kernel
theorem dX3_find_32 : decode cX3_find 32 = .ok (.iload_n 2, 1) := by decide +kernel
theorem dX3_find_33 : decode cX3_find 33 = .ok (.invokevirtual 167, 3) := by decide +kernel
theorem dX3_find_36 : decode cX3_find 36 = .ok (.istore_n 3, 1) := by decide +kernel
theorem dX3_find_37 : decode cX3_find 37 = .ok (.iload_n 3, 1) := by decide +kernel
theorem dX3_find_38 : decode cX3_find 38 = .ok (.iconst (-1), 1) := by decide +kernel
theorem dX3_find_39 : decode cX3_find 39 = .ok (.if_icmp .ne 15, 3) := by decide +kernel
theorem dX3_find_42 : decode cX3_find 42 = .ok (.aload_n 0, 1) := by decide +kernel
theorem dX3_find_43 : decode cX3_find 43 = .ok (.aload_n 0, 1) := by decide +kernel
theorem dX3_find_44 : decode cX3_find 44 = .ok (.bipush 8, 2) := by decide +kernel
theorem dX3_find_46 : decode cX3_find 46 = .ok (.invokevirtual 123, 3) := by decide +kernel
theorem dX3_find_49 : decode cX3_find 49 = .ok (.iload_n 2, 1) := by decide +kernel
theorem dX3_find_50 : decode cX3_find 50 = .ok (.invokevirtual 167, 3) := by decide +kernel
theorem dX3_find_53 : decode cX3_find 53 = .ok (.istore_n 3, 1) := by decide +kernel
theorem dX3_find_54 : decode cX3_find 54 = .ok (.iload_n 3, 1) := by decide +kernel
theorem dX3_find_55 : decode cX3_find 55 = .ok (.ireturn, 1) := by decide +kernel
theorem dX3_choose_0 : decode cX3_choose 0 = .ok (.aload_n 1, 1) := by decide +kernel
theorem dX3_choose_1 : decode cX3_choose 1 = .ok (.iload_n 2, 1) := by decide +kernel
theorem dX3_choose_2 : decode cX3_choose 2 = .ok (.iload_n 3, 1) := by decide +kernel
theorem dX3_choose_3 : decode cX3_choose 3 = .ok (.invokestatic 81, 3) := by decide +kernel
theorem dX3_choose_6 : decode cX3_choose 6 = .ok (.istore 5, 2) := by decide +kernel
theorem dX3_choose_8 : decode cX3_choose 8 = .ok (.iload 5, 2) := by decide +kernel
theorem dX3_choose_10 : decode cX3_choose 10 = .ok (.iconst (-1), 1) := by decide +kernel
theorem dX3_choose_11 : decode cX3_choose 11 = .ok (.if_icmp .eq 17, 3) := by decide +kernel
theorem dX3_choose_14 : decode cX3_choose 14 = .ok (.aload_n 0, 1) := by decide +kernel
theorem dX3_choose_15 : decode cX3_choose 15 = .ok (.getfield 36, 3) := by decide +kernel
theorem dX3_choose_18 : decode cX3_choose 18 = .ok (.iload 5, 2) := by decide +kernel
theorem dX3_choose_20 : decode cX3_choose 20 = .ok (.iload_n 3, 1) := by decide +kernel
theorem dX3_choose_21 : decode cX3_choose 21 = .ok (.iload 4, 2) := by decide +kernel
theorem dX3_choose_23 : decode cX3_choose 23 = .ok (.invokevirtual 170, 3) := by decide +kernel
theorem dX3_choose_26 : decode cX3_choose 26 = .ok (.iconst 0, 1) := by decide +kernel
theorem dX3_choose_27 : decode cX3_choose 27 = .ok (.ireturn, 1) := by decide +kernel
theorem dX3_choose_28 : decode cX3_choose 28 = .ok (.aload_n 1, 1) := by decide +kernel
theorem dX3_choose_29 : decode cX3_choose 29 = .ok (.iload_n 2, 1) := by decide +kernel
theorem dX3_choose_30 : decode cX3_choose 30 = .ok (.iload_n 3, 1) := by decide +kernel
theorem dX3_choose_31 : decode cX3_choose 31 = .ok (.iconst 0, 1) := by decide +kernel
theorem dX3_choose_32 : decode cX3_choose 32 = .ok (.invokestatic 136, 3) := by decide +kernel
theorem dX3_choose_35 : decode cX3_choose 35 = .ok (.invokevirtual 123, 3) := by decide +kernel
theorem dX3_choose_38 : decode cX3_choose 38 = .ok (.istore 6, 2) := by decide +kernel
theorem dX3_choose_40 : decode cX3_choose 40 = .ok (.aload_n 1, 1) := by decide +kernel
theorem dX3_choose_41 : decode cX3_choose 41 = .ok (.iload_n 2, 1) := by decide +kernel
theorem dX3_choose_42 : decode cX3_choose 42 = .ok (.iload_n 3, 1) := by decide +kernel
theorem dX3_choose_43 : decode cX3_choose 43 = .ok (.iconst 1, 1) := by decide +kernel
theorem dX3_choose_44 : decode cX3_choose 44 = .ok (.invokestatic 136, 3) := by decide +kernel
theorem dX3_choose_47 : decode cX3_choose 47 = .ok (.invokevirtual 123, 3) := by decide +kernel
theorem dX3_choose_50 : decode cX3_choose 50 = .ok (.istore 7, 2) := by decide +kernel
theorem dX3_choose_52 : decode cX3_choose 52 = .ok (.aload_n 1, 1) := by decide +kernel
theorem dX3_choose_53 : decode cX3_choose 53 = .ok (.iload 6, 2) := by decide +kernel
theorem dX3_choose_55 : decode cX3_choose 55 = .ok (.invokevirtual 174, 3) := by decide +kernel
theorem dX3_choose_58 : decode cX3_choose 58 = .ok (.istore 8, 2) := by decide +kernel
theorem dX3_choose_60 : decode cX3_choose 60 = .ok (.iload 8, 2) := by decide +kernel
theorem dX3_choose_62 : decode cX3_choose 62 = .ok (.iconst (-1), 1) := by decide +kernel
theorem dX3_choose_63 : decode cX3_choose 63 = .ok (.if_icmp .ne 11, 3) := by decide +kernel
theorem dX3_choose_66 : decode cX3_choose 66 = .ok (.aload_n 1, 1) := by decide +kernel
theorem dX3_choose_67 : decode cX3_choose 67 = .ok (.iload 7, 2) := by decide +kernel
theorem dX3_choose_69 : decode cX3_choose 69 = .ok (.invokevirtual 174, 3) := by decide +kernel
theorem dX3_choose_72 : decode cX3_choose 72 = .ok (.istore 8, 2) := by decide +kernel
theorem dX3_choose_74 : decode cX3_choose 74 = .ok (.iload 8, 2) := by decide +kernel
theorem dX3_choose_76 : decode cX3_choose 76 = .ok (.iconst (-1), 1) := by decide +kernel
theorem dX3_choose_77 : decode cX3_choose 77 = .ok (.if_icmp .eq 17, 3) := by decide +kernel
theorem dX3_choose_80 : decode cX3_choose 80 = .ok (.aload_n 0, 1) := by decide +kernel
theorem dX3_choose_81 : decode cX3_choose 81 = .ok (.getfield 36, 3) := by decide +kernel
theorem dX3_choose_84 : decode cX3_choose 84 = .ok (.iload 8, 2) := by decide +kernel
theorem dX3_choose_86 : decode cX3_choose 86 = .ok (.iload_n 3, 1) := by decide +kernel
theorem dX3_choose_87 : decode cX3_choose 87 = .ok (.iload 4, 2) := by decide +kernel
theorem dX3_choose_89 : decode cX3_choose 89 = .ok (.invokevirtual 170, 3) := by decide +kernel
theorem dX3_choose_92 : decode cX3_choose 92 = .ok (.iconst 1, 1) := by decide +kernel
theorem dX3_choose_93 : decode cX3_choose 93 = .ok (.ireturn, 1) := by decide +kernel
theorem dX3_choose_94 : decode cX3_choose 94 = .ok (.aload_n 0, 1) := by decide +kernel
theorem dX3_choose_95 : decode cX3_choose 95 = .ok (.aload_n 1, 1) := by decide +kernel
theorem dX3_choose_96 : decode cX3_choose 96 = .ok (.iload_n 2, 1) := by decide +kernel
theorem dX3_choose_97 : decode cX3_choose 97 = .ok (.iload 6, 2) := by decide +kernel
theorem dX3_choose_99 : decode cX3_choose 99 = .ok (.iload_n 3, 1) := by decide +kernel
theorem dX3_choose_100 : decode cX3_choose 100 = .ok (.iload 4, 2) := by decide +kernel
theorem dX3_choose_102 : decode cX3_choose 102 = .ok (.invokevirtual 177, 3) := by decide +kernel
theorem dX3_choose_105 : decode cX3_choose 105 = .ok (.ifCond .ne 17, 3) := by decide +kernel
theorem dX3_choose_108 : decode cX3_choose 108 = .ok (.aload_n 0, 1) := by decide +kernel
theorem dX3_choose_109 : decode cX3_choose 109 = .ok (.aload_n 1, 1) := by decide +kernel
theorem dX3_choose_110 : decode cX3_choose 110 = .ok (.iload_n 2, 1) := by decide +kernel
theorem dX3_choose_111 : decode cX3_choose 111 = .ok (.iload 7, 2) := by decide +kernel
theorem dX3_choose_113 : decode cX3_choose 113 = .ok (.iload_n 3, 1) := by decide +kernel
theorem dX3_choose_114 : decode cX3_choose 114 = .ok (.iload 4, 2) := by decide +kernel
theorem dX3_choose_116 : decode cX3_choose 116 = .ok (.invokevirtual 177, 3) := by decide +kernel
theorem dX3_choose_119 : decode cX3_choose 119 = .ok (.ifCond .eq 5, 3) := by decide +kernel
theorem dX3_choose_122 : decode cX3_choose 122 = .ok (.iconst 2, 1) := by decide +kernel
theorem dX3_choose_123 : decode cX3_choose 123 = .ok (.ireturn, 1) := by decide +kernel
theorem dX3_choose_124 : decode cX3_choose 124 = .ok (.aload_n 1, 1) := by decide +kernel
theorem dX3_choose_125 : decode cX3_choose 125 = .ok (.aload_n 1, 1) := by decide +kernel
theorem dX3_choose_126 : decode cX3_choose 126 = .ok (.bipush 8, 2) := by decide +kernel
theorem dX3_choose_128 : decode cX3_choose 128 = .ok (.invokevirtual 123, 3) := by decide +kernel
theorem dX3_choose_131 : decode cX3_choose 131 = .ok (.invokevirtual 174, 3) := by decide +kernel
theorem dX3_choose_134 : decode cX3_choose 134 = .ok (.istore 8, 2) := by decide +kernel
theorem dX3_choose_136 : decode cX3_choose 136 = .ok (.iload 8, 2) := by decide +kernel
theorem dX3_choose_138 : decode cX3_choose 138 = .ok (.iconst (-1), 1) := by decide +kernel
theorem dX3_choose_139 : decode cX3_choose 139 = .ok (.if_icmp .eq 17, 3) := by decide +kernel
theorem dX3_choose_142 : decode cX3_choose 142 = .ok (.aload_n 0, 1) := by decide +kernel
theorem dX3_choose_143 : decode cX3_choose 143 = .ok (.getfield 36, 3) := by decide +kernel
theorem dX3_choose_146 : decode cX3_choose 146 = .ok (.iload 8, 2) := by decide +kernel
theorem dX3_choose_148 : decode cX3_choose 148 = .ok (.iload_n 3, 1) := by decide +kernel
theorem dX3_choose_149 : decode cX3_choose 149 = .ok (.iload 4, 2) := by decide +kernel
theorem dX3_choose_151 : decode cX3_choose 151 = .ok (.invokevirtual 170, 3) := by decide +kernel
theorem dX3_choose_154 : decode cX3_choose 154 = .ok (.iconst 3, 1) := by decide +kernel
theorem dX3_choose_155 : decode cX3_choose 155 = .ok (.ireturn, 1) := by decide +kernel
theorem dX3_choose_156 : decode cX3_choose 156 = .ok (.bipush (-2), 2) := by decide +kernel
theorem dX3_choose_158 : decode cX3_choose 158 = .ok (.ireturn, 1) := by decide +kernel
theorem dX3_layPath_0 : decode cX3_layPath 0 = .ok (.iload_n 3, 1) := by decide +kernel
theorem dX3_layPath_1 : decode cX3_layPath 1 = .ok (.istore 6, 2) := by decide +kernel
theorem dX3_layPath_3 : decode cX3_layPath 3 = .ok (.iload 4, 2) := by decide +kernel
theorem dX3_layPath_5 : decode cX3_layPath 5 = .ok (.istore 7, 2) := by decide +kernel
theorem dX3_layPath_7 : decode cX3_layPath 7 = .ok (.iload 5, 2) := by decide +kernel
theorem dX3_layPath_9 : decode cX3_layPath 9 = .ok (.istore 8, 2) := by decide +kernel
theorem dX3_layPath_11 : decode cX3_layPath 11 = .ok (.aload_n 0, 1) := by decide +kernel
theorem dX3_layPath_12 : decode cX3_layPath 12 = .ok (.getfield 36, 3) := by decide +kernel
theorem dX3_layPath_15 : decode cX3_layPath 15 = .ok (.invokevirtual 181, 3) := by decide +kernel
theorem dX3_layPath_18 : decode cX3_layPath 18 = .ok (.iconst 0, 1) := by decide +kernel
theorem dX3_layPath_19 : decode cX3_layPath 19 = .ok (.istore 9, 2) := by decide +kernel
theorem dX3_layPath_21 : decode cX3_layPath 21 = .ok (.iload 9, 2) := by decide +kernel
theorem dX3_layPath_23 : decode cX3_layPath 23 = .ok (.bipush 6, 2) := by decide +kernel
theorem dX3_layPath_25 : decode cX3_layPath 25 = .ok (.if_icmp .ge 97, 3) := by decide +kernel
theorem dX3_layPath_28 : decode cX3_layPath 28 = .ok (.aload_n 0, 1) := by decide +kernel
theorem dX3_layPath_29 : decode cX3_layPath 29 = .ok (.iload 6, 2) := by decide +kernel
theorem dX3_layPath_31 : decode cX3_layPath 31 = .ok (.iload 9, 2) := by decide +kernel
theorem dX3_layPath_33 : decode cX3_layPath 33 = .ok (.iconst 4, 1) := by decide +kernel
theorem dX3_layPath_34 : decode cX3_layPath 34 = .ok (.irem, 1) := by decide +kernel
theorem dX3_layPath_35 : decode cX3_layPath 35 = .ok (.invokevirtual 184, 3) := by decide +kernel
theorem dX3_layPath_38 : decode cX3_layPath 38 = .ok (.istore 10, 2) := by decide +kernel
theorem dX3_layPath_40 : decode cX3_layPath 40 = .ok (.iload 10, 2) := by decide +kernel
theorem dX3_layPath_42 : decode cX3_layPath 42 = .ok (.iconst (-1), 1) := by decide +kernel
theorem dX3_layPath_43 : decode cX3_layPath 43 = .ok (.if_icmp .ne 5, 3) := by decide +kernel
theorem dX3_layPath_46 : decode cX3_layPath 46 = .ok (.iconst 0, 1) := by decide +kernel
theorem dX3_layPath_47 : decode cX3_layPath 47 = .ok (.ireturn, 1) := by decide +kernel
theorem dX3_layPath_48 : decode cX3_layPath 48 = .ok (.aload_n 0, 1) := by decide +kernel
theorem dX3_layPath_49 : decode cX3_layPath 49 = .ok (.getfield 36, 3) := by decide +kernel
theorem dX3_layPath_52 : decode cX3_layPath 52 = .ok (.iload 10, 2) := by decide +kernel
theorem dX3_layPath_54 : decode cX3_layPath 54 = .ok (.iload 7, 2) := by decide +kernel
theorem dX3_layPath_56 : decode cX3_layPath 56 = .ok (.iload 8, 2) := by decide +kernel
theorem dX3_layPath_58 : decode cX3_layPath 58 = .ok (.invokevirtual 187, 3) := by decide +kernel
theorem dX3_layPath_61 : decode cX3_layPath 61 = .ok (.aload_n 1, 1) := by decide +kernel
theorem dX3_layPath_62 : decode cX3_layPath 62 = .ok (.iload 10, 2) := by decide +kernel
theorem dX3_layPath_64 : decode cX3_layPath 64 = .ok (.invokevirtual 133, 3) := by decide +kernel
theorem dX3_layPath_67 : decode cX3_layPath 67 = .ok (.istore 7, 2) := by decide +kernel
theorem dX3_layPath_69 : decode cX3_layPath 69 = .ok (.aload_n 1, 1) := by decide +kernel
theorem dX3_layPath_70 : decode cX3_layPath 70 = .ok (.iload 10, 2) := by decide +kernel
theorem dX3_layPath_72 : decode cX3_layPath 72 = .ok (.invokevirtual 85, 3) := by decide +kernel
theorem dX3_layPath_75 : decode cX3_layPath 75 = .ok (.istore 8, 2) := by decide +kernel
theorem dX3_layPath_77 : decode cX3_layPath 77 = .ok (.iload 6, 2) := by decide +kernel
theorem dX3_layPath_79 : decode cX3_layPath 79 = .ok (.iload_n 2, 1) := by decide +kernel
theorem dX3_layPath_80 : decode cX3_layPath 80 = .ok (.iload 7, 2) := by decide +kernel
theorem dX3_layPath_82 : decode cX3_layPath 82 = .ok (.invokestatic 190, 3) := by decide +kernel
theorem dX3_layPath_85 : decode cX3_layPath 85 = .ok (.istore 6, 2) := by decide +kernel
theorem dX3_layPath_87 : decode cX3_layPath 87 = .ok (.aload_n 1, 1) := by decide +kernel
theorem dX3_layPath_88 : decode cX3_layPath 88 = .ok (.iload 6, 2) := by decide +kernel
theorem dX3_layPath_90 : decode cX3_layPath 90 = .ok (.invokevirtual 174, 3) := by decide +kernel
theorem dX3_layPath_93 : decode cX3_layPath 93 = .ok (.istore 11, 2) := by decide +kernel
theorem dX3_layPath_95 : decode cX3_layPath 95 = .ok (.iload 11, 2) := by decide +kernel
theorem dX3_layPath_97 : decode cX3_layPath 97 = .ok (.iconst (-1), 1) := by decide +kernel
theorem dX3_layPath_98 : decode cX3_layPath 98 = .ok (.if_icmp .eq 18, 3) := by decide +kernel
theorem dX3_layPath_101 : decode cX3_layPath 101 = .ok (.aload_n 0, 1) := by decide +kernel
theorem dX3_layPath_102 : decode cX3_layPath 102 = .ok (.getfield 36, 3) := by decide +kernel
theorem dX3_layPath_105 : decode cX3_layPath 105 = .ok (.iload 11, 2) := by decide +kernel
theorem dX3_layPath_107 : decode cX3_layPath 107 = .ok (.iload 7, 2) := by decide +kernel
theorem dX3_layPath_109 : decode cX3_layPath 109 = .ok (.iload 8, 2) := by decide +kernel
theorem dX3_layPath_111 : decode cX3_layPath 111 = .ok (.invokevirtual 187, 3) := by decide +kernel
theorem dX3_layPath_114 : decode cX3_layPath 114 = .ok (.iconst 1, 1) := by decide +kernel
theorem dX3_layPath_115 : decode cX3_layPath 115 = .ok (.ireturn, 1) := by decide +kernel
theorem dX3_layPath_116 : decode cX3_layPath 116 = .ok (.iinc 9 1, 3) := by decide +kernel
theorem dX3_layPath_119 : decode cX3_layPath 119 = .ok (.goto (-98), 3) := by decide +kernel
theorem dX3_layPath_122 : decode cX3_layPath 122 = .ok (.iconst 0, 1) := by decide +kernel
theorem dX3_layPath_123 : decode cX3_layPath 123 = .ok (.ireturn, 1) := by decide +kernel
theorem dX3_nextOnPath_0 : decode cX3_nextOnPath 0 = .ok (.iconst 0, 1) := by decide +kernel
theorem dX3_nextOnPath_1 : decode cX3_nextOnPath 1 = .ok (.istore_n 3, 1) := by decide +kernel
theorem dX3_nextOnPath_2 : decode cX3_nextOnPath 2 = .ok (.iload_n 3, 1) := by decide +kernel
theorem dX3_nextOnPath_3 : decode cX3_nextOnPath 3 = .ok (.iconst 4, 1) := by decide +kernel
theorem dX3_nextOnPath_4 : decode cX3_nextOnPath 4 = .ok (.if_icmp .ge 35, 3) := by decide +kernel
theorem dX3_nextOnPath_7 : decode cX3_nextOnPath 7 = .ok (.iload_n 1, 1) := by decide +kernel
theorem dX3_nextOnPath_8 : decode cX3_nextOnPath 8 = .ok (.iload_n 2, 1) := by decide +kernel
theorem dX3_nextOnPath_9 : decode cX3_nextOnPath 9 = .ok (.iload_n 3, 1) := by decide +kernel
theorem dX3_nextOnPath_10 : decode cX3_nextOnPath 10 = .ok (.iadd, 1) := by decide +kernel
theorem dX3_nextOnPath_11 : decode cX3_nextOnPath 11 = .ok (.iconst 4, 1) := by decide +kernel
theorem dX3_nextOnPath_12 : decode cX3_nextOnPath 12 = .ok (.irem, 1) := by decide +kernel
theorem dX3_nextOnPath_13 : decode cX3_nextOnPath 13 = .ok (.invokestatic 126, 3) := by decide +kernel
theorem dX3_nextOnPath_16 : decode cX3_nextOnPath 16 = .ok (.istore 4, 2) := by decide +kernel
theorem dX3_nextOnPath_18 : decode cX3_nextOnPath 18 = .ok (.aload_n 0, 1) := by decide +kernel
theorem dX3_nextOnPath_19 : decode cX3_nextOnPath 19 = .ok (.getfield 36, 3) := by decide +kernel
theorem dX3_nextOnPath_22 : decode cX3_nextOnPath 22 = .ok (.iload 4, 2) := by decide +kernel
theorem dX3_nextOnPath_24 : decode cX3_nextOnPath 24 = .ok (.invokevirtual 194, 3) := by decide +kernel
theorem dX3_nextOnPath_27 : decode cX3_nextOnPath 27 = .ok (.ifCond .ne 6, 3) := by decide +kernel
theorem dX3_nextOnPath_30 : decode cX3_nextOnPath 30 = .ok (.iload 4, 2) := by decide +kernel
theorem dX3_nextOnPath_32 : decode cX3_nextOnPath 32 = .ok (.ireturn, 1) := by decide +kernel
theorem dX3_nextOnPath_33 : decode cX3_nextOnPath 33 = .ok (.iinc 3 1, 3) := by decide +kernel
theorem dX3_nextOnPath_36 : decode cX3_nextOnPath 36 = .ok (.goto (-34), 3) := by decide +kernel
theorem dX3_nextOnPath_39 : decode cX3_nextOnPath 39 = .ok (.iconst (-1), 1) := by decide +kernel
theorem dX3_nextOnPath_40 : decode cX3_nextOnPath 40 = .ok (.ireturn, 1) := by decide +kernel
theorem dX3_followPath_0 : decode cX3_followPath 0 = .ok (.aload_n 0, 1) := by decide +kernel
theorem dX3_followPath_1 : decode cX3_followPath 1 = .ok (.getfield 16, 3) := by decide +kernel
theorem dX3_followPath_4 : decode cX3_followPath 4 = .ok (.aload_n 0, 1) := by decide +kernel
theorem dX3_followPath_5 : decode cX3_followPath 5 = .ok (.getfield 36, 3) := by decide +kernel
theorem dX3_followPath_8 : decode cX3_followPath 8 = .ok (.invokevirtual 197, 3) := by decide +kernel
theorem dX3_followPath_11 : decode cX3_followPath 11 = .ok (.aload_n 0, 1) := by decide +kernel
theorem dX3_followPath_12 : decode cX3_followPath 12 = .ok (.bipush 19, 2) := by decide +kernel
theorem dX3_followPath_14 : decode cX3_followPath 14 = .ok (.invokevirtual 96, 3) := by decide +kernel
theorem dX3_followPath_17 : decode cX3_followPath 17 = .ok (.aload_n 0, 1) := by decide +kernel
theorem dX3_followPath_18 : decode cX3_followPath 18 = .ok (.invokevirtual 78, 3) := by decide +kernel
theorem dX3_followPath_21 : decode cX3_followPath 21 = .ok (.aload_n 0, 1) := by decide +kernel
theorem dX3_followPath_22 : decode cX3_followPath 22 = .ok (.getfield 16, 3) := by decide +kernel
theorem dX3_followPath_25 : decode cX3_followPath 25 = .ok (.invokevirtual 201, 3) := by decide +kernel
theorem dX3_followPath_28 : decode cX3_followPath 28 = .ok (.aload_n 0, 1) := by decide +kernel
theorem dX3_followPath_29 : decode cX3_followPath 29 = .ok (.bipush 19, 2) := by decide +kernel
theorem dX3_followPath_31 : decode cX3_followPath 31 = .ok (.invokevirtual 96, 3) := by decide +kernel
theorem dX3_followPath_34 : decode cX3_followPath 34 = .ok (.aload_n 0, 1) := by decide +kernel
theorem dX3_followPath_35 : decode cX3_followPath 35 = .ok (.aload_n 0, 1) := by decide +kernel
theorem dX3_followPath_36 : decode cX3_followPath 36 = .ok (.getfield 36, 3) := by decide +kernel
theorem dX3_followPath_39 : decode cX3_followPath 39 = .ok (.invokevirtual 204, 3) := by decide +kernel
theorem dX3_followPath_42 : decode cX3_followPath 42 = .ok (.putfield 156, 3) := by decide +kernel
theorem dX3_followPath_45 : decode cX3_followPath 45 = .ok (.return_, 1) := by decide +kernel
theorem dX3_makeMoves_0 : decode cX3_makeMoves 0 = .ok (.aload_n 0, 1) := by decide +kernel
theorem dX3_makeMoves_1 : decode cX3_makeMoves 1 = .ok (.getfield 36, 3) := by decide +kernel
theorem dX3_makeMoves_4 : decode cX3_makeMoves 4 = .ok (.invokevirtual 204, 3) := by decide +kernel
theorem dX3_makeMoves_7 : decode cX3_makeMoves 7 = .ok (.iconst 1, 1) := by decide +kernel
theorem dX3_makeMoves_8 : decode cX3_makeMoves 8 = .ok (.isub, 1) := by decide +kernel
theorem dX3_makeMoves_9 : decode cX3_makeMoves 9 = .ok (.istore_n 1, 1) := by decide +kernel
theorem dX3_makeMoves_10 : decode cX3_makeMoves 10 = .ok (.iload_n 1, 1) := by decide +kernel
theorem dX3_makeMoves_11 : decode cX3_makeMoves 11 = .ok (.ifCond .lt 50, 3) := by decide +kernel
theorem dX3_makeMoves_14 : decode cX3_makeMoves 14 = .ok (.aload_n 0, 1) := by decide +kernel
theorem dX3_makeMoves_15 : decode cX3_makeMoves 15 = .ok (.getfield 36, 3) := by decide +kernel
theorem dX3_makeMoves_18 : decode cX3_makeMoves 18 = .ok (.iload_n 1, 1) := by decide +kernel
theorem dX3_makeMoves_19 : decode cX3_makeMoves 19 = .ok (.invokevirtual 205, 3) := by decide +kernel
theorem dX3_makeMoves_22 : decode cX3_makeMoves 22 = .ok (.istore_n 2, 1) := by decide +kernel
theorem dX3_makeMoves_23 : decode cX3_makeMoves 23 = .ok (.aload_n 0, 1) := by decide +kernel
theorem dX3_makeMoves_24 : decode cX3_makeMoves 24 = .ok (.getfield 16, 3) := by decide +kernel
theorem dX3_makeMoves_27 : decode cX3_makeMoves 27 = .ok (.iload_n 2, 1) := by decide +kernel
theorem dX3_makeMoves_28 : decode cX3_makeMoves 28 = .ok (.aload_n 0, 1) := by decide +kernel
theorem dX3_makeMoves_29 : decode cX3_makeMoves 29 = .ok (.getfield 36, 3) := by decide +kernel
theorem dX3_makeMoves_32 : decode cX3_makeMoves 32 = .ok (.iload_n 1, 1) := by decide +kernel
theorem dX3_makeMoves_33 : decode cX3_makeMoves 33 = .ok (.invokevirtual 208, 3) := by decide +kernel
theorem dX3_makeMoves_36 : decode cX3_makeMoves 36 = .ok (.aload_n 0, 1) := by decide +kernel
theorem dX3_makeMoves_37 : decode cX3_makeMoves 37 = .ok (.getfield 36, 3) := by decide +kernel
theorem dX3_makeMoves_40 : decode cX3_makeMoves 40 = .ok (.iload_n 1, 1) := by decide +kernel
theorem dX3_makeMoves_41 : decode cX3_makeMoves 41 = .ok (.invokevirtual 209, 3) := by decide +kernel
theorem dX3_makeMoves_44 : decode cX3_makeMoves 44 = .ok (.invokevirtual 210, 3) := by decide +kernel
theorem dX3_makeMoves_47 : decode cX3_makeMoves 47 = .ok (.aload_n 0, 1) := by decide +kernel
theorem dX3_makeMoves_48 : decode cX3_makeMoves 48 = .ok (.iload_n 2, 1) := by decide +kernel
theorem dX3_makeMoves_49 : decode cX3_makeMoves 49 = .ok (.invokestatic 93, 3) := by decide +kernel
theorem dX3_makeMoves_52 : decode cX3_makeMoves 52 = .ok (.invokevirtual 96, 3) := by decide +kernel
theorem dX3_makeMoves_55 : decode cX3_makeMoves 55 = .ok (.iinc 1 (-1), 3) := by decide +kernel
theorem dX3_makeMoves_58 : decode cX3_makeMoves 58 = .ok (.goto (-48), 3) := by decide +kernel
theorem dX3_makeMoves_61 : decode cX3_makeMoves 61 = .ok (.return_, 1) := by decide +kernel
theorem dX3_fillTrial_0 : decode cX3_fillTrial 0 = .ok (.aload_n 0, 1) := by decide +kernel
theorem dX3_fillTrial_1 : decode cX3_fillTrial 1 = .ok (.getfield 23, 3) := by decide +kernel
theorem dX3_fillTrial_4 : decode cX3_fillTrial 4 = .ok (.invokevirtual 213, 3) := by decide +kernel
theorem dX3_fillTrial_7 : decode cX3_fillTrial 7 = .ok (.aload_n 0, 1) := by decide +kernel
theorem dX3_fillTrial_8 : decode cX3_fillTrial 8 = .ok (.getfield 23, 3) := by decide +kernel
theorem dX3_fillTrial_11 : decode cX3_fillTrial 11 = .ok (.iconst 1, 1) := by decide +kernel
theorem dX3_fillTrial_12 : decode cX3_fillTrial 12 = .ok (.aload_n 0, 1) := by decide +kernel
theorem dX3_fillTrial_13 : decode cX3_fillTrial 13 = .ok (.getfield 16, 3) := by decide +kernel
theorem dX3_fillTrial_16 : decode cX3_fillTrial 16 = .ok (.invokevirtual 150, 3) := by decide +kernel
theorem dX3_fillTrial_19 : decode cX3_fillTrial 19 = .ok (.isub, 1) := by decide +kernel
theorem dX3_fillTrial_20 : decode cX3_fillTrial 20 = .ok (.iload_n 1, 1) := by decide +kernel
theorem dX3_fillTrial_21 : decode cX3_fillTrial 21 = .ok (.invokevirtual 216, 3) := by decide +kernel
theorem dX3_fillTrial_24 : decode cX3_fillTrial 24 = .ok (.aload_n 0, 1) := by decide +kernel
theorem dX3_fillTrial_25 : decode cX3_fillTrial 25 = .ok (.aload_n 0, 1) := by decide +kernel
theorem dX3_fillTrial_26 : decode cX3_fillTrial 26 = .ok (.getfield 23, 3) := by decide +kernel
theorem dX3_fillTrial_29 : decode cX3_fillTrial 29 = .ok (.invokevirtual 56, 3) := by decide +kernel
theorem dX3_fillTrial_32 : decode cX3_fillTrial 32 = .ok (.istore 4, 2) := by decide +kernel
theorem dX3_fillTrial_34 : decode cX3_fillTrial 34 = .ok (.aload_n 0, 1) := by decide +kernel
theorem dX3_fillTrial_35 : decode cX3_fillTrial 35 = .ok (.getfield 16, 3) := by decide +kernel
theorem dX3_fillTrial_38 : decode cX3_fillTrial 38 = .ok (.iconst 0, 1) := by decide +kernel
theorem dX3_fillTrial_39 : decode cX3_fillTrial 39 = .ok (.invokevirtual 123, 3) := by decide +kernel
theorem dX3_fillTrial_42 : decode cX3_fillTrial 42 = .ok (.iconst 0, 1) := by decide +kernel
theorem dX3_fillTrial_43 : decode cX3_fillTrial 43 = .ok (.invokestatic 126, 3) := by decide +kernel
theorem dX3_fillTrial_46 : decode cX3_fillTrial 46 = .ok (.istore 5, 2) := by decide +kernel
theorem dX3_fillTrial_48 : decode cX3_fillTrial 48 = .ok (.iconst 0, 1) := by decide +kernel
theorem dX3_fillTrial_49 : decode cX3_fillTrial 49 = .ok (.istore 6, 2) := by decide +kernel
theorem dX3_fillTrial_51 : decode cX3_fillTrial 51 = .ok (.iload 6, 2) := by decide +kernel
theorem dX3_fillTrial_53 : decode cX3_fillTrial 53 = .ok (.bipush 36, 2) := by decide +kernel
theorem dX3_fillTrial_55 : decode cX3_fillTrial 55 = .ok (.if_icmp .ge 74, 3) := by decide +kernel
theorem dX3_fillTrial_58 : decode cX3_fillTrial 58 = .ok (.iload 5, 2) := by decide +kernel
theorem dX3_fillTrial_60 : decode cX3_fillTrial 60 = .ok (.iload 6, 2) := by decide +kernel
theorem dX3_fillTrial_62 : decode cX3_fillTrial 62 = .ok (.iadd, 1) := by decide +kernel
theorem dX3_fillTrial_63 : decode cX3_fillTrial 63 = .ok (.istore 7, 2) := by decide +kernel
theorem dX3_fillTrial_65 : decode cX3_fillTrial 65 = .ok (.aload_n 0, 1) := by decide +kernel
theorem dX3_fillTrial_66 : decode cX3_fillTrial 66 = .ok (.getfield 16, 3) := by decide +kernel
theorem dX3_fillTrial_69 : decode cX3_fillTrial 69 = .ok (.iload 7, 2) := by decide +kernel
theorem dX3_fillTrial_71 : decode cX3_fillTrial 71 = .ok (.invokevirtual 129, 3) := by decide +kernel
theorem dX3_fillTrial_74 : decode cX3_fillTrial 74 = .ok (.ifCond .eq 49, 3) := by decide +kernel
theorem dX3_fillTrial_77 : decode cX3_fillTrial 77 = .ok (.aload_n 0, 1) := by decide +kernel
theorem dX3_fillTrial_78 : decode cX3_fillTrial 78 = .ok (.aload_n 0, 1) := by decide +kernel
theorem dX3_fillTrial_79 : decode cX3_fillTrial 79 = .ok (.getfield 23, 3) := by decide +kernel
theorem dX3_fillTrial_82 : decode cX3_fillTrial 82 = .ok (.iload 4, 2) := by decide +kernel
theorem dX3_fillTrial_84 : decode cX3_fillTrial 84 = .ok (.aload_n 0, 1) := by decide +kernel
theorem dX3_fillTrial_85 : decode cX3_fillTrial 85 = .ok (.getfield 16, 3) := by decide +kernel
theorem dX3_fillTrial_88 : decode cX3_fillTrial 88 = .ok (.iload 7, 2) := by decide +kernel
theorem dX3_fillTrial_90 : decode cX3_fillTrial 90 = .ok (.invokevirtual 133, 3) := by decide +kernel
theorem dX3_fillTrial_93 : decode cX3_fillTrial 93 = .ok (.aload_n 0, 1) := by decide +kernel
theorem dX3_fillTrial_94 : decode cX3_fillTrial 94 = .ok (.getfield 16, 3) := by decide +kernel
theorem dX3_fillTrial_97 : decode cX3_fillTrial 97 = .ok (.iload 7, 2) := by decide +kernel
end
section
theorem dX3_fillTrial_99 : decode cX3_fillTrial 99 = .ok (.invokevirtual 85, 3) := by decide +kernel
theorem dX3_fillTrial_102 : decode cX3_fillTrial 102 = .ok (.invokevirtual 60, 3) := by decide +kernel
theorem dX3_fillTrial_105 : decode cX3_fillTrial 105 = .ok (.bipush (-2), 2) := by decide +kernel
theorem dX3_fillTrial_107 : decode cX3_fillTrial 107 = .ok (.if_icmp .ne 5, 3) := by decide +kernel
theorem dX3_fillTrial_110 : decode cX3_fillTrial 110 = .ok (.iconst 0, 1) := by decide +kernel
theorem dX3_fillTrial_111 : decode cX3_fillTrial 111 = .ok (.ireturn, 1) := by decide +kernel
theorem dX3_fillTrial_112 : decode cX3_fillTrial 112 = .ok (.aload_n 0, 1) := by decide +kernel
theorem dX3_fillTrial_113 : decode cX3_fillTrial 113 = .ok (.getfield 23, 3) := by decide +kernel
theorem dX3_fillTrial_116 : decode cX3_fillTrial 116 = .ok (.aload_n 0, 1) := by decide +kernel
theorem dX3_fillTrial_117 : decode cX3_fillTrial 117 = .ok (.getfield 36, 3) := by decide +kernel
theorem dX3_fillTrial_120 : decode cX3_fillTrial 120 = .ok (.invokevirtual 220, 3) := by decide +kernel
theorem dX3_fillTrial_123 : decode cX3_fillTrial 123 = .ok (.iinc 6 1, 3) := by decide +kernel
theorem dX3_fillTrial_126 : decode cX3_fillTrial 126 = .ok (.goto (-75), 3) := by decide +kernel
theorem dX3_fillTrial_129 : decode cX3_fillTrial 129 = .ok (.aload_n 0, 1) := by decide +kernel
theorem dX3_fillTrial_130 : decode cX3_fillTrial 130 = .ok (.aload_n 0, 1) := by decide +kernel
theorem dX3_fillTrial_131 : decode cX3_fillTrial 131 = .ok (.getfield 23, 3) := by decide +kernel
theorem dX3_fillTrial_134 : decode cX3_fillTrial 134 = .ok (.iload 4, 2) := by decide +kernel
theorem dX3_fillTrial_136 : decode cX3_fillTrial 136 = .ok (.iload_n 2, 1) := by decide +kernel
theorem dX3_fillTrial_137 : decode cX3_fillTrial 137 = .ok (.iload_n 3, 1) := by decide +kernel
theorem dX3_fillTrial_138 : decode cX3_fillTrial 138 = .ok (.invokevirtual 60, 3) := by decide +kernel
theorem dX3_fillTrial_141 : decode cX3_fillTrial 141 = .ok (.bipush (-2), 2) := by decide +kernel
theorem dX3_fillTrial_143 : decode cX3_fillTrial 143 = .ok (.if_icmp .ne 5, 3) := by decide +kernel
theorem dX3_fillTrial_146 : decode cX3_fillTrial 146 = .ok (.iconst 0, 1) := by decide +kernel
theorem dX3_fillTrial_147 : decode cX3_fillTrial 147 = .ok (.ireturn, 1) := by decide +kernel
theorem dX3_fillTrial_148 : decode cX3_fillTrial 148 = .ok (.aload_n 0, 1) := by decide +kernel
theorem dX3_fillTrial_149 : decode cX3_fillTrial 149 = .ok (.getfield 23, 3) := by decide +kernel
theorem dX3_fillTrial_152 : decode cX3_fillTrial 152 = .ok (.aload_n 0, 1) := by decide +kernel
theorem dX3_fillTrial_153 : decode cX3_fillTrial 153 = .ok (.getfield 36, 3) := by decide +kernel
theorem dX3_fillTrial_156 : decode cX3_fillTrial 156 = .ok (.invokevirtual 220, 3) := by decide +kernel
theorem dX3_fillTrial_159 : decode cX3_fillTrial 159 = .ok (.iconst 1, 1) := by decide +kernel
theorem dX3_fillTrial_160 : decode cX3_fillTrial 160 = .ok (.ireturn, 1) := by decide +kernel
theorem dX3_takeTrial_0 : decode cX3_takeTrial 0 = .ok (.iconst 0, 1) := by decide +kernel
theorem dX3_takeTrial_1 : decode cX3_takeTrial 1 = .ok (.istore_n 1, 1) := by decide +kernel
theorem dX3_takeTrial_2 : decode cX3_takeTrial 2 = .ok (.iload_n 1, 1) := by decide +kernel
theorem dX3_takeTrial_3 : decode cX3_takeTrial 3 = .ok (.bipush 9, 2) := by decide +kernel
theorem dX3_takeTrial_5 : decode cX3_takeTrial 5 = .ok (.if_icmp .ge 35, 3) := by decide +kernel
theorem dX3_takeTrial_8 : decode cX3_takeTrial 8 = .ok (.aload_n 0, 1) := by decide +kernel
theorem dX3_takeTrial_9 : decode cX3_takeTrial 9 = .ok (.getfield 23, 3) := by decide +kernel
theorem dX3_takeTrial_12 : decode cX3_takeTrial 12 = .ok (.iload_n 1, 1) := by decide +kernel
theorem dX3_takeTrial_13 : decode cX3_takeTrial 13 = .ok (.invokevirtual 123, 3) := by decide +kernel
theorem dX3_takeTrial_16 : decode cX3_takeTrial 16 = .ok (.istore_n 2, 1) := by decide +kernel
theorem dX3_takeTrial_17 : decode cX3_takeTrial 17 = .ok (.aload_n 0, 1) := by decide +kernel
theorem dX3_takeTrial_18 : decode cX3_takeTrial 18 = .ok (.getfield 16, 3) := by decide +kernel
theorem dX3_takeTrial_21 : decode cX3_takeTrial 21 = .ok (.aload_n 0, 1) := by decide +kernel
theorem dX3_takeTrial_22 : decode cX3_takeTrial 22 = .ok (.getfield 23, 3) := by decide +kernel
theorem dX3_takeTrial_25 : decode cX3_takeTrial 25 = .ok (.iload_n 2, 1) := by decide +kernel
theorem dX3_takeTrial_26 : decode cX3_takeTrial 26 = .ok (.invokevirtual 223, 3) := by decide +kernel
theorem dX3_takeTrial_29 : decode cX3_takeTrial 29 = .ok (.aload_n 0, 1) := by decide +kernel
theorem dX3_takeTrial_30 : decode cX3_takeTrial 30 = .ok (.iload_n 2, 1) := by decide +kernel
theorem dX3_takeTrial_31 : decode cX3_takeTrial 31 = .ok (.invokevirtual 96, 3) := by decide +kernel
theorem dX3_takeTrial_34 : decode cX3_takeTrial 34 = .ok (.iinc 1 1, 3) := by decide +kernel
theorem dX3_takeTrial_37 : decode cX3_takeTrial 37 = .ok (.goto (-35), 3) := by decide +kernel
theorem dX3_takeTrial_40 : decode cX3_takeTrial 40 = .ok (.aload_n 0, 1) := by decide +kernel
theorem dX3_takeTrial_41 : decode cX3_takeTrial 41 = .ok (.getfield 16, 3) := by decide +kernel
theorem dX3_takeTrial_44 : decode cX3_takeTrial 44 = .ok (.aload_n 0, 1) := by decide +kernel
theorem dX3_takeTrial_45 : decode cX3_takeTrial 45 = .ok (.getfield 23, 3) := by decide +kernel
theorem dX3_takeTrial_48 : decode cX3_takeTrial 48 = .ok (.bipush 18, 2) := by decide +kernel
theorem dX3_takeTrial_50 : decode cX3_takeTrial 50 = .ok (.invokevirtual 223, 3) := by decide +kernel
theorem dX3_takeTrial_53 : decode cX3_takeTrial 53 = .ok (.aload_n 0, 1) := by decide +kernel
theorem dX3_takeTrial_54 : decode cX3_takeTrial 54 = .ok (.bipush 18, 2) := by decide +kernel
theorem dX3_takeTrial_56 : decode cX3_takeTrial 56 = .ok (.invokevirtual 96, 3) := by decide +kernel
theorem dX3_takeTrial_59 : decode cX3_takeTrial 59 = .ok (.aload_n 0, 1) := by decide +kernel
theorem dX3_takeTrial_60 : decode cX3_takeTrial 60 = .ok (.dup, 1) := by decide +kernel
theorem dX3_takeTrial_61 : decode cX3_takeTrial 61 = .ok (.getfield 153, 3) := by decide +kernel
theorem dX3_takeTrial_64 : decode cX3_takeTrial 64 = .ok (.iconst 1, 1) := by decide +kernel
theorem dX3_takeTrial_65 : decode cX3_takeTrial 65 = .ok (.iadd, 1) := by decide +kernel
theorem dX3_takeTrial_66 : decode cX3_takeTrial 66 = .ok (.putfield 153, 3) := by decide +kernel
theorem dX3_takeTrial_69 : decode cX3_takeTrial 69 = .ok (.return_, 1) := by decide +kernel
theorem dX3_write_0 : decode cX3_write 0 = .ok (.aload_n 0, 1) := by decide +kernel
theorem dX3_write_1 : decode cX3_write 1 = .ok (.getfield 29, 3) := by decide +kernel
theorem dX3_write_4 : decode cX3_write 4 = .ok (.invokevirtual 99, 3) := by decide +kernel
theorem dX3_write_7 : decode cX3_write 7 = .ok (.bipush 40, 2) := by decide +kernel
theorem dX3_write_9 : decode cX3_write 9 = .ok (.if_icmp .lt 16, 3) := by decide +kernel
theorem dX3_write_12 : decode cX3_write 12 = .ok (.aload_n 0, 1) := by decide +kernel
theorem dX3_write_13 : decode cX3_write 13 = .ok (.getfield 29, 3) := by decide +kernel
theorem dX3_write_16 : decode cX3_write 16 = .ok (.bipush 40, 2) := by decide +kernel
theorem dX3_write_18 : decode cX3_write 18 = .ok (.aload_n 0, 1) := by decide +kernel
theorem dX3_write_19 : decode cX3_write 19 = .ok (.getfield 20, 3) := by decide +kernel
theorem dX3_write_22 : decode cX3_write 22 = .ok (.invokevirtual 102, 3) := by decide +kernel
theorem dX3_write_25 : decode cX3_write 25 = .ok (.aload_n 0, 1) := by decide +kernel
theorem dX3_write_26 : decode cX3_write 26 = .ok (.getfield 29, 3) := by decide +kernel
theorem dX3_write_29 : decode cX3_write 29 = .ok (.aload_n 0, 1) := by decide +kernel
theorem dX3_write_30 : decode cX3_write 30 = .ok (.getfield 16, 3) := by decide +kernel
theorem dX3_write_33 : decode cX3_write 33 = .ok (.iload_n 1, 1) := by decide +kernel
theorem dX3_write_34 : decode cX3_write 34 = .ok (.invokevirtual 227, 3) := by decide +kernel
theorem dX3_write_37 : decode cX3_write 37 = .ok (.aload_n 0, 1) := by decide +kernel
theorem dX3_write_38 : decode cX3_write 38 = .ok (.dup, 1) := by decide +kernel
theorem dX3_write_39 : decode cX3_write 39 = .ok (.getfield 47, 3) := by decide +kernel
theorem dX3_write_42 : decode cX3_write 42 = .ok (.iconst 1, 1) := by decide +kernel
theorem dX3_write_43 : decode cX3_write 43 = .ok (.iadd, 1) := by decide +kernel
theorem dX3_write_44 : decode cX3_write 44 = .ok (.putfield 47, 3) := by decide +kernel
theorem dX3_write_47 : decode cX3_write 47 = .ok (.return_, 1) := by decide +kernel
theorem dX3_recover_0 : decode cX3_recover 0 = .ok (.aload_n 0, 1) := by decide +kernel
theorem dX3_recover_1 : decode cX3_recover 1 = .ok (.getfield 36, 3) := by decide +kernel
theorem dX3_recover_4 : decode cX3_recover 4 = .ok (.aload_n 0, 1) := by decide +kernel
theorem dX3_recover_5 : decode cX3_recover 5 = .ok (.getfield 20, 3) := by decide +kernel
theorem dX3_recover_8 : decode cX3_recover 8 = .ok (.invokevirtual 229, 3) := by decide +kernel
theorem dX3_recover_11 : decode cX3_recover 11 = .ok (.aload_n 0, 1) := by decide +kernel
theorem dX3_recover_12 : decode cX3_recover 12 = .ok (.getfield 20, 3) := by decide +kernel
theorem dX3_recover_15 : decode cX3_recover 15 = .ok (.aload_n 0, 1) := by decide +kernel
theorem dX3_recover_16 : decode cX3_recover 16 = .ok (.getfield 36, 3) := by decide +kernel
theorem dX3_recover_19 : decode cX3_recover 19 = .ok (.invokevirtual 220, 3) := by decide +kernel
theorem dX3_recover_22 : decode cX3_recover 22 = .ok (.aload_n 0, 1) := by decide +kernel
theorem dX3_recover_23 : decode cX3_recover 23 = .ok (.getfield 20, 3) := by decide +kernel
theorem dX3_recover_26 : decode cX3_recover 26 = .ok (.invokevirtual 201, 3) := by decide +kernel
theorem dX3_recover_29 : decode cX3_recover 29 = .ok (.aload_n 0, 1) := by decide +kernel
theorem dX3_recover_30 : decode cX3_recover 30 = .ok (.aload_n 0, 1) := by decide +kernel
theorem dX3_recover_31 : decode cX3_recover 31 = .ok (.getfield 36, 3) := by decide +kernel
theorem dX3_recover_34 : decode cX3_recover 34 = .ok (.invokevirtual 204, 3) := by decide +kernel
theorem dX3_recover_37 : decode cX3_recover 37 = .ok (.putfield 159, 3) := by decide +kernel
theorem dX3_recover_40 : decode cX3_recover 40 = .ok (.iconst 0, 1) := by decide +kernel
theorem dX3_recover_41 : decode cX3_recover 41 = .ok (.istore_n 1, 1) := by decide +kernel
theorem dX3_recover_42 : decode cX3_recover 42 = .ok (.iload_n 1, 1) := by decide +kernel
theorem dX3_recover_43 : decode cX3_recover 43 = .ok (.bipush 20, 2) := by decide +kernel
theorem dX3_recover_45 : decode cX3_recover 45 = .ok (.if_icmp .ge 21, 3) := by decide +kernel
theorem dX3_recover_48 : decode cX3_recover 48 = .ok (.aload_n 0, 1) := by decide +kernel
theorem dX3_recover_49 : decode cX3_recover 49 = .ok (.getfield 16, 3) := by decide +kernel
theorem dX3_recover_52 : decode cX3_recover 52 = .ok (.aload_n 0, 1) := by decide +kernel
theorem dX3_recover_53 : decode cX3_recover 53 = .ok (.getfield 20, 3) := by decide +kernel
theorem dX3_recover_56 : decode cX3_recover 56 = .ok (.iload_n 1, 1) := by decide +kernel
theorem dX3_recover_57 : decode cX3_recover 57 = .ok (.invokevirtual 223, 3) := by decide +kernel
theorem dX3_recover_60 : decode cX3_recover 60 = .ok (.iinc 1 1, 3) := by decide +kernel
theorem dX3_recover_63 : decode cX3_recover 63 = .ok (.goto (-21), 3) := by decide +kernel
theorem dX3_recover_66 : decode cX3_recover 66 = .ok (.return_, 1) := by decide +kernel
theorem dX3_placeOf_0 : decode cX3_placeOf 0 = .ok (.iload_n 0, 1) := by decide +kernel
theorem dX3_placeOf_1 : decode cX3_placeOf 1 = .ok (.iconst 4, 1) := by decide +kernel
theorem dX3_placeOf_2 : decode cX3_placeOf 2 = .ok (.imul, 1) := by decide +kernel
theorem dX3_placeOf_3 : decode cX3_placeOf 3 = .ok (.iload_n 1, 1) := by decide +kernel
theorem dX3_placeOf_4 : decode cX3_placeOf 4 = .ok (.iadd, 1) := by decide +kernel
theorem dX3_placeOf_5 : decode cX3_placeOf 5 = .ok (.ireturn, 1) := by decide +kernel
theorem dX3_rowOf_0 : decode cX3_rowOf 0 = .ok (.iload_n 0, 1) := by decide +kernel
theorem dX3_rowOf_1 : decode cX3_rowOf 1 = .ok (.iconst 4, 1) := by decide +kernel
theorem dX3_rowOf_2 : decode cX3_rowOf 2 = .ok (.idiv, 1) := by decide +kernel
theorem dX3_rowOf_3 : decode cX3_rowOf 3 = .ok (.ireturn, 1) := by decide +kernel
theorem dX3_columnOf_0 : decode cX3_columnOf 0 = .ok (.iload_n 0, 1) := by decide +kernel
theorem dX3_columnOf_1 : decode cX3_columnOf 1 = .ok (.iconst 4, 1) := by decide +kernel
theorem dX3_columnOf_2 : decode cX3_columnOf 2 = .ok (.irem, 1) := by decide +kernel
theorem dX3_columnOf_3 : decode cX3_columnOf 3 = .ok (.iconst 3, 1) := by decide +kernel
theorem dX3_columnOf_4 : decode cX3_columnOf 4 = .ok (.imul, 1) := by decide +kernel
theorem dX3_columnOf_5 : decode cX3_columnOf 5 = .ok (.ireturn, 1) := by decide +kernel
theorem dX3_cellAt_0 : decode cX3_cellAt 0 = .ok (.iload_n 1, 1) := by decide +kernel
theorem dX3_cellAt_1 : decode cX3_cellAt 1 = .ok (.bipush 22, 2) := by decide +kernel
theorem dX3_cellAt_3 : decode cX3_cellAt 3 = .ok (.imul, 1) := by decide +kernel
theorem dX3_cellAt_4 : decode cX3_cellAt 4 = .ok (.iload_n 2, 1) := by decide +kernel
theorem dX3_cellAt_5 : decode cX3_cellAt 5 = .ok (.iadd, 1) := by decide +kernel
theorem dX3_cellAt_6 : decode cX3_cellAt 6 = .ok (.istore_n 3, 1) := by decide +kernel
theorem dX3_cellAt_7 : decode cX3_cellAt 7 = .ok (.iload_n 3, 1) := by decide +kernel
theorem dX3_cellAt_8 : decode cX3_cellAt 8 = .ok (.ifCond .lt 15, 3) := by decide +kernel
theorem dX3_cellAt_11 : decode cX3_cellAt 11 = .ok (.iload_n 3, 1) := by decide +kernel
theorem dX3_cellAt_12 : decode cX3_cellAt 12 = .ok (.aload_n 0, 1) := by decide +kernel
theorem dX3_cellAt_13 : decode cX3_cellAt 13 = .ok (.arraylength, 1) := by decide +kernel
theorem dX3_cellAt_14 : decode cX3_cellAt 14 = .ok (.if_icmp .ge 9, 3) := by decide +kernel
theorem dX3_cellAt_17 : decode cX3_cellAt 17 = .ok (.aload_n 0, 1) := by decide +kernel
theorem dX3_cellAt_18 : decode cX3_cellAt 18 = .ok (.iload_n 3, 1) := by decide +kernel
theorem dX3_cellAt_19 : decode cX3_cellAt 19 = .ok (.iaload, 1) := by decide +kernel
theorem dX3_cellAt_20 : decode cX3_cellAt 20 = .ok (.goto 4, 3) := by decide +kernel
theorem dX3_cellAt_23 : decode cX3_cellAt 23 = .ok (.iconst 0, 1) := by decide +kernel
theorem dX3_cellAt_24 : decode cX3_cellAt 24 = .ok (.ireturn, 1) := by decide +kernel
theorem dX3_tellCell_0 : decode cX3_tellCell 0 = .ok (.iload_n 1, 1) := by decide +kernel
theorem dX3_tellCell_1 : decode cX3_tellCell 1 = .ok (.bipush 22, 2) := by decide +kernel
theorem dX3_tellCell_3 : decode cX3_tellCell 3 = .ok (.imul, 1) := by decide +kernel
theorem dX3_tellCell_4 : decode cX3_tellCell 4 = .ok (.iload_n 2, 1) := by decide +kernel
theorem dX3_tellCell_5 : decode cX3_tellCell 5 = .ok (.iadd, 1) := by decide +kernel
theorem dX3_tellCell_6 : decode cX3_tellCell 6 = .ok (.istore 4, 2) := by decide +kernel
theorem dX3_tellCell_8 : decode cX3_tellCell 8 = .ok (.iload 4, 2) := by decide +kernel
theorem dX3_tellCell_10 : decode cX3_tellCell 10 = .ok (.ifCond .lt 15, 3) := by decide +kernel
theorem dX3_tellCell_13 : decode cX3_tellCell 13 = .ok (.iload 4, 2) := by decide +kernel
theorem dX3_tellCell_15 : decode cX3_tellCell 15 = .ok (.aload_n 0, 1) := by decide +kernel
theorem dX3_tellCell_16 : decode cX3_tellCell 16 = .ok (.arraylength, 1) := by decide +kernel
theorem dX3_tellCell_17 : decode cX3_tellCell 17 = .ok (.if_icmp .ge 8, 3) := by decide +kernel
theorem dX3_tellCell_20 : decode cX3_tellCell 20 = .ok (.aload_n 0, 1) := by decide +kernel
theorem dX3_tellCell_21 : decode cX3_tellCell 21 = .ok (.iload 4, 2) := by decide +kernel
theorem dX3_tellCell_23 : decode cX3_tellCell 23 = .ok (.iload_n 3, 1) := by decide +kernel
theorem dX3_tellCell_24 : decode cX3_tellCell 24 = .ok (.iastore, 1) := by decide +kernel
theorem dX3_tellCell_25 : decode cX3_tellCell 25 = .ok (.return_, 1) := by decide +kernel
theorem dX3_copyRow_0 : decode cX3_copyRow 0 = .ok (.iload_n 1, 1) := by decide +kernel
theorem dX3_copyRow_1 : decode cX3_copyRow 1 = .ok (.bipush 22, 2) := by decide +kernel
theorem dX3_copyRow_3 : decode cX3_copyRow 3 = .ok (.imul, 1) := by decide +kernel
theorem dX3_copyRow_4 : decode cX3_copyRow 4 = .ok (.istore 4, 2) := by decide +kernel
theorem dX3_copyRow_6 : decode cX3_copyRow 6 = .ok (.iload_n 3, 1) := by decide +kernel
theorem dX3_copyRow_7 : decode cX3_copyRow 7 = .ok (.bipush 22, 2) := by decide +kernel
theorem dX3_copyRow_9 : decode cX3_copyRow 9 = .ok (.imul, 1) := by decide +kernel
theorem dX3_copyRow_10 : decode cX3_copyRow 10 = .ok (.istore 5, 2) := by decide +kernel
theorem dX3_copyRow_12 : decode cX3_copyRow 12 = .ok (.iload 4, 2) := by decide +kernel
theorem dX3_copyRow_14 : decode cX3_copyRow 14 = .ok (.ifCond .lt 39, 3) := by decide +kernel
theorem dX3_copyRow_17 : decode cX3_copyRow 17 = .ok (.iload 4, 2) := by decide +kernel
theorem dX3_copyRow_19 : decode cX3_copyRow 19 = .ok (.aload_n 0, 1) := by decide +kernel
theorem dX3_copyRow_20 : decode cX3_copyRow 20 = .ok (.arraylength, 1) := by decide +kernel
theorem dX3_copyRow_21 : decode cX3_copyRow 21 = .ok (.bipush 22, 2) := by decide +kernel
theorem dX3_copyRow_23 : decode cX3_copyRow 23 = .ok (.isub, 1) := by decide +kernel
theorem dX3_copyRow_24 : decode cX3_copyRow 24 = .ok (.if_icmp .gt 29, 3) := by decide +kernel
theorem dX3_copyRow_27 : decode cX3_copyRow 27 = .ok (.iload 5, 2) := by decide +kernel
theorem dX3_copyRow_29 : decode cX3_copyRow 29 = .ok (.ifCond .lt 24, 3) := by decide +kernel
theorem dX3_copyRow_32 : decode cX3_copyRow 32 = .ok (.iload 5, 2) := by decide +kernel
theorem dX3_copyRow_34 : decode cX3_copyRow 34 = .ok (.aload_n 2, 1) := by decide +kernel
theorem dX3_copyRow_35 : decode cX3_copyRow 35 = .ok (.arraylength, 1) := by decide +kernel
theorem dX3_copyRow_36 : decode cX3_copyRow 36 = .ok (.bipush 22, 2) := by decide +kernel
theorem dX3_copyRow_38 : decode cX3_copyRow 38 = .ok (.isub, 1) := by decide +kernel
theorem dX3_copyRow_39 : decode cX3_copyRow 39 = .ok (.if_icmp .gt 14, 3) := by decide +kernel
theorem dX3_copyRow_42 : decode cX3_copyRow 42 = .ok (.aload_n 0, 1) := by decide +kernel
theorem dX3_copyRow_43 : decode cX3_copyRow 43 = .ok (.iload 4, 2) := by decide +kernel
theorem dX3_copyRow_45 : decode cX3_copyRow 45 = .ok (.aload_n 2, 1) := by decide +kernel
theorem dX3_copyRow_46 : decode cX3_copyRow 46 = .ok (.iload 5, 2) := by decide +kernel
theorem dX3_copyRow_48 : decode cX3_copyRow 48 = .ok (.bipush 22, 2) := by decide +kernel
theorem dX3_copyRow_50 : decode cX3_copyRow 50 = .ok (.invokestatic 233, 3) := by decide +kernel
theorem dX3_copyRow_53 : decode cX3_copyRow 53 = .ok (.return_, 1) := by decide +kernel
theorem dX4_init_0 : decode cX4_init 0 = .ok (.aload_n 0, 1) := by decide +kernel
theorem dX4_init_1 : decode cX4_init 1 = .ok (.invokespecial 1, 3) := by decide +kernel
theorem dX4_init_4 : decode cX4_init 4 = .ok (.aload_n 0, 1) := by decide +kernel
theorem dX4_init_5 : decode cX4_init 5 = .ok (.bipush 108, 2) := by decide +kernel
theorem dX4_init_7 : decode cX4_init 7 = .ok (.newarray .boolean, 2) := by decide +kernel
theorem dX4_init_9 : decode cX4_init 9 = .ok (.putfield 7, 3) := by decide +kernel
theorem dX4_init_12 : decode cX4_init 12 = .ok (.aload_n 0, 1) := by decide +kernel
theorem dX4_init_13 : decode cX4_init 13 = .ok (.bipush 108, 2) := by decide +kernel
theorem dX4_init_15 : decode cX4_init 15 = .ok (.newarray .int, 2) := by decide +kernel
theorem dX4_init_17 : decode cX4_init 17 = .ok (.putfield 13, 3) := by decide +kernel
theorem dX4_init_20 : decode cX4_init 20 = .ok (.aload_n 0, 1) := by decide +kernel
theorem dX4_init_21 : decode cX4_init 21 = .ok (.bipush 108, 2) := by decide +kernel
theorem dX4_init_23 : decode cX4_init 23 = .ok (.newarray .int, 2) := by decide +kernel
theorem dX4_init_25 : decode cX4_init 25 = .ok (.putfield 17, 3) := by decide +kernel
theorem dX4_init_28 : decode cX4_init 28 = .ok (.aload_n 0, 1) := by decide +kernel
theorem dX4_init_29 : decode cX4_init 29 = .ok (.iconst 4, 1) := by decide +kernel
theorem dX4_init_30 : decode cX4_init 30 = .ok (.newarray .int, 2) := by decide +kernel
theorem dX4_init_32 : decode cX4_init 32 = .ok (.putfield 20, 3) := by decide +kernel
theorem dX4_init_35 : decode cX4_init 35 = .ok (.aload_n 0, 1) := by decide +kernel
theorem dX4_init_36 : decode cX4_init 36 = .ok (.bipush 8, 2) := by decide +kernel
theorem dX4_init_38 : decode cX4_init 38 = .ok (.newarray .int, 2) := by decide +kernel
theorem dX4_init_40 : decode cX4_init 40 = .ok (.putfield 23, 3) := by decide +kernel
theorem dX4_init_43 : decode cX4_init 43 = .ok (.aload_n 0, 1) := by decide +kernel
theorem dX4_init_44 : decode cX4_init 44 = .ok (.bipush 8, 2) := by decide +kernel
theorem dX4_init_46 : decode cX4_init 46 = .ok (.newarray .int, 2) := by decide +kernel
theorem dX4_init_48 : decode cX4_init 48 = .ok (.putfield 26, 3) := by decide +kernel
theorem dX4_init_51 : decode cX4_init 51 = .ok (.aload_n 0, 1) := by decide +kernel
theorem dX4_init_52 : decode cX4_init 52 = .ok (.bipush 8, 2) := by decide +kernel
theorem dX4_init_54 : decode cX4_init 54 = .ok (.newarray .int, 2) := by decide +kernel
theorem dX4_init_56 : decode cX4_init 56 = .ok (.putfield 29, 3) := by decide +kernel
theorem dX4_init_59 : decode cX4_init 59 = .ok (.aload_n 0, 1) := by decide +kernel
theorem dX4_init_60 : decode cX4_init 60 = .ok (.bipush 72, 2) := by decide +kernel
theorem dX4_init_62 : decode cX4_init 62 = .ok (.newarray .boolean, 2) := by decide +kernel
theorem dX4_init_64 : decode cX4_init 64 = .ok (.putfield 32, 3) := by decide +kernel
theorem dX4_init_67 : decode cX4_init 67 = .ok (.aload_n 0, 1) := by decide +kernel
theorem dX4_init_68 : decode cX4_init 68 = .ok (.bipush 72, 2) := by decide +kernel
theorem dX4_init_70 : decode cX4_init 70 = .ok (.newarray .int, 2) := by decide +kernel
theorem dX4_init_72 : decode cX4_init 72 = .ok (.putfield 35, 3) := by decide +kernel
theorem dX4_init_75 : decode cX4_init 75 = .ok (.aload_n 0, 1) := by decide +kernel
theorem dX4_init_76 : decode cX4_init 76 = .ok (.bipush 72, 2) := by decide +kernel
theorem dX4_init_78 : decode cX4_init 78 = .ok (.newarray .int, 2) := by decide +kernel
theorem dX4_init_80 : decode cX4_init 80 = .ok (.putfield 38, 3) := by decide +kernel
theorem dX4_init_83 : decode cX4_init 83 = .ok (.aload_n 0, 1) := by decide +kernel
theorem dX4_init_84 : decode cX4_init 84 = .ok (.bipush 8, 2) := by decide +kernel
theorem dX4_init_86 : decode cX4_init 86 = .ok (.newarray .int, 2) := by decide +kernel
theorem dX4_init_88 : decode cX4_init 88 = .ok (.putfield 41, 3) := by decide +kernel
theorem dX4_init_91 : decode cX4_init 91 = .ok (.aload_n 0, 1) := by decide +kernel
theorem dX4_init_92 : decode cX4_init 92 = .ok (.bipush 8, 2) := by decide +kernel
theorem dX4_init_94 : decode cX4_init 94 = .ok (.newarray .int, 2) := by decide +kernel
theorem dX4_init_96 : decode cX4_init 96 = .ok (.putfield 44, 3) := by decide +kernel
theorem dX4_init_99 : decode cX4_init 99 = .ok (.aload_n 0, 1) := by decide +kernel
theorem dX4_init_100 : decode cX4_init 100 = .ok (.bipush 8, 2) := by decide +kernel
theorem dX4_init_102 : decode cX4_init 102 = .ok (.newarray .int, 2) := by decide +kernel
theorem dX4_init_104 : decode cX4_init 104 = .ok (.putfield 47, 3) := by decide +kernel
theorem dX4_init_107 : decode cX4_init 107 = .ok (.aload_n 0, 1) := by decide +kernel
theorem dX4_init_108 : decode cX4_init 108 = .ok (.bipush 40, 2) := by decide +kernel
theorem dX4_init_110 : decode cX4_init 110 = .ok (.newarray .int, 2) := by decide +kernel
theorem dX4_init_112 : decode cX4_init 112 = .ok (.putfield 50, 3) := by decide +kernel
theorem dX4_init_115 : decode cX4_init 115 = .ok (.aload_n 0, 1) := by decide +kernel
theorem dX4_init_116 : decode cX4_init 116 = .ok (.bipush 40, 2) := by decide +kernel
theorem dX4_init_118 : decode cX4_init 118 = .ok (.newarray .int, 2) := by decide +kernel
theorem dX4_init_120 : decode cX4_init 120 = .ok (.putfield 53, 3) := by decide +kernel
theorem dX4_init_123 : decode cX4_init 123 = .ok (.aload_n 0, 1) := by decide +kernel
theorem dX4_init_124 : decode cX4_init 124 = .ok (.bipush 40, 2) := by decide +kernel
theorem dX4_init_126 : decode cX4_init 126 = .ok (.newarray .int, 2) := by decide +kernel
theorem dX4_init_128 : decode cX4_init 128 = .ok (.putfield 56, 3) := by decide +kernel
theorem dX4_init_131 : decode cX4_init 131 = .ok (.aload_n 0, 1) := by decide +kernel
theorem dX4_init_132 : decode cX4_init 132 = .ok (.sipush 320, 3) := by decide +kernel
theorem dX4_init_135 : decode cX4_init 135 = .ok (.newarray .boolean, 2) := by decide +kernel
theorem dX4_init_137 : decode cX4_init 137 = .ok (.putfield 59, 3) := by decide +kernel
theorem dX4_init_140 : decode cX4_init 140 = .ok (.aload_n 0, 1) := by decide +kernel
theorem dX4_init_141 : decode cX4_init 141 = .ok (.sipush 320, 3) := by decide +kernel
theorem dX4_init_144 : decode cX4_init 144 = .ok (.newarray .int, 2) := by decide +kernel
theorem dX4_init_146 : decode cX4_init 146 = .ok (.putfield 62, 3) := by decide +kernel
theorem dX4_init_149 : decode cX4_init 149 = .ok (.aload_n 0, 1) := by decide +kernel
theorem dX4_init_150 : decode cX4_init 150 = .ok (.sipush 320, 3) := by decide +kernel
theorem dX4_init_153 : decode cX4_init 153 = .ok (.newarray .int, 2) := by decide +kernel
theorem dX4_init_155 : decode cX4_init 155 = .ok (.putfield 65, 3) := by decide +kernel
theorem dX4_init_158 : decode cX4_init 158 = .ok (.aload_n 0, 1) := by decide +kernel
theorem dX4_init_159 : decode cX4_init 159 = .ok (.sipush 320, 3) := by decide +kernel
theorem dX4_init_162 : decode cX4_init 162 = .ok (.newarray .int, 2) := by decide +kernel
theorem dX4_init_164 : decode cX4_init 164 = .ok (.putfield 68, 3) := by decide +kernel
theorem dX4_init_167 : decode cX4_init 167 = .ok (.aload_n 0, 1) := by decide +kernel
theorem dX4_init_168 : decode cX4_init 168 = .ok (.bipush 8, 2) := by decide +kernel
theorem dX4_init_170 : decode cX4_init 170 = .ok (.newarray .int, 2) := by decide +kernel
theorem dX4_init_172 : decode cX4_init 172 = .ok (.putfield 71, 3) := by decide +kernel
theorem dX4_init_175 : decode cX4_init 175 = .ok (.iconst 0, 1) := by decide +kernel
theorem dX4_init_176 : decode cX4_init 176 = .ok (.istore_n 1, 1) := by decide +kernel
theorem dX4_init_177 : decode cX4_init 177 = .ok (.iload_n 1, 1) := by decide +kernel
theorem dX4_init_178 : decode cX4_init 178 = .ok (.iconst 4, 1) := by decide +kernel
theorem dX4_init_179 : decode cX4_init 179 = .ok (.if_icmp .ge 18, 3) := by decide +kernel
theorem dX4_init_182 : decode cX4_init 182 = .ok (.aload_n 0, 1) := by decide +kernel
theorem dX4_init_183 : decode cX4_init 183 = .ok (.getfield 20, 3) := by decide +kernel
theorem dX4_init_186 : decode cX4_init 186 = .ok (.iload_n 1, 1) := by decide +kernel
theorem dX4_init_187 : decode cX4_init 187 = .ok (.iload_n 1, 1) := by decide +kernel
theorem dX4_init_188 : decode cX4_init 188 = .ok (.iconst 1, 1) := by decide +kernel
theorem dX4_init_189 : decode cX4_init 189 = .ok (.iadd, 1) := by decide +kernel
theorem dX4_init_190 : decode cX4_init 190 = .ok (.iastore, 1) := by decide +kernel
theorem dX4_init_191 : decode cX4_init 191 = .ok (.iinc 1 1, 3) := by decide +kernel
theorem dX4_init_194 : decode cX4_init 194 = .ok (.goto (-17), 3) := by decide +kernel
theorem dX4_init_197 : decode cX4_init 197 = .ok (.return_, 1) := by decide +kernel
theorem dX4_thrown_0 : decode cX4_thrown 0 = .ok (.aload_n 0, 1) := by decide +kernel
theorem dX4_thrown_1 : decode cX4_thrown 1 = .ok (.getfield 74, 3) := by decide +kernel
theorem dX4_thrown_4 : decode cX4_thrown 4 = .ok (.ireturn, 1) := by decide +kernel
theorem dX4_refused_0 : decode cX4_refused 0 = .ok (.aload_n 0, 1) := by decide +kernel
theorem dX4_refused_1 : decode cX4_refused 1 = .ok (.iload_n 1, 1) := by decide +kernel
theorem dX4_refused_2 : decode cX4_refused 2 = .ok (.putfield 74, 3) := by decide +kernel
theorem dX4_refused_5 : decode cX4_refused 5 = .ok (.iload_n 1, 1) := by decide +kernel
theorem dX4_refused_6 : decode cX4_refused 6 = .ok (.ifCond .le 7, 3) := by decide +kernel
theorem dX4_refused_9 : decode cX4_refused 9 = .ok (.iconst 1, 1) := by decide +kernel
theorem dX4_refused_10 : decode cX4_refused 10 = .ok (.goto 4, 3) := by decide +kernel
theorem dX4_refused_13 : decode cX4_refused 13 = .ok (.iconst 0, 1) := by decide +kernel
theorem dX4_refused_14 : decode cX4_refused 14 = .ok (.ireturn, 1) := by decide +kernel
theorem dX4_homeOf_0 : decode cX4_homeOf 0 = .ok (.ldc 78, 2) := by decide +kernel
theorem dX4_homeOf_2 : decode cX4_homeOf 2 = .ok (.iload_n 0, 1) := by decide +kernel
theorem dX4_homeOf_3 : decode cX4_homeOf 3 = .ok (.imul, 1) := by decide +kernel
theorem dX4_homeOf_4 : decode cX4_homeOf 4 = .ok (.iload_n 1, 1) := by decide +kernel
theorem dX4_homeOf_5 : decode cX4_homeOf 5 = .ok (.iadd, 1) := by decide +kernel
theorem dX4_homeOf_6 : decode cX4_homeOf 6 = .ok (.istore_n 3, 1) := by decide +kernel
theorem dX4_homeOf_7 : decode cX4_homeOf 7 = .ok (.iload_n 3, 1) := by decide +kernel
theorem dX4_homeOf_8 : decode cX4_homeOf 8 = .ok (.iload_n 3, 1) := by decide +kernel
theorem dX4_homeOf_9 : decode cX4_homeOf 9 = .ok (.bipush 15, 2) := by decide +kernel
theorem dX4_homeOf_11 : decode cX4_homeOf 11 = .ok (.iushr, 1) := by decide +kernel
theorem dX4_homeOf_12 : decode cX4_homeOf 12 = .ok (.ixor, 1) := by decide +kernel
theorem dX4_homeOf_13 : decode cX4_homeOf 13 = .ok (.istore_n 3, 1) := by decide +kernel
theorem dX4_homeOf_14 : decode cX4_homeOf 14 = .ok (.iload_n 2, 1) := by decide +kernel
theorem dX4_homeOf_15 : decode cX4_homeOf 15 = .ok (.ifCond .eq 10, 3) := by decide +kernel
theorem dX4_homeOf_18 : decode cX4_homeOf 18 = .ok (.iload_n 3, 1) := by decide +kernel
theorem dX4_homeOf_19 : decode cX4_homeOf 19 = .ok (.ldc 79, 2) := by decide +kernel
theorem dX4_homeOf_21 : decode cX4_homeOf 21 = .ok (.imul, 1) := by decide +kernel
theorem dX4_homeOf_22 : decode cX4_homeOf 22 = .ok (.goto 7, 3) := by decide +kernel
theorem dX4_homeOf_25 : decode cX4_homeOf 25 = .ok (.iload_n 3, 1) := by decide +kernel
theorem dX4_homeOf_26 : decode cX4_homeOf 26 = .ok (.ldc 80, 2) := by decide +kernel
theorem dX4_homeOf_28 : decode cX4_homeOf 28 = .ok (.imul, 1) := by decide +kernel
theorem dX4_homeOf_29 : decode cX4_homeOf 29 = .ok (.istore_n 3, 1) := by decide +kernel
theorem dX4_homeOf_30 : decode cX4_homeOf 30 = .ok (.iload_n 3, 1) := by decide +kernel
theorem dX4_homeOf_31 : decode cX4_homeOf 31 = .ok (.iload_n 3, 1) := by decide +kernel
theorem dX4_homeOf_32 : decode cX4_homeOf 32 = .ok (.bipush 13, 2) := by decide +kernel
theorem dX4_homeOf_34 : decode cX4_homeOf 34 = .ok (.iushr, 1) := by decide +kernel
theorem dX4_homeOf_35 : decode cX4_homeOf 35 = .ok (.ixor, 1) := by decide +kernel
theorem dX4_homeOf_36 : decode cX4_homeOf 36 = .ok (.bipush 7, 2) := by decide +kernel
theorem dX4_homeOf_38 : decode cX4_homeOf 38 = .ok (.iand, 1) := by decide +kernel
theorem dX4_homeOf_39 : decode cX4_homeOf 39 = .ok (.ireturn, 1) := by decide +kernel
theorem dX4_homeBy_0 : decode cX4_homeBy 0 = .ok (.iload_n 0, 1) := by decide +kernel
theorem dX4_homeBy_1 : decode cX4_homeBy 1 = .ok (.iload_n 1, 1) := by decide +kernel
theorem dX4_homeBy_2 : decode cX4_homeBy 2 = .ok (.iconst 0, 1) := by decide +kernel
theorem dX4_homeBy_3 : decode cX4_homeBy 3 = .ok (.invokestatic 81, 3) := by decide +kernel
theorem dX4_homeBy_6 : decode cX4_homeBy 6 = .ok (.istore_n 3, 1) := by decide +kernel
theorem dX4_homeBy_7 : decode cX4_homeBy 7 = .ok (.iload_n 2, 1) := by decide +kernel
theorem dX4_homeBy_8 : decode cX4_homeBy 8 = .ok (.ifCond .ne 5, 3) := by decide +kernel
theorem dX4_homeBy_11 : decode cX4_homeBy 11 = .ok (.iload_n 3, 1) := by decide +kernel
theorem dX4_homeBy_12 : decode cX4_homeBy 12 = .ok (.ireturn, 1) := by decide +kernel
theorem dX4_homeBy_13 : decode cX4_homeBy 13 = .ok (.iload_n 0, 1) := by decide +kernel
theorem dX4_homeBy_14 : decode cX4_homeBy 14 = .ok (.iload_n 1, 1) := by decide +kernel
theorem dX4_homeBy_15 : decode cX4_homeBy 15 = .ok (.iconst 1, 1) := by decide +kernel
theorem dX4_homeBy_16 : decode cX4_homeBy 16 = .ok (.invokestatic 81, 3) := by decide +kernel
theorem dX4_homeBy_19 : decode cX4_homeBy 19 = .ok (.istore 4, 2) := by decide +kernel
theorem dX4_homeBy_21 : decode cX4_homeBy 21 = .ok (.iload 4, 2) := by decide +kernel
theorem dX4_homeBy_23 : decode cX4_homeBy 23 = .ok (.iload_n 3, 1) := by decide +kernel
theorem dX4_homeBy_24 : decode cX4_homeBy 24 = .ok (.if_icmp .ne 13, 3) := by decide +kernel
theorem dX4_homeBy_27 : decode cX4_homeBy 27 = .ok (.iload 4, 2) := by decide +kernel
theorem dX4_homeBy_29 : decode cX4_homeBy 29 = .ok (.iconst 1, 1) := by decide +kernel
theorem dX4_homeBy_30 : decode cX4_homeBy 30 = .ok (.iadd, 1) := by decide +kernel
theorem dX4_homeBy_31 : decode cX4_homeBy 31 = .ok (.bipush 8, 2) := by decide +kernel
theorem dX4_homeBy_33 : decode cX4_homeBy 33 = .ok (.irem, 1) := by decide +kernel
theorem dX4_homeBy_34 : decode cX4_homeBy 34 = .ok (.goto 5, 3) := by decide +kernel
theorem dX4_homeBy_37 : decode cX4_homeBy 37 = .ok (.iload 4, 2) := by decide +kernel
theorem dX4_homeBy_39 : decode cX4_homeBy 39 = .ok (.ireturn, 1) := by decide +kernel
theorem dX4_slotOf_0 : decode cX4_slotOf 0 = .ok (.iconst 4, 1) := by decide +kernel
theorem dX4_slotOf_1 : decode cX4_slotOf 1 = .ok (.bipush 9, 2) := by decide +kernel
theorem dX4_slotOf_3 : decode cX4_slotOf 3 = .ok (.iload_n 0, 1) := by decide +kernel
theorem dX4_slotOf_4 : decode cX4_slotOf 4 = .ok (.imul, 1) := by decide +kernel
theorem dX4_slotOf_5 : decode cX4_slotOf 5 = .ok (.iload_n 1, 1) := by decide +kernel
theorem dX4_slotOf_6 : decode cX4_slotOf 6 = .ok (.iadd, 1) := by decide +kernel
theorem dX4_slotOf_7 : decode cX4_slotOf 7 = .ok (.imul, 1) := by decide +kernel
theorem dX4_slotOf_8 : decode cX4_slotOf 8 = .ok (.iload_n 2, 1) := by decide +kernel
theorem dX4_slotOf_9 : decode cX4_slotOf 9 = .ok (.iadd, 1) := by decide +kernel
theorem dX4_slotOf_10 : decode cX4_slotOf 10 = .ok (.ireturn, 1) := by decide +kernel
theorem dX4_find_0 : decode cX4_find 0 = .ok (.iconst 0, 1) := by decide +kernel
theorem dX4_find_1 : decode cX4_find 1 = .ok (.istore 4, 2) := by decide +kernel
theorem dX4_find_3 : decode cX4_find 3 = .ok (.iload 4, 2) := by decide +kernel
theorem dX4_find_5 : decode cX4_find 5 = .ok (.iconst 4, 1) := by decide +kernel
theorem dX4_find_6 : decode cX4_find 6 = .ok (.if_icmp .ge 42, 3) := by decide +kernel
theorem dX4_find_9 : decode cX4_find 9 = .ok (.iload_n 1, 1) := by decide +kernel
theorem dX4_find_10 : decode cX4_find 10 = .ok (.iload_n 2, 1) := by decide +kernel
theorem dX4_find_11 : decode cX4_find 11 = .ok (.iload 4, 2) := by decide +kernel
theorem dX4_find_13 : decode cX4_find 13 = .ok (.invokestatic 85, 3) := by decide +kernel
theorem dX4_find_16 : decode cX4_find 16 = .ok (.istore 5, 2) := by decide +kernel
theorem dX4_find_18 : decode cX4_find 18 = .ok (.aload_n 0, 1) := by decide +kernel
theorem dX4_find_19 : decode cX4_find 19 = .ok (.getfield 7, 3) := by decide +kernel
theorem dX4_find_22 : decode cX4_find 22 = .ok (.iload 5, 2) := by decide +kernel
theorem dX4_find_24 : decode cX4_find 24 = .ok (.baload, 1) := by decide +kernel
theorem dX4_find_25 : decode cX4_find 25 = .ok (.ifCond .eq 17, 3) := by decide +kernel
theorem dX4_find_28 : decode cX4_find 28 = .ok (.aload_n 0, 1) := by decide +kernel
theorem dX4_find_29 : decode cX4_find 29 = .ok (.getfield 13, 3) := by decide +kernel
theorem dX4_find_32 : decode cX4_find 32 = .ok (.iload 5, 2) := by decide +kernel
theorem dX4_find_34 : decode cX4_find 34 = .ok (.iaload, 1) := by decide +kernel
theorem dX4_find_35 : decode cX4_find 35 = .ok (.iload_n 3, 1) := by decide +kernel
theorem dX4_find_36 : decode cX4_find 36 = .ok (.if_icmp .ne 6, 3) := by decide +kernel
theorem dX4_find_39 : decode cX4_find 39 = .ok (.iload 5, 2) := by decide +kernel
theorem dX4_find_41 : decode cX4_find 41 = .ok (.ireturn, 1) := by decide +kernel
theorem dX4_find_42 : decode cX4_find 42 = .ok (.iinc 4 1, 3) := by decide +kernel
theorem dX4_find_45 : decode cX4_find 45 = .ok (.goto (-42), 3) := by decide +kernel
theorem dX4_find_48 : decode cX4_find 48 = .ok (.iconst (-1), 1) := by decide +kernel
theorem dX4_find_49 : decode cX4_find 49 = .ok (.ireturn, 1) := by decide +kernel
theorem dX4_place_0 : decode cX4_place 0 = .ok (.aload_n 0, 1) := by decide +kernel
theorem dX4_place_1 : decode cX4_place 1 = .ok (.iload_n 1, 1) := by decide +kernel
theorem dX4_place_2 : decode cX4_place 2 = .ok (.iload_n 3, 1) := by decide +kernel
theorem dX4_place_3 : decode cX4_place 3 = .ok (.iload_n 2, 1) := by decide +kernel
theorem dX4_place_4 : decode cX4_place 4 = .ok (.iconst 0, 1) := by decide +kernel
theorem dX4_place_5 : decode cX4_place 5 = .ok (.invokestatic 89, 3) := by decide +kernel
theorem dX4_place_8 : decode cX4_place 8 = .ok (.iload_n 3, 1) := by decide +kernel
theorem dX4_place_9 : decode cX4_place 9 = .ok (.invokevirtual 92, 3) := by decide +kernel
theorem dX4_place_12 : decode cX4_place 12 = .ok (.istore 4, 2) := by decide +kernel
end
section
theorem dX4_place_14 : decode cX4_place 14 = .ok (.iload 4, 2) := by decide +kernel
theorem dX4_place_16 : decode cX4_place 16 = .ok (.ifCond .ge 18, 3) := by decide +kernel
theorem dX4_place_19 : decode cX4_place 19 = .ok (.aload_n 0, 1) := by decide +kernel
theorem dX4_place_20 : decode cX4_place 20 = .ok (.iload_n 1, 1) := by decide +kernel
theorem dX4_place_21 : decode cX4_place 21 = .ok (.iload_n 3, 1) := by decide +kernel
theorem dX4_place_22 : decode cX4_place 22 = .ok (.iload_n 2, 1) := by decide +kernel
theorem dX4_place_23 : decode cX4_place 23 = .ok (.iconst 1, 1) := by decide +kernel
theorem dX4_place_24 : decode cX4_place 24 = .ok (.invokestatic 89, 3) := by decide +kernel
theorem dX4_place_27 : decode cX4_place 27 = .ok (.iload_n 3, 1) := by decide +kernel
theorem dX4_place_28 : decode cX4_place 28 = .ok (.invokevirtual 92, 3) := by decide +kernel
theorem dX4_place_31 : decode cX4_place 31 = .ok (.goto 5, 3) := by decide +kernel
theorem dX4_place_34 : decode cX4_place 34 = .ok (.iload 4, 2) := by decide +kernel
theorem dX4_place_36 : decode cX4_place 36 = .ok (.istore 4, 2) := by decide +kernel
theorem dX4_place_38 : decode cX4_place 38 = .ok (.iload 4, 2) := by decide +kernel
theorem dX4_place_40 : decode cX4_place 40 = .ok (.ifCond .ge 14, 3) := by decide +kernel
theorem dX4_place_43 : decode cX4_place 43 = .ok (.aload_n 0, 1) := by decide +kernel
theorem dX4_place_44 : decode cX4_place 44 = .ok (.iload_n 1, 1) := by decide +kernel
theorem dX4_place_45 : decode cX4_place 45 = .ok (.bipush 8, 2) := by decide +kernel
theorem dX4_place_47 : decode cX4_place 47 = .ok (.iload_n 3, 1) := by decide +kernel
theorem dX4_place_48 : decode cX4_place 48 = .ok (.invokevirtual 92, 3) := by decide +kernel
theorem dX4_place_51 : decode cX4_place 51 = .ok (.goto 5, 3) := by decide +kernel
theorem dX4_place_54 : decode cX4_place 54 = .ok (.iload 4, 2) := by decide +kernel
theorem dX4_place_56 : decode cX4_place 56 = .ok (.ireturn, 1) := by decide +kernel
theorem dX4_empty_0 : decode cX4_empty 0 = .ok (.iconst 0, 1) := by decide +kernel
theorem dX4_empty_1 : decode cX4_empty 1 = .ok (.istore_n 3, 1) := by decide +kernel
theorem dX4_empty_2 : decode cX4_empty 2 = .ok (.iload_n 3, 1) := by decide +kernel
theorem dX4_empty_3 : decode cX4_empty 3 = .ok (.iconst 4, 1) := by decide +kernel
theorem dX4_empty_4 : decode cX4_empty 4 = .ok (.if_icmp .ge 30, 3) := by decide +kernel
theorem dX4_empty_7 : decode cX4_empty 7 = .ok (.aload_n 0, 1) := by decide +kernel
theorem dX4_empty_8 : decode cX4_empty 8 = .ok (.getfield 7, 3) := by decide +kernel
theorem dX4_empty_11 : decode cX4_empty 11 = .ok (.iload_n 1, 1) := by decide +kernel
theorem dX4_empty_12 : decode cX4_empty 12 = .ok (.iload_n 2, 1) := by decide +kernel
theorem dX4_empty_13 : decode cX4_empty 13 = .ok (.iload_n 3, 1) := by decide +kernel
theorem dX4_empty_14 : decode cX4_empty 14 = .ok (.invokestatic 85, 3) := by decide +kernel
theorem dX4_empty_17 : decode cX4_empty 17 = .ok (.baload, 1) := by decide +kernel
theorem dX4_empty_18 : decode cX4_empty 18 = .ok (.ifCond .ne 10, 3) := by decide +kernel
theorem dX4_empty_21 : decode cX4_empty 21 = .ok (.iload_n 1, 1) := by decide +kernel
theorem dX4_empty_22 : decode cX4_empty 22 = .ok (.iload_n 2, 1) := by decide +kernel
theorem dX4_empty_23 : decode cX4_empty 23 = .ok (.iload_n 3, 1) := by decide +kernel
theorem dX4_empty_24 : decode cX4_empty 24 = .ok (.invokestatic 85, 3) := by decide +kernel
theorem dX4_empty_27 : decode cX4_empty 27 = .ok (.ireturn, 1) := by decide +kernel
theorem dX4_empty_28 : decode cX4_empty 28 = .ok (.iinc 3 1, 3) := by decide +kernel
theorem dX4_empty_31 : decode cX4_empty 31 = .ok (.goto (-29), 3) := by decide +kernel
theorem dX4_empty_34 : decode cX4_empty 34 = .ok (.iconst (-1), 1) := by decide +kernel
theorem dX4_empty_35 : decode cX4_empty 35 = .ok (.ireturn, 1) := by decide +kernel
theorem dX4_finish_0 : decode cX4_finish 0 = .ok (.aload_n 0, 1) := by decide +kernel
theorem dX4_finish_1 : decode cX4_finish 1 = .ok (.getfield 50, 3) := by decide +kernel
theorem dX4_finish_4 : decode cX4_finish 4 = .ok (.iload_n 1, 1) := by decide +kernel
theorem dX4_finish_5 : decode cX4_finish 5 = .ok (.iaload, 1) := by decide +kernel
theorem dX4_finish_6 : decode cX4_finish 6 = .ok (.iconst 1, 1) := by decide +kernel
theorem dX4_finish_7 : decode cX4_finish 7 = .ok (.if_icmp .ne 26, 3) := by decide +kernel
theorem dX4_finish_10 : decode cX4_finish 10 = .ok (.aload_n 0, 1) := by decide +kernel
theorem dX4_finish_11 : decode cX4_finish 11 = .ok (.aload_n 0, 1) := by decide +kernel
theorem dX4_finish_12 : decode cX4_finish 12 = .ok (.getfield 53, 3) := by decide +kernel
theorem dX4_finish_15 : decode cX4_finish 15 = .ok (.iload_n 1, 1) := by decide +kernel
theorem dX4_finish_16 : decode cX4_finish 16 = .ok (.iaload, 1) := by decide +kernel
theorem dX4_finish_17 : decode cX4_finish 17 = .ok (.putfield 95, 3) := by decide +kernel
theorem dX4_finish_20 : decode cX4_finish 20 = .ok (.aload_n 0, 1) := by decide +kernel
theorem dX4_finish_21 : decode cX4_finish 21 = .ok (.aload_n 0, 1) := by decide +kernel
theorem dX4_finish_22 : decode cX4_finish 22 = .ok (.getfield 56, 3) := by decide +kernel
theorem dX4_finish_25 : decode cX4_finish 25 = .ok (.iload_n 1, 1) := by decide +kernel
theorem dX4_finish_26 : decode cX4_finish 26 = .ok (.iaload, 1) := by decide +kernel
theorem dX4_finish_27 : decode cX4_finish 27 = .ok (.putfield 98, 3) := by decide +kernel
theorem dX4_finish_30 : decode cX4_finish 30 = .ok (.goto 168, 3) := by decide +kernel
theorem dX4_finish_33 : decode cX4_finish 33 = .ok (.aload_n 0, 1) := by decide +kernel
theorem dX4_finish_34 : decode cX4_finish 34 = .ok (.getfield 50, 3) := by decide +kernel
theorem dX4_finish_37 : decode cX4_finish 37 = .ok (.iload_n 1, 1) := by decide +kernel
theorem dX4_finish_38 : decode cX4_finish 38 = .ok (.iaload, 1) := by decide +kernel
theorem dX4_finish_39 : decode cX4_finish 39 = .ok (.iconst 2, 1) := by decide +kernel
theorem dX4_finish_40 : decode cX4_finish 40 = .ok (.if_icmp .ne 83, 3) := by decide +kernel
theorem dX4_finish_43 : decode cX4_finish 43 = .ok (.aload_n 0, 1) := by decide +kernel
theorem dX4_finish_44 : decode cX4_finish 44 = .ok (.aload_n 0, 1) := by decide +kernel
theorem dX4_finish_45 : decode cX4_finish 45 = .ok (.getfield 56, 3) := by decide +kernel
theorem dX4_finish_48 : decode cX4_finish 48 = .ok (.iload_n 1, 1) := by decide +kernel
theorem dX4_finish_49 : decode cX4_finish 49 = .ok (.iaload, 1) := by decide +kernel
theorem dX4_finish_50 : decode cX4_finish 50 = .ok (.putfield 101, 3) := by decide +kernel
theorem dX4_finish_53 : decode cX4_finish 53 = .ok (.iconst 0, 1) := by decide +kernel
theorem dX4_finish_54 : decode cX4_finish 54 = .ok (.istore_n 2, 1) := by decide +kernel
theorem dX4_finish_55 : decode cX4_finish 55 = .ok (.iload_n 2, 1) := by decide +kernel
theorem dX4_finish_56 : decode cX4_finish 56 = .ok (.aload_n 0, 1) := by decide +kernel
theorem dX4_finish_57 : decode cX4_finish 57 = .ok (.getfield 101, 3) := by decide +kernel
theorem dX4_finish_60 : decode cX4_finish 60 = .ok (.if_icmp .ge 60, 3) := by decide +kernel
theorem dX4_finish_63 : decode cX4_finish 63 = .ok (.aload_n 0, 1) := by decide +kernel
theorem dX4_finish_64 : decode cX4_finish 64 = .ok (.getfield 41, 3) := by decide +kernel
theorem dX4_finish_67 : decode cX4_finish 67 = .ok (.iload_n 2, 1) := by decide +kernel
theorem dX4_finish_68 : decode cX4_finish 68 = .ok (.aload_n 0, 1) := by decide +kernel
theorem dX4_finish_69 : decode cX4_finish 69 = .ok (.getfield 62, 3) := by decide +kernel
theorem dX4_finish_72 : decode cX4_finish 72 = .ok (.bipush 8, 2) := by decide +kernel
theorem dX4_finish_74 : decode cX4_finish 74 = .ok (.iload_n 1, 1) := by decide +kernel
theorem dX4_finish_75 : decode cX4_finish 75 = .ok (.imul, 1) := by decide +kernel
theorem dX4_finish_76 : decode cX4_finish 76 = .ok (.iload_n 2, 1) := by decide +kernel
theorem dX4_finish_77 : decode cX4_finish 77 = .ok (.iadd, 1) := by decide +kernel
theorem dX4_finish_78 : decode cX4_finish 78 = .ok (.iaload, 1) := by decide +kernel
theorem dX4_finish_79 : decode cX4_finish 79 = .ok (.iastore, 1) := by decide +kernel
theorem dX4_finish_80 : decode cX4_finish 80 = .ok (.aload_n 0, 1) := by decide +kernel
theorem dX4_finish_81 : decode cX4_finish 81 = .ok (.getfield 44, 3) := by decide +kernel
theorem dX4_finish_84 : decode cX4_finish 84 = .ok (.iload_n 2, 1) := by decide +kernel
theorem dX4_finish_85 : decode cX4_finish 85 = .ok (.aload_n 0, 1) := by decide +kernel
theorem dX4_finish_86 : decode cX4_finish 86 = .ok (.getfield 65, 3) := by decide +kernel
theorem dX4_finish_89 : decode cX4_finish 89 = .ok (.bipush 8, 2) := by decide +kernel
theorem dX4_finish_91 : decode cX4_finish 91 = .ok (.iload_n 1, 1) := by decide +kernel
theorem dX4_finish_92 : decode cX4_finish 92 = .ok (.imul, 1) := by decide +kernel
theorem dX4_finish_93 : decode cX4_finish 93 = .ok (.iload_n 2, 1) := by decide +kernel
theorem dX4_finish_94 : decode cX4_finish 94 = .ok (.iadd, 1) := by decide +kernel
theorem dX4_finish_95 : decode cX4_finish 95 = .ok (.iaload, 1) := by decide +kernel
theorem dX4_finish_96 : decode cX4_finish 96 = .ok (.iastore, 1) := by decide +kernel
theorem dX4_finish_97 : decode cX4_finish 97 = .ok (.aload_n 0, 1) := by decide +kernel
theorem dX4_finish_98 : decode cX4_finish 98 = .ok (.getfield 47, 3) := by decide +kernel
theorem dX4_finish_101 : decode cX4_finish 101 = .ok (.iload_n 2, 1) := by decide +kernel
theorem dX4_finish_102 : decode cX4_finish 102 = .ok (.aload_n 0, 1) := by decide +kernel
theorem dX4_finish_103 : decode cX4_finish 103 = .ok (.getfield 68, 3) := by decide +kernel
theorem dX4_finish_106 : decode cX4_finish 106 = .ok (.bipush 8, 2) := by decide +kernel
theorem dX4_finish_108 : decode cX4_finish 108 = .ok (.iload_n 1, 1) := by decide +kernel
theorem dX4_finish_109 : decode cX4_finish 109 = .ok (.imul, 1) := by decide +kernel
theorem dX4_finish_110 : decode cX4_finish 110 = .ok (.iload_n 2, 1) := by decide +kernel
theorem dX4_finish_111 : decode cX4_finish 111 = .ok (.iadd, 1) := by decide +kernel
theorem dX4_finish_112 : decode cX4_finish 112 = .ok (.iaload, 1) := by decide +kernel
theorem dX4_finish_113 : decode cX4_finish 113 = .ok (.iastore, 1) := by decide +kernel
theorem dX4_finish_114 : decode cX4_finish 114 = .ok (.iinc 2 1, 3) := by decide +kernel
theorem dX4_finish_117 : decode cX4_finish 117 = .ok (.goto (-62), 3) := by decide +kernel
theorem dX4_finish_120 : decode cX4_finish 120 = .ok (.goto 78, 3) := by decide +kernel
theorem dX4_finish_123 : decode cX4_finish 123 = .ok (.iconst 0, 1) := by decide +kernel
theorem dX4_finish_124 : decode cX4_finish 124 = .ok (.istore_n 2, 1) := by decide +kernel
theorem dX4_finish_125 : decode cX4_finish 125 = .ok (.iload_n 2, 1) := by decide +kernel
theorem dX4_finish_126 : decode cX4_finish 126 = .ok (.iconst 4, 1) := by decide +kernel
theorem dX4_finish_127 : decode cX4_finish 127 = .ok (.if_icmp .ge 71, 3) := by decide +kernel
theorem dX4_finish_130 : decode cX4_finish 130 = .ok (.iconst 4, 1) := by decide +kernel
theorem dX4_finish_131 : decode cX4_finish 131 = .ok (.aload_n 0, 1) := by decide +kernel
theorem dX4_finish_132 : decode cX4_finish 132 = .ok (.getfield 53, 3) := by decide +kernel
theorem dX4_finish_135 : decode cX4_finish 135 = .ok (.iload_n 1, 1) := by decide +kernel
theorem dX4_finish_136 : decode cX4_finish 136 = .ok (.iaload, 1) := by decide +kernel
theorem dX4_finish_137 : decode cX4_finish 137 = .ok (.imul, 1) := by decide +kernel
theorem dX4_finish_138 : decode cX4_finish 138 = .ok (.iload_n 2, 1) := by decide +kernel
theorem dX4_finish_139 : decode cX4_finish 139 = .ok (.iadd, 1) := by decide +kernel
theorem dX4_finish_140 : decode cX4_finish 140 = .ok (.istore_n 3, 1) := by decide +kernel
theorem dX4_finish_141 : decode cX4_finish 141 = .ok (.aload_n 0, 1) := by decide +kernel
theorem dX4_finish_142 : decode cX4_finish 142 = .ok (.getfield 32, 3) := by decide +kernel
theorem dX4_finish_145 : decode cX4_finish 145 = .ok (.iload_n 3, 1) := by decide +kernel
theorem dX4_finish_146 : decode cX4_finish 146 = .ok (.aload_n 0, 1) := by decide +kernel
theorem dX4_finish_147 : decode cX4_finish 147 = .ok (.getfield 59, 3) := by decide +kernel
theorem dX4_finish_150 : decode cX4_finish 150 = .ok (.bipush 8, 2) := by decide +kernel
theorem dX4_finish_152 : decode cX4_finish 152 = .ok (.iload_n 1, 1) := by decide +kernel
theorem dX4_finish_153 : decode cX4_finish 153 = .ok (.imul, 1) := by decide +kernel
theorem dX4_finish_154 : decode cX4_finish 154 = .ok (.iload_n 2, 1) := by decide +kernel
theorem dX4_finish_155 : decode cX4_finish 155 = .ok (.iadd, 1) := by decide +kernel
theorem dX4_finish_156 : decode cX4_finish 156 = .ok (.baload, 1) := by decide +kernel
theorem dX4_finish_157 : decode cX4_finish 157 = .ok (.bastore, 1) := by decide +kernel
theorem dX4_finish_158 : decode cX4_finish 158 = .ok (.aload_n 0, 1) := by decide +kernel
theorem dX4_finish_159 : decode cX4_finish 159 = .ok (.getfield 35, 3) := by decide +kernel
theorem dX4_finish_162 : decode cX4_finish 162 = .ok (.iload_n 3, 1) := by decide +kernel
theorem dX4_finish_163 : decode cX4_finish 163 = .ok (.aload_n 0, 1) := by decide +kernel
theorem dX4_finish_164 : decode cX4_finish 164 = .ok (.getfield 65, 3) := by decide +kernel
theorem dX4_finish_167 : decode cX4_finish 167 = .ok (.bipush 8, 2) := by decide +kernel
theorem dX4_finish_169 : decode cX4_finish 169 = .ok (.iload_n 1, 1) := by decide +kernel
theorem dX4_finish_170 : decode cX4_finish 170 = .ok (.imul, 1) := by decide +kernel
theorem dX4_finish_171 : decode cX4_finish 171 = .ok (.iload_n 2, 1) := by decide +kernel
theorem dX4_finish_172 : decode cX4_finish 172 = .ok (.iadd, 1) := by decide +kernel
theorem dX4_finish_173 : decode cX4_finish 173 = .ok (.iaload, 1) := by decide +kernel
theorem dX4_finish_174 : decode cX4_finish 174 = .ok (.iastore, 1) := by decide +kernel
theorem dX4_finish_175 : decode cX4_finish 175 = .ok (.aload_n 0, 1) := by decide +kernel
theorem dX4_finish_176 : decode cX4_finish 176 = .ok (.getfield 38, 3) := by decide +kernel
theorem dX4_finish_179 : decode cX4_finish 179 = .ok (.iload_n 3, 1) := by decide +kernel
theorem dX4_finish_180 : decode cX4_finish 180 = .ok (.aload_n 0, 1) := by decide +kernel
theorem dX4_finish_181 : decode cX4_finish 181 = .ok (.getfield 68, 3) := by decide +kernel
theorem dX4_finish_184 : decode cX4_finish 184 = .ok (.bipush 8, 2) := by decide +kernel
theorem dX4_finish_186 : decode cX4_finish 186 = .ok (.iload_n 1, 1) := by decide +kernel
theorem dX4_finish_187 : decode cX4_finish 187 = .ok (.imul, 1) := by decide +kernel
theorem dX4_finish_188 : decode cX4_finish 188 = .ok (.iload_n 2, 1) := by decide +kernel
theorem dX4_finish_189 : decode cX4_finish 189 = .ok (.iadd, 1) := by decide +kernel
theorem dX4_finish_190 : decode cX4_finish 190 = .ok (.iaload, 1) := by decide +kernel
theorem dX4_finish_191 : decode cX4_finish 191 = .ok (.iastore, 1) := by decide +kernel
theorem dX4_finish_192 : decode cX4_finish 192 = .ok (.iinc 2 1, 3) := by decide +kernel
theorem dX4_finish_195 : decode cX4_finish 195 = .ok (.goto (-70), 3) := by decide +kernel
theorem dX4_finish_198 : decode cX4_finish 198 = .ok (.return_, 1) := by decide +kernel
theorem dX4_flush_0 : decode cX4_flush 0 = .ok (.aload_n 0, 1) := by decide +kernel
theorem dX4_flush_1 : decode cX4_flush 1 = .ok (.getfield 104, 3) := by decide +kernel
theorem dX4_flush_4 : decode cX4_flush 4 = .ok (.istore_n 1, 1) := by decide +kernel
theorem dX4_flush_5 : decode cX4_flush 5 = .ok (.iconst 0, 1) := by decide +kernel
theorem dX4_flush_6 : decode cX4_flush 6 = .ok (.istore_n 2, 1) := by decide +kernel
theorem dX4_flush_7 : decode cX4_flush 7 = .ok (.iload_n 2, 1) := by decide +kernel
theorem dX4_flush_8 : decode cX4_flush 8 = .ok (.iload_n 1, 1) := by decide +kernel
theorem dX4_flush_9 : decode cX4_flush 9 = .ok (.if_icmp .ge 14, 3) := by decide +kernel
theorem dX4_flush_12 : decode cX4_flush 12 = .ok (.aload_n 0, 1) := by decide +kernel
theorem dX4_flush_13 : decode cX4_flush 13 = .ok (.iload_n 2, 1) := by decide +kernel
theorem dX4_flush_14 : decode cX4_flush 14 = .ok (.invokevirtual 107, 3) := by decide +kernel
theorem dX4_flush_17 : decode cX4_flush 17 = .ok (.iinc 2 1, 3) := by decide +kernel
theorem dX4_flush_20 : decode cX4_flush 20 = .ok (.goto (-13), 3) := by decide +kernel
theorem dX4_flush_23 : decode cX4_flush 23 = .ok (.aload_n 0, 1) := by decide +kernel
theorem dX4_flush_24 : decode cX4_flush 24 = .ok (.iconst 0, 1) := by decide +kernel
theorem dX4_flush_25 : decode cX4_flush 25 = .ok (.putfield 104, 3) := by decide +kernel
theorem dX4_flush_28 : decode cX4_flush 28 = .ok (.iload_n 1, 1) := by decide +kernel
theorem dX4_flush_29 : decode cX4_flush 29 = .ok (.ireturn, 1) := by decide +kernel
theorem dX4_next_0 : decode cX4_next 0 = .ok (.aload_n 0, 1) := by decide +kernel
theorem dX4_next_1 : decode cX4_next 1 = .ok (.getfield 104, 3) := by decide +kernel
theorem dX4_next_4 : decode cX4_next 4 = .ok (.bipush 40, 2) := by decide +kernel
theorem dX4_next_6 : decode cX4_next 6 = .ok (.if_icmp .ne 8, 3) := by decide +kernel
theorem dX4_next_9 : decode cX4_next 9 = .ok (.aload_n 0, 1) := by decide +kernel
theorem dX4_next_10 : decode cX4_next 10 = .ok (.invokevirtual 111, 3) := by decide +kernel
theorem dX4_next_13 : decode cX4_next 13 = .ok (.istore_n 2, 1) := by decide +kernel
theorem dX4_next_14 : decode cX4_next 14 = .ok (.aload_n 0, 1) := by decide +kernel
theorem dX4_next_15 : decode cX4_next 15 = .ok (.getfield 50, 3) := by decide +kernel
theorem dX4_next_18 : decode cX4_next 18 = .ok (.aload_n 0, 1) := by decide +kernel
theorem dX4_next_19 : decode cX4_next 19 = .ok (.getfield 104, 3) := by decide +kernel
theorem dX4_next_22 : decode cX4_next 22 = .ok (.iload_n 1, 1) := by decide +kernel
theorem dX4_next_23 : decode cX4_next 23 = .ok (.iastore, 1) := by decide +kernel
theorem dX4_next_24 : decode cX4_next 24 = .ok (.aload_n 0, 1) := by decide +kernel
theorem dX4_next_25 : decode cX4_next 25 = .ok (.dup, 1) := by decide +kernel
theorem dX4_next_26 : decode cX4_next 26 = .ok (.getfield 115, 3) := by decide +kernel
theorem dX4_next_29 : decode cX4_next 29 = .ok (.iconst 1, 1) := by decide +kernel
theorem dX4_next_30 : decode cX4_next 30 = .ok (.iadd, 1) := by decide +kernel
theorem dX4_next_31 : decode cX4_next 31 = .ok (.putfield 115, 3) := by decide +kernel
theorem dX4_next_34 : decode cX4_next 34 = .ok (.aload_n 0, 1) := by decide +kernel
theorem dX4_next_35 : decode cX4_next 35 = .ok (.dup, 1) := by decide +kernel
theorem dX4_next_36 : decode cX4_next 36 = .ok (.getfield 104, 3) := by decide +kernel
theorem dX4_next_39 : decode cX4_next 39 = .ok (.iconst 1, 1) := by decide +kernel
theorem dX4_next_40 : decode cX4_next 40 = .ok (.iadd, 1) := by decide +kernel
theorem dX4_next_41 : decode cX4_next 41 = .ok (.putfield 104, 3) := by decide +kernel
theorem dX4_next_44 : decode cX4_next 44 = .ok (.aload_n 0, 1) := by decide +kernel
theorem dX4_next_45 : decode cX4_next 45 = .ok (.getfield 104, 3) := by decide +kernel
theorem dX4_next_48 : decode cX4_next 48 = .ok (.iconst 1, 1) := by decide +kernel
theorem dX4_next_49 : decode cX4_next 49 = .ok (.isub, 1) := by decide +kernel
theorem dX4_next_50 : decode cX4_next 50 = .ok (.ireturn, 1) := by decide +kernel
theorem dX4_writePage_0 : decode cX4_writePage 0 = .ok (.aload_n 0, 1) := by decide +kernel
theorem dX4_writePage_1 : decode cX4_writePage 1 = .ok (.iconst 0, 1) := by decide +kernel
theorem dX4_writePage_2 : decode cX4_writePage 2 = .ok (.invokevirtual 118, 3) := by decide +kernel
theorem dX4_writePage_5 : decode cX4_writePage 5 = .ok (.istore_n 2, 1) := by decide +kernel
theorem dX4_writePage_6 : decode cX4_writePage 6 = .ok (.aload_n 0, 1) := by decide +kernel
theorem dX4_writePage_7 : decode cX4_writePage 7 = .ok (.getfield 53, 3) := by decide +kernel
theorem dX4_writePage_10 : decode cX4_writePage 10 = .ok (.iload_n 2, 1) := by decide +kernel
theorem dX4_writePage_11 : decode cX4_writePage 11 = .ok (.iload_n 1, 1) := by decide +kernel
theorem dX4_writePage_12 : decode cX4_writePage 12 = .ok (.iastore, 1) := by decide +kernel
theorem dX4_writePage_13 : decode cX4_writePage 13 = .ok (.iconst 0, 1) := by decide +kernel
theorem dX4_writePage_14 : decode cX4_writePage 14 = .ok (.istore_n 3, 1) := by decide +kernel
theorem dX4_writePage_15 : decode cX4_writePage 15 = .ok (.iload_n 3, 1) := by decide +kernel
theorem dX4_writePage_16 : decode cX4_writePage 16 = .ok (.iconst 4, 1) := by decide +kernel
theorem dX4_writePage_17 : decode cX4_writePage 17 = .ok (.if_icmp .ge 70, 3) := by decide +kernel
theorem dX4_writePage_20 : decode cX4_writePage 20 = .ok (.iconst 4, 1) := by decide +kernel
theorem dX4_writePage_21 : decode cX4_writePage 21 = .ok (.iload_n 1, 1) := by decide +kernel
theorem dX4_writePage_22 : decode cX4_writePage 22 = .ok (.imul, 1) := by decide +kernel
theorem dX4_writePage_23 : decode cX4_writePage 23 = .ok (.iload_n 3, 1) := by decide +kernel
theorem dX4_writePage_24 : decode cX4_writePage 24 = .ok (.iadd, 1) := by decide +kernel
theorem dX4_writePage_25 : decode cX4_writePage 25 = .ok (.istore 4, 2) := by decide +kernel
theorem dX4_writePage_27 : decode cX4_writePage 27 = .ok (.aload_n 0, 1) := by decide +kernel
theorem dX4_writePage_28 : decode cX4_writePage 28 = .ok (.getfield 59, 3) := by decide +kernel
theorem dX4_writePage_31 : decode cX4_writePage 31 = .ok (.bipush 8, 2) := by decide +kernel
theorem dX4_writePage_33 : decode cX4_writePage 33 = .ok (.iload_n 2, 1) := by decide +kernel
theorem dX4_writePage_34 : decode cX4_writePage 34 = .ok (.imul, 1) := by decide +kernel
theorem dX4_writePage_35 : decode cX4_writePage 35 = .ok (.iload_n 3, 1) := by decide +kernel
theorem dX4_writePage_36 : decode cX4_writePage 36 = .ok (.iadd, 1) := by decide +kernel
theorem dX4_writePage_37 : decode cX4_writePage 37 = .ok (.aload_n 0, 1) := by decide +kernel
theorem dX4_writePage_38 : decode cX4_writePage 38 = .ok (.getfield 7, 3) := by decide +kernel
theorem dX4_writePage_41 : decode cX4_writePage 41 = .ok (.iload 4, 2) := by decide +kernel
theorem dX4_writePage_43 : decode cX4_writePage 43 = .ok (.baload, 1) := by decide +kernel
theorem dX4_writePage_44 : decode cX4_writePage 44 = .ok (.bastore, 1) := by decide +kernel
theorem dX4_writePage_45 : decode cX4_writePage 45 = .ok (.aload_n 0, 1) := by decide +kernel
theorem dX4_writePage_46 : decode cX4_writePage 46 = .ok (.getfield 65, 3) := by decide +kernel
theorem dX4_writePage_49 : decode cX4_writePage 49 = .ok (.bipush 8, 2) := by decide +kernel
theorem dX4_writePage_51 : decode cX4_writePage 51 = .ok (.iload_n 2, 1) := by decide +kernel
theorem dX4_writePage_52 : decode cX4_writePage 52 = .ok (.imul, 1) := by decide +kernel
theorem dX4_writePage_53 : decode cX4_writePage 53 = .ok (.iload_n 3, 1) := by decide +kernel
theorem dX4_writePage_54 : decode cX4_writePage 54 = .ok (.iadd, 1) := by decide +kernel
theorem dX4_writePage_55 : decode cX4_writePage 55 = .ok (.aload_n 0, 1) := by decide +kernel
theorem dX4_writePage_56 : decode cX4_writePage 56 = .ok (.getfield 13, 3) := by decide +kernel
theorem dX4_writePage_59 : decode cX4_writePage 59 = .ok (.iload 4, 2) := by decide +kernel
theorem dX4_writePage_61 : decode cX4_writePage 61 = .ok (.iaload, 1) := by decide +kernel
theorem dX4_writePage_62 : decode cX4_writePage 62 = .ok (.iastore, 1) := by decide +kernel
theorem dX4_writePage_63 : decode cX4_writePage 63 = .ok (.aload_n 0, 1) := by decide +kernel
theorem dX4_writePage_64 : decode cX4_writePage 64 = .ok (.getfield 68, 3) := by decide +kernel
theorem dX4_writePage_67 : decode cX4_writePage 67 = .ok (.bipush 8, 2) := by decide +kernel
theorem dX4_writePage_69 : decode cX4_writePage 69 = .ok (.iload_n 2, 1) := by decide +kernel
theorem dX4_writePage_70 : decode cX4_writePage 70 = .ok (.imul, 1) := by decide +kernel
theorem dX4_writePage_71 : decode cX4_writePage 71 = .ok (.iload_n 3, 1) := by decide +kernel
theorem dX4_writePage_72 : decode cX4_writePage 72 = .ok (.iadd, 1) := by decide +kernel
theorem dX4_writePage_73 : decode cX4_writePage 73 = .ok (.aload_n 0, 1) := by decide +kernel
theorem dX4_writePage_74 : decode cX4_writePage 74 = .ok (.getfield 17, 3) := by decide +kernel
theorem dX4_writePage_77 : decode cX4_writePage 77 = .ok (.iload 4, 2) := by decide +kernel
theorem dX4_writePage_79 : decode cX4_writePage 79 = .ok (.iaload, 1) := by decide +kernel
theorem dX4_writePage_80 : decode cX4_writePage 80 = .ok (.iastore, 1) := by decide +kernel
theorem dX4_writePage_81 : decode cX4_writePage 81 = .ok (.iinc 3 1, 3) := by decide +kernel
theorem dX4_writePage_84 : decode cX4_writePage 84 = .ok (.goto (-69), 3) := by decide +kernel
theorem dX4_writePage_87 : decode cX4_writePage 87 = .ok (.return_, 1) := by decide +kernel
theorem dX4_writeJournal_0 : decode cX4_writeJournal 0 = .ok (.aload_n 0, 1) := by decide +kernel
theorem dX4_writeJournal_1 : decode cX4_writeJournal 1 = .ok (.iconst 2, 1) := by decide +kernel
theorem dX4_writeJournal_2 : decode cX4_writeJournal 2 = .ok (.invokevirtual 118, 3) := by decide +kernel
theorem dX4_writeJournal_5 : decode cX4_writeJournal 5 = .ok (.istore_n 1, 1) := by decide +kernel
theorem dX4_writeJournal_6 : decode cX4_writeJournal 6 = .ok (.aload_n 0, 1) := by decide +kernel
theorem dX4_writeJournal_7 : decode cX4_writeJournal 7 = .ok (.getfield 56, 3) := by decide +kernel
theorem dX4_writeJournal_10 : decode cX4_writeJournal 10 = .ok (.iload_n 1, 1) := by decide +kernel
theorem dX4_writeJournal_11 : decode cX4_writeJournal 11 = .ok (.aload_n 0, 1) := by decide +kernel
theorem dX4_writeJournal_12 : decode cX4_writeJournal 12 = .ok (.getfield 122, 3) := by decide +kernel
theorem dX4_writeJournal_15 : decode cX4_writeJournal 15 = .ok (.iastore, 1) := by decide +kernel
theorem dX4_writeJournal_16 : decode cX4_writeJournal 16 = .ok (.iconst 0, 1) := by decide +kernel
theorem dX4_writeJournal_17 : decode cX4_writeJournal 17 = .ok (.istore_n 2, 1) := by decide +kernel
theorem dX4_writeJournal_18 : decode cX4_writeJournal 18 = .ok (.iload_n 2, 1) := by decide +kernel
theorem dX4_writeJournal_19 : decode cX4_writeJournal 19 = .ok (.aload_n 0, 1) := by decide +kernel
theorem dX4_writeJournal_20 : decode cX4_writeJournal 20 = .ok (.getfield 122, 3) := by decide +kernel
theorem dX4_writeJournal_23 : decode cX4_writeJournal 23 = .ok (.if_icmp .ge 60, 3) := by decide +kernel
theorem dX4_writeJournal_26 : decode cX4_writeJournal 26 = .ok (.aload_n 0, 1) := by decide +kernel
theorem dX4_writeJournal_27 : decode cX4_writeJournal 27 = .ok (.getfield 62, 3) := by decide +kernel
theorem dX4_writeJournal_30 : decode cX4_writeJournal 30 = .ok (.bipush 8, 2) := by decide +kernel
theorem dX4_writeJournal_32 : decode cX4_writeJournal 32 = .ok (.iload_n 1, 1) := by decide +kernel
theorem dX4_writeJournal_33 : decode cX4_writeJournal 33 = .ok (.imul, 1) := by decide +kernel
theorem dX4_writeJournal_34 : decode cX4_writeJournal 34 = .ok (.iload_n 2, 1) := by decide +kernel
theorem dX4_writeJournal_35 : decode cX4_writeJournal 35 = .ok (.iadd, 1) := by decide +kernel
theorem dX4_writeJournal_36 : decode cX4_writeJournal 36 = .ok (.aload_n 0, 1) := by decide +kernel
theorem dX4_writeJournal_37 : decode cX4_writeJournal 37 = .ok (.getfield 23, 3) := by decide +kernel
theorem dX4_writeJournal_40 : decode cX4_writeJournal 40 = .ok (.iload_n 2, 1) := by decide +kernel
theorem dX4_writeJournal_41 : decode cX4_writeJournal 41 = .ok (.iaload, 1) := by decide +kernel
theorem dX4_writeJournal_42 : decode cX4_writeJournal 42 = .ok (.iastore, 1) := by decide +kernel
theorem dX4_writeJournal_43 : decode cX4_writeJournal 43 = .ok (.aload_n 0, 1) := by decide +kernel
theorem dX4_writeJournal_44 : decode cX4_writeJournal 44 = .ok (.getfield 65, 3) := by decide +kernel
theorem dX4_writeJournal_47 : decode cX4_writeJournal 47 = .ok (.bipush 8, 2) := by decide +kernel
theorem dX4_writeJournal_49 : decode cX4_writeJournal 49 = .ok (.iload_n 1, 1) := by decide +kernel
theorem dX4_writeJournal_50 : decode cX4_writeJournal 50 = .ok (.imul, 1) := by decide +kernel
theorem dX4_writeJournal_51 : decode cX4_writeJournal 51 = .ok (.iload_n 2, 1) := by decide +kernel
theorem dX4_writeJournal_52 : decode cX4_writeJournal 52 = .ok (.iadd, 1) := by decide +kernel
theorem dX4_writeJournal_53 : decode cX4_writeJournal 53 = .ok (.aload_n 0, 1) := by decide +kernel
theorem dX4_writeJournal_54 : decode cX4_writeJournal 54 = .ok (.getfield 26, 3) := by decide +kernel
theorem dX4_writeJournal_57 : decode cX4_writeJournal 57 = .ok (.iload_n 2, 1) := by decide +kernel
theorem dX4_writeJournal_58 : decode cX4_writeJournal 58 = .ok (.iaload, 1) := by decide +kernel
theorem dX4_writeJournal_59 : decode cX4_writeJournal 59 = .ok (.iastore, 1) := by decide +kernel
theorem dX4_writeJournal_60 : decode cX4_writeJournal 60 = .ok (.aload_n 0, 1) := by decide +kernel
theorem dX4_writeJournal_61 : decode cX4_writeJournal 61 = .ok (.getfield 68, 3) := by decide +kernel
theorem dX4_writeJournal_64 : decode cX4_writeJournal 64 = .ok (.bipush 8, 2) := by decide +kernel
theorem dX4_writeJournal_66 : decode cX4_writeJournal 66 = .ok (.iload_n 1, 1) := by decide +kernel
theorem dX4_writeJournal_67 : decode cX4_writeJournal 67 = .ok (.imul, 1) := by decide +kernel
theorem dX4_writeJournal_68 : decode cX4_writeJournal 68 = .ok (.iload_n 2, 1) := by decide +kernel
theorem dX4_writeJournal_69 : decode cX4_writeJournal 69 = .ok (.iadd, 1) := by decide +kernel
theorem dX4_writeJournal_70 : decode cX4_writeJournal 70 = .ok (.aload_n 0, 1) := by decide +kernel
theorem dX4_writeJournal_71 : decode cX4_writeJournal 71 = .ok (.getfield 29, 3) := by decide +kernel
theorem dX4_writeJournal_74 : decode cX4_writeJournal 74 = .ok (.iload_n 2, 1) := by decide +kernel
theorem dX4_writeJournal_75 : decode cX4_writeJournal 75 = .ok (.iaload, 1) := by decide +kernel
theorem dX4_writeJournal_76 : decode cX4_writeJournal 76 = .ok (.iastore, 1) := by decide +kernel
theorem dX4_writeJournal_77 : decode cX4_writeJournal 77 = .ok (.iinc 2 1, 3) := by decide +kernel
theorem dX4_writeJournal_80 : decode cX4_writeJournal 80 = .ok (.goto (-62), 3) := by decide +kernel
theorem dX4_writeJournal_83 : decode cX4_writeJournal 83 = .ok (.return_, 1) := by decide +kernel
theorem dX4_writeRoot_0 : decode cX4_writeRoot 0 = .ok (.aload_n 0, 1) := by decide +kernel
theorem dX4_writeRoot_1 : decode cX4_writeRoot 1 = .ok (.iconst 1, 1) := by decide +kernel
theorem dX4_writeRoot_2 : decode cX4_writeRoot 2 = .ok (.invokevirtual 118, 3) := by decide +kernel
theorem dX4_writeRoot_5 : decode cX4_writeRoot 5 = .ok (.istore_n 1, 1) := by decide +kernel
theorem dX4_writeRoot_6 : decode cX4_writeRoot 6 = .ok (.aload_n 0, 1) := by decide +kernel
theorem dX4_writeRoot_7 : decode cX4_writeRoot 7 = .ok (.getfield 53, 3) := by decide +kernel
theorem dX4_writeRoot_10 : decode cX4_writeRoot 10 = .ok (.iload_n 1, 1) := by decide +kernel
theorem dX4_writeRoot_11 : decode cX4_writeRoot 11 = .ok (.aload_n 0, 1) := by decide +kernel
theorem dX4_writeRoot_12 : decode cX4_writeRoot 12 = .ok (.getfield 125, 3) := by decide +kernel
theorem dX4_writeRoot_15 : decode cX4_writeRoot 15 = .ok (.iastore, 1) := by decide +kernel
theorem dX4_writeRoot_16 : decode cX4_writeRoot 16 = .ok (.aload_n 0, 1) := by decide +kernel
theorem dX4_writeRoot_17 : decode cX4_writeRoot 17 = .ok (.getfield 56, 3) := by decide +kernel
theorem dX4_writeRoot_20 : decode cX4_writeRoot 20 = .ok (.iload_n 1, 1) := by decide +kernel
theorem dX4_writeRoot_21 : decode cX4_writeRoot 21 = .ok (.aload_n 0, 1) := by decide +kernel
theorem dX4_writeRoot_22 : decode cX4_writeRoot 22 = .ok (.getfield 128, 3) := by decide +kernel
theorem dX4_writeRoot_25 : decode cX4_writeRoot 25 = .ok (.iastore, 1) := by decide +kernel
theorem dX4_writeRoot_26 : decode cX4_writeRoot 26 = .ok (.return_, 1) := by decide +kernel
theorem dX4_fill_0 : decode cX4_fill 0 = .ok (.aload_n 0, 1) := by decide +kernel
theorem dX4_fill_1 : decode cX4_fill 1 = .ok (.getfield 7, 3) := by decide +kernel
theorem dX4_fill_4 : decode cX4_fill 4 = .ok (.iload_n 1, 1) := by decide +kernel
theorem dX4_fill_5 : decode cX4_fill 5 = .ok (.iconst 1, 1) := by decide +kernel
theorem dX4_fill_6 : decode cX4_fill 6 = .ok (.bastore, 1) := by decide +kernel
theorem dX4_fill_7 : decode cX4_fill 7 = .ok (.aload_n 0, 1) := by decide +kernel
theorem dX4_fill_8 : decode cX4_fill 8 = .ok (.getfield 13, 3) := by decide +kernel
theorem dX4_fill_11 : decode cX4_fill 11 = .ok (.iload_n 1, 1) := by decide +kernel
theorem dX4_fill_12 : decode cX4_fill 12 = .ok (.iload_n 2, 1) := by decide +kernel
theorem dX4_fill_13 : decode cX4_fill 13 = .ok (.iastore, 1) := by decide +kernel
theorem dX4_fill_14 : decode cX4_fill 14 = .ok (.aload_n 0, 1) := by decide +kernel
theorem dX4_fill_15 : decode cX4_fill 15 = .ok (.getfield 17, 3) := by decide +kernel
theorem dX4_fill_18 : decode cX4_fill 18 = .ok (.iload_n 1, 1) := by decide +kernel
theorem dX4_fill_19 : decode cX4_fill 19 = .ok (.iload_n 3, 1) := by decide +kernel
theorem dX4_fill_20 : decode cX4_fill 20 = .ok (.iastore, 1) := by decide +kernel
theorem dX4_fill_21 : decode cX4_fill 21 = .ok (.iload 4, 2) := by decide +kernel
theorem dX4_fill_23 : decode cX4_fill 23 = .ok (.ifCond .eq 10, 3) := by decide +kernel
theorem dX4_fill_26 : decode cX4_fill 26 = .ok (.aload_n 0, 1) := by decide +kernel
theorem dX4_fill_27 : decode cX4_fill 27 = .ok (.iload_n 1, 1) := by decide +kernel
theorem dX4_fill_28 : decode cX4_fill 28 = .ok (.iconst 4, 1) := by decide +kernel
theorem dX4_fill_29 : decode cX4_fill 29 = .ok (.idiv, 1) := by decide +kernel
theorem dX4_fill_30 : decode cX4_fill 30 = .ok (.invokevirtual 131, 3) := by decide +kernel
theorem dX4_fill_33 : decode cX4_fill 33 = .ok (.return_, 1) := by decide +kernel
theorem dX4_isOnPath_0 : decode cX4_isOnPath 0 = .ok (.iconst 0, 1) := by decide +kernel
theorem dX4_isOnPath_1 : decode cX4_isOnPath 1 = .ok (.istore_n 2, 1) := by decide +kernel
theorem dX4_isOnPath_2 : decode cX4_isOnPath 2 = .ok (.iconst 0, 1) := by decide +kernel
theorem dX4_isOnPath_3 : decode cX4_isOnPath 3 = .ok (.istore_n 3, 1) := by decide +kernel
theorem dX4_isOnPath_4 : decode cX4_isOnPath 4 = .ok (.iload_n 3, 1) := by decide +kernel
theorem dX4_isOnPath_5 : decode cX4_isOnPath 5 = .ok (.aload_n 0, 1) := by decide +kernel
theorem dX4_isOnPath_6 : decode cX4_isOnPath 6 = .ok (.getfield 134, 3) := by decide +kernel
theorem dX4_isOnPath_9 : decode cX4_isOnPath 9 = .ok (.if_icmp .ge 29, 3) := by decide +kernel
theorem dX4_isOnPath_12 : decode cX4_isOnPath 12 = .ok (.iload_n 2, 1) := by decide +kernel
theorem dX4_isOnPath_13 : decode cX4_isOnPath 13 = .ok (.ifCond .ne 13, 3) := by decide +kernel
theorem dX4_isOnPath_16 : decode cX4_isOnPath 16 = .ok (.aload_n 0, 1) := by decide +kernel
theorem dX4_isOnPath_17 : decode cX4_isOnPath 17 = .ok (.getfield 71, 3) := by decide +kernel
theorem dX4_isOnPath_20 : decode cX4_isOnPath 20 = .ok (.iload_n 3, 1) := by decide +kernel
theorem dX4_isOnPath_21 : decode cX4_isOnPath 21 = .ok (.iaload, 1) := by decide +kernel
theorem dX4_isOnPath_22 : decode cX4_isOnPath 22 = .ok (.iload_n 1, 1) := by decide +kernel
theorem dX4_isOnPath_23 : decode cX4_isOnPath 23 = .ok (.if_icmp .ne 7, 3) := by decide +kernel
theorem dX4_isOnPath_26 : decode cX4_isOnPath 26 = .ok (.iconst 1, 1) := by decide +kernel
theorem dX4_isOnPath_27 : decode cX4_isOnPath 27 = .ok (.goto 4, 3) := by decide +kernel
theorem dX4_isOnPath_30 : decode cX4_isOnPath 30 = .ok (.iconst 0, 1) := by decide +kernel
theorem dX4_isOnPath_31 : decode cX4_isOnPath 31 = .ok (.istore_n 2, 1) := by decide +kernel
theorem dX4_isOnPath_32 : decode cX4_isOnPath 32 = .ok (.iinc 3 1, 3) := by decide +kernel
theorem dX4_isOnPath_35 : decode cX4_isOnPath 35 = .ok (.goto (-31), 3) := by decide +kernel
theorem dX4_isOnPath_38 : decode cX4_isOnPath 38 = .ok (.iload_n 2, 1) := by decide +kernel
theorem dX4_isOnPath_39 : decode cX4_isOnPath 39 = .ok (.ireturn, 1) := by decide +kernel
theorem dX4_hasPath_0 : decode cX4_hasPath 0 = .ok (.iload_n 3, 1) := by decide +kernel
theorem dX4_hasPath_1 : decode cX4_hasPath 1 = .ok (.istore 4, 2) := by decide +kernel
theorem dX4_hasPath_3 : decode cX4_hasPath 3 = .ok (.aload_n 0, 1) := by decide +kernel
theorem dX4_hasPath_4 : decode cX4_hasPath 4 = .ok (.iconst 0, 1) := by decide +kernel
theorem dX4_hasPath_5 : decode cX4_hasPath 5 = .ok (.putfield 134, 3) := by decide +kernel
theorem dX4_hasPath_8 : decode cX4_hasPath 8 = .ok (.iconst 0, 1) := by decide +kernel
theorem dX4_hasPath_9 : decode cX4_hasPath 9 = .ok (.istore 5, 2) := by decide +kernel
theorem dX4_hasPath_11 : decode cX4_hasPath 11 = .ok (.iload 5, 2) := by decide +kernel
theorem dX4_hasPath_13 : decode cX4_hasPath 13 = .ok (.bipush 6, 2) := by decide +kernel
theorem dX4_hasPath_15 : decode cX4_hasPath 15 = .ok (.if_icmp .ge 164, 3) := by decide +kernel
theorem dX4_hasPath_18 : decode cX4_hasPath 18 = .ok (.iconst (-1), 1) := by decide +kernel
theorem dX4_hasPath_19 : decode cX4_hasPath 19 = .ok (.istore 6, 2) := by decide +kernel
theorem dX4_hasPath_21 : decode cX4_hasPath 21 = .ok (.iconst 3, 1) := by decide +kernel
theorem dX4_hasPath_22 : decode cX4_hasPath 22 = .ok (.istore 7, 2) := by decide +kernel
theorem dX4_hasPath_24 : decode cX4_hasPath 24 = .ok (.iload 7, 2) := by decide +kernel
theorem dX4_hasPath_26 : decode cX4_hasPath 26 = .ok (.ifCond .lt 42, 3) := by decide +kernel
theorem dX4_hasPath_29 : decode cX4_hasPath 29 = .ok (.iload_n 1, 1) := by decide +kernel
theorem dX4_hasPath_30 : decode cX4_hasPath 30 = .ok (.iload 4, 2) := by decide +kernel
theorem dX4_hasPath_32 : decode cX4_hasPath 32 = .ok (.iload 5, 2) := by decide +kernel
theorem dX4_hasPath_34 : decode cX4_hasPath 34 = .ok (.iload 7, 2) := by decide +kernel
end
section
theorem dX4_hasPath_36 : decode cX4_hasPath 36 = .ok (.iadd, 1) := by decide +kernel
theorem dX4_hasPath_37 : decode cX4_hasPath 37 = .ok (.iconst 4, 1) := by decide +kernel
theorem dX4_hasPath_38 : decode cX4_hasPath 38 = .ok (.irem, 1) := by decide +kernel
theorem dX4_hasPath_39 : decode cX4_hasPath 39 = .ok (.invokestatic 85, 3) := by decide +kernel
theorem dX4_hasPath_42 : decode cX4_hasPath 42 = .ok (.istore 8, 2) := by decide +kernel
theorem dX4_hasPath_44 : decode cX4_hasPath 44 = .ok (.aload_n 0, 1) := by decide +kernel
theorem dX4_hasPath_45 : decode cX4_hasPath 45 = .ok (.iload 8, 2) := by decide +kernel
theorem dX4_hasPath_47 : decode cX4_hasPath 47 = .ok (.invokevirtual 137, 3) := by decide +kernel
theorem dX4_hasPath_50 : decode cX4_hasPath 50 = .ok (.ifCond .eq 8, 3) := by decide +kernel
theorem dX4_hasPath_53 : decode cX4_hasPath 53 = .ok (.iload 6, 2) := by decide +kernel
theorem dX4_hasPath_55 : decode cX4_hasPath 55 = .ok (.goto 5, 3) := by decide +kernel
theorem dX4_hasPath_58 : decode cX4_hasPath 58 = .ok (.iload 8, 2) := by decide +kernel
theorem dX4_hasPath_60 : decode cX4_hasPath 60 = .ok (.istore 6, 2) := by decide +kernel
theorem dX4_hasPath_62 : decode cX4_hasPath 62 = .ok (.iinc 7 (-1), 3) := by decide +kernel
theorem dX4_hasPath_65 : decode cX4_hasPath 65 = .ok (.goto (-41), 3) := by decide +kernel
theorem dX4_hasPath_68 : decode cX4_hasPath 68 = .ok (.iload 6, 2) := by decide +kernel
theorem dX4_hasPath_70 : decode cX4_hasPath 70 = .ok (.ifCond .ge 5, 3) := by decide +kernel
theorem dX4_hasPath_73 : decode cX4_hasPath 73 = .ok (.iconst 0, 1) := by decide +kernel
theorem dX4_hasPath_74 : decode cX4_hasPath 74 = .ok (.ireturn, 1) := by decide +kernel
theorem dX4_hasPath_75 : decode cX4_hasPath 75 = .ok (.aload_n 0, 1) := by decide +kernel
theorem dX4_hasPath_76 : decode cX4_hasPath 76 = .ok (.getfield 71, 3) := by decide +kernel
theorem dX4_hasPath_79 : decode cX4_hasPath 79 = .ok (.aload_n 0, 1) := by decide +kernel
theorem dX4_hasPath_80 : decode cX4_hasPath 80 = .ok (.getfield 134, 3) := by decide +kernel
theorem dX4_hasPath_83 : decode cX4_hasPath 83 = .ok (.iload 6, 2) := by decide +kernel
theorem dX4_hasPath_85 : decode cX4_hasPath 85 = .ok (.iastore, 1) := by decide +kernel
theorem dX4_hasPath_86 : decode cX4_hasPath 86 = .ok (.aload_n 0, 1) := by decide +kernel
theorem dX4_hasPath_87 : decode cX4_hasPath 87 = .ok (.dup, 1) := by decide +kernel
theorem dX4_hasPath_88 : decode cX4_hasPath 88 = .ok (.getfield 134, 3) := by decide +kernel
theorem dX4_hasPath_91 : decode cX4_hasPath 91 = .ok (.iconst 1, 1) := by decide +kernel
theorem dX4_hasPath_92 : decode cX4_hasPath 92 = .ok (.iadd, 1) := by decide +kernel
theorem dX4_hasPath_93 : decode cX4_hasPath 93 = .ok (.putfield 134, 3) := by decide +kernel
theorem dX4_hasPath_96 : decode cX4_hasPath 96 = .ok (.aload_n 0, 1) := by decide +kernel
theorem dX4_hasPath_97 : decode cX4_hasPath 97 = .ok (.getfield 13, 3) := by decide +kernel
theorem dX4_hasPath_100 : decode cX4_hasPath 100 = .ok (.iload 6, 2) := by decide +kernel
theorem dX4_hasPath_102 : decode cX4_hasPath 102 = .ok (.iaload, 1) := by decide +kernel
theorem dX4_hasPath_103 : decode cX4_hasPath 103 = .ok (.iload_n 2, 1) := by decide +kernel
theorem dX4_hasPath_104 : decode cX4_hasPath 104 = .ok (.iconst 0, 1) := by decide +kernel
theorem dX4_hasPath_105 : decode cX4_hasPath 105 = .ok (.invokestatic 89, 3) := by decide +kernel
theorem dX4_hasPath_108 : decode cX4_hasPath 108 = .ok (.istore 7, 2) := by decide +kernel
theorem dX4_hasPath_110 : decode cX4_hasPath 110 = .ok (.iload 7, 2) := by decide +kernel
theorem dX4_hasPath_112 : decode cX4_hasPath 112 = .ok (.iload 4, 2) := by decide +kernel
theorem dX4_hasPath_114 : decode cX4_hasPath 114 = .ok (.if_icmp .ne 18, 3) := by decide +kernel
theorem dX4_hasPath_117 : decode cX4_hasPath 117 = .ok (.aload_n 0, 1) := by decide +kernel
theorem dX4_hasPath_118 : decode cX4_hasPath 118 = .ok (.getfield 13, 3) := by decide +kernel
theorem dX4_hasPath_121 : decode cX4_hasPath 121 = .ok (.iload 6, 2) := by decide +kernel
theorem dX4_hasPath_123 : decode cX4_hasPath 123 = .ok (.iaload, 1) := by decide +kernel
theorem dX4_hasPath_124 : decode cX4_hasPath 124 = .ok (.iload_n 2, 1) := by decide +kernel
theorem dX4_hasPath_125 : decode cX4_hasPath 125 = .ok (.iconst 1, 1) := by decide +kernel
theorem dX4_hasPath_126 : decode cX4_hasPath 126 = .ok (.invokestatic 89, 3) := by decide +kernel
theorem dX4_hasPath_129 : decode cX4_hasPath 129 = .ok (.goto 5, 3) := by decide +kernel
theorem dX4_hasPath_132 : decode cX4_hasPath 132 = .ok (.iload 7, 2) := by decide +kernel
theorem dX4_hasPath_134 : decode cX4_hasPath 134 = .ok (.istore 4, 2) := by decide +kernel
theorem dX4_hasPath_136 : decode cX4_hasPath 136 = .ok (.aload_n 0, 1) := by decide +kernel
theorem dX4_hasPath_137 : decode cX4_hasPath 137 = .ok (.iload_n 1, 1) := by decide +kernel
theorem dX4_hasPath_138 : decode cX4_hasPath 138 = .ok (.iload 4, 2) := by decide +kernel
theorem dX4_hasPath_140 : decode cX4_hasPath 140 = .ok (.invokevirtual 141, 3) := by decide +kernel
theorem dX4_hasPath_143 : decode cX4_hasPath 143 = .ok (.istore 8, 2) := by decide +kernel
theorem dX4_hasPath_145 : decode cX4_hasPath 145 = .ok (.iload 8, 2) := by decide +kernel
theorem dX4_hasPath_147 : decode cX4_hasPath 147 = .ok (.ifCond .lt 26, 3) := by decide +kernel
theorem dX4_hasPath_150 : decode cX4_hasPath 150 = .ok (.aload_n 0, 1) := by decide +kernel
theorem dX4_hasPath_151 : decode cX4_hasPath 151 = .ok (.getfield 71, 3) := by decide +kernel
theorem dX4_hasPath_154 : decode cX4_hasPath 154 = .ok (.aload_n 0, 1) := by decide +kernel
theorem dX4_hasPath_155 : decode cX4_hasPath 155 = .ok (.getfield 134, 3) := by decide +kernel
theorem dX4_hasPath_158 : decode cX4_hasPath 158 = .ok (.iload 8, 2) := by decide +kernel
theorem dX4_hasPath_160 : decode cX4_hasPath 160 = .ok (.iastore, 1) := by decide +kernel
theorem dX4_hasPath_161 : decode cX4_hasPath 161 = .ok (.aload_n 0, 1) := by decide +kernel
theorem dX4_hasPath_162 : decode cX4_hasPath 162 = .ok (.dup, 1) := by decide +kernel
theorem dX4_hasPath_163 : decode cX4_hasPath 163 = .ok (.getfield 134, 3) := by decide +kernel
theorem dX4_hasPath_166 : decode cX4_hasPath 166 = .ok (.iconst 1, 1) := by decide +kernel
theorem dX4_hasPath_167 : decode cX4_hasPath 167 = .ok (.iadd, 1) := by decide +kernel
theorem dX4_hasPath_168 : decode cX4_hasPath 168 = .ok (.putfield 134, 3) := by decide +kernel
theorem dX4_hasPath_171 : decode cX4_hasPath 171 = .ok (.iconst 1, 1) := by decide +kernel
theorem dX4_hasPath_172 : decode cX4_hasPath 172 = .ok (.ireturn, 1) := by decide +kernel
theorem dX4_hasPath_173 : decode cX4_hasPath 173 = .ok (.iinc 5 1, 3) := by decide +kernel
theorem dX4_hasPath_176 : decode cX4_hasPath 176 = .ok (.goto (-165), 3) := by decide +kernel
theorem dX4_hasPath_179 : decode cX4_hasPath 179 = .ok (.iconst 0, 1) := by decide +kernel
theorem dX4_hasPath_180 : decode cX4_hasPath 180 = .ok (.ireturn, 1) := by decide +kernel
theorem dX4_goAlong_0 : decode cX4_goAlong 0 = .ok (.iconst 0, 1) := by decide +kernel
theorem dX4_goAlong_1 : decode cX4_goAlong 1 = .ok (.istore 4, 2) := by decide +kernel
theorem dX4_goAlong_3 : decode cX4_goAlong 3 = .ok (.iload 4, 2) := by decide +kernel
theorem dX4_goAlong_5 : decode cX4_goAlong 5 = .ok (.aload_n 0, 1) := by decide +kernel
theorem dX4_goAlong_6 : decode cX4_goAlong 6 = .ok (.getfield 134, 3) := by decide +kernel
theorem dX4_goAlong_9 : decode cX4_goAlong 9 = .ok (.if_icmp .ge 83, 3) := by decide +kernel
theorem dX4_goAlong_12 : decode cX4_goAlong 12 = .ok (.aload_n 0, 1) := by decide +kernel
theorem dX4_goAlong_13 : decode cX4_goAlong 13 = .ok (.getfield 23, 3) := by decide +kernel
theorem dX4_goAlong_16 : decode cX4_goAlong 16 = .ok (.iload 4, 2) := by decide +kernel
theorem dX4_goAlong_18 : decode cX4_goAlong 18 = .ok (.aload_n 0, 1) := by decide +kernel
theorem dX4_goAlong_19 : decode cX4_goAlong 19 = .ok (.getfield 71, 3) := by decide +kernel
theorem dX4_goAlong_22 : decode cX4_goAlong 22 = .ok (.iload 4, 2) := by decide +kernel
theorem dX4_goAlong_24 : decode cX4_goAlong 24 = .ok (.iaload, 1) := by decide +kernel
theorem dX4_goAlong_25 : decode cX4_goAlong 25 = .ok (.iastore, 1) := by decide +kernel
theorem dX4_goAlong_26 : decode cX4_goAlong 26 = .ok (.aload_n 0, 1) := by decide +kernel
theorem dX4_goAlong_27 : decode cX4_goAlong 27 = .ok (.getfield 26, 3) := by decide +kernel
theorem dX4_goAlong_30 : decode cX4_goAlong 30 = .ok (.iload 4, 2) := by decide +kernel
theorem dX4_goAlong_32 : decode cX4_goAlong 32 = .ok (.iload 4, 2) := by decide +kernel
theorem dX4_goAlong_34 : decode cX4_goAlong 34 = .ok (.ifCond .ne 7, 3) := by decide +kernel
theorem dX4_goAlong_37 : decode cX4_goAlong 37 = .ok (.iload_n 1, 1) := by decide +kernel
theorem dX4_goAlong_38 : decode cX4_goAlong 38 = .ok (.goto 17, 3) := by decide +kernel
theorem dX4_goAlong_41 : decode cX4_goAlong 41 = .ok (.aload_n 0, 1) := by decide +kernel
theorem dX4_goAlong_42 : decode cX4_goAlong 42 = .ok (.getfield 13, 3) := by decide +kernel
theorem dX4_goAlong_45 : decode cX4_goAlong 45 = .ok (.aload_n 0, 1) := by decide +kernel
theorem dX4_goAlong_46 : decode cX4_goAlong 46 = .ok (.getfield 71, 3) := by decide +kernel
theorem dX4_goAlong_49 : decode cX4_goAlong 49 = .ok (.iload 4, 2) := by decide +kernel
theorem dX4_goAlong_51 : decode cX4_goAlong 51 = .ok (.iconst 1, 1) := by decide +kernel
theorem dX4_goAlong_52 : decode cX4_goAlong 52 = .ok (.isub, 1) := by decide +kernel
theorem dX4_goAlong_53 : decode cX4_goAlong 53 = .ok (.iaload, 1) := by decide +kernel
theorem dX4_goAlong_54 : decode cX4_goAlong 54 = .ok (.iaload, 1) := by decide +kernel
theorem dX4_goAlong_55 : decode cX4_goAlong 55 = .ok (.iastore, 1) := by decide +kernel
theorem dX4_goAlong_56 : decode cX4_goAlong 56 = .ok (.aload_n 0, 1) := by decide +kernel
theorem dX4_goAlong_57 : decode cX4_goAlong 57 = .ok (.getfield 29, 3) := by decide +kernel
theorem dX4_goAlong_60 : decode cX4_goAlong 60 = .ok (.iload 4, 2) := by decide +kernel
theorem dX4_goAlong_62 : decode cX4_goAlong 62 = .ok (.iload 4, 2) := by decide +kernel
theorem dX4_goAlong_64 : decode cX4_goAlong 64 = .ok (.ifCond .ne 7, 3) := by decide +kernel
theorem dX4_goAlong_67 : decode cX4_goAlong 67 = .ok (.iload_n 2, 1) := by decide +kernel
theorem dX4_goAlong_68 : decode cX4_goAlong 68 = .ok (.goto 17, 3) := by decide +kernel
theorem dX4_goAlong_71 : decode cX4_goAlong 71 = .ok (.aload_n 0, 1) := by decide +kernel
theorem dX4_goAlong_72 : decode cX4_goAlong 72 = .ok (.getfield 17, 3) := by decide +kernel
theorem dX4_goAlong_75 : decode cX4_goAlong 75 = .ok (.aload_n 0, 1) := by decide +kernel
theorem dX4_goAlong_76 : decode cX4_goAlong 76 = .ok (.getfield 71, 3) := by decide +kernel
theorem dX4_goAlong_79 : decode cX4_goAlong 79 = .ok (.iload 4, 2) := by decide +kernel
theorem dX4_goAlong_81 : decode cX4_goAlong 81 = .ok (.iconst 1, 1) := by decide +kernel
theorem dX4_goAlong_82 : decode cX4_goAlong 82 = .ok (.isub, 1) := by decide +kernel
theorem dX4_goAlong_83 : decode cX4_goAlong 83 = .ok (.iaload, 1) := by decide +kernel
theorem dX4_goAlong_84 : decode cX4_goAlong 84 = .ok (.iaload, 1) := by decide +kernel
theorem dX4_goAlong_85 : decode cX4_goAlong 85 = .ok (.iastore, 1) := by decide +kernel
theorem dX4_goAlong_86 : decode cX4_goAlong 86 = .ok (.iinc 4 1, 3) := by decide +kernel
theorem dX4_goAlong_89 : decode cX4_goAlong 89 = .ok (.goto (-86), 3) := by decide +kernel
theorem dX4_goAlong_92 : decode cX4_goAlong 92 = .ok (.aload_n 0, 1) := by decide +kernel
theorem dX4_goAlong_93 : decode cX4_goAlong 93 = .ok (.aload_n 0, 1) := by decide +kernel
theorem dX4_goAlong_94 : decode cX4_goAlong 94 = .ok (.getfield 134, 3) := by decide +kernel
theorem dX4_goAlong_97 : decode cX4_goAlong 97 = .ok (.putfield 122, 3) := by decide +kernel
theorem dX4_goAlong_100 : decode cX4_goAlong 100 = .ok (.iload_n 3, 1) := by decide +kernel
theorem dX4_goAlong_101 : decode cX4_goAlong 101 = .ok (.ifCond .eq 15, 3) := by decide +kernel
theorem dX4_goAlong_104 : decode cX4_goAlong 104 = .ok (.aload_n 0, 1) := by decide +kernel
theorem dX4_goAlong_105 : decode cX4_goAlong 105 = .ok (.aload_n 0, 1) := by decide +kernel
theorem dX4_goAlong_106 : decode cX4_goAlong 106 = .ok (.getfield 134, 3) := by decide +kernel
theorem dX4_goAlong_109 : decode cX4_goAlong 109 = .ok (.putfield 145, 3) := by decide +kernel
theorem dX4_goAlong_112 : decode cX4_goAlong 112 = .ok (.aload_n 0, 1) := by decide +kernel
theorem dX4_goAlong_113 : decode cX4_goAlong 113 = .ok (.invokevirtual 148, 3) := by decide +kernel
theorem dX4_goAlong_116 : decode cX4_goAlong 116 = .ok (.aload_n 0, 1) := by decide +kernel
theorem dX4_goAlong_117 : decode cX4_goAlong 117 = .ok (.getfield 134, 3) := by decide +kernel
theorem dX4_goAlong_120 : decode cX4_goAlong 120 = .ok (.iconst 1, 1) := by decide +kernel
theorem dX4_goAlong_121 : decode cX4_goAlong 121 = .ok (.isub, 1) := by decide +kernel
theorem dX4_goAlong_122 : decode cX4_goAlong 122 = .ok (.istore 4, 2) := by decide +kernel
theorem dX4_goAlong_124 : decode cX4_goAlong 124 = .ok (.iload 4, 2) := by decide +kernel
theorem dX4_goAlong_126 : decode cX4_goAlong 126 = .ok (.ifCond .lt 35, 3) := by decide +kernel
theorem dX4_goAlong_129 : decode cX4_goAlong 129 = .ok (.aload_n 0, 1) := by decide +kernel
theorem dX4_goAlong_130 : decode cX4_goAlong 130 = .ok (.aload_n 0, 1) := by decide +kernel
theorem dX4_goAlong_131 : decode cX4_goAlong 131 = .ok (.getfield 23, 3) := by decide +kernel
theorem dX4_goAlong_134 : decode cX4_goAlong 134 = .ok (.iload 4, 2) := by decide +kernel
theorem dX4_goAlong_136 : decode cX4_goAlong 136 = .ok (.iaload, 1) := by decide +kernel
theorem dX4_goAlong_137 : decode cX4_goAlong 137 = .ok (.aload_n 0, 1) := by decide +kernel
theorem dX4_goAlong_138 : decode cX4_goAlong 138 = .ok (.getfield 26, 3) := by decide +kernel
theorem dX4_goAlong_141 : decode cX4_goAlong 141 = .ok (.iload 4, 2) := by decide +kernel
theorem dX4_goAlong_143 : decode cX4_goAlong 143 = .ok (.iaload, 1) := by decide +kernel
theorem dX4_goAlong_144 : decode cX4_goAlong 144 = .ok (.aload_n 0, 1) := by decide +kernel
theorem dX4_goAlong_145 : decode cX4_goAlong 145 = .ok (.getfield 29, 3) := by decide +kernel
theorem dX4_goAlong_148 : decode cX4_goAlong 148 = .ok (.iload 4, 2) := by decide +kernel
theorem dX4_goAlong_150 : decode cX4_goAlong 150 = .ok (.iaload, 1) := by decide +kernel
theorem dX4_goAlong_151 : decode cX4_goAlong 151 = .ok (.iload_n 3, 1) := by decide +kernel
theorem dX4_goAlong_152 : decode cX4_goAlong 152 = .ok (.invokevirtual 151, 3) := by decide +kernel
theorem dX4_goAlong_155 : decode cX4_goAlong 155 = .ok (.iinc 4 (-1), 3) := by decide +kernel
theorem dX4_goAlong_158 : decode cX4_goAlong 158 = .ok (.goto (-34), 3) := by decide +kernel
theorem dX4_goAlong_161 : decode cX4_goAlong 161 = .ok (.aload_n 0, 1) := by decide +kernel
theorem dX4_goAlong_162 : decode cX4_goAlong 162 = .ok (.iconst 0, 1) := by decide +kernel
theorem dX4_goAlong_163 : decode cX4_goAlong 163 = .ok (.putfield 122, 3) := by decide +kernel
theorem dX4_goAlong_166 : decode cX4_goAlong 166 = .ok (.iload_n 3, 1) := by decide +kernel
theorem dX4_goAlong_167 : decode cX4_goAlong 167 = .ok (.ifCond .eq 7, 3) := by decide +kernel
theorem dX4_goAlong_170 : decode cX4_goAlong 170 = .ok (.aload_n 0, 1) := by decide +kernel
theorem dX4_goAlong_171 : decode cX4_goAlong 171 = .ok (.invokevirtual 148, 3) := by decide +kernel
theorem dX4_goAlong_174 : decode cX4_goAlong 174 = .ok (.return_, 1) := by decide +kernel
theorem dX4_putInto_0 : decode cX4_putInto 0 = .ok (.iload_n 3, 1) := by decide +kernel
theorem dX4_putInto_1 : decode cX4_putInto 1 = .ok (.iload_n 2, 1) := by decide +kernel
theorem dX4_putInto_2 : decode cX4_putInto 2 = .ok (.iconst 0, 1) := by decide +kernel
theorem dX4_putInto_3 : decode cX4_putInto 3 = .ok (.invokestatic 89, 3) := by decide +kernel
theorem dX4_putInto_6 : decode cX4_putInto 6 = .ok (.istore 6, 2) := by decide +kernel
theorem dX4_putInto_8 : decode cX4_putInto 8 = .ok (.iload_n 3, 1) := by decide +kernel
theorem dX4_putInto_9 : decode cX4_putInto 9 = .ok (.iload_n 2, 1) := by decide +kernel
theorem dX4_putInto_10 : decode cX4_putInto 10 = .ok (.iconst 1, 1) := by decide +kernel
theorem dX4_putInto_11 : decode cX4_putInto 11 = .ok (.invokestatic 89, 3) := by decide +kernel
theorem dX4_putInto_14 : decode cX4_putInto 14 = .ok (.istore 7, 2) := by decide +kernel
theorem dX4_putInto_16 : decode cX4_putInto 16 = .ok (.aload_n 0, 1) := by decide +kernel
theorem dX4_putInto_17 : decode cX4_putInto 17 = .ok (.iload_n 1, 1) := by decide +kernel
theorem dX4_putInto_18 : decode cX4_putInto 18 = .ok (.iload 6, 2) := by decide +kernel
theorem dX4_putInto_20 : decode cX4_putInto 20 = .ok (.invokevirtual 141, 3) := by decide +kernel
theorem dX4_putInto_23 : decode cX4_putInto 23 = .ok (.istore 8, 2) := by decide +kernel
theorem dX4_putInto_25 : decode cX4_putInto 25 = .ok (.iload 8, 2) := by decide +kernel
theorem dX4_putInto_27 : decode cX4_putInto 27 = .ok (.ifCond .ge 13, 3) := by decide +kernel
theorem dX4_putInto_30 : decode cX4_putInto 30 = .ok (.aload_n 0, 1) := by decide +kernel
theorem dX4_putInto_31 : decode cX4_putInto 31 = .ok (.iload_n 1, 1) := by decide +kernel
theorem dX4_putInto_32 : decode cX4_putInto 32 = .ok (.iload 7, 2) := by decide +kernel
theorem dX4_putInto_34 : decode cX4_putInto 34 = .ok (.invokevirtual 141, 3) := by decide +kernel
theorem dX4_putInto_37 : decode cX4_putInto 37 = .ok (.goto 5, 3) := by decide +kernel
theorem dX4_putInto_40 : decode cX4_putInto 40 = .ok (.iload 8, 2) := by decide +kernel
theorem dX4_putInto_42 : decode cX4_putInto 42 = .ok (.istore 8, 2) := by decide +kernel
theorem dX4_putInto_44 : decode cX4_putInto 44 = .ok (.iload 8, 2) := by decide +kernel
theorem dX4_putInto_46 : decode cX4_putInto 46 = .ok (.ifCond .lt 16, 3) := by decide +kernel
theorem dX4_putInto_49 : decode cX4_putInto 49 = .ok (.aload_n 0, 1) := by decide +kernel
theorem dX4_putInto_50 : decode cX4_putInto 50 = .ok (.iload 8, 2) := by decide +kernel
theorem dX4_putInto_52 : decode cX4_putInto 52 = .ok (.iload_n 3, 1) := by decide +kernel
theorem dX4_putInto_53 : decode cX4_putInto 53 = .ok (.iload 4, 2) := by decide +kernel
theorem dX4_putInto_55 : decode cX4_putInto 55 = .ok (.iload 5, 2) := by decide +kernel
theorem dX4_putInto_57 : decode cX4_putInto 57 = .ok (.invokevirtual 151, 3) := by decide +kernel
theorem dX4_putInto_60 : decode cX4_putInto 60 = .ok (.iconst 1, 1) := by decide +kernel
theorem dX4_putInto_61 : decode cX4_putInto 61 = .ok (.ireturn, 1) := by decide +kernel
theorem dX4_putInto_62 : decode cX4_putInto 62 = .ok (.aload_n 0, 1) := by decide +kernel
theorem dX4_putInto_63 : decode cX4_putInto 63 = .ok (.iload_n 1, 1) := by decide +kernel
theorem dX4_putInto_64 : decode cX4_putInto 64 = .ok (.iload_n 2, 1) := by decide +kernel
theorem dX4_putInto_65 : decode cX4_putInto 65 = .ok (.iload 6, 2) := by decide +kernel
theorem dX4_putInto_67 : decode cX4_putInto 67 = .ok (.invokevirtual 155, 3) := by decide +kernel
theorem dX4_putInto_70 : decode cX4_putInto 70 = .ok (.ifCond .ne 14, 3) := by decide +kernel
theorem dX4_putInto_73 : decode cX4_putInto 73 = .ok (.aload_n 0, 1) := by decide +kernel
theorem dX4_putInto_74 : decode cX4_putInto 74 = .ok (.iload_n 1, 1) := by decide +kernel
theorem dX4_putInto_75 : decode cX4_putInto 75 = .ok (.iload_n 2, 1) := by decide +kernel
theorem dX4_putInto_76 : decode cX4_putInto 76 = .ok (.iload 7, 2) := by decide +kernel
theorem dX4_putInto_78 : decode cX4_putInto 78 = .ok (.invokevirtual 155, 3) := by decide +kernel
theorem dX4_putInto_81 : decode cX4_putInto 81 = .ok (.ifCond .eq 14, 3) := by decide +kernel
theorem dX4_putInto_84 : decode cX4_putInto 84 = .ok (.aload_n 0, 1) := by decide +kernel
theorem dX4_putInto_85 : decode cX4_putInto 85 = .ok (.iload_n 3, 1) := by decide +kernel
theorem dX4_putInto_86 : decode cX4_putInto 86 = .ok (.iload 4, 2) := by decide +kernel
theorem dX4_putInto_88 : decode cX4_putInto 88 = .ok (.iload 5, 2) := by decide +kernel
theorem dX4_putInto_90 : decode cX4_putInto 90 = .ok (.invokevirtual 159, 3) := by decide +kernel
theorem dX4_putInto_93 : decode cX4_putInto 93 = .ok (.iconst 2, 1) := by decide +kernel
theorem dX4_putInto_94 : decode cX4_putInto 94 = .ok (.ireturn, 1) := by decide +kernel
theorem dX4_putInto_95 : decode cX4_putInto 95 = .ok (.aload_n 0, 1) := by decide +kernel
theorem dX4_putInto_96 : decode cX4_putInto 96 = .ok (.iload_n 1, 1) := by decide +kernel
theorem dX4_putInto_97 : decode cX4_putInto 97 = .ok (.bipush 8, 2) := by decide +kernel
theorem dX4_putInto_99 : decode cX4_putInto 99 = .ok (.invokevirtual 141, 3) := by decide +kernel
theorem dX4_putInto_102 : decode cX4_putInto 102 = .ok (.istore 8, 2) := by decide +kernel
theorem dX4_putInto_104 : decode cX4_putInto 104 = .ok (.iload 8, 2) := by decide +kernel
theorem dX4_putInto_106 : decode cX4_putInto 106 = .ok (.ifCond .ge 6, 3) := by decide +kernel
theorem dX4_putInto_109 : decode cX4_putInto 109 = .ok (.bipush (-2), 2) := by decide +kernel
theorem dX4_putInto_111 : decode cX4_putInto 111 = .ok (.ireturn, 1) := by decide +kernel
theorem dX4_putInto_112 : decode cX4_putInto 112 = .ok (.aload_n 0, 1) := by decide +kernel
theorem dX4_putInto_113 : decode cX4_putInto 113 = .ok (.iload 8, 2) := by decide +kernel
theorem dX4_putInto_115 : decode cX4_putInto 115 = .ok (.iload_n 3, 1) := by decide +kernel
theorem dX4_putInto_116 : decode cX4_putInto 116 = .ok (.iload 4, 2) := by decide +kernel
theorem dX4_putInto_118 : decode cX4_putInto 118 = .ok (.iload 5, 2) := by decide +kernel
theorem dX4_putInto_120 : decode cX4_putInto 120 = .ok (.invokevirtual 151, 3) := by decide +kernel
theorem dX4_putInto_123 : decode cX4_putInto 123 = .ok (.iconst 3, 1) := by decide +kernel
theorem dX4_putInto_124 : decode cX4_putInto 124 = .ok (.ireturn, 1) := by decide +kernel
theorem dX4_fitsBy_0 : decode cX4_fitsBy 0 = .ok (.bipush 72, 2) := by decide +kernel
theorem dX4_fitsBy_2 : decode cX4_fitsBy 2 = .ok (.istore 4, 2) := by decide +kernel
theorem dX4_fitsBy_4 : decode cX4_fitsBy 4 = .ok (.iload 4, 2) := by decide +kernel
theorem dX4_fitsBy_6 : decode cX4_fitsBy 6 = .ok (.bipush 108, 2) := by decide +kernel
theorem dX4_fitsBy_8 : decode cX4_fitsBy 8 = .ok (.if_icmp .ge 17, 3) := by decide +kernel
theorem dX4_fitsBy_11 : decode cX4_fitsBy 11 = .ok (.aload_n 0, 1) := by decide +kernel
theorem dX4_fitsBy_12 : decode cX4_fitsBy 12 = .ok (.getfield 7, 3) := by decide +kernel
theorem dX4_fitsBy_15 : decode cX4_fitsBy 15 = .ok (.iload 4, 2) := by decide +kernel
theorem dX4_fitsBy_17 : decode cX4_fitsBy 17 = .ok (.iconst 0, 1) := by decide +kernel
theorem dX4_fitsBy_18 : decode cX4_fitsBy 18 = .ok (.bastore, 1) := by decide +kernel
theorem dX4_fitsBy_19 : decode cX4_fitsBy 19 = .ok (.iinc 4 1, 3) := by decide +kernel
theorem dX4_fitsBy_22 : decode cX4_fitsBy 22 = .ok (.goto (-18), 3) := by decide +kernel
theorem dX4_fitsBy_25 : decode cX4_fitsBy 25 = .ok (.iconst 0, 1) := by decide +kernel
theorem dX4_fitsBy_26 : decode cX4_fitsBy 26 = .ok (.istore 4, 2) := by decide +kernel
theorem dX4_fitsBy_28 : decode cX4_fitsBy 28 = .ok (.iload 4, 2) := by decide +kernel
theorem dX4_fitsBy_30 : decode cX4_fitsBy 30 = .ok (.bipush 36, 2) := by decide +kernel
theorem dX4_fitsBy_32 : decode cX4_fitsBy 32 = .ok (.if_icmp .ge 57, 3) := by decide +kernel
theorem dX4_fitsBy_35 : decode cX4_fitsBy 35 = .ok (.bipush 36, 2) := by decide +kernel
theorem dX4_fitsBy_37 : decode cX4_fitsBy 37 = .ok (.aload_n 0, 1) := by decide +kernel
theorem dX4_fitsBy_38 : decode cX4_fitsBy 38 = .ok (.getfield 125, 3) := by decide +kernel
theorem dX4_fitsBy_41 : decode cX4_fitsBy 41 = .ok (.imul, 1) := by decide +kernel
theorem dX4_fitsBy_42 : decode cX4_fitsBy 42 = .ok (.iload 4, 2) := by decide +kernel
theorem dX4_fitsBy_44 : decode cX4_fitsBy 44 = .ok (.iadd, 1) := by decide +kernel
theorem dX4_fitsBy_45 : decode cX4_fitsBy 45 = .ok (.istore 5, 2) := by decide +kernel
theorem dX4_fitsBy_47 : decode cX4_fitsBy 47 = .ok (.aload_n 0, 1) := by decide +kernel
theorem dX4_fitsBy_48 : decode cX4_fitsBy 48 = .ok (.getfield 7, 3) := by decide +kernel
theorem dX4_fitsBy_51 : decode cX4_fitsBy 51 = .ok (.iload 5, 2) := by decide +kernel
theorem dX4_fitsBy_53 : decode cX4_fitsBy 53 = .ok (.baload, 1) := by decide +kernel
theorem dX4_fitsBy_54 : decode cX4_fitsBy 54 = .ok (.ifCond .eq 29, 3) := by decide +kernel
theorem dX4_fitsBy_57 : decode cX4_fitsBy 57 = .ok (.aload_n 0, 1) := by decide +kernel
theorem dX4_fitsBy_58 : decode cX4_fitsBy 58 = .ok (.iconst 2, 1) := by decide +kernel
theorem dX4_fitsBy_59 : decode cX4_fitsBy 59 = .ok (.iload_n 1, 1) := by decide +kernel
theorem dX4_fitsBy_60 : decode cX4_fitsBy 60 = .ok (.aload_n 0, 1) := by decide +kernel
theorem dX4_fitsBy_61 : decode cX4_fitsBy 61 = .ok (.getfield 13, 3) := by decide +kernel
theorem dX4_fitsBy_64 : decode cX4_fitsBy 64 = .ok (.iload 5, 2) := by decide +kernel
theorem dX4_fitsBy_66 : decode cX4_fitsBy 66 = .ok (.iaload, 1) := by decide +kernel
theorem dX4_fitsBy_67 : decode cX4_fitsBy 67 = .ok (.aload_n 0, 1) := by decide +kernel
theorem dX4_fitsBy_68 : decode cX4_fitsBy 68 = .ok (.getfield 17, 3) := by decide +kernel
theorem dX4_fitsBy_71 : decode cX4_fitsBy 71 = .ok (.iload 5, 2) := by decide +kernel
theorem dX4_fitsBy_73 : decode cX4_fitsBy 73 = .ok (.iaload, 1) := by decide +kernel
theorem dX4_fitsBy_74 : decode cX4_fitsBy 74 = .ok (.iconst 0, 1) := by decide +kernel
theorem dX4_fitsBy_75 : decode cX4_fitsBy 75 = .ok (.invokevirtual 163, 3) := by decide +kernel
theorem dX4_fitsBy_78 : decode cX4_fitsBy 78 = .ok (.ifCond .ge 5, 3) := by decide +kernel
theorem dX4_fitsBy_81 : decode cX4_fitsBy 81 = .ok (.iconst 0, 1) := by decide +kernel
theorem dX4_fitsBy_82 : decode cX4_fitsBy 82 = .ok (.ireturn, 1) := by decide +kernel
theorem dX4_fitsBy_83 : decode cX4_fitsBy 83 = .ok (.iinc 4 1, 3) := by decide +kernel
theorem dX4_fitsBy_86 : decode cX4_fitsBy 86 = .ok (.goto (-58), 3) := by decide +kernel
theorem dX4_fitsBy_89 : decode cX4_fitsBy 89 = .ok (.aload_n 0, 1) := by decide +kernel
theorem dX4_fitsBy_90 : decode cX4_fitsBy 90 = .ok (.iconst 2, 1) := by decide +kernel
theorem dX4_fitsBy_91 : decode cX4_fitsBy 91 = .ok (.iload_n 1, 1) := by decide +kernel
theorem dX4_fitsBy_92 : decode cX4_fitsBy 92 = .ok (.iload_n 2, 1) := by decide +kernel
theorem dX4_fitsBy_93 : decode cX4_fitsBy 93 = .ok (.iload_n 3, 1) := by decide +kernel
theorem dX4_fitsBy_94 : decode cX4_fitsBy 94 = .ok (.iconst 0, 1) := by decide +kernel
theorem dX4_fitsBy_95 : decode cX4_fitsBy 95 = .ok (.invokevirtual 163, 3) := by decide +kernel
theorem dX4_fitsBy_98 : decode cX4_fitsBy 98 = .ok (.ifCond .le 7, 3) := by decide +kernel
theorem dX4_fitsBy_101 : decode cX4_fitsBy 101 = .ok (.iconst 1, 1) := by decide +kernel
theorem dX4_fitsBy_102 : decode cX4_fitsBy 102 = .ok (.goto 4, 3) := by decide +kernel
theorem dX4_fitsBy_105 : decode cX4_fitsBy 105 = .ok (.iconst 0, 1) := by decide +kernel
theorem dX4_fitsBy_106 : decode cX4_fitsBy 106 = .ok (.ireturn, 1) := by decide +kernel
theorem dX4_makeAnew_0 : decode cX4_makeAnew 0 = .ok (.iconst 1, 1) := by decide +kernel
theorem dX4_makeAnew_1 : decode cX4_makeAnew 1 = .ok (.istore_n 3, 1) := by decide +kernel
theorem dX4_makeAnew_2 : decode cX4_makeAnew 2 = .ok (.iload_n 3, 1) := by decide +kernel
theorem dX4_makeAnew_3 : decode cX4_makeAnew 3 = .ok (.iconst 4, 1) := by decide +kernel
theorem dX4_makeAnew_4 : decode cX4_makeAnew 4 = .ok (.if_icmp .ge 188, 3) := by decide +kernel
theorem dX4_makeAnew_7 : decode cX4_makeAnew 7 = .ok (.aload_n 0, 1) := by decide +kernel
theorem dX4_makeAnew_8 : decode cX4_makeAnew 8 = .ok (.getfield 128, 3) := by decide +kernel
theorem dX4_makeAnew_11 : decode cX4_makeAnew 11 = .ok (.iload_n 3, 1) := by decide +kernel
theorem dX4_makeAnew_12 : decode cX4_makeAnew 12 = .ok (.iadd, 1) := by decide +kernel
theorem dX4_makeAnew_13 : decode cX4_makeAnew 13 = .ok (.iconst 4, 1) := by decide +kernel
theorem dX4_makeAnew_14 : decode cX4_makeAnew 14 = .ok (.irem, 1) := by decide +kernel
theorem dX4_makeAnew_15 : decode cX4_makeAnew 15 = .ok (.istore 4, 2) := by decide +kernel
theorem dX4_makeAnew_17 : decode cX4_makeAnew 17 = .ok (.aload_n 0, 1) := by decide +kernel
theorem dX4_makeAnew_18 : decode cX4_makeAnew 18 = .ok (.aload_n 0, 1) := by decide +kernel
theorem dX4_makeAnew_19 : decode cX4_makeAnew 19 = .ok (.getfield 20, 3) := by decide +kernel
theorem dX4_makeAnew_22 : decode cX4_makeAnew 22 = .ok (.iload 4, 2) := by decide +kernel
theorem dX4_makeAnew_24 : decode cX4_makeAnew 24 = .ok (.iaload, 1) := by decide +kernel
theorem dX4_makeAnew_25 : decode cX4_makeAnew 25 = .ok (.iload_n 1, 1) := by decide +kernel
theorem dX4_makeAnew_26 : decode cX4_makeAnew 26 = .ok (.iload_n 2, 1) := by decide +kernel
theorem dX4_makeAnew_27 : decode cX4_makeAnew 27 = .ok (.invokevirtual 167, 3) := by decide +kernel
theorem dX4_makeAnew_30 : decode cX4_makeAnew 30 = .ok (.ifCond .eq 156, 3) := by decide +kernel
theorem dX4_makeAnew_33 : decode cX4_makeAnew 33 = .ok (.aload_n 0, 1) := by decide +kernel
theorem dX4_makeAnew_34 : decode cX4_makeAnew 34 = .ok (.iconst 1, 1) := by decide +kernel
theorem dX4_makeAnew_35 : decode cX4_makeAnew 35 = .ok (.aload_n 0, 1) := by decide +kernel
theorem dX4_makeAnew_36 : decode cX4_makeAnew 36 = .ok (.getfield 125, 3) := by decide +kernel
theorem dX4_makeAnew_39 : decode cX4_makeAnew 39 = .ok (.isub, 1) := by decide +kernel
theorem dX4_makeAnew_40 : decode cX4_makeAnew 40 = .ok (.putfield 125, 3) := by decide +kernel
theorem dX4_makeAnew_43 : decode cX4_makeAnew 43 = .ok (.aload_n 0, 1) := by decide +kernel
theorem dX4_makeAnew_44 : decode cX4_makeAnew 44 = .ok (.iload 4, 2) := by decide +kernel
theorem dX4_makeAnew_46 : decode cX4_makeAnew 46 = .ok (.putfield 128, 3) := by decide +kernel
theorem dX4_makeAnew_49 : decode cX4_makeAnew 49 = .ok (.iconst 0, 1) := by decide +kernel
theorem dX4_makeAnew_50 : decode cX4_makeAnew 50 = .ok (.istore 5, 2) := by decide +kernel
theorem dX4_makeAnew_52 : decode cX4_makeAnew 52 = .ok (.iload 5, 2) := by decide +kernel
theorem dX4_makeAnew_54 : decode cX4_makeAnew 54 = .ok (.bipush 36, 2) := by decide +kernel
theorem dX4_makeAnew_56 : decode cX4_makeAnew 56 = .ok (.if_icmp .ge 84, 3) := by decide +kernel
theorem dX4_makeAnew_59 : decode cX4_makeAnew 59 = .ok (.aload_n 0, 1) := by decide +kernel
theorem dX4_makeAnew_60 : decode cX4_makeAnew 60 = .ok (.getfield 7, 3) := by decide +kernel
theorem dX4_makeAnew_63 : decode cX4_makeAnew 63 = .ok (.bipush 36, 2) := by decide +kernel
theorem dX4_makeAnew_65 : decode cX4_makeAnew 65 = .ok (.aload_n 0, 1) := by decide +kernel
theorem dX4_makeAnew_66 : decode cX4_makeAnew 66 = .ok (.getfield 125, 3) := by decide +kernel
theorem dX4_makeAnew_69 : decode cX4_makeAnew 69 = .ok (.imul, 1) := by decide +kernel
theorem dX4_makeAnew_70 : decode cX4_makeAnew 70 = .ok (.iload 5, 2) := by decide +kernel
theorem dX4_makeAnew_72 : decode cX4_makeAnew 72 = .ok (.iadd, 1) := by decide +kernel
theorem dX4_makeAnew_73 : decode cX4_makeAnew 73 = .ok (.aload_n 0, 1) := by decide +kernel
theorem dX4_makeAnew_74 : decode cX4_makeAnew 74 = .ok (.getfield 7, 3) := by decide +kernel
theorem dX4_makeAnew_77 : decode cX4_makeAnew 77 = .ok (.bipush 72, 2) := by decide +kernel
theorem dX4_makeAnew_79 : decode cX4_makeAnew 79 = .ok (.iload 5, 2) := by decide +kernel
theorem dX4_makeAnew_81 : decode cX4_makeAnew 81 = .ok (.iadd, 1) := by decide +kernel
theorem dX4_makeAnew_82 : decode cX4_makeAnew 82 = .ok (.baload, 1) := by decide +kernel
theorem dX4_makeAnew_83 : decode cX4_makeAnew 83 = .ok (.bastore, 1) := by decide +kernel
theorem dX4_makeAnew_84 : decode cX4_makeAnew 84 = .ok (.aload_n 0, 1) := by decide +kernel
theorem dX4_makeAnew_85 : decode cX4_makeAnew 85 = .ok (.getfield 13, 3) := by decide +kernel
theorem dX4_makeAnew_88 : decode cX4_makeAnew 88 = .ok (.bipush 36, 2) := by decide +kernel
theorem dX4_makeAnew_90 : decode cX4_makeAnew 90 = .ok (.aload_n 0, 1) := by decide +kernel
theorem dX4_makeAnew_91 : decode cX4_makeAnew 91 = .ok (.getfield 125, 3) := by decide +kernel
theorem dX4_makeAnew_94 : decode cX4_makeAnew 94 = .ok (.imul, 1) := by decide +kernel
theorem dX4_makeAnew_95 : decode cX4_makeAnew 95 = .ok (.iload 5, 2) := by decide +kernel
theorem dX4_makeAnew_97 : decode cX4_makeAnew 97 = .ok (.iadd, 1) := by decide +kernel
theorem dX4_makeAnew_98 : decode cX4_makeAnew 98 = .ok (.aload_n 0, 1) := by decide +kernel
theorem dX4_makeAnew_99 : decode cX4_makeAnew 99 = .ok (.getfield 13, 3) := by decide +kernel
theorem dX4_makeAnew_102 : decode cX4_makeAnew 102 = .ok (.bipush 72, 2) := by decide +kernel
theorem dX4_makeAnew_104 : decode cX4_makeAnew 104 = .ok (.iload 5, 2) := by decide +kernel
theorem dX4_makeAnew_106 : decode cX4_makeAnew 106 = .ok (.iadd, 1) := by decide +kernel
theorem dX4_makeAnew_107 : decode cX4_makeAnew 107 = .ok (.iaload, 1) := by decide +kernel
theorem dX4_makeAnew_108 : decode cX4_makeAnew 108 = .ok (.iastore, 1) := by decide +kernel
theorem dX4_makeAnew_109 : decode cX4_makeAnew 109 = .ok (.aload_n 0, 1) := by decide +kernel
theorem dX4_makeAnew_110 : decode cX4_makeAnew 110 = .ok (.getfield 17, 3) := by decide +kernel
theorem dX4_makeAnew_113 : decode cX4_makeAnew 113 = .ok (.bipush 36, 2) := by decide +kernel
theorem dX4_makeAnew_115 : decode cX4_makeAnew 115 = .ok (.aload_n 0, 1) := by decide +kernel
theorem dX4_makeAnew_116 : decode cX4_makeAnew 116 = .ok (.getfield 125, 3) := by decide +kernel
theorem dX4_makeAnew_119 : decode cX4_makeAnew 119 = .ok (.imul, 1) := by decide +kernel
theorem dX4_makeAnew_120 : decode cX4_makeAnew 120 = .ok (.iload 5, 2) := by decide +kernel
theorem dX4_makeAnew_122 : decode cX4_makeAnew 122 = .ok (.iadd, 1) := by decide +kernel
theorem dX4_makeAnew_123 : decode cX4_makeAnew 123 = .ok (.aload_n 0, 1) := by decide +kernel
theorem dX4_makeAnew_124 : decode cX4_makeAnew 124 = .ok (.getfield 17, 3) := by decide +kernel
theorem dX4_makeAnew_127 : decode cX4_makeAnew 127 = .ok (.bipush 72, 2) := by decide +kernel
theorem dX4_makeAnew_129 : decode cX4_makeAnew 129 = .ok (.iload 5, 2) := by decide +kernel
theorem dX4_makeAnew_131 : decode cX4_makeAnew 131 = .ok (.iadd, 1) := by decide +kernel
theorem dX4_makeAnew_132 : decode cX4_makeAnew 132 = .ok (.iaload, 1) := by decide +kernel
theorem dX4_makeAnew_133 : decode cX4_makeAnew 133 = .ok (.iastore, 1) := by decide +kernel
theorem dX4_makeAnew_134 : decode cX4_makeAnew 134 = .ok (.iinc 5 1, 3) := by decide +kernel
theorem dX4_makeAnew_137 : decode cX4_makeAnew 137 = .ok (.goto (-85), 3) := by decide +kernel
theorem dX4_makeAnew_140 : decode cX4_makeAnew 140 = .ok (.iconst 0, 1) := by decide +kernel
theorem dX4_makeAnew_141 : decode cX4_makeAnew 141 = .ok (.istore 5, 2) := by decide +kernel
theorem dX4_makeAnew_143 : decode cX4_makeAnew 143 = .ok (.iload 5, 2) := by decide +kernel
theorem dX4_makeAnew_145 : decode cX4_makeAnew 145 = .ok (.bipush 9, 2) := by decide +kernel
theorem dX4_makeAnew_147 : decode cX4_makeAnew 147 = .ok (.if_icmp .ge 23, 3) := by decide +kernel
theorem dX4_makeAnew_150 : decode cX4_makeAnew 150 = .ok (.aload_n 0, 1) := by decide +kernel
theorem dX4_makeAnew_151 : decode cX4_makeAnew 151 = .ok (.bipush 9, 2) := by decide +kernel
theorem dX4_makeAnew_153 : decode cX4_makeAnew 153 = .ok (.aload_n 0, 1) := by decide +kernel
theorem dX4_makeAnew_154 : decode cX4_makeAnew 154 = .ok (.getfield 125, 3) := by decide +kernel
theorem dX4_makeAnew_157 : decode cX4_makeAnew 157 = .ok (.imul, 1) := by decide +kernel
theorem dX4_makeAnew_158 : decode cX4_makeAnew 158 = .ok (.iload 5, 2) := by decide +kernel
theorem dX4_makeAnew_160 : decode cX4_makeAnew 160 = .ok (.iadd, 1) := by decide +kernel
theorem dX4_makeAnew_161 : decode cX4_makeAnew 161 = .ok (.invokevirtual 131, 3) := by decide +kernel
theorem dX4_makeAnew_164 : decode cX4_makeAnew 164 = .ok (.iinc 5 1, 3) := by decide +kernel
theorem dX4_makeAnew_167 : decode cX4_makeAnew 167 = .ok (.goto (-24), 3) := by decide +kernel
theorem dX4_makeAnew_170 : decode cX4_makeAnew 170 = .ok (.aload_n 0, 1) := by decide +kernel
theorem dX4_makeAnew_171 : decode cX4_makeAnew 171 = .ok (.invokevirtual 170, 3) := by decide +kernel
theorem dX4_makeAnew_174 : decode cX4_makeAnew 174 = .ok (.aload_n 0, 1) := by decide +kernel
theorem dX4_makeAnew_175 : decode cX4_makeAnew 175 = .ok (.dup, 1) := by decide +kernel
theorem dX4_makeAnew_176 : decode cX4_makeAnew 176 = .ok (.getfield 173, 3) := by decide +kernel
theorem dX4_makeAnew_179 : decode cX4_makeAnew 179 = .ok (.iconst 1, 1) := by decide +kernel
theorem dX4_makeAnew_180 : decode cX4_makeAnew 180 = .ok (.iadd, 1) := by decide +kernel
theorem dX4_makeAnew_181 : decode cX4_makeAnew 181 = .ok (.putfield 173, 3) := by decide +kernel
theorem dX4_makeAnew_184 : decode cX4_makeAnew 184 = .ok (.iconst 4, 1) := by decide +kernel
theorem dX4_makeAnew_185 : decode cX4_makeAnew 185 = .ok (.ireturn, 1) := by decide +kernel
theorem dX4_makeAnew_186 : decode cX4_makeAnew 186 = .ok (.iinc 3 1, 3) := by decide +kernel
theorem dX4_makeAnew_189 : decode cX4_makeAnew 189 = .ok (.goto (-187), 3) := by decide +kernel
theorem dX4_makeAnew_192 : decode cX4_makeAnew 192 = .ok (.bipush (-2), 2) := by decide +kernel
theorem dX4_makeAnew_194 : decode cX4_makeAnew 194 = .ok (.ireturn, 1) := by decide +kernel
theorem dX4_put_0 : decode cX4_put 0 = .ok (.aload_n 0, 1) := by decide +kernel
theorem dX4_put_1 : decode cX4_put 1 = .ok (.iconst 0, 1) := by decide +kernel
theorem dX4_put_2 : decode cX4_put 2 = .ok (.putfield 74, 3) := by decide +kernel
theorem dX4_put_5 : decode cX4_put 5 = .ok (.aload_n 0, 1) := by decide +kernel
theorem dX4_put_6 : decode cX4_put 6 = .ok (.aload_n 0, 1) := by decide +kernel
theorem dX4_put_7 : decode cX4_put 7 = .ok (.getfield 125, 3) := by decide +kernel
theorem dX4_put_10 : decode cX4_put 10 = .ok (.aload_n 0, 1) := by decide +kernel
theorem dX4_put_11 : decode cX4_put 11 = .ok (.getfield 20, 3) := by decide +kernel
theorem dX4_put_14 : decode cX4_put 14 = .ok (.aload_n 0, 1) := by decide +kernel
end
section
theorem dX4_put_15 : decode cX4_put 15 = .ok (.getfield 128, 3) := by decide +kernel
theorem dX4_put_18 : decode cX4_put 18 = .ok (.iaload, 1) := by decide +kernel
theorem dX4_put_19 : decode cX4_put 19 = .ok (.iload_n 1, 1) := by decide +kernel
theorem dX4_put_20 : decode cX4_put 20 = .ok (.invokevirtual 176, 3) := by decide +kernel
theorem dX4_put_23 : decode cX4_put 23 = .ok (.istore_n 3, 1) := by decide +kernel
theorem dX4_put_24 : decode cX4_put 24 = .ok (.iload_n 3, 1) := by decide +kernel
theorem dX4_put_25 : decode cX4_put 25 = .ok (.ifCond .lt 13, 3) := by decide +kernel
theorem dX4_put_28 : decode cX4_put 28 = .ok (.aload_n 0, 1) := by decide +kernel
theorem dX4_put_29 : decode cX4_put 29 = .ok (.iload_n 3, 1) := by decide +kernel
theorem dX4_put_30 : decode cX4_put 30 = .ok (.iload_n 1, 1) := by decide +kernel
theorem dX4_put_31 : decode cX4_put 31 = .ok (.iload_n 2, 1) := by decide +kernel
theorem dX4_put_32 : decode cX4_put 32 = .ok (.iconst 1, 1) := by decide +kernel
theorem dX4_put_33 : decode cX4_put 33 = .ok (.invokevirtual 151, 3) := by decide +kernel
theorem dX4_put_36 : decode cX4_put 36 = .ok (.iconst 0, 1) := by decide +kernel
theorem dX4_put_37 : decode cX4_put 37 = .ok (.ireturn, 1) := by decide +kernel
theorem dX4_put_38 : decode cX4_put 38 = .ok (.aload_n 0, 1) := by decide +kernel
theorem dX4_put_39 : decode cX4_put 39 = .ok (.aload_n 0, 1) := by decide +kernel
theorem dX4_put_40 : decode cX4_put 40 = .ok (.getfield 125, 3) := by decide +kernel
theorem dX4_put_43 : decode cX4_put 43 = .ok (.aload_n 0, 1) := by decide +kernel
theorem dX4_put_44 : decode cX4_put 44 = .ok (.getfield 20, 3) := by decide +kernel
theorem dX4_put_47 : decode cX4_put 47 = .ok (.aload_n 0, 1) := by decide +kernel
theorem dX4_put_48 : decode cX4_put 48 = .ok (.getfield 128, 3) := by decide +kernel
theorem dX4_put_51 : decode cX4_put 51 = .ok (.iaload, 1) := by decide +kernel
theorem dX4_put_52 : decode cX4_put 52 = .ok (.iload_n 1, 1) := by decide +kernel
theorem dX4_put_53 : decode cX4_put 53 = .ok (.iload_n 2, 1) := by decide +kernel
theorem dX4_put_54 : decode cX4_put 54 = .ok (.iconst 1, 1) := by decide +kernel
theorem dX4_put_55 : decode cX4_put 55 = .ok (.invokevirtual 163, 3) := by decide +kernel
theorem dX4_put_58 : decode cX4_put 58 = .ok (.istore 4, 2) := by decide +kernel
theorem dX4_put_60 : decode cX4_put 60 = .ok (.iload 4, 2) := by decide +kernel
theorem dX4_put_62 : decode cX4_put 62 = .ok (.ifCond .le 8, 3) := by decide +kernel
theorem dX4_put_65 : decode cX4_put 65 = .ok (.iload 4, 2) := by decide +kernel
theorem dX4_put_67 : decode cX4_put 67 = .ok (.goto 9, 3) := by decide +kernel
theorem dX4_put_70 : decode cX4_put 70 = .ok (.aload_n 0, 1) := by decide +kernel
theorem dX4_put_71 : decode cX4_put 71 = .ok (.iload_n 1, 1) := by decide +kernel
theorem dX4_put_72 : decode cX4_put 72 = .ok (.iload_n 2, 1) := by decide +kernel
theorem dX4_put_73 : decode cX4_put 73 = .ok (.invokevirtual 179, 3) := by decide +kernel
theorem dX4_put_76 : decode cX4_put 76 = .ok (.ireturn, 1) := by decide +kernel
theorem dX4_has_0 : decode cX4_has 0 = .ok (.aload_n 0, 1) := by decide +kernel
theorem dX4_has_1 : decode cX4_has 1 = .ok (.iconst 0, 1) := by decide +kernel
theorem dX4_has_2 : decode cX4_has 2 = .ok (.putfield 74, 3) := by decide +kernel
theorem dX4_has_5 : decode cX4_has 5 = .ok (.aload_n 0, 1) := by decide +kernel
theorem dX4_has_6 : decode cX4_has 6 = .ok (.aload_n 0, 1) := by decide +kernel
theorem dX4_has_7 : decode cX4_has 7 = .ok (.getfield 125, 3) := by decide +kernel
theorem dX4_has_10 : decode cX4_has 10 = .ok (.aload_n 0, 1) := by decide +kernel
theorem dX4_has_11 : decode cX4_has 11 = .ok (.getfield 20, 3) := by decide +kernel
theorem dX4_has_14 : decode cX4_has 14 = .ok (.aload_n 0, 1) := by decide +kernel
theorem dX4_has_15 : decode cX4_has 15 = .ok (.getfield 128, 3) := by decide +kernel
theorem dX4_has_18 : decode cX4_has 18 = .ok (.iaload, 1) := by decide +kernel
theorem dX4_has_19 : decode cX4_has 19 = .ok (.iload_n 1, 1) := by decide +kernel
theorem dX4_has_20 : decode cX4_has 20 = .ok (.invokevirtual 176, 3) := by decide +kernel
theorem dX4_has_23 : decode cX4_has 23 = .ok (.ifCond .lt 7, 3) := by decide +kernel
theorem dX4_has_26 : decode cX4_has 26 = .ok (.iconst 1, 1) := by decide +kernel
theorem dX4_has_27 : decode cX4_has 27 = .ok (.goto 4, 3) := by decide +kernel
theorem dX4_has_30 : decode cX4_has 30 = .ok (.iconst 0, 1) := by decide +kernel
theorem dX4_has_31 : decode cX4_has 31 = .ok (.ireturn, 1) := by decide +kernel
theorem dX4_get_0 : decode cX4_get 0 = .ok (.aload_n 0, 1) := by decide +kernel
theorem dX4_get_1 : decode cX4_get 1 = .ok (.iconst 0, 1) := by decide +kernel
theorem dX4_get_2 : decode cX4_get 2 = .ok (.putfield 74, 3) := by decide +kernel
theorem dX4_get_5 : decode cX4_get 5 = .ok (.aload_n 0, 1) := by decide +kernel
theorem dX4_get_6 : decode cX4_get 6 = .ok (.aload_n 0, 1) := by decide +kernel
theorem dX4_get_7 : decode cX4_get 7 = .ok (.getfield 125, 3) := by decide +kernel
theorem dX4_get_10 : decode cX4_get 10 = .ok (.aload_n 0, 1) := by decide +kernel
theorem dX4_get_11 : decode cX4_get 11 = .ok (.getfield 20, 3) := by decide +kernel
theorem dX4_get_14 : decode cX4_get 14 = .ok (.aload_n 0, 1) := by decide +kernel
theorem dX4_get_15 : decode cX4_get 15 = .ok (.getfield 128, 3) := by decide +kernel
theorem dX4_get_18 : decode cX4_get 18 = .ok (.iaload, 1) := by decide +kernel
theorem dX4_get_19 : decode cX4_get 19 = .ok (.iload_n 1, 1) := by decide +kernel
theorem dX4_get_20 : decode cX4_get 20 = .ok (.invokevirtual 176, 3) := by decide +kernel
theorem dX4_get_23 : decode cX4_get 23 = .ok (.istore_n 2, 1) := by decide +kernel
theorem dX4_get_24 : decode cX4_get 24 = .ok (.iload_n 2, 1) := by decide +kernel
theorem dX4_get_25 : decode cX4_get 25 = .ok (.ifCond .ge 7, 3) := by decide +kernel
theorem dX4_get_28 : decode cX4_get 28 = .ok (.iconst 0, 1) := by decide +kernel
theorem dX4_get_29 : decode cX4_get 29 = .ok (.goto 9, 3) := by decide +kernel
theorem dX4_get_32 : decode cX4_get 32 = .ok (.aload_n 0, 1) := by decide +kernel
theorem dX4_get_33 : decode cX4_get 33 = .ok (.getfield 17, 3) := by decide +kernel
theorem dX4_get_36 : decode cX4_get 36 = .ok (.iload_n 2, 1) := by decide +kernel
theorem dX4_get_37 : decode cX4_get 37 = .ok (.iaload, 1) := by decide +kernel
theorem dX4_get_38 : decode cX4_get 38 = .ok (.ireturn, 1) := by decide +kernel
theorem dX4_remove_0 : decode cX4_remove 0 = .ok (.aload_n 0, 1) := by decide +kernel
theorem dX4_remove_1 : decode cX4_remove 1 = .ok (.iconst 0, 1) := by decide +kernel
theorem dX4_remove_2 : decode cX4_remove 2 = .ok (.putfield 74, 3) := by decide +kernel
theorem dX4_remove_5 : decode cX4_remove 5 = .ok (.aload_n 0, 1) := by decide +kernel
theorem dX4_remove_6 : decode cX4_remove 6 = .ok (.aload_n 0, 1) := by decide +kernel
theorem dX4_remove_7 : decode cX4_remove 7 = .ok (.getfield 125, 3) := by decide +kernel
theorem dX4_remove_10 : decode cX4_remove 10 = .ok (.aload_n 0, 1) := by decide +kernel
theorem dX4_remove_11 : decode cX4_remove 11 = .ok (.getfield 20, 3) := by decide +kernel
theorem dX4_remove_14 : decode cX4_remove 14 = .ok (.aload_n 0, 1) := by decide +kernel
theorem dX4_remove_15 : decode cX4_remove 15 = .ok (.getfield 128, 3) := by decide +kernel
theorem dX4_remove_18 : decode cX4_remove 18 = .ok (.iaload, 1) := by decide +kernel
theorem dX4_remove_19 : decode cX4_remove 19 = .ok (.iload_n 1, 1) := by decide +kernel
theorem dX4_remove_20 : decode cX4_remove 20 = .ok (.invokevirtual 176, 3) := by decide +kernel
theorem dX4_remove_23 : decode cX4_remove 23 = .ok (.istore_n 2, 1) := by decide +kernel
theorem dX4_remove_24 : decode cX4_remove 24 = .ok (.iload_n 2, 1) := by decide +kernel
theorem dX4_remove_25 : decode cX4_remove 25 = .ok (.ifCond .ge 5, 3) := by decide +kernel
theorem dX4_remove_28 : decode cX4_remove 28 = .ok (.iconst 0, 1) := by decide +kernel
theorem dX4_remove_29 : decode cX4_remove 29 = .ok (.ireturn, 1) := by decide +kernel
theorem dX4_remove_30 : decode cX4_remove 30 = .ok (.aload_n 0, 1) := by decide +kernel
theorem dX4_remove_31 : decode cX4_remove 31 = .ok (.getfield 7, 3) := by decide +kernel
theorem dX4_remove_34 : decode cX4_remove 34 = .ok (.iload_n 2, 1) := by decide +kernel
theorem dX4_remove_35 : decode cX4_remove 35 = .ok (.iconst 0, 1) := by decide +kernel
theorem dX4_remove_36 : decode cX4_remove 36 = .ok (.bastore, 1) := by decide +kernel
theorem dX4_remove_37 : decode cX4_remove 37 = .ok (.aload_n 0, 1) := by decide +kernel
theorem dX4_remove_38 : decode cX4_remove 38 = .ok (.iload_n 2, 1) := by decide +kernel
theorem dX4_remove_39 : decode cX4_remove 39 = .ok (.iconst 4, 1) := by decide +kernel
theorem dX4_remove_40 : decode cX4_remove 40 = .ok (.idiv, 1) := by decide +kernel
theorem dX4_remove_41 : decode cX4_remove 41 = .ok (.invokevirtual 131, 3) := by decide +kernel
theorem dX4_remove_44 : decode cX4_remove 44 = .ok (.iconst 1, 1) := by decide +kernel
theorem dX4_remove_45 : decode cX4_remove 45 = .ok (.ireturn, 1) := by decide +kernel
theorem dX4_seed_0 : decode cX4_seed 0 = .ok (.aload_n 0, 1) := by decide +kernel
theorem dX4_seed_1 : decode cX4_seed 1 = .ok (.iload_n 1, 1) := by decide +kernel
theorem dX4_seed_2 : decode cX4_seed 2 = .ok (.ifCond .lt 8, 3) := by decide +kernel
theorem dX4_seed_5 : decode cX4_seed 5 = .ok (.iload_n 1, 1) := by decide +kernel
theorem dX4_seed_6 : decode cX4_seed 6 = .ok (.iconst 3, 1) := by decide +kernel
theorem dX4_seed_7 : decode cX4_seed 7 = .ok (.if_icmp .le 7, 3) := by decide +kernel
theorem dX4_seed_10 : decode cX4_seed 10 = .ok (.iconst 1, 1) := by decide +kernel
theorem dX4_seed_11 : decode cX4_seed 11 = .ok (.goto 15, 3) := by decide +kernel
theorem dX4_seed_14 : decode cX4_seed 14 = .ok (.aload_n 0, 1) := by decide +kernel
theorem dX4_seed_15 : decode cX4_seed 15 = .ok (.getfield 115, 3) := by decide +kernel
theorem dX4_seed_18 : decode cX4_seed 18 = .ok (.ifCond .le 7, 3) := by decide +kernel
theorem dX4_seed_21 : decode cX4_seed 21 = .ok (.iconst 2, 1) := by decide +kernel
theorem dX4_seed_22 : decode cX4_seed 22 = .ok (.goto 4, 3) := by decide +kernel
theorem dX4_seed_25 : decode cX4_seed 25 = .ok (.iconst 0, 1) := by decide +kernel
theorem dX4_seed_26 : decode cX4_seed 26 = .ok (.invokevirtual 182, 3) := by decide +kernel
theorem dX4_seed_29 : decode cX4_seed 29 = .ok (.ifCond .eq 4, 3) := by decide +kernel
theorem dX4_seed_32 : decode cX4_seed 32 = .ok (.return_, 1) := by decide +kernel
theorem dX4_seed_33 : decode cX4_seed 33 = .ok (.aload_n 0, 1) := by decide +kernel
theorem dX4_seed_34 : decode cX4_seed 34 = .ok (.getfield 20, 3) := by decide +kernel
theorem dX4_seed_37 : decode cX4_seed 37 = .ok (.iload_n 1, 1) := by decide +kernel
theorem dX4_seed_38 : decode cX4_seed 38 = .ok (.iload_n 2, 1) := by decide +kernel
theorem dX4_seed_39 : decode cX4_seed 39 = .ok (.iastore, 1) := by decide +kernel
theorem dX4_seed_40 : decode cX4_seed 40 = .ok (.return_, 1) := by decide +kernel
theorem dX4_sync_0 : decode cX4_sync 0 = .ok (.aload_n 0, 1) := by decide +kernel
theorem dX4_sync_1 : decode cX4_sync 1 = .ok (.iconst 0, 1) := by decide +kernel
theorem dX4_sync_2 : decode cX4_sync 2 = .ok (.putfield 74, 3) := by decide +kernel
theorem dX4_sync_5 : decode cX4_sync 5 = .ok (.aload_n 0, 1) := by decide +kernel
theorem dX4_sync_6 : decode cX4_sync 6 = .ok (.invokevirtual 111, 3) := by decide +kernel
theorem dX4_sync_9 : decode cX4_sync 9 = .ok (.ireturn, 1) := by decide +kernel
theorem dX4_crash_0 : decode cX4_crash 0 = .ok (.aload_n 0, 1) := by decide +kernel
theorem dX4_crash_1 : decode cX4_crash 1 = .ok (.iload_n 1, 1) := by decide +kernel
theorem dX4_crash_2 : decode cX4_crash 2 = .ok (.ifCond .ge 7, 3) := by decide +kernel
theorem dX4_crash_5 : decode cX4_crash 5 = .ok (.iconst 1, 1) := by decide +kernel
theorem dX4_crash_6 : decode cX4_crash 6 = .ok (.goto 4, 3) := by decide +kernel
theorem dX4_crash_9 : decode cX4_crash 9 = .ok (.iconst 0, 1) := by decide +kernel
theorem dX4_crash_10 : decode cX4_crash 10 = .ok (.invokevirtual 182, 3) := by decide +kernel
theorem dX4_crash_13 : decode cX4_crash 13 = .ok (.ifCond .eq 5, 3) := by decide +kernel
theorem dX4_crash_16 : decode cX4_crash 16 = .ok (.iconst 0, 1) := by decide +kernel
theorem dX4_crash_17 : decode cX4_crash 17 = .ok (.ireturn, 1) := by decide +kernel
theorem dX4_crash_18 : decode cX4_crash 18 = .ok (.aload_n 0, 1) := by decide +kernel
theorem dX4_crash_19 : decode cX4_crash 19 = .ok (.getfield 104, 3) := by decide +kernel
theorem dX4_crash_22 : decode cX4_crash 22 = .ok (.iload_n 1, 1) := by decide +kernel
theorem dX4_crash_23 : decode cX4_crash 23 = .ok (.if_icmp .le 12, 3) := by decide +kernel
theorem dX4_crash_26 : decode cX4_crash 26 = .ok (.aload_n 0, 1) := by decide +kernel
theorem dX4_crash_27 : decode cX4_crash 27 = .ok (.getfield 104, 3) := by decide +kernel
theorem dX4_crash_30 : decode cX4_crash 30 = .ok (.iload_n 1, 1) := by decide +kernel
theorem dX4_crash_31 : decode cX4_crash 31 = .ok (.isub, 1) := by decide +kernel
theorem dX4_crash_32 : decode cX4_crash 32 = .ok (.goto 4, 3) := by decide +kernel
theorem dX4_crash_35 : decode cX4_crash 35 = .ok (.iconst 0, 1) := by decide +kernel
theorem dX4_crash_36 : decode cX4_crash 36 = .ok (.istore_n 2, 1) := by decide +kernel
theorem dX4_crash_37 : decode cX4_crash 37 = .ok (.iconst 0, 1) := by decide +kernel
theorem dX4_crash_38 : decode cX4_crash 38 = .ok (.istore_n 3, 1) := by decide +kernel
theorem dX4_crash_39 : decode cX4_crash 39 = .ok (.iload_n 3, 1) := by decide +kernel
theorem dX4_crash_40 : decode cX4_crash 40 = .ok (.aload_n 0, 1) := by decide +kernel
theorem dX4_crash_41 : decode cX4_crash 41 = .ok (.getfield 104, 3) := by decide +kernel
theorem dX4_crash_44 : decode cX4_crash 44 = .ok (.iload_n 2, 1) := by decide +kernel
theorem dX4_crash_45 : decode cX4_crash 45 = .ok (.isub, 1) := by decide +kernel
theorem dX4_crash_46 : decode cX4_crash 46 = .ok (.if_icmp .ge 14, 3) := by decide +kernel
theorem dX4_crash_49 : decode cX4_crash 49 = .ok (.aload_n 0, 1) := by decide +kernel
theorem dX4_crash_50 : decode cX4_crash 50 = .ok (.iload_n 3, 1) := by decide +kernel
theorem dX4_crash_51 : decode cX4_crash 51 = .ok (.invokevirtual 107, 3) := by decide +kernel
theorem dX4_crash_54 : decode cX4_crash 54 = .ok (.iinc 3 1, 3) := by decide +kernel
theorem dX4_crash_57 : decode cX4_crash 57 = .ok (.goto (-18), 3) := by decide +kernel
theorem dX4_crash_60 : decode cX4_crash 60 = .ok (.aload_n 0, 1) := by decide +kernel
theorem dX4_crash_61 : decode cX4_crash 61 = .ok (.iconst 0, 1) := by decide +kernel
theorem dX4_crash_62 : decode cX4_crash 62 = .ok (.putfield 104, 3) := by decide +kernel
theorem dX4_crash_65 : decode cX4_crash 65 = .ok (.iconst 0, 1) := by decide +kernel
theorem dX4_crash_66 : decode cX4_crash 66 = .ok (.istore_n 3, 1) := by decide +kernel
theorem dX4_crash_67 : decode cX4_crash 67 = .ok (.iload_n 3, 1) := by decide +kernel
theorem dX4_crash_68 : decode cX4_crash 68 = .ok (.aload_n 0, 1) := by decide +kernel
theorem dX4_crash_69 : decode cX4_crash 69 = .ok (.getfield 101, 3) := by decide +kernel
theorem dX4_crash_72 : decode cX4_crash 72 = .ok (.if_icmp .ge 55, 3) := by decide +kernel
theorem dX4_crash_75 : decode cX4_crash 75 = .ok (.aload_n 0, 1) := by decide +kernel
theorem dX4_crash_76 : decode cX4_crash 76 = .ok (.getfield 32, 3) := by decide +kernel
theorem dX4_crash_79 : decode cX4_crash 79 = .ok (.aload_n 0, 1) := by decide +kernel
theorem dX4_crash_80 : decode cX4_crash 80 = .ok (.getfield 41, 3) := by decide +kernel
theorem dX4_crash_83 : decode cX4_crash 83 = .ok (.iload_n 3, 1) := by decide +kernel
theorem dX4_crash_84 : decode cX4_crash 84 = .ok (.iaload, 1) := by decide +kernel
theorem dX4_crash_85 : decode cX4_crash 85 = .ok (.iconst 1, 1) := by decide +kernel
theorem dX4_crash_86 : decode cX4_crash 86 = .ok (.bastore, 1) := by decide +kernel
theorem dX4_crash_87 : decode cX4_crash 87 = .ok (.aload_n 0, 1) := by decide +kernel
theorem dX4_crash_88 : decode cX4_crash 88 = .ok (.getfield 35, 3) := by decide +kernel
theorem dX4_crash_91 : decode cX4_crash 91 = .ok (.aload_n 0, 1) := by decide +kernel
theorem dX4_crash_92 : decode cX4_crash 92 = .ok (.getfield 41, 3) := by decide +kernel
theorem dX4_crash_95 : decode cX4_crash 95 = .ok (.iload_n 3, 1) := by decide +kernel
theorem dX4_crash_96 : decode cX4_crash 96 = .ok (.iaload, 1) := by decide +kernel
theorem dX4_crash_97 : decode cX4_crash 97 = .ok (.aload_n 0, 1) := by decide +kernel
theorem dX4_crash_98 : decode cX4_crash 98 = .ok (.getfield 44, 3) := by decide +kernel
theorem dX4_crash_101 : decode cX4_crash 101 = .ok (.iload_n 3, 1) := by decide +kernel
theorem dX4_crash_102 : decode cX4_crash 102 = .ok (.iaload, 1) := by decide +kernel
theorem dX4_crash_103 : decode cX4_crash 103 = .ok (.iastore, 1) := by decide +kernel
theorem dX4_crash_104 : decode cX4_crash 104 = .ok (.aload_n 0, 1) := by decide +kernel
theorem dX4_crash_105 : decode cX4_crash 105 = .ok (.getfield 38, 3) := by decide +kernel
theorem dX4_crash_108 : decode cX4_crash 108 = .ok (.aload_n 0, 1) := by decide +kernel
theorem dX4_crash_109 : decode cX4_crash 109 = .ok (.getfield 41, 3) := by decide +kernel
theorem dX4_crash_112 : decode cX4_crash 112 = .ok (.iload_n 3, 1) := by decide +kernel
theorem dX4_crash_113 : decode cX4_crash 113 = .ok (.iaload, 1) := by decide +kernel
theorem dX4_crash_114 : decode cX4_crash 114 = .ok (.aload_n 0, 1) := by decide +kernel
theorem dX4_crash_115 : decode cX4_crash 115 = .ok (.getfield 47, 3) := by decide +kernel
theorem dX4_crash_118 : decode cX4_crash 118 = .ok (.iload_n 3, 1) := by decide +kernel
theorem dX4_crash_119 : decode cX4_crash 119 = .ok (.iaload, 1) := by decide +kernel
theorem dX4_crash_120 : decode cX4_crash 120 = .ok (.iastore, 1) := by decide +kernel
theorem dX4_crash_121 : decode cX4_crash 121 = .ok (.iinc 3 1, 3) := by decide +kernel
theorem dX4_crash_124 : decode cX4_crash 124 = .ok (.goto (-57), 3) := by decide +kernel
theorem dX4_crash_127 : decode cX4_crash 127 = .ok (.aload_n 0, 1) := by decide +kernel
theorem dX4_crash_128 : decode cX4_crash 128 = .ok (.aload_n 0, 1) := by decide +kernel
theorem dX4_crash_129 : decode cX4_crash 129 = .ok (.getfield 101, 3) := by decide +kernel
theorem dX4_crash_132 : decode cX4_crash 132 = .ok (.putfield 185, 3) := by decide +kernel
theorem dX4_crash_135 : decode cX4_crash 135 = .ok (.aload_n 0, 1) := by decide +kernel
theorem dX4_crash_136 : decode cX4_crash 136 = .ok (.iconst 0, 1) := by decide +kernel
theorem dX4_crash_137 : decode cX4_crash 137 = .ok (.putfield 101, 3) := by decide +kernel
theorem dX4_crash_140 : decode cX4_crash 140 = .ok (.iconst 0, 1) := by decide +kernel
theorem dX4_crash_141 : decode cX4_crash 141 = .ok (.istore_n 3, 1) := by decide +kernel
theorem dX4_crash_142 : decode cX4_crash 142 = .ok (.iload_n 3, 1) := by decide +kernel
theorem dX4_crash_143 : decode cX4_crash 143 = .ok (.bipush 72, 2) := by decide +kernel
theorem dX4_crash_145 : decode cX4_crash 145 = .ok (.if_icmp .ge 45, 3) := by decide +kernel
theorem dX4_crash_148 : decode cX4_crash 148 = .ok (.aload_n 0, 1) := by decide +kernel
theorem dX4_crash_149 : decode cX4_crash 149 = .ok (.getfield 7, 3) := by decide +kernel
theorem dX4_crash_152 : decode cX4_crash 152 = .ok (.iload_n 3, 1) := by decide +kernel
theorem dX4_crash_153 : decode cX4_crash 153 = .ok (.aload_n 0, 1) := by decide +kernel
theorem dX4_crash_154 : decode cX4_crash 154 = .ok (.getfield 32, 3) := by decide +kernel
theorem dX4_crash_157 : decode cX4_crash 157 = .ok (.iload_n 3, 1) := by decide +kernel
theorem dX4_crash_158 : decode cX4_crash 158 = .ok (.baload, 1) := by decide +kernel
theorem dX4_crash_159 : decode cX4_crash 159 = .ok (.bastore, 1) := by decide +kernel
theorem dX4_crash_160 : decode cX4_crash 160 = .ok (.aload_n 0, 1) := by decide +kernel
theorem dX4_crash_161 : decode cX4_crash 161 = .ok (.getfield 13, 3) := by decide +kernel
theorem dX4_crash_164 : decode cX4_crash 164 = .ok (.iload_n 3, 1) := by decide +kernel
theorem dX4_crash_165 : decode cX4_crash 165 = .ok (.aload_n 0, 1) := by decide +kernel
theorem dX4_crash_166 : decode cX4_crash 166 = .ok (.getfield 35, 3) := by decide +kernel
theorem dX4_crash_169 : decode cX4_crash 169 = .ok (.iload_n 3, 1) := by decide +kernel
theorem dX4_crash_170 : decode cX4_crash 170 = .ok (.iaload, 1) := by decide +kernel
theorem dX4_crash_171 : decode cX4_crash 171 = .ok (.iastore, 1) := by decide +kernel
theorem dX4_crash_172 : decode cX4_crash 172 = .ok (.aload_n 0, 1) := by decide +kernel
theorem dX4_crash_173 : decode cX4_crash 173 = .ok (.getfield 17, 3) := by decide +kernel
theorem dX4_crash_176 : decode cX4_crash 176 = .ok (.iload_n 3, 1) := by decide +kernel
theorem dX4_crash_177 : decode cX4_crash 177 = .ok (.aload_n 0, 1) := by decide +kernel
theorem dX4_crash_178 : decode cX4_crash 178 = .ok (.getfield 38, 3) := by decide +kernel
theorem dX4_crash_181 : decode cX4_crash 181 = .ok (.iload_n 3, 1) := by decide +kernel
theorem dX4_crash_182 : decode cX4_crash 182 = .ok (.iaload, 1) := by decide +kernel
theorem dX4_crash_183 : decode cX4_crash 183 = .ok (.iastore, 1) := by decide +kernel
theorem dX4_crash_184 : decode cX4_crash 184 = .ok (.iinc 3 1, 3) := by decide +kernel
theorem dX4_crash_187 : decode cX4_crash 187 = .ok (.goto (-45), 3) := by decide +kernel
theorem dX4_crash_190 : decode cX4_crash 190 = .ok (.aload_n 0, 1) := by decide +kernel
theorem dX4_crash_191 : decode cX4_crash 191 = .ok (.aload_n 0, 1) := by decide +kernel
theorem dX4_crash_192 : decode cX4_crash 192 = .ok (.getfield 95, 3) := by decide +kernel
theorem dX4_crash_195 : decode cX4_crash 195 = .ok (.putfield 125, 3) := by decide +kernel
theorem dX4_crash_198 : decode cX4_crash 198 = .ok (.aload_n 0, 1) := by decide +kernel
theorem dX4_crash_199 : decode cX4_crash 199 = .ok (.aload_n 0, 1) := by decide +kernel
theorem dX4_crash_200 : decode cX4_crash 200 = .ok (.getfield 98, 3) := by decide +kernel
theorem dX4_crash_203 : decode cX4_crash 203 = .ok (.putfield 128, 3) := by decide +kernel
theorem dX4_crash_206 : decode cX4_crash 206 = .ok (.iload_n 2, 1) := by decide +kernel
theorem dX4_crash_207 : decode cX4_crash 207 = .ok (.ireturn, 1) := by decide +kernel
theorem dX4_slot_0 : decode cX4_slot 0 = .ok (.iload_n 1, 1) := by decide +kernel
theorem dX4_slot_1 : decode cX4_slot 1 = .ok (.ifCond .lt 31, 3) := by decide +kernel
theorem dX4_slot_4 : decode cX4_slot 4 = .ok (.iload_n 1, 1) := by decide +kernel
theorem dX4_slot_5 : decode cX4_slot 5 = .ok (.bipush 9, 2) := by decide +kernel
theorem dX4_slot_7 : decode cX4_slot 7 = .ok (.if_icmp .ge 25, 3) := by decide +kernel
theorem dX4_slot_10 : decode cX4_slot 10 = .ok (.iload_n 2, 1) := by decide +kernel
theorem dX4_slot_11 : decode cX4_slot 11 = .ok (.ifCond .lt 21, 3) := by decide +kernel
theorem dX4_slot_14 : decode cX4_slot 14 = .ok (.iload_n 2, 1) := by decide +kernel
theorem dX4_slot_15 : decode cX4_slot 15 = .ok (.iconst 4, 1) := by decide +kernel
theorem dX4_slot_16 : decode cX4_slot 16 = .ok (.if_icmp .ge 16, 3) := by decide +kernel
theorem dX4_slot_19 : decode cX4_slot 19 = .ok (.iload_n 3, 1) := by decide +kernel
theorem dX4_slot_20 : decode cX4_slot 20 = .ok (.ifCond .lt 12, 3) := by decide +kernel
theorem dX4_slot_23 : decode cX4_slot 23 = .ok (.iload_n 3, 1) := by decide +kernel
theorem dX4_slot_24 : decode cX4_slot 24 = .ok (.iconst 2, 1) := by decide +kernel
theorem dX4_slot_25 : decode cX4_slot 25 = .ok (.if_icmp .gt 7, 3) := by decide +kernel
theorem dX4_slot_28 : decode cX4_slot 28 = .ok (.iconst 1, 1) := by decide +kernel
theorem dX4_slot_29 : decode cX4_slot 29 = .ok (.goto 4, 3) := by decide +kernel
theorem dX4_slot_32 : decode cX4_slot 32 = .ok (.iconst 0, 1) := by decide +kernel
theorem dX4_slot_33 : decode cX4_slot 33 = .ok (.istore 4, 2) := by decide +kernel
theorem dX4_slot_35 : decode cX4_slot 35 = .ok (.aload_n 0, 1) := by decide +kernel
theorem dX4_slot_36 : decode cX4_slot 36 = .ok (.iload 4, 2) := by decide +kernel
theorem dX4_slot_38 : decode cX4_slot 38 = .ok (.ifCond .eq 7, 3) := by decide +kernel
theorem dX4_slot_41 : decode cX4_slot 41 = .ok (.iconst 0, 1) := by decide +kernel
theorem dX4_slot_42 : decode cX4_slot 42 = .ok (.goto 4, 3) := by decide +kernel
theorem dX4_slot_45 : decode cX4_slot 45 = .ok (.iconst 1, 1) := by decide +kernel
theorem dX4_slot_46 : decode cX4_slot 46 = .ok (.invokevirtual 182, 3) := by decide +kernel
theorem dX4_slot_49 : decode cX4_slot 49 = .ok (.ifCond .eq 5, 3) := by decide +kernel
theorem dX4_slot_52 : decode cX4_slot 52 = .ok (.iconst 0, 1) := by decide +kernel
theorem dX4_slot_53 : decode cX4_slot 53 = .ok (.ireturn, 1) := by decide +kernel
theorem dX4_slot_54 : decode cX4_slot 54 = .ok (.aload_n 0, 1) := by decide +kernel
theorem dX4_slot_55 : decode cX4_slot 55 = .ok (.getfield 125, 3) := by decide +kernel
theorem dX4_slot_58 : decode cX4_slot 58 = .ok (.iload_n 1, 1) := by decide +kernel
theorem dX4_slot_59 : decode cX4_slot 59 = .ok (.iload_n 2, 1) := by decide +kernel
theorem dX4_slot_60 : decode cX4_slot 60 = .ok (.invokestatic 85, 3) := by decide +kernel
theorem dX4_slot_63 : decode cX4_slot 63 = .ok (.istore 5, 2) := by decide +kernel
theorem dX4_slot_65 : decode cX4_slot 65 = .ok (.aload_n 0, 1) := by decide +kernel
theorem dX4_slot_66 : decode cX4_slot 66 = .ok (.getfield 7, 3) := by decide +kernel
theorem dX4_slot_69 : decode cX4_slot 69 = .ok (.iload 5, 2) := by decide +kernel
theorem dX4_slot_71 : decode cX4_slot 71 = .ok (.baload, 1) := by decide +kernel
theorem dX4_slot_72 : decode cX4_slot 72 = .ok (.ifCond .ne 7, 3) := by decide +kernel
theorem dX4_slot_75 : decode cX4_slot 75 = .ok (.iconst 0, 1) := by decide +kernel
theorem dX4_slot_76 : decode cX4_slot 76 = .ok (.goto 33, 3) := by decide +kernel
theorem dX4_slot_79 : decode cX4_slot 79 = .ok (.iload_n 3, 1) := by decide +kernel
theorem dX4_slot_80 : decode cX4_slot 80 = .ok (.ifCond .ne 7, 3) := by decide +kernel
theorem dX4_slot_83 : decode cX4_slot 83 = .ok (.iconst 1, 1) := by decide +kernel
theorem dX4_slot_84 : decode cX4_slot 84 = .ok (.goto 25, 3) := by decide +kernel
theorem dX4_slot_87 : decode cX4_slot 87 = .ok (.iload_n 3, 1) := by decide +kernel
theorem dX4_slot_88 : decode cX4_slot 88 = .ok (.iconst 1, 1) := by decide +kernel
theorem dX4_slot_89 : decode cX4_slot 89 = .ok (.if_icmp .ne 13, 3) := by decide +kernel
theorem dX4_slot_92 : decode cX4_slot 92 = .ok (.aload_n 0, 1) := by decide +kernel
theorem dX4_slot_93 : decode cX4_slot 93 = .ok (.getfield 13, 3) := by decide +kernel
theorem dX4_slot_96 : decode cX4_slot 96 = .ok (.iload 5, 2) := by decide +kernel
theorem dX4_slot_98 : decode cX4_slot 98 = .ok (.iaload, 1) := by decide +kernel
theorem dX4_slot_99 : decode cX4_slot 99 = .ok (.goto 10, 3) := by decide +kernel
theorem dX4_slot_102 : decode cX4_slot 102 = .ok (.aload_n 0, 1) := by decide +kernel
theorem dX4_slot_103 : decode cX4_slot 103 = .ok (.getfield 17, 3) := by decide +kernel
theorem dX4_slot_106 : decode cX4_slot 106 = .ok (.iload 5, 2) := by decide +kernel
theorem dX4_slot_108 : decode cX4_slot 108 = .ok (.iaload, 1) := by decide +kernel
theorem dX4_slot_109 : decode cX4_slot 109 = .ok (.ireturn, 1) := by decide +kernel
theorem dX4_home_0 : decode cX4_home 0 = .ok (.aload_n 0, 1) := by decide +kernel
theorem dX4_home_1 : decode cX4_home 1 = .ok (.iconst 0, 1) := by decide +kernel
theorem dX4_home_2 : decode cX4_home 2 = .ok (.putfield 74, 3) := by decide +kernel
theorem dX4_home_5 : decode cX4_home 5 = .ok (.iload_n 1, 1) := by decide +kernel
theorem dX4_home_6 : decode cX4_home 6 = .ok (.aload_n 0, 1) := by decide +kernel
theorem dX4_home_7 : decode cX4_home 7 = .ok (.getfield 20, 3) := by decide +kernel
theorem dX4_home_10 : decode cX4_home 10 = .ok (.aload_n 0, 1) := by decide +kernel
theorem dX4_home_11 : decode cX4_home 11 = .ok (.getfield 128, 3) := by decide +kernel
theorem dX4_home_14 : decode cX4_home 14 = .ok (.iaload, 1) := by decide +kernel
theorem dX4_home_15 : decode cX4_home 15 = .ok (.iload_n 2, 1) := by decide +kernel
theorem dX4_home_16 : decode cX4_home 16 = .ok (.invokestatic 89, 3) := by decide +kernel
theorem dX4_home_19 : decode cX4_home 19 = .ok (.ireturn, 1) := by decide +kernel
theorem dX4_reads_0 : decode cX4_reads 0 = .ok (.aload_n 0, 1) := by decide +kernel
theorem dX4_reads_1 : decode cX4_reads 1 = .ok (.iconst 0, 1) := by decide +kernel
theorem dX4_reads_2 : decode cX4_reads 2 = .ok (.putfield 74, 3) := by decide +kernel
theorem dX4_reads_5 : decode cX4_reads 5 = .ok (.aload_n 0, 1) := by decide +kernel
theorem dX4_reads_6 : decode cX4_reads 6 = .ok (.aload_n 0, 1) := by decide +kernel
theorem dX4_reads_7 : decode cX4_reads 7 = .ok (.getfield 125, 3) := by decide +kernel
theorem dX4_reads_10 : decode cX4_reads 10 = .ok (.iload_n 1, 1) := by decide +kernel
theorem dX4_reads_11 : decode cX4_reads 11 = .ok (.aload_n 0, 1) := by decide +kernel
theorem dX4_reads_12 : decode cX4_reads 12 = .ok (.getfield 20, 3) := by decide +kernel
theorem dX4_reads_15 : decode cX4_reads 15 = .ok (.aload_n 0, 1) := by decide +kernel
theorem dX4_reads_16 : decode cX4_reads 16 = .ok (.getfield 128, 3) := by decide +kernel
theorem dX4_reads_19 : decode cX4_reads 19 = .ok (.iaload, 1) := by decide +kernel
theorem dX4_reads_20 : decode cX4_reads 20 = .ok (.iconst 0, 1) := by decide +kernel
theorem dX4_reads_21 : decode cX4_reads 21 = .ok (.invokestatic 89, 3) := by decide +kernel
theorem dX4_reads_24 : decode cX4_reads 24 = .ok (.iload_n 1, 1) := by decide +kernel
theorem dX4_reads_25 : decode cX4_reads 25 = .ok (.invokevirtual 92, 3) := by decide +kernel
theorem dX4_reads_28 : decode cX4_reads 28 = .ok (.ifCond .lt 7, 3) := by decide +kernel
theorem dX4_reads_31 : decode cX4_reads 31 = .ok (.iconst 1, 1) := by decide +kernel
theorem dX4_reads_32 : decode cX4_reads 32 = .ok (.goto 34, 3) := by decide +kernel
theorem dX4_reads_35 : decode cX4_reads 35 = .ok (.aload_n 0, 1) := by decide +kernel
theorem dX4_reads_36 : decode cX4_reads 36 = .ok (.aload_n 0, 1) := by decide +kernel
theorem dX4_reads_37 : decode cX4_reads 37 = .ok (.getfield 125, 3) := by decide +kernel
theorem dX4_reads_40 : decode cX4_reads 40 = .ok (.iload_n 1, 1) := by decide +kernel
theorem dX4_reads_41 : decode cX4_reads 41 = .ok (.aload_n 0, 1) := by decide +kernel
theorem dX4_reads_42 : decode cX4_reads 42 = .ok (.getfield 20, 3) := by decide +kernel
theorem dX4_reads_45 : decode cX4_reads 45 = .ok (.aload_n 0, 1) := by decide +kernel
theorem dX4_reads_46 : decode cX4_reads 46 = .ok (.getfield 128, 3) := by decide +kernel
theorem dX4_reads_49 : decode cX4_reads 49 = .ok (.iaload, 1) := by decide +kernel
theorem dX4_reads_50 : decode cX4_reads 50 = .ok (.iconst 1, 1) := by decide +kernel
theorem dX4_reads_51 : decode cX4_reads 51 = .ok (.invokestatic 89, 3) := by decide +kernel
theorem dX4_reads_54 : decode cX4_reads 54 = .ok (.iload_n 1, 1) := by decide +kernel
theorem dX4_reads_55 : decode cX4_reads 55 = .ok (.invokevirtual 92, 3) := by decide +kernel
theorem dX4_reads_58 : decode cX4_reads 58 = .ok (.ifCond .lt 7, 3) := by decide +kernel
theorem dX4_reads_61 : decode cX4_reads 61 = .ok (.iconst 2, 1) := by decide +kernel
theorem dX4_reads_62 : decode cX4_reads 62 = .ok (.goto 4, 3) := by decide +kernel
theorem dX4_reads_65 : decode cX4_reads 65 = .ok (.iconst 3, 1) := by decide +kernel
theorem dX4_reads_66 : decode cX4_reads 66 = .ok (.ireturn, 1) := by decide +kernel
theorem dX4_usedFrom_0 : decode cX4_usedFrom 0 = .ok (.iconst 0, 1) := by decide +kernel
theorem dX4_usedFrom_1 : decode cX4_usedFrom 1 = .ok (.istore_n 3, 1) := by decide +kernel
theorem dX4_usedFrom_2 : decode cX4_usedFrom 2 = .ok (.iload_n 1, 1) := by decide +kernel
theorem dX4_usedFrom_3 : decode cX4_usedFrom 3 = .ok (.istore 4, 2) := by decide +kernel
theorem dX4_usedFrom_5 : decode cX4_usedFrom 5 = .ok (.iload 4, 2) := by decide +kernel
theorem dX4_usedFrom_7 : decode cX4_usedFrom 7 = .ok (.iload_n 2, 1) := by decide +kernel
theorem dX4_usedFrom_8 : decode cX4_usedFrom 8 = .ok (.if_icmp .ge 27, 3) := by decide +kernel
theorem dX4_usedFrom_11 : decode cX4_usedFrom 11 = .ok (.aload_n 0, 1) := by decide +kernel
theorem dX4_usedFrom_12 : decode cX4_usedFrom 12 = .ok (.getfield 7, 3) := by decide +kernel
theorem dX4_usedFrom_15 : decode cX4_usedFrom 15 = .ok (.iload 4, 2) := by decide +kernel
theorem dX4_usedFrom_17 : decode cX4_usedFrom 17 = .ok (.baload, 1) := by decide +kernel
theorem dX4_usedFrom_18 : decode cX4_usedFrom 18 = .ok (.ifCond .eq 9, 3) := by decide +kernel
theorem dX4_usedFrom_21 : decode cX4_usedFrom 21 = .ok (.iload_n 3, 1) := by decide +kernel
theorem dX4_usedFrom_22 : decode cX4_usedFrom 22 = .ok (.iconst 1, 1) := by decide +kernel
theorem dX4_usedFrom_23 : decode cX4_usedFrom 23 = .ok (.iadd, 1) := by decide +kernel
theorem dX4_usedFrom_24 : decode cX4_usedFrom 24 = .ok (.goto 4, 3) := by decide +kernel
theorem dX4_usedFrom_27 : decode cX4_usedFrom 27 = .ok (.iload_n 3, 1) := by decide +kernel
theorem dX4_usedFrom_28 : decode cX4_usedFrom 28 = .ok (.istore_n 3, 1) := by decide +kernel
theorem dX4_usedFrom_29 : decode cX4_usedFrom 29 = .ok (.iinc 4 1, 3) := by decide +kernel
theorem dX4_usedFrom_32 : decode cX4_usedFrom 32 = .ok (.goto (-27), 3) := by decide +kernel
theorem dX4_usedFrom_35 : decode cX4_usedFrom 35 = .ok (.iload_n 3, 1) := by decide +kernel
theorem dX4_usedFrom_36 : decode cX4_usedFrom 36 = .ok (.ireturn, 1) := by decide +kernel
theorem dX4_count_0 : decode cX4_count 0 = .ok (.aload_n 0, 1) := by decide +kernel
theorem dX4_count_1 : decode cX4_count 1 = .ok (.iload_n 1, 1) := by decide +kernel
theorem dX4_count_2 : decode cX4_count 2 = .ok (.ifCond .lt 13, 3) := by decide +kernel
theorem dX4_count_5 : decode cX4_count 5 = .ok (.iload_n 1, 1) := by decide +kernel
theorem dX4_count_6 : decode cX4_count 6 = .ok (.bipush 8, 2) := by decide +kernel
theorem dX4_count_8 : decode cX4_count 8 = .ok (.if_icmp .gt 7, 3) := by decide +kernel
theorem dX4_count_11 : decode cX4_count 11 = .ok (.iconst 0, 1) := by decide +kernel
theorem dX4_count_12 : decode cX4_count 12 = .ok (.goto 4, 3) := by decide +kernel
theorem dX4_count_15 : decode cX4_count 15 = .ok (.iconst 1, 1) := by decide +kernel
theorem dX4_count_16 : decode cX4_count 16 = .ok (.invokevirtual 182, 3) := by decide +kernel
theorem dX4_count_19 : decode cX4_count 19 = .ok (.ifCond .eq 5, 3) := by decide +kernel
theorem dX4_count_22 : decode cX4_count 22 = .ok (.iconst 0, 1) := by decide +kernel
theorem dX4_count_23 : decode cX4_count 23 = .ok (.ireturn, 1) := by decide +kernel
theorem dX4_count_24 : decode cX4_count 24 = .ok (.iload_n 1, 1) := by decide +kernel
theorem dX4_count_25 : decode cX4_count 25 = .ok (.tableswitch 124 0 7 #[47, 69, 74, 79, 104, 109, 114, 119], 47) := by decide +kernel
theorem dX4_count_72 : decode cX4_count 72 = .ok (.aload_n 0, 1) := by decide +kernel
theorem dX4_count_73 : decode cX4_count 73 = .ok (.bipush 36, 2) := by decide +kernel
theorem dX4_count_75 : decode cX4_count 75 = .ok (.aload_n 0, 1) := by decide +kernel
theorem dX4_count_76 : decode cX4_count 76 = .ok (.getfield 125, 3) := by decide +kernel
theorem dX4_count_79 : decode cX4_count 79 = .ok (.imul, 1) := by decide +kernel
theorem dX4_count_80 : decode cX4_count 80 = .ok (.bipush 36, 2) := by decide +kernel
theorem dX4_count_82 : decode cX4_count 82 = .ok (.aload_n 0, 1) := by decide +kernel
theorem dX4_count_83 : decode cX4_count 83 = .ok (.getfield 125, 3) := by decide +kernel
theorem dX4_count_86 : decode cX4_count 86 = .ok (.imul, 1) := by decide +kernel
theorem dX4_count_87 : decode cX4_count 87 = .ok (.bipush 36, 2) := by decide +kernel
theorem dX4_count_89 : decode cX4_count 89 = .ok (.iadd, 1) := by decide +kernel
theorem dX4_count_90 : decode cX4_count 90 = .ok (.invokevirtual 188, 3) := by decide +kernel
theorem dX4_count_93 : decode cX4_count 93 = .ok (.ireturn, 1) := by decide +kernel
theorem dX4_count_94 : decode cX4_count 94 = .ok (.aload_n 0, 1) := by decide +kernel
theorem dX4_count_95 : decode cX4_count 95 = .ok (.getfield 104, 3) := by decide +kernel
end
section
theorem dX4_count_98 : decode cX4_count 98 = .ok (.ireturn, 1) := by decide +kernel
theorem dX4_count_99 : decode cX4_count 99 = .ok (.aload_n 0, 1) := by decide +kernel
theorem dX4_count_100 : decode cX4_count 100 = .ok (.getfield 115, 3) := by decide +kernel
theorem dX4_count_103 : decode cX4_count 103 = .ok (.ireturn, 1) := by decide +kernel
theorem dX4_count_104 : decode cX4_count 104 = .ok (.aload_n 0, 1) := by decide +kernel
theorem dX4_count_105 : decode cX4_count 105 = .ok (.bipush 36, 2) := by decide +kernel
theorem dX4_count_107 : decode cX4_count 107 = .ok (.aload_n 0, 1) := by decide +kernel
theorem dX4_count_108 : decode cX4_count 108 = .ok (.getfield 125, 3) := by decide +kernel
theorem dX4_count_111 : decode cX4_count 111 = .ok (.imul, 1) := by decide +kernel
theorem dX4_count_112 : decode cX4_count 112 = .ok (.bipush 32, 2) := by decide +kernel
theorem dX4_count_114 : decode cX4_count 114 = .ok (.iadd, 1) := by decide +kernel
theorem dX4_count_115 : decode cX4_count 115 = .ok (.bipush 36, 2) := by decide +kernel
theorem dX4_count_117 : decode cX4_count 117 = .ok (.aload_n 0, 1) := by decide +kernel
theorem dX4_count_118 : decode cX4_count 118 = .ok (.getfield 125, 3) := by decide +kernel
theorem dX4_count_121 : decode cX4_count 121 = .ok (.imul, 1) := by decide +kernel
theorem dX4_count_122 : decode cX4_count 122 = .ok (.bipush 36, 2) := by decide +kernel
theorem dX4_count_124 : decode cX4_count 124 = .ok (.iadd, 1) := by decide +kernel
theorem dX4_count_125 : decode cX4_count 125 = .ok (.invokevirtual 188, 3) := by decide +kernel
theorem dX4_count_128 : decode cX4_count 128 = .ok (.ireturn, 1) := by decide +kernel
theorem dX4_count_129 : decode cX4_count 129 = .ok (.aload_n 0, 1) := by decide +kernel
theorem dX4_count_130 : decode cX4_count 130 = .ok (.getfield 125, 3) := by decide +kernel
theorem dX4_count_133 : decode cX4_count 133 = .ok (.ireturn, 1) := by decide +kernel
theorem dX4_count_134 : decode cX4_count 134 = .ok (.aload_n 0, 1) := by decide +kernel
theorem dX4_count_135 : decode cX4_count 135 = .ok (.getfield 128, 3) := by decide +kernel
theorem dX4_count_138 : decode cX4_count 138 = .ok (.ireturn, 1) := by decide +kernel
theorem dX4_count_139 : decode cX4_count 139 = .ok (.aload_n 0, 1) := by decide +kernel
theorem dX4_count_140 : decode cX4_count 140 = .ok (.getfield 173, 3) := by decide +kernel
theorem dX4_count_143 : decode cX4_count 143 = .ok (.ireturn, 1) := by decide +kernel
theorem dX4_count_144 : decode cX4_count 144 = .ok (.aload_n 0, 1) := by decide +kernel
theorem dX4_count_145 : decode cX4_count 145 = .ok (.getfield 145, 3) := by decide +kernel
theorem dX4_count_148 : decode cX4_count 148 = .ok (.ireturn, 1) := by decide +kernel
theorem dX4_count_149 : decode cX4_count 149 = .ok (.aload_n 0, 1) := by decide +kernel
theorem dX4_count_150 : decode cX4_count 150 = .ok (.getfield 185, 3) := by decide +kernel
theorem dX4_count_153 : decode cX4_count 153 = .ok (.ireturn, 1) := by decide +kernel
theorem dL_seed_0 : decode cL_seed 0 = .ok (.aload_n 0, 1) := by decide +kernel
theorem dL_seed_1 : decode cL_seed 1 = .ok (.iload_n 1, 1) := by decide +kernel
theorem dL_seed_2 : decode cL_seed 2 = .ok (.iload_n 2, 1) := by decide +kernel
theorem dL_seed_3 : decode cL_seed 3 = .ok (.invokevirtual 7, 3) := by decide +kernel
theorem dL_seed_6 : decode cL_seed 6 = .ok (.goto 9, 3) := by decide +kernel
theorem dL_seed_9 : decode cL_seed 9 = .ok (.astore_n 3, 1) := by decide +kernel
theorem dL_seed_10 : decode cL_seed 10 = .ok (.iconst 1, 1) := by decide +kernel
theorem dL_seed_11 : decode cL_seed 11 = .ok (.ireturn, 1) := by decide +kernel
theorem dL_seed_12 : decode cL_seed 12 = .ok (.astore_n 3, 1) := by decide +kernel
theorem dL_seed_13 : decode cL_seed 13 = .ok (.iconst 2, 1) := by decide +kernel
theorem dL_seed_14 : decode cL_seed 14 = .ok (.ireturn, 1) := by decide +kernel
theorem dL_seed_15 : decode cL_seed 15 = .ok (.iconst 0, 1) := by decide +kernel
theorem dL_seed_16 : decode cL_seed 16 = .ok (.ireturn, 1) := by decide +kernel
theorem dL_crash_0 : decode cL_crash 0 = .ok (.aload_n 2, 1) := by decide +kernel
theorem dL_crash_1 : decode cL_crash 1 = .ok (.iconst 0, 1) := by decide +kernel
theorem dL_crash_2 : decode cL_crash 2 = .ok (.aload_n 0, 1) := by decide +kernel
theorem dL_crash_3 : decode cL_crash 3 = .ok (.iload_n 1, 1) := by decide +kernel
theorem dL_crash_4 : decode cL_crash 4 = .ok (.invokevirtual 17, 3) := by decide +kernel
theorem dL_crash_7 : decode cL_crash 7 = .ok (.i2l, 1) := by decide +kernel
theorem dL_crash_8 : decode cL_crash 8 = .ok (.lastore, 1) := by decide +kernel
theorem dL_crash_9 : decode cL_crash 9 = .ok (.goto 6, 3) := by decide +kernel
theorem dL_crash_12 : decode cL_crash 12 = .ok (.astore_n 3, 1) := by decide +kernel
theorem dL_crash_13 : decode cL_crash 13 = .ok (.iconst 1, 1) := by decide +kernel
theorem dL_crash_14 : decode cL_crash 14 = .ok (.ireturn, 1) := by decide +kernel
theorem dL_crash_15 : decode cL_crash 15 = .ok (.iconst 0, 1) := by decide +kernel
theorem dL_crash_16 : decode cL_crash 16 = .ok (.ireturn, 1) := by decide +kernel
theorem dL_slot_0 : decode cL_slot 0 = .ok (.aload 4, 2) := by decide +kernel
theorem dL_slot_2 : decode cL_slot 2 = .ok (.iconst 0, 1) := by decide +kernel
theorem dL_slot_3 : decode cL_slot 3 = .ok (.aload_n 0, 1) := by decide +kernel
theorem dL_slot_4 : decode cL_slot 4 = .ok (.iload_n 1, 1) := by decide +kernel
theorem dL_slot_5 : decode cL_slot 5 = .ok (.iload_n 2, 1) := by decide +kernel
theorem dL_slot_6 : decode cL_slot 6 = .ok (.iload_n 3, 1) := by decide +kernel
theorem dL_slot_7 : decode cL_slot 7 = .ok (.invokevirtual 21, 3) := by decide +kernel
theorem dL_slot_10 : decode cL_slot 10 = .ok (.i2l, 1) := by decide +kernel
theorem dL_slot_11 : decode cL_slot 11 = .ok (.lastore, 1) := by decide +kernel
theorem dL_slot_12 : decode cL_slot 12 = .ok (.goto 7, 3) := by decide +kernel
theorem dL_slot_15 : decode cL_slot 15 = .ok (.astore 5, 2) := by decide +kernel
theorem dL_slot_17 : decode cL_slot 17 = .ok (.iconst 1, 1) := by decide +kernel
theorem dL_slot_18 : decode cL_slot 18 = .ok (.ireturn, 1) := by decide +kernel
theorem dL_slot_19 : decode cL_slot 19 = .ok (.iconst 0, 1) := by decide +kernel
theorem dL_slot_20 : decode cL_slot 20 = .ok (.ireturn, 1) := by decide +kernel
theorem dL_count_0 : decode cL_count 0 = .ok (.aload_n 2, 1) := by decide +kernel
theorem dL_count_1 : decode cL_count 1 = .ok (.iconst 0, 1) := by decide +kernel
theorem dL_count_2 : decode cL_count 2 = .ok (.aload_n 0, 1) := by decide +kernel
theorem dL_count_3 : decode cL_count 3 = .ok (.iload_n 1, 1) := by decide +kernel
theorem dL_count_4 : decode cL_count 4 = .ok (.invokevirtual 25, 3) := by decide +kernel
theorem dL_count_7 : decode cL_count 7 = .ok (.i2l, 1) := by decide +kernel
theorem dL_count_8 : decode cL_count 8 = .ok (.lastore, 1) := by decide +kernel
theorem dL_count_9 : decode cL_count 9 = .ok (.goto 6, 3) := by decide +kernel
theorem dL_count_12 : decode cL_count 12 = .ok (.astore_n 3, 1) := by decide +kernel
theorem dL_count_13 : decode cL_count 13 = .ok (.iconst 1, 1) := by decide +kernel
theorem dL_count_14 : decode cL_count 14 = .ok (.ireturn, 1) := by decide +kernel
theorem dL_count_15 : decode cL_count 15 = .ok (.iconst 0, 1) := by decide +kernel
theorem dL_count_16 : decode cL_count 16 = .ok (.ireturn, 1) := by decide +kernel
theorem dL_law_0 : decode cL_law 0 = .ok (.new 8, 3) := by decide +kernel
theorem dL_law_3 : decode cL_law 3 = .ok (.dup, 1) := by decide +kernel
theorem dL_law_4 : decode cL_law 4 = .ok (.invokespecial 28, 3) := by decide +kernel
theorem dL_law_7 : decode cL_law 7 = .ok (.astore_n 1, 1) := by decide +kernel
theorem dL_law_8 : decode cL_law 8 = .ok (.new 29, 3) := by decide +kernel
theorem dL_law_11 : decode cL_law 11 = .ok (.dup, 1) := by decide +kernel
theorem dL_law_12 : decode cL_law 12 = .ok (.invokespecial 31, 3) := by decide +kernel
theorem dL_law_15 : decode cL_law 15 = .ok (.astore_n 2, 1) := by decide +kernel
theorem dL_law_16 : decode cL_law 16 = .ok (.iconst 1, 1) := by decide +kernel
theorem dL_law_17 : decode cL_law 17 = .ok (.newarray .long, 2) := by decide +kernel
theorem dL_law_19 : decode cL_law 19 = .ok (.astore_n 3, 1) := by decide +kernel
theorem dL_law_20 : decode cL_law 20 = .ok (.iconst 0, 1) := by decide +kernel
theorem dL_law_21 : decode cL_law 21 = .ok (.istore 4, 2) := by decide +kernel
theorem dL_law_23 : decode cL_law 23 = .ok (.iload 4, 2) := by decide +kernel
theorem dL_law_25 : decode cL_law 25 = .ok (.aload_n 0, 1) := by decide +kernel
theorem dL_law_26 : decode cL_law 26 = .ok (.arraylength, 1) := by decide +kernel
theorem dL_law_27 : decode cL_law 27 = .ok (.iconst 4, 1) := by decide +kernel
theorem dL_law_28 : decode cL_law 28 = .ok (.isub, 1) := by decide +kernel
theorem dL_law_29 : decode cL_law 29 = .ok (.if_icmp .gt 516, 3) := by decide +kernel
theorem dL_law_32 : decode cL_law 32 = .ok (.aload_n 0, 1) := by decide +kernel
theorem dL_law_33 : decode cL_law 33 = .ok (.iload 4, 2) := by decide +kernel
theorem dL_law_35 : decode cL_law 35 = .ok (.iaload, 1) := by decide +kernel
theorem dL_law_36 : decode cL_law 36 = .ok (.bipush 15, 2) := by decide +kernel
theorem dL_law_38 : decode cL_law 38 = .ok (.iand, 1) := by decide +kernel
theorem dL_law_39 : decode cL_law 39 = .ok (.tableswitch 500 0 10 #[57, 105, 142, 167, 192, 217, 230, 286, 366, 419, 444], 57) := by decide +kernel
theorem dL_law_96 : decode cL_law 96 = .ok (.aload_n 1, 1) := by decide +kernel
theorem dL_law_97 : decode cL_law 97 = .ok (.aload_n 0, 1) := by decide +kernel
theorem dL_law_98 : decode cL_law 98 = .ok (.iload 4, 2) := by decide +kernel
theorem dL_law_100 : decode cL_law 100 = .ok (.iconst 1, 1) := by decide +kernel
theorem dL_law_101 : decode cL_law 101 = .ok (.iadd, 1) := by decide +kernel
theorem dL_law_102 : decode cL_law 102 = .ok (.iaload, 1) := by decide +kernel
theorem dL_law_103 : decode cL_law 103 = .ok (.aload_n 0, 1) := by decide +kernel
theorem dL_law_104 : decode cL_law 104 = .ok (.iload 4, 2) := by decide +kernel
theorem dL_law_106 : decode cL_law 106 = .ok (.iconst 2, 1) := by decide +kernel
theorem dL_law_107 : decode cL_law 107 = .ok (.iadd, 1) := by decide +kernel
theorem dL_law_108 : decode cL_law 108 = .ok (.iaload, 1) := by decide +kernel
theorem dL_law_109 : decode cL_law 109 = .ok (.invokestatic 32, 3) := by decide +kernel
theorem dL_law_112 : decode cL_law 112 = .ok (.istore 5, 2) := by decide +kernel
theorem dL_law_114 : decode cL_law 114 = .ok (.aload_n 2, 1) := by decide +kernel
theorem dL_law_115 : decode cL_law 115 = .ok (.aload_n 0, 1) := by decide +kernel
theorem dL_law_116 : decode cL_law 116 = .ok (.iload 4, 2) := by decide +kernel
theorem dL_law_118 : decode cL_law 118 = .ok (.iconst 1, 1) := by decide +kernel
theorem dL_law_119 : decode cL_law 119 = .ok (.iadd, 1) := by decide +kernel
theorem dL_law_120 : decode cL_law 120 = .ok (.iaload, 1) := by decide +kernel
theorem dL_law_121 : decode cL_law 121 = .ok (.aload_n 0, 1) := by decide +kernel
theorem dL_law_122 : decode cL_law 122 = .ok (.iload 4, 2) := by decide +kernel
theorem dL_law_124 : decode cL_law 124 = .ok (.iconst 2, 1) := by decide +kernel
theorem dL_law_125 : decode cL_law 125 = .ok (.iadd, 1) := by decide +kernel
theorem dL_law_126 : decode cL_law 126 = .ok (.iaload, 1) := by decide +kernel
theorem dL_law_127 : decode cL_law 127 = .ok (.invokevirtual 37, 3) := by decide +kernel
theorem dL_law_130 : decode cL_law 130 = .ok (.aload_n 2, 1) := by decide +kernel
theorem dL_law_131 : decode cL_law 131 = .ok (.invokevirtual 38, 3) := by decide +kernel
theorem dL_law_134 : decode cL_law 134 = .ok (.iload 5, 2) := by decide +kernel
theorem dL_law_136 : decode cL_law 136 = .ok (.if_icmp .eq 5, 3) := by decide +kernel
theorem dL_law_139 : decode cL_law 139 = .ok (.iconst 0, 1) := by decide +kernel
theorem dL_law_140 : decode cL_law 140 = .ok (.ireturn, 1) := by decide +kernel
theorem dL_law_141 : decode cL_law 141 = .ok (.goto 398, 3) := by decide +kernel
theorem dL_law_144 : decode cL_law 144 = .ok (.aload_n 1, 1) := by decide +kernel
theorem dL_law_145 : decode cL_law 145 = .ok (.aload_n 0, 1) := by decide +kernel
theorem dL_law_146 : decode cL_law 146 = .ok (.iload 4, 2) := by decide +kernel
theorem dL_law_148 : decode cL_law 148 = .ok (.iconst 1, 1) := by decide +kernel
theorem dL_law_149 : decode cL_law 149 = .ok (.iadd, 1) := by decide +kernel
theorem dL_law_150 : decode cL_law 150 = .ok (.iaload, 1) := by decide +kernel
theorem dL_law_151 : decode cL_law 151 = .ok (.aload_n 0, 1) := by decide +kernel
theorem dL_law_152 : decode cL_law 152 = .ok (.iload 4, 2) := by decide +kernel
theorem dL_law_154 : decode cL_law 154 = .ok (.iconst 2, 1) := by decide +kernel
theorem dL_law_155 : decode cL_law 155 = .ok (.iadd, 1) := by decide +kernel
theorem dL_law_156 : decode cL_law 156 = .ok (.iaload, 1) := by decide +kernel
theorem dL_law_157 : decode cL_law 157 = .ok (.invokevirtual 42, 3) := by decide +kernel
theorem dL_law_160 : decode cL_law 160 = .ok (.aload_n 2, 1) := by decide +kernel
theorem dL_law_161 : decode cL_law 161 = .ok (.aload_n 0, 1) := by decide +kernel
theorem dL_law_162 : decode cL_law 162 = .ok (.iload 4, 2) := by decide +kernel
theorem dL_law_164 : decode cL_law 164 = .ok (.iconst 1, 1) := by decide +kernel
theorem dL_law_165 : decode cL_law 165 = .ok (.iadd, 1) := by decide +kernel
theorem dL_law_166 : decode cL_law 166 = .ok (.iaload, 1) := by decide +kernel
theorem dL_law_167 : decode cL_law 167 = .ok (.aload_n 0, 1) := by decide +kernel
theorem dL_law_168 : decode cL_law 168 = .ok (.iload 4, 2) := by decide +kernel
theorem dL_law_170 : decode cL_law 170 = .ok (.iconst 2, 1) := by decide +kernel
theorem dL_law_171 : decode cL_law 171 = .ok (.iadd, 1) := by decide +kernel
theorem dL_law_172 : decode cL_law 172 = .ok (.iaload, 1) := by decide +kernel
theorem dL_law_173 : decode cL_law 173 = .ok (.invokevirtual 46, 3) := by decide +kernel
theorem dL_law_176 : decode cL_law 176 = .ok (.if_icmp .eq 363, 3) := by decide +kernel
theorem dL_law_179 : decode cL_law 179 = .ok (.iconst 0, 1) := by decide +kernel
theorem dL_law_180 : decode cL_law 180 = .ok (.ireturn, 1) := by decide +kernel
theorem dL_law_181 : decode cL_law 181 = .ok (.aload_n 1, 1) := by decide +kernel
theorem dL_law_182 : decode cL_law 182 = .ok (.aload_n 0, 1) := by decide +kernel
theorem dL_law_183 : decode cL_law 183 = .ok (.iload 4, 2) := by decide +kernel
theorem dL_law_185 : decode cL_law 185 = .ok (.iconst 1, 1) := by decide +kernel
theorem dL_law_186 : decode cL_law 186 = .ok (.iadd, 1) := by decide +kernel
theorem dL_law_187 : decode cL_law 187 = .ok (.iaload, 1) := by decide +kernel
theorem dL_law_188 : decode cL_law 188 = .ok (.invokevirtual 47, 3) := by decide +kernel
theorem dL_law_191 : decode cL_law 191 = .ok (.aload_n 2, 1) := by decide +kernel
theorem dL_law_192 : decode cL_law 192 = .ok (.aload_n 0, 1) := by decide +kernel
theorem dL_law_193 : decode cL_law 193 = .ok (.iload 4, 2) := by decide +kernel
theorem dL_law_195 : decode cL_law 195 = .ok (.iconst 1, 1) := by decide +kernel
theorem dL_law_196 : decode cL_law 196 = .ok (.iadd, 1) := by decide +kernel
theorem dL_law_197 : decode cL_law 197 = .ok (.iaload, 1) := by decide +kernel
theorem dL_law_198 : decode cL_law 198 = .ok (.invokevirtual 51, 3) := by decide +kernel
theorem dL_law_201 : decode cL_law 201 = .ok (.if_icmp .eq 338, 3) := by decide +kernel
theorem dL_law_204 : decode cL_law 204 = .ok (.iconst 0, 1) := by decide +kernel
theorem dL_law_205 : decode cL_law 205 = .ok (.ireturn, 1) := by decide +kernel
theorem dL_law_206 : decode cL_law 206 = .ok (.aload_n 1, 1) := by decide +kernel
theorem dL_law_207 : decode cL_law 207 = .ok (.aload_n 0, 1) := by decide +kernel
theorem dL_law_208 : decode cL_law 208 = .ok (.iload 4, 2) := by decide +kernel
theorem dL_law_210 : decode cL_law 210 = .ok (.iconst 1, 1) := by decide +kernel
theorem dL_law_211 : decode cL_law 211 = .ok (.iadd, 1) := by decide +kernel
theorem dL_law_212 : decode cL_law 212 = .ok (.iaload, 1) := by decide +kernel
theorem dL_law_213 : decode cL_law 213 = .ok (.invokevirtual 52, 3) := by decide +kernel
theorem dL_law_216 : decode cL_law 216 = .ok (.aload_n 2, 1) := by decide +kernel
theorem dL_law_217 : decode cL_law 217 = .ok (.aload_n 0, 1) := by decide +kernel
theorem dL_law_218 : decode cL_law 218 = .ok (.iload 4, 2) := by decide +kernel
theorem dL_law_220 : decode cL_law 220 = .ok (.iconst 1, 1) := by decide +kernel
theorem dL_law_221 : decode cL_law 221 = .ok (.iadd, 1) := by decide +kernel
theorem dL_law_222 : decode cL_law 222 = .ok (.iaload, 1) := by decide +kernel
theorem dL_law_223 : decode cL_law 223 = .ok (.invokevirtual 55, 3) := by decide +kernel
theorem dL_law_226 : decode cL_law 226 = .ok (.if_icmp .eq 313, 3) := by decide +kernel
theorem dL_law_229 : decode cL_law 229 = .ok (.iconst 0, 1) := by decide +kernel
theorem dL_law_230 : decode cL_law 230 = .ok (.ireturn, 1) := by decide +kernel
theorem dL_law_231 : decode cL_law 231 = .ok (.aload_n 1, 1) := by decide +kernel
theorem dL_law_232 : decode cL_law 232 = .ok (.aload_n 0, 1) := by decide +kernel
theorem dL_law_233 : decode cL_law 233 = .ok (.iload 4, 2) := by decide +kernel
theorem dL_law_235 : decode cL_law 235 = .ok (.iconst 1, 1) := by decide +kernel
theorem dL_law_236 : decode cL_law 236 = .ok (.iadd, 1) := by decide +kernel
theorem dL_law_237 : decode cL_law 237 = .ok (.iaload, 1) := by decide +kernel
theorem dL_law_238 : decode cL_law 238 = .ok (.invokevirtual 56, 3) := by decide +kernel
theorem dL_law_241 : decode cL_law 241 = .ok (.aload_n 2, 1) := by decide +kernel
theorem dL_law_242 : decode cL_law 242 = .ok (.aload_n 0, 1) := by decide +kernel
theorem dL_law_243 : decode cL_law 243 = .ok (.iload 4, 2) := by decide +kernel
theorem dL_law_245 : decode cL_law 245 = .ok (.iconst 1, 1) := by decide +kernel
theorem dL_law_246 : decode cL_law 246 = .ok (.iadd, 1) := by decide +kernel
theorem dL_law_247 : decode cL_law 247 = .ok (.iaload, 1) := by decide +kernel
theorem dL_law_248 : decode cL_law 248 = .ok (.invokevirtual 59, 3) := by decide +kernel
theorem dL_law_251 : decode cL_law 251 = .ok (.if_icmp .eq 288, 3) := by decide +kernel
theorem dL_law_254 : decode cL_law 254 = .ok (.iconst 0, 1) := by decide +kernel
theorem dL_law_255 : decode cL_law 255 = .ok (.ireturn, 1) := by decide +kernel
theorem dL_law_256 : decode cL_law 256 = .ok (.aload_n 1, 1) := by decide +kernel
theorem dL_law_257 : decode cL_law 257 = .ok (.invokevirtual 60, 3) := by decide +kernel
theorem dL_law_260 : decode cL_law 260 = .ok (.aload_n 2, 1) := by decide +kernel
theorem dL_law_261 : decode cL_law 261 = .ok (.invokevirtual 63, 3) := by decide +kernel
theorem dL_law_264 : decode cL_law 264 = .ok (.if_icmp .eq 275, 3) := by decide +kernel
theorem dL_law_267 : decode cL_law 267 = .ok (.iconst 0, 1) := by decide +kernel
theorem dL_law_268 : decode cL_law 268 = .ok (.ireturn, 1) := by decide +kernel
theorem dL_law_269 : decode cL_law 269 = .ok (.aload_n 1, 1) := by decide +kernel
theorem dL_law_270 : decode cL_law 270 = .ok (.aload_n 0, 1) := by decide +kernel
theorem dL_law_271 : decode cL_law 271 = .ok (.iload 4, 2) := by decide +kernel
theorem dL_law_273 : decode cL_law 273 = .ok (.iconst 1, 1) := by decide +kernel
theorem dL_law_274 : decode cL_law 274 = .ok (.iadd, 1) := by decide +kernel
theorem dL_law_275 : decode cL_law 275 = .ok (.iaload, 1) := by decide +kernel
theorem dL_law_276 : decode cL_law 276 = .ok (.aload_n 3, 1) := by decide +kernel
theorem dL_law_277 : decode cL_law 277 = .ok (.invokestatic 64, 3) := by decide +kernel
theorem dL_law_280 : decode cL_law 280 = .ok (.istore 5, 2) := by decide +kernel
theorem dL_law_282 : decode cL_law 282 = .ok (.aload_n 2, 1) := by decide +kernel
theorem dL_law_283 : decode cL_law 283 = .ok (.aload_n 0, 1) := by decide +kernel
theorem dL_law_284 : decode cL_law 284 = .ok (.iload 4, 2) := by decide +kernel
theorem dL_law_286 : decode cL_law 286 = .ok (.iconst 1, 1) := by decide +kernel
theorem dL_law_287 : decode cL_law 287 = .ok (.iadd, 1) := by decide +kernel
theorem dL_law_288 : decode cL_law 288 = .ok (.iaload, 1) := by decide +kernel
theorem dL_law_289 : decode cL_law 289 = .ok (.invokevirtual 67, 3) := by decide +kernel
theorem dL_law_292 : decode cL_law 292 = .ok (.istore 6, 2) := by decide +kernel
theorem dL_law_294 : decode cL_law 294 = .ok (.aload_n 2, 1) := by decide +kernel
theorem dL_law_295 : decode cL_law 295 = .ok (.invokevirtual 38, 3) := by decide +kernel
theorem dL_law_298 : decode cL_law 298 = .ok (.iload 5, 2) := by decide +kernel
theorem dL_law_300 : decode cL_law 300 = .ok (.if_icmp .eq 5, 3) := by decide +kernel
theorem dL_law_303 : decode cL_law 303 = .ok (.iconst 0, 1) := by decide +kernel
theorem dL_law_304 : decode cL_law 304 = .ok (.ireturn, 1) := by decide +kernel
theorem dL_law_305 : decode cL_law 305 = .ok (.iload 5, 2) := by decide +kernel
theorem dL_law_307 : decode cL_law 307 = .ok (.ifCond .ne 15, 3) := by decide +kernel
theorem dL_law_310 : decode cL_law 310 = .ok (.aload_n 3, 1) := by decide +kernel
theorem dL_law_311 : decode cL_law 311 = .ok (.iconst 0, 1) := by decide +kernel
theorem dL_law_312 : decode cL_law 312 = .ok (.laload, 1) := by decide +kernel
theorem dL_law_313 : decode cL_law 313 = .ok (.iload 6, 2) := by decide +kernel
theorem dL_law_315 : decode cL_law 315 = .ok (.i2l, 1) := by decide +kernel
theorem dL_law_316 : decode cL_law 316 = .ok (.lcmp, 1) := by decide +kernel
theorem dL_law_317 : decode cL_law 317 = .ok (.ifCond .eq 5, 3) := by decide +kernel
theorem dL_law_320 : decode cL_law 320 = .ok (.iconst 0, 1) := by decide +kernel
theorem dL_law_321 : decode cL_law 321 = .ok (.ireturn, 1) := by decide +kernel
theorem dL_law_322 : decode cL_law 322 = .ok (.goto 217, 3) := by decide +kernel
theorem dL_law_325 : decode cL_law 325 = .ok (.aload_n 1, 1) := by decide +kernel
theorem dL_law_326 : decode cL_law 326 = .ok (.aload_n 0, 1) := by decide +kernel
theorem dL_law_327 : decode cL_law 327 = .ok (.iload 4, 2) := by decide +kernel
theorem dL_law_329 : decode cL_law 329 = .ok (.iconst 1, 1) := by decide +kernel
theorem dL_law_330 : decode cL_law 330 = .ok (.iadd, 1) := by decide +kernel
theorem dL_law_331 : decode cL_law 331 = .ok (.iaload, 1) := by decide +kernel
theorem dL_law_332 : decode cL_law 332 = .ok (.aload_n 0, 1) := by decide +kernel
theorem dL_law_333 : decode cL_law 333 = .ok (.iload 4, 2) := by decide +kernel
theorem dL_law_335 : decode cL_law 335 = .ok (.iconst 2, 1) := by decide +kernel
theorem dL_law_336 : decode cL_law 336 = .ok (.iadd, 1) := by decide +kernel
theorem dL_law_337 : decode cL_law 337 = .ok (.iaload, 1) := by decide +kernel
theorem dL_law_338 : decode cL_law 338 = .ok (.aload_n 0, 1) := by decide +kernel
theorem dL_law_339 : decode cL_law 339 = .ok (.iload 4, 2) := by decide +kernel
theorem dL_law_341 : decode cL_law 341 = .ok (.iconst 3, 1) := by decide +kernel
theorem dL_law_342 : decode cL_law 342 = .ok (.iadd, 1) := by decide +kernel
theorem dL_law_343 : decode cL_law 343 = .ok (.iaload, 1) := by decide +kernel
theorem dL_law_344 : decode cL_law 344 = .ok (.aload_n 3, 1) := by decide +kernel
theorem dL_law_345 : decode cL_law 345 = .ok (.invokestatic 68, 3) := by decide +kernel
theorem dL_law_348 : decode cL_law 348 = .ok (.istore 5, 2) := by decide +kernel
theorem dL_law_350 : decode cL_law 350 = .ok (.aload_n 2, 1) := by decide +kernel
theorem dL_law_351 : decode cL_law 351 = .ok (.aload_n 0, 1) := by decide +kernel
theorem dL_law_352 : decode cL_law 352 = .ok (.iload 4, 2) := by decide +kernel
theorem dL_law_354 : decode cL_law 354 = .ok (.iconst 1, 1) := by decide +kernel
theorem dL_law_355 : decode cL_law 355 = .ok (.iadd, 1) := by decide +kernel
theorem dL_law_356 : decode cL_law 356 = .ok (.iaload, 1) := by decide +kernel
theorem dL_law_357 : decode cL_law 357 = .ok (.aload_n 0, 1) := by decide +kernel
theorem dL_law_358 : decode cL_law 358 = .ok (.iload 4, 2) := by decide +kernel
theorem dL_law_360 : decode cL_law 360 = .ok (.iconst 2, 1) := by decide +kernel
theorem dL_law_361 : decode cL_law 361 = .ok (.iadd, 1) := by decide +kernel
theorem dL_law_362 : decode cL_law 362 = .ok (.iaload, 1) := by decide +kernel
theorem dL_law_363 : decode cL_law 363 = .ok (.aload_n 0, 1) := by decide +kernel
theorem dL_law_364 : decode cL_law 364 = .ok (.iload 4, 2) := by decide +kernel
theorem dL_law_366 : decode cL_law 366 = .ok (.iconst 3, 1) := by decide +kernel
theorem dL_law_367 : decode cL_law 367 = .ok (.iadd, 1) := by decide +kernel
theorem dL_law_368 : decode cL_law 368 = .ok (.iaload, 1) := by decide +kernel
theorem dL_law_369 : decode cL_law 369 = .ok (.invokevirtual 71, 3) := by decide +kernel
theorem dL_law_372 : decode cL_law 372 = .ok (.istore 6, 2) := by decide +kernel
theorem dL_law_374 : decode cL_law 374 = .ok (.aload_n 2, 1) := by decide +kernel
theorem dL_law_375 : decode cL_law 375 = .ok (.invokevirtual 38, 3) := by decide +kernel
theorem dL_law_378 : decode cL_law 378 = .ok (.iload 5, 2) := by decide +kernel
theorem dL_law_380 : decode cL_law 380 = .ok (.if_icmp .eq 5, 3) := by decide +kernel
theorem dL_law_383 : decode cL_law 383 = .ok (.iconst 0, 1) := by decide +kernel
theorem dL_law_384 : decode cL_law 384 = .ok (.ireturn, 1) := by decide +kernel
theorem dL_law_385 : decode cL_law 385 = .ok (.iload 5, 2) := by decide +kernel
theorem dL_law_387 : decode cL_law 387 = .ok (.ifCond .ne 15, 3) := by decide +kernel
theorem dL_law_390 : decode cL_law 390 = .ok (.aload_n 3, 1) := by decide +kernel
theorem dL_law_391 : decode cL_law 391 = .ok (.iconst 0, 1) := by decide +kernel
theorem dL_law_392 : decode cL_law 392 = .ok (.laload, 1) := by decide +kernel
theorem dL_law_393 : decode cL_law 393 = .ok (.iload 6, 2) := by decide +kernel
theorem dL_law_395 : decode cL_law 395 = .ok (.i2l, 1) := by decide +kernel
theorem dL_law_396 : decode cL_law 396 = .ok (.lcmp, 1) := by decide +kernel
theorem dL_law_397 : decode cL_law 397 = .ok (.ifCond .eq 5, 3) := by decide +kernel
theorem dL_law_400 : decode cL_law 400 = .ok (.iconst 0, 1) := by decide +kernel
theorem dL_law_401 : decode cL_law 401 = .ok (.ireturn, 1) := by decide +kernel
theorem dL_law_402 : decode cL_law 402 = .ok (.goto 137, 3) := by decide +kernel
theorem dL_law_405 : decode cL_law 405 = .ok (.aload_n 1, 1) := by decide +kernel
theorem dL_law_406 : decode cL_law 406 = .ok (.aload_n 0, 1) := by decide +kernel
theorem dL_law_407 : decode cL_law 407 = .ok (.iload 4, 2) := by decide +kernel
theorem dL_law_409 : decode cL_law 409 = .ok (.iconst 1, 1) := by decide +kernel
theorem dL_law_410 : decode cL_law 410 = .ok (.iadd, 1) := by decide +kernel
theorem dL_law_411 : decode cL_law 411 = .ok (.iaload, 1) := by decide +kernel
theorem dL_law_412 : decode cL_law 412 = .ok (.aload_n 0, 1) := by decide +kernel
theorem dL_law_413 : decode cL_law 413 = .ok (.iload 4, 2) := by decide +kernel
theorem dL_law_415 : decode cL_law 415 = .ok (.iconst 2, 1) := by decide +kernel
theorem dL_law_416 : decode cL_law 416 = .ok (.iadd, 1) := by decide +kernel
theorem dL_law_417 : decode cL_law 417 = .ok (.iaload, 1) := by decide +kernel
theorem dL_law_418 : decode cL_law 418 = .ok (.ifCond .eq 7, 3) := by decide +kernel
theorem dL_law_421 : decode cL_law 421 = .ok (.iconst 1, 1) := by decide +kernel
theorem dL_law_422 : decode cL_law 422 = .ok (.goto 4, 3) := by decide +kernel
theorem dL_law_425 : decode cL_law 425 = .ok (.iconst 0, 1) := by decide +kernel
theorem dL_law_426 : decode cL_law 426 = .ok (.invokevirtual 72, 3) := by decide +kernel
theorem dL_law_429 : decode cL_law 429 = .ok (.aload_n 2, 1) := by decide +kernel
theorem dL_law_430 : decode cL_law 430 = .ok (.aload_n 0, 1) := by decide +kernel
theorem dL_law_431 : decode cL_law 431 = .ok (.iload 4, 2) := by decide +kernel
theorem dL_law_433 : decode cL_law 433 = .ok (.iconst 1, 1) := by decide +kernel
theorem dL_law_434 : decode cL_law 434 = .ok (.iadd, 1) := by decide +kernel
theorem dL_law_435 : decode cL_law 435 = .ok (.iaload, 1) := by decide +kernel
theorem dL_law_436 : decode cL_law 436 = .ok (.aload_n 0, 1) := by decide +kernel
theorem dL_law_437 : decode cL_law 437 = .ok (.iload 4, 2) := by decide +kernel
theorem dL_law_439 : decode cL_law 439 = .ok (.iconst 2, 1) := by decide +kernel
theorem dL_law_440 : decode cL_law 440 = .ok (.iadd, 1) := by decide +kernel
theorem dL_law_441 : decode cL_law 441 = .ok (.iaload, 1) := by decide +kernel
theorem dL_law_442 : decode cL_law 442 = .ok (.ifCond .eq 7, 3) := by decide +kernel
theorem dL_law_445 : decode cL_law 445 = .ok (.iconst 1, 1) := by decide +kernel
theorem dL_law_446 : decode cL_law 446 = .ok (.goto 4, 3) := by decide +kernel
theorem dL_law_449 : decode cL_law 449 = .ok (.iconst 0, 1) := by decide +kernel
theorem dL_law_450 : decode cL_law 450 = .ok (.invokevirtual 76, 3) := by decide +kernel
theorem dL_law_453 : decode cL_law 453 = .ok (.if_icmp .eq 86, 3) := by decide +kernel
theorem dL_law_456 : decode cL_law 456 = .ok (.iconst 0, 1) := by decide +kernel
theorem dL_law_457 : decode cL_law 457 = .ok (.ireturn, 1) := by decide +kernel
theorem dL_law_458 : decode cL_law 458 = .ok (.aload_n 1, 1) := by decide +kernel
theorem dL_law_459 : decode cL_law 459 = .ok (.aload_n 0, 1) := by decide +kernel
theorem dL_law_460 : decode cL_law 460 = .ok (.iload 4, 2) := by decide +kernel
theorem dL_law_462 : decode cL_law 462 = .ok (.iconst 1, 1) := by decide +kernel
theorem dL_law_463 : decode cL_law 463 = .ok (.iadd, 1) := by decide +kernel
theorem dL_law_464 : decode cL_law 464 = .ok (.iaload, 1) := by decide +kernel
theorem dL_law_465 : decode cL_law 465 = .ok (.invokevirtual 77, 3) := by decide +kernel
theorem dL_law_468 : decode cL_law 468 = .ok (.aload_n 2, 1) := by decide +kernel
theorem dL_law_469 : decode cL_law 469 = .ok (.aload_n 0, 1) := by decide +kernel
theorem dL_law_470 : decode cL_law 470 = .ok (.iload 4, 2) := by decide +kernel
theorem dL_law_472 : decode cL_law 472 = .ok (.iconst 1, 1) := by decide +kernel
theorem dL_law_473 : decode cL_law 473 = .ok (.iadd, 1) := by decide +kernel
theorem dL_law_474 : decode cL_law 474 = .ok (.iaload, 1) := by decide +kernel
theorem dL_law_475 : decode cL_law 475 = .ok (.invokevirtual 80, 3) := by decide +kernel
theorem dL_law_478 : decode cL_law 478 = .ok (.if_icmp .eq 61, 3) := by decide +kernel
theorem dL_law_481 : decode cL_law 481 = .ok (.iconst 0, 1) := by decide +kernel
theorem dL_law_482 : decode cL_law 482 = .ok (.ireturn, 1) := by decide +kernel
theorem dL_law_483 : decode cL_law 483 = .ok (.aload_n 1, 1) := by decide +kernel
theorem dL_law_484 : decode cL_law 484 = .ok (.aload_n 0, 1) := by decide +kernel
theorem dL_law_485 : decode cL_law 485 = .ok (.iload 4, 2) := by decide +kernel
theorem dL_law_487 : decode cL_law 487 = .ok (.iconst 1, 1) := by decide +kernel
theorem dL_law_488 : decode cL_law 488 = .ok (.iadd, 1) := by decide +kernel
theorem dL_law_489 : decode cL_law 489 = .ok (.iaload, 1) := by decide +kernel
theorem dL_law_490 : decode cL_law 490 = .ok (.aload_n 3, 1) := by decide +kernel
theorem dL_law_491 : decode cL_law 491 = .ok (.invokestatic 81, 3) := by decide +kernel
theorem dL_law_494 : decode cL_law 494 = .ok (.istore 5, 2) := by decide +kernel
theorem dL_law_496 : decode cL_law 496 = .ok (.aload_n 2, 1) := by decide +kernel
theorem dL_law_497 : decode cL_law 497 = .ok (.aload_n 0, 1) := by decide +kernel
theorem dL_law_498 : decode cL_law 498 = .ok (.iload 4, 2) := by decide +kernel
theorem dL_law_500 : decode cL_law 500 = .ok (.iconst 1, 1) := by decide +kernel
theorem dL_law_501 : decode cL_law 501 = .ok (.iadd, 1) := by decide +kernel
theorem dL_law_502 : decode cL_law 502 = .ok (.iaload, 1) := by decide +kernel
theorem dL_law_503 : decode cL_law 503 = .ok (.invokevirtual 83, 3) := by decide +kernel
theorem dL_law_506 : decode cL_law 506 = .ok (.istore 6, 2) := by decide +kernel
theorem dL_law_508 : decode cL_law 508 = .ok (.aload_n 2, 1) := by decide +kernel
theorem dL_law_509 : decode cL_law 509 = .ok (.invokevirtual 38, 3) := by decide +kernel
theorem dL_law_512 : decode cL_law 512 = .ok (.iload 5, 2) := by decide +kernel
theorem dL_law_514 : decode cL_law 514 = .ok (.if_icmp .eq 5, 3) := by decide +kernel
theorem dL_law_517 : decode cL_law 517 = .ok (.iconst 0, 1) := by decide +kernel
theorem dL_law_518 : decode cL_law 518 = .ok (.ireturn, 1) := by decide +kernel
theorem dL_law_519 : decode cL_law 519 = .ok (.iload 5, 2) := by decide +kernel
theorem dL_law_521 : decode cL_law 521 = .ok (.ifCond .ne 15, 3) := by decide +kernel
theorem dL_law_524 : decode cL_law 524 = .ok (.aload_n 3, 1) := by decide +kernel
theorem dL_law_525 : decode cL_law 525 = .ok (.iconst 0, 1) := by decide +kernel
theorem dL_law_526 : decode cL_law 526 = .ok (.laload, 1) := by decide +kernel
theorem dL_law_527 : decode cL_law 527 = .ok (.iload 6, 2) := by decide +kernel
theorem dL_law_529 : decode cL_law 529 = .ok (.i2l, 1) := by decide +kernel
theorem dL_law_530 : decode cL_law 530 = .ok (.lcmp, 1) := by decide +kernel
theorem dL_law_531 : decode cL_law 531 = .ok (.ifCond .eq 5, 3) := by decide +kernel
theorem dL_law_534 : decode cL_law 534 = .ok (.iconst 0, 1) := by decide +kernel
theorem dL_law_535 : decode cL_law 535 = .ok (.ireturn, 1) := by decide +kernel
theorem dL_law_536 : decode cL_law 536 = .ok (.goto 3, 3) := by decide +kernel
theorem dL_law_539 : decode cL_law 539 = .ok (.iinc 4 4, 3) := by decide +kernel
theorem dL_law_542 : decode cL_law 542 = .ok (.goto (-519), 3) := by decide +kernel
theorem dL_law_545 : decode cL_law 545 = .ok (.iconst 1, 1) := by decide +kernel
theorem dL_law_546 : decode cL_law 546 = .ok (.ireturn, 1) := by decide +kernel
end
section
/-! ===== core: contracts over a whole world (the same addresses before and behind), and their calls ===== -/
/-- the links of nest mates, which aren't words -/
def cm_N (U : State) : Prop := va_Nw (.methodLinkNest RX0 15 yX3_cellAt RX3) U ∧ va_Nw (.methodLinkNest RX0 19 yX3_tellCell RX3) U ∧ va_Nw (.methodLinkNest RX0 26 yX3_copyRow RX3) U ∧ va_Nw (.methodLinkNest RX0 34 yX3_rowOf RX3) U ∧ va_Nw (.methodLinkNest RX0 38 yX3_columnOf RX3) U ∧ va_Nw (.methodLinkNest RX0 57 yX3_placeOf RX3) U ∧ va_Nw (.methodLinkNest RX1 15 yX3_cellAt RX3) U ∧ va_Nw (.methodLinkNest RX1 19 yX3_tellCell RX3) U ∧ va_Nw (.methodLinkNest RX1 37 yX3_copyRow RX3) U ∧ va_Nw (.methodLinkNest RX2 25 yX3_copyRow RX3) U
theorem cm_N.warm {s U : State} (hW : s.WarmedH U.vm) (h : cm_N s) : cm_N U := by
  obtain ⟨h1, h2, h3, h4, h5, h6, h7, h8, h9, h10⟩ := h
  exact ⟨va_Nw.warmM hW h1, va_Nw.warmM hW h2, va_Nw.warmM hW h3, va_Nw.warmM hW h4, va_Nw.warmM hW h5, va_Nw.warmM hW h6, va_Nw.warmM hW h7, va_Nw.warmM hW h8, va_Nw.warmM hW h9, va_Nw.warmM hW h10⟩
theorem cm_N.same {u U : State} (hv : u.vm = U.vm) (h : cm_N u) : cm_N U := by
  obtain ⟨h1, h2, h3, h4, h5, h6, h7, h8, h9, h10⟩ := h
  exact ⟨va_Nw.same rfl hv h1, va_Nw.same rfl hv h2, va_Nw.same rfl hv h3, va_Nw.same rfl hv h4, va_Nw.same rfl hv h5, va_Nw.same rfl hv h6, va_Nw.same rfl hv h7, va_Nw.same rfl hv h8, va_Nw.same rfl hv h9, va_Nw.same rfl hv h10⟩
/-- the array classes: of ints, of booleans, of longs -/
abbrev cm_T (cI cZ cJ : ClassId) : List (ClassId × FieldType) := [(cI, .int), (cZ, .boolean), (cJ, .long)]
def cm_K (D : va_G) (tys : List (ClassId × FieldType)) (U : State) : Prop := va_K D vwCl tys U ∧ cm_N U
theorem cm_K.warm {D : va_G} {tys : List (ClassId × FieldType)} {s U : State} (hW : s.WarmedH U.vm) (h : cm_K D tys s) : cm_K D tys U := ⟨va_K.moved hW.alike h.1, h.2.warm hW⟩
theorem cm_K.same {D : va_G} {tys : List (ClassId × FieldType)} {u U : State} (hv : u.vm = U.vm) (h : cm_K D tys u) : cm_K D tys U := ⟨va_K.moved (by rw [hv]; exact Vm.Alike.refl U.vm) h.1, h.2.same hv⟩
/-- the world's own addresses -/
def cm_A (ws : va_W) : Nat → Prop := fun q => ∃ (k : Nat) (e : va_E), ws[k]? = some (q, e)
theorem cm_A.in {A : Nat → Prop} {ws : va_W} (hD : va_D A ws) (q : Nat) (h : cm_A ws q) : A q := by
  obtain ⟨k, e, h⟩ := h
  exact hD.2 k _ h
theorem cm_A.self {A : Nat → Prop} {ws : va_W} (hD : va_D A ws) : va_D (cm_A ws) ws := ⟨hD.1, fun k q h => ⟨k, q.2, h⟩⟩
/-- a method's contract: from any heap that holds ws it returns rv, and the heap holds ws'; nothing is made -/
def CM (l : Launch) (D : va_G) (tys : List (ClassId × FieldType)) (y : MethodName) (cc : ByteArray) (nL : Nat) (ret : Option FieldType) (rm : Room) (av : List Value) (ws : va_W) (rv : Option Value) (ws' : va_W) : Prop :=
  Met l y (Cond.code y cc nL ret :: TB) rm (va_Pc av (fun U => va_P D vwCl ws U.heap ∧ cm_K D tys U ∧ va_D (fun _ => True) ws)) (fun _ st oc t => oc = .returned rv ∧ va_P D vwCl ws' t.heap ∧ va_D (cm_A ws) ws' ∧ va_F (cm_A ws) st t) 0 0 (cm_A ws)
def cm_Q (below : List Frame) (D : va_G) (av : List Value) (s : State) (ws : va_W) (rv : Option Value) (ws' : va_W) : State → Prop :=
  MQ below (fun _ st oc t => oc = .returned rv ∧ va_P D vwCl ws' t.heap ∧ va_D (cm_A ws) ws' ∧ va_F (cm_A ws) st t) av.toArray s 0 0 (cm_A ws)
/-- what holds all through a body -/
def cm_C (p : Program) (s : State) (m : MethodId) (args : Array Value) (meth : Method) (c : Code) (cc : ByteArray) (nL : Nat) (ret : Option FieldType) (own : String) (D : va_G) (tys : List (ClassId × FieldType)) : Prop :=
  p.tables.exec = Jvm.exec ∧ c.code = cc ∧ meth.sig.returnType = ret ∧ c.maxLocals = nL ∧ s.vm.findClass own = some m.cls ∧ (∀ w ∈ TB, w.before args s = true) ∧ meth.locks = false ∧ cm_K D tys s
theorem cm_blind {D : va_G} {tys : List (ClassId × FieldType)} {av : List Value} {ws : va_W} : FrameBlind (va_Pc av (fun U => va_P D vwCl ws U.heap ∧ cm_K D tys U ∧ va_D (fun _ => True) ws)) := by
  intro a U g mk h
  obtain ⟨h0, h1, h2, h3⟩ := h
  exact ⟨h0, h1, cm_K.same (u := U) (U := U.calling g mk a) rfl h2, h3⟩
theorem CM.of {l : Launch} {D : va_G} {tys : List (ClassId × FieldType)} {y : MethodName} {rm : Room} {av : List Value} {ws ws' : va_W} {rv : Option Value} {cc : ByteArray} {nL : Nat} {ret : Option FieldType}
    (hy : plainName y.cls = true) (hn : (lg_sl av).length ≤ nL)
    (body : ∀ (p : Program) (e : Env) (s : State) (m : MethodId) (below : List Frame) (meth : Method) (c : Code) (ls : Array Slot) (H : Heap) (locs : List Loc), cm_C p s m av.toArray meth c cc nL ret y.cls D tys → lv_has ls nL (lv_args 0 av) → va_P D vwCl ws H → va_D (cm_A ws) ws → va_S (cm_A ws) s.heap H locs →
      W p l e rm s m av.toArray below meth c H locs 0 0 (cm_Q below D av s ws rv ws') (F0 m 0 ls [])) : CM l D tys y cc nL ret rm av ws rv ws' := by
  refine Met.ofW (cc := cc) (maxL := nL) (ret := ret) hy rfl ?_
  intro p e s m args below meth c s₁ B hml hv
  obtain ⟨rfl, hP, hK, hD⟩ := hv
  have hl := lv_entry av (n := nL) hn
  rw [lg_entry_eq]
  exact body p e s m below meth c _ s.heap [] ⟨B.exec, B.bytes, B.returns, hml, findClass_of_methodNamed B.named, fun w h => atoms_spec (ws := Cond.code y cc nL ret :: TB) B.pre w (List.mem_cons_of_mem _ h), B.notSynchronized, hK⟩ hl hP (cm_A.self hD) va_S.rf
section CMR
variable {p : Program} {l : Launch} {e : Env} {R : Room} {s : State} {m : MethodId} {args : Array Value} {below : List Frame} {meth : Method} {c : Code} {H : Heap} {locs : List Loc} {cells slots : Nat} {Q : State → Prop}
variable {cc : ByteArray} {nL : Nat} {ret : Option FieldType} {own : String} {D : va_G} {tys : List (ClassId × FieldType)} {pc : Nat} {ls : Array Slot} {av : List Value} {ws ws' w1 : va_W}
theorem cm_iret {v r : Int32} (C : cm_C p s m av.toArray meth c cc nL (some .int) own D tys) (hP : va_P D vwCl w1 H) (hD : va_D (cm_A ws) w1) (hS : va_S (cm_A ws) s.heap H locs) (hdg : decode cc pc = .ok (.ireturn, 1)) (hr : v = r) (hw : w1 = ws') :
    W p l e R s m av.toArray below meth c H locs 0 0 (cm_Q below D av s ws (some (.int r)) ws') (F0 m pc ls [.int v]) := by
  subst hr; subst hw
  exact W.iret C.1 C.2.1 C.2.2.1 (fun t ht _ => ⟨rfl, by rw [ht]; exact hP, hD, hS.F ht⟩) hS.2.2 hdg C.2.2.2.2.2.2.1
theorem cm_zret {v r : Int32} (C : cm_C p s m av.toArray meth c cc nL (some .boolean) own D tys) (hP : va_P D vwCl w1 H) (hD : va_D (cm_A ws) w1) (hS : va_S (cm_A ws) s.heap H locs) (hdg : decode cc pc = .ok (.ireturn, 1)) (hn : narrow .boolean (.int v) = .int v) (hr : v = r) (hw : w1 = ws') :
    W p l e R s m av.toArray below meth c H locs 0 0 (cm_Q below D av s ws (some (.int r)) ws') (F0 m pc ls [.int v]) := by
  subst hr; subst hw
  exact W.zret C.1 C.2.1 C.2.2.1 hn (fun t ht _ => ⟨rfl, by rw [ht]; exact hP, hD, hS.F ht⟩) hS.2.2 hdg C.2.2.2.2.2.2.1
theorem cm_vret (C : cm_C p s m av.toArray meth c cc nL none own D tys) (hP : va_P D vwCl w1 H) (hD : va_D (cm_A ws) w1) (hS : va_S (cm_A ws) s.heap H locs) (hdg : decode cc pc = .ok (.return_, 1)) (hw : w1 = ws') :
    W p l e R s m av.toArray below meth c H locs 0 0 (cm_Q below D av s ws none ws') (F0 m pc ls []) := by
  subst hw
  exact W.vret C.1 C.2.1 C.2.2.1 (fun t ht _ => ⟨rfl, by rw [ht]; exact hP, hD, hS.F ht⟩) hS.2.2 hdg C.2.2.2.2.2.2.1
variable {A0 : Nat → Prop} {H0 : Heap} {y : MethodName} {rm : Room} {As rest st0 : List Value} {rv : Option Value} {bytes : ByteArray} {maxL index : Nat} {ret' : Option FieldType}
/-- behind a call by contract -/
theorem cm_go {b : Array Value} {free : Addr → Prop} (hfree : free = cm_A ws) (hr : va_Run p l e R s m args below meth c H locs cells slots 0 0 (F0 m pc ls st0) rest (fun st oc t => oc = .returned rv ∧ va_P D vwCl ws' t.heap ∧ va_D (cm_A ws) ws' ∧ va_F (cm_A ws) st t) free) (hD : va_D A0 ws) (hS : va_S A0 H0 H locs)
    (kk : ∀ (H1 : Heap) (locs1 : List Loc), va_P D vwCl ws' H1 → va_D A0 ws' → va_S A0 H0 H1 locs1 → W p l e R s m args below meth c H1 locs1 cells slots Q (F0 m (pc + 3) ls (rv.toList ++ rest))) : W p l e R s m args below meth c H locs cells slots Q (F0 m pc ls st0) := by
  subst hfree
  intro T hT X
  obtain ⟨v, st₀, t, T', L, h0, X', hL, e1, e2, ⟨hv, hP1, hD1, hz, hk⟩, st⟩ := hr T hT X
  cases hv
  rw [h0] at hz hk
  obtain ⟨t2, a1, b1⟩ := kk T'.heap (locs ++ L) (by rw [e1]; exact hP1) ⟨hD1.1, fun k q h => cm_A.in hD _ (hD1.2 k q h)⟩
    ⟨Nat.le_trans hS.1 (by rw [e1]; exact hz), fun q h1 h2 => by rw [e1, hk q (Nat.lt_of_lt_of_le h1 hS.1) (fun z => h2 (cm_A.in hD q z))]; exact hS.2.1 q h1 h2, fun q hq => by
      rcases List.mem_append.mp hq with h | h
      · exact hS.2.2 q h
      · exact cm_A.in hD _ (hL q h)⟩ T' rfl X'
  exact ⟨t2, st t2 a1, b1⟩
/-- a static method of the own class -/
theorem cm_cS (n : Nat) (C : cm_C p s m args meth c cc nL ret own D tys) (hM : CM l D tys y bytes maxL ret' rm As ws rv ws') (hl1 : Cond.methodLink own index y ∈ TB) (hl2 : Cond.static y ∈ TB) (hl3 : Cond.initialized own ∈ TB) (hl4 : Cond.code y bytes maxL ret' ∈ TB) (hrc : rm.cells = 0) (hrs : rm.slots = 0)
    (hd : y.cls = own ∧ y.cls ≠ "java/lang/invoke/MethodHandle" ∧ y.cls ≠ "java/lang/invoke/VarHandle" ∧ (parseMethodDescriptor y.desc).map (fun d => d.parameters.length) = some n) (hR : rm.frames + 1 ≤ R.frames ∧ 8 + (maxL + 11) + rm.locals ≤ R.locals) (hf : cells ≤ R.cells ∧ slots ≤ R.slots)
    (hP : va_P D vwCl ws H) (hD : va_D A0 ws) (hS : va_S A0 H0 H locs) (hsz : ls.size = nL) (hn : As.length = n) (hst : st0 = As.reverse ++ rest) (hW : (rest.map fun v => v.category).sum ≤ 8) (hdg : decode cc pc = .ok (.invokestatic index, 3))
    (kk : ∀ (H1 : Heap) (locs1 : List Loc), va_P D vwCl ws' H1 → va_D A0 ws' → va_S A0 H0 H1 locs1 → W p l e R s m args below meth c H1 locs1 cells slots Q (F0 m (pc + 3) ls (rv.toList ++ rest))) : W p l e R s m args below meth c H locs cells slots Q (F0 m pc ls st0) := by
  obtain ⟨hx, hb, -, hml, hown, hts, -, hK⟩ := C
  refine cm_go (b := As.toArray) rfl (va_runS (As := As) (rest := rest) ⟨hx, hb, hml, hown, hts⟩ hM (cwS n hts (tb_cons hl1 (tb_cons hl2 (tb_cons hl3 (tb_cons hl4 tb_good)))) rfl hrc hrs hd hR) ⟨cm_blind, fun U hU hW => ⟨rfl, by rw [hU]; exact hP, hK.warm hW, hD.1, fun _ _ _ => trivial⟩⟩ rfl hn hsz hst (by show 2 * 0 + _ ≤ 8; omega) hdg ⟨by omega, by omega⟩) hD hS kk
/-- a static method of a nest mate -/
theorem cm_cN {host : String} (n : Nat) (C : cm_C p s m args meth c cc nL ret own D tys) (hM : CM l D tys y bytes maxL ret' rm As ws rv ws') (hl4 : Cond.code y bytes maxL ret' ∈ TB) (hrc : rm.cells = 0) (hrs : rm.slots = 0) (hnl : va_Nw (.methodLinkNest own index y host) s) (hini : Cond.initialized y.cls ∈ TB) (hstt : Cond.static y ∈ TB)
    (hd : y.cls ≠ "java/lang/invoke/MethodHandle" ∧ y.cls ≠ "java/lang/invoke/VarHandle" ∧ (parseMethodDescriptor y.desc).map (fun d => d.parameters.length) = some n) (hR : rm.frames + 1 ≤ R.frames ∧ 8 + (maxL + 11) + rm.locals ≤ R.locals) (hf : cells ≤ R.cells ∧ slots ≤ R.slots)
    (hP : va_P D vwCl ws H) (hD : va_D A0 ws) (hS : va_S A0 H0 H locs) (hsz : ls.size = nL) (hn : As.length = n) (hst : st0 = As.reverse ++ rest) (hW : (rest.map fun v => v.category).sum ≤ 8) (hdg : decode cc pc = .ok (.invokestatic index, 3))
    (kk : ∀ (H1 : Heap) (locs1 : List Loc), va_P D vwCl ws' H1 → va_D A0 ws' → va_S A0 H0 H1 locs1 → W p l e R s m args below meth c H1 locs1 cells slots Q (F0 m (pc + 3) ls (rv.toList ++ rest))) : W p l e R s m args below meth c H locs cells slots Q (F0 m pc ls st0) := by
  obtain ⟨hx, hb, -, hml, hown, hts, -, hK⟩ := C
  refine cm_go (b := As.toArray) rfl (va_runSN (As := As) (rest := rest) ⟨hx, hb, hml, hown, hts⟩ hM ⟨va_cnB n hts (tb_cons hl4 tb_good) rfl hrc hrs hnl (hts _ hini) hd hR, hts _ hstt, trivial⟩ ⟨cm_blind, fun U hU hW => ⟨rfl, by rw [hU]; exact hP, hK.warm hW, hD.1, fun _ _ _ => trivial⟩⟩ rfl hn hsz hst (by show 2 * 0 + _ ≤ 8; omega) hdg ⟨by omega, by omega⟩) hD hS kk
/-- an instance method, by invokevirtual -/
theorem cm_cV {C0 : String} {b q0 ci : Nat} {fs : List Value} {T0 : u_T} {N0 : Nat} (n : Nat) (C : cm_C p s m args meth c cc nL ret own D tys) (hM : CM l D tys y bytes maxL ret' rm (.ref b :: As) ws rv ws') (hl1 : Cond.methodLink own index y ∈ TB) (hl2 : Cond.instanceMethod y ∈ TB) (hl3 : Cond.selects C0 y y ∈ TB) (hl5 : Cond.initialized C0 ∈ TB) (hl4 : Cond.code y bytes maxL ret' ∈ TB) (hrc : rm.cells = 0) (hrs : rm.slots = 0)
    (he : ws[q0]? = some (b, .inr (ci, fs))) (hci : vwCl[ci]? = some (C0, T0, N0))
    (hd : y.cls = C0 ∧ y.cls ≠ "java/lang/invoke/MethodHandle" ∧ y.cls ≠ "java/lang/invoke/VarHandle" ∧ (parseMethodDescriptor y.desc).map (fun d => d.parameters.length) = some n) (hR : rm.frames + 1 ≤ R.frames ∧ 8 + (maxL + 11) + rm.locals ≤ R.locals) (hf : cells ≤ R.cells ∧ slots ≤ R.slots)
    (hP : va_P D vwCl ws H) (hD : va_D A0 ws) (hS : va_S A0 H0 H locs) (hsz : ls.size = nL) (hn : As.length = n) (hst : st0 = As.reverse ++ .ref b :: rest) (hW : (rest.map fun v => v.category).sum ≤ 8) (hdg : decode cc pc = .ok (.invokevirtual index, 3))
    (kk : ∀ (H1 : Heap) (locs1 : List Loc), va_P D vwCl ws' H1 → va_D A0 ws' → va_S A0 H0 H1 locs1 → W p l e R s m args below meth c H1 locs1 cells slots Q (F0 m (pc + 3) ls (rv.toList ++ rest))) : W p l e R s m args below meth c H locs cells slots Q (F0 m pc ls st0) := by
  obtain ⟨hx, hb, -, hml, hown, hts, -, hK⟩ := C
  refine cm_go (b := (Value.ref b :: As).toArray) rfl (va_runV (As := As) (rest := rest) ⟨hx, hb, hml, hown, hts⟩ hM (cwV n hts (tb_cons hl1 (tb_cons hl2 (tb_cons hl3 (tb_cons hl5 (tb_cons hl4 tb_good))))) rfl hrc hrs hd hR) ⟨cm_blind, va_recv hK.1 hP hci he, fun U hU hW => ⟨rfl, by rw [hU]; exact hP, hK.warm hW, hD.1, fun _ _ _ => trivial⟩⟩ rfl hn hsz hst (by show 2 * 0 + _ ≤ 8; omega) hdg ⟨by omega, by omega⟩) hD hS kk
theorem cm_cS1 {v : Value} (n : Nat) (C : cm_C p s m args meth c cc nL ret own D tys) (hM : CM l D tys y bytes maxL ret' rm As ws (some v) ws') (hl1 : Cond.methodLink own index y ∈ TB) (hl2 : Cond.static y ∈ TB) (hl3 : Cond.initialized own ∈ TB) (hl4 : Cond.code y bytes maxL ret' ∈ TB) (hrc : rm.cells = 0) (hrs : rm.slots = 0)
    (hd : y.cls = own ∧ y.cls ≠ "java/lang/invoke/MethodHandle" ∧ y.cls ≠ "java/lang/invoke/VarHandle" ∧ (parseMethodDescriptor y.desc).map (fun d => d.parameters.length) = some n) (hR : rm.frames + 1 ≤ R.frames ∧ 8 + (maxL + 11) + rm.locals ≤ R.locals) (hf : cells ≤ R.cells ∧ slots ≤ R.slots)
    (hP : va_P D vwCl ws H) (hD : va_D A0 ws) (hS : va_S A0 H0 H locs) (hsz : ls.size = nL) (hn : As.length = n) (hst : st0 = As.reverse ++ rest) (hW : (rest.map fun v => v.category).sum ≤ 8) (hdg : decode cc pc = .ok (.invokestatic index, 3))
    (kk : ∀ (H1 : Heap) (locs1 : List Loc), va_P D vwCl ws' H1 → va_D A0 ws' → va_S A0 H0 H1 locs1 → W p l e R s m args below meth c H1 locs1 cells slots Q (F0 m (pc + 3) ls (v :: rest))) : W p l e R s m args below meth c H locs cells slots Q (F0 m pc ls st0) :=
  cm_cS (rv := (some v)) n C hM hl1 hl2 hl3 hl4 hrc hrs hd hR hf hP hD hS hsz hn hst hW hdg kk
theorem cm_cS0 (n : Nat) (C : cm_C p s m args meth c cc nL ret own D tys) (hM : CM l D tys y bytes maxL ret' rm As ws none ws') (hl1 : Cond.methodLink own index y ∈ TB) (hl2 : Cond.static y ∈ TB) (hl3 : Cond.initialized own ∈ TB) (hl4 : Cond.code y bytes maxL ret' ∈ TB) (hrc : rm.cells = 0) (hrs : rm.slots = 0)
    (hd : y.cls = own ∧ y.cls ≠ "java/lang/invoke/MethodHandle" ∧ y.cls ≠ "java/lang/invoke/VarHandle" ∧ (parseMethodDescriptor y.desc).map (fun d => d.parameters.length) = some n) (hR : rm.frames + 1 ≤ R.frames ∧ 8 + (maxL + 11) + rm.locals ≤ R.locals) (hf : cells ≤ R.cells ∧ slots ≤ R.slots)
    (hP : va_P D vwCl ws H) (hD : va_D A0 ws) (hS : va_S A0 H0 H locs) (hsz : ls.size = nL) (hn : As.length = n) (hst : st0 = As.reverse ++ rest) (hW : (rest.map fun v => v.category).sum ≤ 8) (hdg : decode cc pc = .ok (.invokestatic index, 3))
    (kk : ∀ (H1 : Heap) (locs1 : List Loc), va_P D vwCl ws' H1 → va_D A0 ws' → va_S A0 H0 H1 locs1 → W p l e R s m args below meth c H1 locs1 cells slots Q (F0 m (pc + 3) ls (rest))) : W p l e R s m args below meth c H locs cells slots Q (F0 m pc ls st0) :=
  cm_cS (rv := none) n C hM hl1 hl2 hl3 hl4 hrc hrs hd hR hf hP hD hS hsz hn hst hW hdg kk
theorem cm_cN1 {v : Value} {host : String} (n : Nat) (C : cm_C p s m args meth c cc nL ret own D tys) (hM : CM l D tys y bytes maxL ret' rm As ws (some v) ws') (hl4 : Cond.code y bytes maxL ret' ∈ TB) (hrc : rm.cells = 0) (hrs : rm.slots = 0) (hnl : va_Nw (.methodLinkNest own index y host) s) (hini : Cond.initialized y.cls ∈ TB) (hstt : Cond.static y ∈ TB)
    (hd : y.cls ≠ "java/lang/invoke/MethodHandle" ∧ y.cls ≠ "java/lang/invoke/VarHandle" ∧ (parseMethodDescriptor y.desc).map (fun d => d.parameters.length) = some n) (hR : rm.frames + 1 ≤ R.frames ∧ 8 + (maxL + 11) + rm.locals ≤ R.locals) (hf : cells ≤ R.cells ∧ slots ≤ R.slots)
    (hP : va_P D vwCl ws H) (hD : va_D A0 ws) (hS : va_S A0 H0 H locs) (hsz : ls.size = nL) (hn : As.length = n) (hst : st0 = As.reverse ++ rest) (hW : (rest.map fun v => v.category).sum ≤ 8) (hdg : decode cc pc = .ok (.invokestatic index, 3))
    (kk : ∀ (H1 : Heap) (locs1 : List Loc), va_P D vwCl ws' H1 → va_D A0 ws' → va_S A0 H0 H1 locs1 → W p l e R s m args below meth c H1 locs1 cells slots Q (F0 m (pc + 3) ls (v :: rest))) : W p l e R s m args below meth c H locs cells slots Q (F0 m pc ls st0) :=
  cm_cN (rv := (some v)) n C hM hl4 hrc hrs hnl hini hstt hd hR hf hP hD hS hsz hn hst hW hdg kk
theorem cm_cN0 {host : String} (n : Nat) (C : cm_C p s m args meth c cc nL ret own D tys) (hM : CM l D tys y bytes maxL ret' rm As ws none ws') (hl4 : Cond.code y bytes maxL ret' ∈ TB) (hrc : rm.cells = 0) (hrs : rm.slots = 0) (hnl : va_Nw (.methodLinkNest own index y host) s) (hini : Cond.initialized y.cls ∈ TB) (hstt : Cond.static y ∈ TB)
    (hd : y.cls ≠ "java/lang/invoke/MethodHandle" ∧ y.cls ≠ "java/lang/invoke/VarHandle" ∧ (parseMethodDescriptor y.desc).map (fun d => d.parameters.length) = some n) (hR : rm.frames + 1 ≤ R.frames ∧ 8 + (maxL + 11) + rm.locals ≤ R.locals) (hf : cells ≤ R.cells ∧ slots ≤ R.slots)
    (hP : va_P D vwCl ws H) (hD : va_D A0 ws) (hS : va_S A0 H0 H locs) (hsz : ls.size = nL) (hn : As.length = n) (hst : st0 = As.reverse ++ rest) (hW : (rest.map fun v => v.category).sum ≤ 8) (hdg : decode cc pc = .ok (.invokestatic index, 3))
    (kk : ∀ (H1 : Heap) (locs1 : List Loc), va_P D vwCl ws' H1 → va_D A0 ws' → va_S A0 H0 H1 locs1 → W p l e R s m args below meth c H1 locs1 cells slots Q (F0 m (pc + 3) ls (rest))) : W p l e R s m args below meth c H locs cells slots Q (F0 m pc ls st0) :=
  cm_cN (rv := none) n C hM hl4 hrc hrs hnl hini hstt hd hR hf hP hD hS hsz hn hst hW hdg kk
theorem cm_cV1 {v : Value} {C0 : String} {b q0 ci : Nat} {fs : List Value} {T0 : u_T} {N0 : Nat} (n : Nat) (C : cm_C p s m args meth c cc nL ret own D tys) (hM : CM l D tys y bytes maxL ret' rm (.ref b :: As) ws (some v) ws') (hl1 : Cond.methodLink own index y ∈ TB) (hl2 : Cond.instanceMethod y ∈ TB) (hl3 : Cond.selects C0 y y ∈ TB) (hl5 : Cond.initialized C0 ∈ TB) (hl4 : Cond.code y bytes maxL ret' ∈ TB) (hrc : rm.cells = 0) (hrs : rm.slots = 0)
    (he : ws[q0]? = some (b, .inr (ci, fs))) (hci : vwCl[ci]? = some (C0, T0, N0))
    (hd : y.cls = C0 ∧ y.cls ≠ "java/lang/invoke/MethodHandle" ∧ y.cls ≠ "java/lang/invoke/VarHandle" ∧ (parseMethodDescriptor y.desc).map (fun d => d.parameters.length) = some n) (hR : rm.frames + 1 ≤ R.frames ∧ 8 + (maxL + 11) + rm.locals ≤ R.locals) (hf : cells ≤ R.cells ∧ slots ≤ R.slots)
    (hP : va_P D vwCl ws H) (hD : va_D A0 ws) (hS : va_S A0 H0 H locs) (hsz : ls.size = nL) (hn : As.length = n) (hst : st0 = As.reverse ++ .ref b :: rest) (hW : (rest.map fun v => v.category).sum ≤ 8) (hdg : decode cc pc = .ok (.invokevirtual index, 3))
    (kk : ∀ (H1 : Heap) (locs1 : List Loc), va_P D vwCl ws' H1 → va_D A0 ws' → va_S A0 H0 H1 locs1 → W p l e R s m args below meth c H1 locs1 cells slots Q (F0 m (pc + 3) ls (v :: rest))) : W p l e R s m args below meth c H locs cells slots Q (F0 m pc ls st0) :=
  cm_cV (rv := (some v)) n C hM hl1 hl2 hl3 hl5 hl4 hrc hrs he hci hd hR hf hP hD hS hsz hn hst hW hdg kk
theorem cm_cV0 {C0 : String} {b q0 ci : Nat} {fs : List Value} {T0 : u_T} {N0 : Nat} (n : Nat) (C : cm_C p s m args meth c cc nL ret own D tys) (hM : CM l D tys y bytes maxL ret' rm (.ref b :: As) ws none ws') (hl1 : Cond.methodLink own index y ∈ TB) (hl2 : Cond.instanceMethod y ∈ TB) (hl3 : Cond.selects C0 y y ∈ TB) (hl5 : Cond.initialized C0 ∈ TB) (hl4 : Cond.code y bytes maxL ret' ∈ TB) (hrc : rm.cells = 0) (hrs : rm.slots = 0)
    (he : ws[q0]? = some (b, .inr (ci, fs))) (hci : vwCl[ci]? = some (C0, T0, N0))
    (hd : y.cls = C0 ∧ y.cls ≠ "java/lang/invoke/MethodHandle" ∧ y.cls ≠ "java/lang/invoke/VarHandle" ∧ (parseMethodDescriptor y.desc).map (fun d => d.parameters.length) = some n) (hR : rm.frames + 1 ≤ R.frames ∧ 8 + (maxL + 11) + rm.locals ≤ R.locals) (hf : cells ≤ R.cells ∧ slots ≤ R.slots)
    (hP : va_P D vwCl ws H) (hD : va_D A0 ws) (hS : va_S A0 H0 H locs) (hsz : ls.size = nL) (hn : As.length = n) (hst : st0 = As.reverse ++ .ref b :: rest) (hW : (rest.map fun v => v.category).sum ≤ 8) (hdg : decode cc pc = .ok (.invokevirtual index, 3))
    (kk : ∀ (H1 : Heap) (locs1 : List Loc), va_P D vwCl ws' H1 → va_D A0 ws' → va_S A0 H0 H1 locs1 → W p l e R s m args below meth c H1 locs1 cells slots Q (F0 m (pc + 3) ls (rest))) : W p l e R s m args below meth c H locs cells slots Q (F0 m pc ls st0) :=
  cm_cV (rv := none) n C hM hl1 hl2 hl3 hl5 hl4 hrc hrs he hci hd hR hf hP hD hS hsz hn hst hW hdg kk
end CMR
end
section
/-! ===== leaves of the class: places, rows, cells ===== -/
abbrev cm_rm (f lo : Nat) : Room := { frames := f, cells := 0, slots := 0, locals := lo }
theorem nI_lit (n : Nat) : Int32.ofNat n = nI n := rfl
/-- '>>>' by a literal -/
def us (x : Int32) (k : Nat) : Int32 := (x.toUInt32 >>> ((nI k).toUInt32 &&& Int32.toUInt32 31)).toInt32
/-- a HOME's number by one of the two factors -/
def hm (s k f : Int32) : Nat := (((((-1640531535) * k + s) ^^^ us ((-1640531535) * k + s) 15) * f) ^^^ us ((((-1640531535) * k + s) ^^^ us ((-1640531535) * k + s) 15) * f) 13).toBitVec.toNat % 2 ^ 3
/-- the first HOME, the second one -/
def hm1 (s k : Int32) : Nat := hm s k (-2048144789)
def hm2 (s k : Int32) : Nat := if hm s k (-1028477387) = hm1 s k then (hm1 s k + 1) % 8 else hm s k (-1028477387)
theorem hm_lt (s k f : Int32) : hm s k f < 8 := Nat.mod_lt _ (by decide)
theorem hm1_lt (s k : Int32) : hm1 s k < 8 := hm_lt _ _ _
theorem hm2_lt (s k : Int32) : hm2 s k < 8 := by
  unfold hm2
  split
  · exact Nat.mod_lt _ (by decide)
  · exact hm_lt _ _ _
set_option maxHeartbeats 4000000 in
set_option maxRecDepth 100000 in
/-- placeOf -/
theorem c_placeOf (l : Launch) (D : va_G) (cI cZ cJ : ClassId) (ws : va_W) (a b : Nat) : CM l D (cm_T cI cZ cJ) yX3_placeOf cX3_placeOf 2 (some .int) (cm_rm 0 0) [.int (nI a), .int (nI b)] ws (some (.int (nI (a * 4 + b)))) (ws) := by
  refine CM.of (by decide) (Nat.le_of_ble_eq_true rfl) ?_
  intro p e s m below meth c ls H locs C hl hP hD hS
  refine lv_iload_n C.1 C.2.1 dX3_placeOf_0 rfl (lv_at hl 0 rfl) ?_
  refine lv_iconst (v := nI 4) C.1 C.2.1 dX3_placeOf_1 (by decide +kernel) ?_
  refine lv_imul C.1 C.2.1 dX3_placeOf_2 ?_
  rw [pk_mul]
  refine lv_iload_n C.1 C.2.1 dX3_placeOf_3 rfl (lv_at hl 1 rfl) ?_
  refine lv_iadd C.1 C.2.1 dX3_placeOf_4 ?_
  rw [nI_add]
  exact cm_iret C hP hD hS dX3_placeOf_5 rfl rfl
set_option maxHeartbeats 4000000 in
set_option maxRecDepth 100000 in
/-- rowOf -/
theorem c_rowOf (l : Launch) (D : va_G) (cI cZ cJ : ClassId) (ws : va_W) (a : Nat) (ha : a < 2 ^ 31) : CM l D (cm_T cI cZ cJ) yX3_rowOf cX3_rowOf 1 (some .int) (cm_rm 0 0) [.int (nI a)] ws (some (.int (nI (a / 4)))) (ws) := by
  refine CM.of (by decide) (Nat.le_of_ble_eq_true rfl) ?_
  intro p e s m below meth c ls H locs C hl hP hD hS
  refine lv_iload_n C.1 C.2.1 dX3_rowOf_0 rfl (lv_at hl 0 rfl) ?_
  refine lv_iconst (v := nI 4) C.1 C.2.1 dX3_rowOf_1 (by decide +kernel) ?_
  refine lv_idiv C.1 C.2.1 dX3_rowOf_2 (by decide) ?_
  rw [pk_div (by omega) (by decide) (by decide)]
  exact cm_iret C hP hD hS dX3_rowOf_3 rfl rfl
set_option maxHeartbeats 4000000 in
set_option maxRecDepth 100000 in
/-- columnOf -/
theorem c_columnOf (l : Launch) (D : va_G) (cI cZ cJ : ClassId) (ws : va_W) (a : Nat) (ha : a < 2 ^ 31) : CM l D (cm_T cI cZ cJ) yX3_columnOf cX3_columnOf 1 (some .int) (cm_rm 0 0) [.int (nI a)] ws (some (.int (nI (a % 4 * 3)))) (ws) := by
  refine CM.of (by decide) (Nat.le_of_ble_eq_true rfl) ?_
  intro p e s m below meth c ls H locs C hl hP hD hS
  refine lv_iload_n C.1 C.2.1 dX3_columnOf_0 rfl (lv_at hl 0 rfl) ?_
  refine lv_iconst (v := nI 4) C.1 C.2.1 dX3_columnOf_1 (by decide +kernel) ?_
  refine lv_irem C.1 C.2.1 dX3_columnOf_2 (by decide) ?_
  rw [pk_rem (by omega) (by decide) (by decide)]
  refine lv_iconst (v := nI 3) C.1 C.2.1 dX3_columnOf_3 (by decide +kernel) ?_
  refine lv_imul C.1 C.2.1 dX3_columnOf_4 ?_
  rw [pk_mul]
  exact cm_iret C hP hD hS dX3_columnOf_5 rfl rfl
set_option maxHeartbeats 4000000 in
set_option maxRecDepth 100000 in
/-- cellAt -/
theorem c_cellAt (l : Launch) (D : va_G) (cI cZ cJ : ClassId) (ws : va_W) {q ad n : Nat} {f : Nat → Int32} (he : ws[q]? = some (ad, .inl (cI, n, .inl f))) (hn : n < 2 ^ 31) (a b : Nat) (hi : a * 22 + b < n) : CM l D (cm_T cI cZ cJ) yX3_cellAt cX3_cellAt 4 (some .int) (cm_rm 0 0) [.ref ad, .int (nI a), .int (nI b)] ws (some (.int (f (a * 22 + b)))) (ws) := by
  refine CM.of (by decide) (Nat.le_of_ble_eq_true rfl) ?_
  intro p e s m below meth c ls H locs C hl hP hD hS
  refine lv_iload_n C.1 C.2.1 dX3_cellAt_0 rfl (lv_at hl 1 rfl) ?_
  refine lv_bipush (v := nI 22) C.1 C.2.1 dX3_cellAt_1 (by decide +kernel) ?_
  refine lv_imul C.1 C.2.1 dX3_cellAt_3 ?_
  rw [pk_mul]
  refine lv_iload_n C.1 C.2.1 dX3_cellAt_4 rfl (lv_at hl 2 rfl) ?_
  refine lv_iadd C.1 C.2.1 dX3_cellAt_5 ?_
  rw [nI_add]
  refine lv_istore_n (lv' := [(3, _), (0, _), (1, _), (2, _)]) C.1 C.2.1 dX3_cellAt_6 rfl hl (by decide) rfl (fun ls hl => ?_)
  refine lv_iload_n C.1 C.2.1 dX3_cellAt_7 rfl (lv_at hl 0 rfl) ?_
  refine lv_if_lt (tgt := 23) C.1 C.2.1 dX3_cellAt_8 (by decide) (fun h => absurd h (nI_pos (by omega))) (fun _ => ?_)
  refine lv_iload_n C.1 C.2.1 dX3_cellAt_11 rfl (lv_at hl 0 rfl) ?_
  refine lv_aload_n C.1 C.2.1 dX3_cellAt_12 rfl (lv_at hl 1 rfl) ?_
  refine va_alen C.1 C.2.1 C.2.2.2.2.2.2.2.1 hP q 0 (he) rfl (v := nI n) rfl dX3_cellAt_13 ?_
  refine lv_icmp_ge (tgt := 23) C.1 C.2.1 dX3_cellAt_14 (by decide) (fun h => absurd h (nI_ge hi hn)) (fun _ => ?_)
  refine lv_aload_n C.1 C.2.1 dX3_cellAt_17 rfl (lv_at hl 1 rfl) ?_
  refine lv_iload_n C.1 C.2.1 dX3_cellAt_18 rfl (lv_at hl 0 rfl) ?_
  refine va_iald C.1 C.2.1 C.2.2.2.2.2.2.2.1 hP q 0 (he) rfl (vp_in_nI hi hn) dX3_cellAt_19 ?_
  rw [nI_clamp (by omega)]
  refine lv_goto (tgt := 24) C.1 C.2.1 dX3_cellAt_20 (by decide) ?_
  exact cm_iret C hP hD hS dX3_cellAt_24 rfl rfl
set_option maxHeartbeats 4000000 in
set_option maxRecDepth 100000 in
/-- tellCell -/
theorem c_tellCell (l : Launch) (D : va_G) (cI cZ cJ : ClassId) (ws : va_W) {q ad n : Nat} {f : Nat → Int32} (he : ws[q]? = some (ad, .inl (cI, n, .inl f))) (hn : n < 2 ^ 31) (a b : Nat) (x : Int32) (hi : a * 22 + b < n) : CM l D (cm_T cI cZ cJ) yX3_tellCell cX3_tellCell 5 none (cm_rm 0 0) [.ref ad, .int (nI a), .int (nI b), .int x] ws none (ws.set q (ad, .inl (cI, n, .inl (upd f (a * 22 + b) x)))) := by
  refine CM.of (by decide) (Nat.le_of_ble_eq_true rfl) ?_
  intro p e s m below meth c ls H locs C hl hP hD hS
  refine lv_iload_n C.1 C.2.1 dX3_tellCell_0 rfl (lv_at hl 1 rfl) ?_
  refine lv_bipush (v := nI 22) C.1 C.2.1 dX3_tellCell_1 (by decide +kernel) ?_
  refine lv_imul C.1 C.2.1 dX3_tellCell_3 ?_
  rw [pk_mul]
  refine lv_iload_n C.1 C.2.1 dX3_tellCell_4 rfl (lv_at hl 2 rfl) ?_
  refine lv_iadd C.1 C.2.1 dX3_tellCell_5 ?_
  rw [nI_add]
  refine lv_istore (lv' := [(4, _), (0, _), (1, _), (2, _), (3, _)]) C.1 C.2.1 dX3_tellCell_6 hl (by decide) rfl (fun ls hl => ?_)
  refine lv_iload C.1 C.2.1 dX3_tellCell_8 (lv_at hl 0 rfl) ?_
  refine lv_if_lt (tgt := 25) C.1 C.2.1 dX3_tellCell_10 (by decide) (fun h => absurd h (nI_pos (by omega))) (fun _ => ?_)
  refine lv_iload C.1 C.2.1 dX3_tellCell_13 (lv_at hl 0 rfl) ?_
  refine lv_aload_n C.1 C.2.1 dX3_tellCell_15 rfl (lv_at hl 1 rfl) ?_
  refine va_alen C.1 C.2.1 C.2.2.2.2.2.2.2.1 hP q 0 (he) rfl (v := nI n) rfl dX3_tellCell_16 ?_
  refine lv_icmp_ge (tgt := 25) C.1 C.2.1 dX3_tellCell_17 (by decide) (fun h => absurd h (nI_ge hi hn)) (fun _ => ?_)
  refine lv_aload_n C.1 C.2.1 dX3_tellCell_20 rfl (lv_at hl 1 rfl) ?_
  refine lv_iload C.1 C.2.1 dX3_tellCell_21 (lv_at hl 0 rfl) ?_
  refine lv_iload_n C.1 C.2.1 dX3_tellCell_23 rfl (lv_at hl 4 rfl) ?_
  refine va_iast C.1 C.2.1 C.2.2.2.2.2.2.2.1 hP hD hS q 0 (he) rfl (vp_in_nI hi hn) dX3_tellCell_24 (fun H locs hP hD hS => ?_)
  exact cm_vret C hP hD hS dX3_tellCell_25 (by rw [nI_clamp (by omega)])
set_option maxHeartbeats 4000000 in
set_option maxRecDepth 100000 in
/-- copyRow -/
theorem c_copyRow (l : Launch) (D : va_G) (cI cZ cJ : ClassId) (ws : va_W) {q ad n : Nat} {f : Nat → Int32} (he : ws[q]? = some (ad, .inl (cI, n, .inl f))) (hn : n < 2 ^ 31) {q2 ad2 n2 : Nat} {f2 : Nat → Int32} (he2 : ws[q2]? = some (ad2, .inl (cI, n2, .inl f2))) (hn2 : n2 < 2 ^ 31) (a b : Nat) (hi : a * 22 + 22 ≤ n) (hi2 : b * 22 + 22 ≤ n2) : CM l D (cm_T cI cZ cJ) yX3_copyRow cX3_copyRow 6 none (cm_rm 1 40) [.ref ad, .int (nI a), .ref ad2, .int (nI b)] ws none (ws.set q2 (ad2, .inl (cI, n2, .inl (va_cpy f f2 (a * 22) (b * 22) 22)))) := by
  refine CM.of (by decide) (Nat.le_of_ble_eq_true rfl) ?_
  intro p e s m below meth c ls H locs C hl hP hD hS
  refine lv_iload_n C.1 C.2.1 dX3_copyRow_0 rfl (lv_at hl 1 rfl) ?_
  refine lv_bipush (v := nI 22) C.1 C.2.1 dX3_copyRow_1 (by decide +kernel) ?_
  refine lv_imul C.1 C.2.1 dX3_copyRow_3 ?_
  rw [pk_mul]
  refine lv_istore (lv' := [(4, _), (0, _), (1, _), (2, _), (3, _)]) C.1 C.2.1 dX3_copyRow_4 hl (by decide) rfl (fun ls hl => ?_)
  refine lv_iload_n C.1 C.2.1 dX3_copyRow_6 rfl (lv_at hl 4 rfl) ?_
  refine lv_bipush (v := nI 22) C.1 C.2.1 dX3_copyRow_7 (by decide +kernel) ?_
  refine lv_imul C.1 C.2.1 dX3_copyRow_9 ?_
  rw [pk_mul]
  refine lv_istore (lv' := [(5, _), (4, _), (0, _), (1, _), (2, _), (3, _)]) C.1 C.2.1 dX3_copyRow_10 hl (by decide) rfl (fun ls hl => ?_)
  refine lv_iload C.1 C.2.1 dX3_copyRow_12 (lv_at hl 1 rfl) ?_
  refine lv_if_lt (tgt := 53) C.1 C.2.1 dX3_copyRow_14 (by decide) (fun h => absurd h (nI_pos (by omega))) (fun _ => ?_)
  refine lv_iload C.1 C.2.1 dX3_copyRow_17 (lv_at hl 1 rfl) ?_
  refine lv_aload_n C.1 C.2.1 dX3_copyRow_19 rfl (lv_at hl 2 rfl) ?_
  refine va_alen C.1 C.2.1 C.2.2.2.2.2.2.2.1 hP q 0 (he) rfl (v := nI n) rfl dX3_copyRow_20 ?_
  refine lv_bipush (v := nI 22) C.1 C.2.1 dX3_copyRow_21 (by decide +kernel) ?_
  refine lv_isub C.1 C.2.1 dX3_copyRow_23 ?_
  rw [pk_sub (by omega)]
  refine lv_icmp_gt (tgt := 53) C.1 C.2.1 dX3_copyRow_24 (by decide) (fun h => absurd h (nI_nlt (by omega) (by omega))) (fun _ => ?_)
  refine lv_iload C.1 C.2.1 dX3_copyRow_27 (lv_at hl 0 rfl) ?_
  refine lv_if_lt (tgt := 53) C.1 C.2.1 dX3_copyRow_29 (by decide) (fun h => absurd h (nI_pos (by omega))) (fun _ => ?_)
  refine lv_iload C.1 C.2.1 dX3_copyRow_32 (lv_at hl 0 rfl) ?_
  refine lv_aload_n C.1 C.2.1 dX3_copyRow_34 rfl (lv_at hl 4 rfl) ?_
  refine va_alen C.1 C.2.1 C.2.2.2.2.2.2.2.1 hP q2 0 (he2) rfl (v := nI n2) rfl dX3_copyRow_35 ?_
  refine lv_bipush (v := nI 22) C.1 C.2.1 dX3_copyRow_36 (by decide +kernel) ?_
  refine lv_isub C.1 C.2.1 dX3_copyRow_38 ?_
  rw [pk_sub (by omega)]
  refine lv_icmp_gt (tgt := 53) C.1 C.2.1 dX3_copyRow_39 (by decide) (fun h => absurd h (nI_nlt (by omega) (by omega))) (fun _ => ?_)
  refine lv_aload_n C.1 C.2.1 dX3_copyRow_42 rfl (lv_at hl 2 rfl) ?_
  refine lv_iload C.1 C.2.1 dX3_copyRow_43 (lv_at hl 1 rfl) ?_
  refine lv_aload_n C.1 C.2.1 dX3_copyRow_45 rfl (lv_at hl 4 rfl) ?_
  refine lv_iload C.1 C.2.1 dX3_copyRow_46 (lv_at hl 0 rfl) ?_
  refine lv_bipush (v := nI 22) C.1 C.2.1 dX3_copyRow_48 (by decide +kernel) ?_
  have hle : (nI 22).toNatClampNeg = 22 := nI_clamp (by decide)
  refine va_copyi C.1 C.2.1 (C.2.2.2.1.trans hl.1.symm) C.2.2.2.2.1 (C.2.2.2.2.2.1 _ tw_241) (C.2.2.2.2.2.1 _ tw_243) (C.2.2.2.2.2.1 _ tw_242) (C.2.2.2.2.2.1 _ tw_11) C.2.2.2.2.2.2.2.1 hP hD hS q q2 0 0 he he2 rfl rfl rfl (nI_pos (by omega)) (nI_pos (by omega)) (nI_pos (by decide)) (by rw [nI_clamp (by omega), hle]; omega) (by rw [nI_clamp (by omega), hle]; omega) (fun i _ => rfl) (by decide) (by decide) dX3_copyRow_50 (fun H locs hP hD hS => ?_)
  exact cm_vret C hP hD hS dX3_copyRow_53 (by rw [nI_clamp (by omega), nI_clamp (by omega), hle])
theorem hm_and (s k f : Int32) : ((((((-1640531535) * k + s) ^^^ us ((-1640531535) * k + s) 15) * f) ^^^ us ((((-1640531535) * k + s) ^^^ us ((-1640531535) * k + s) 15) * f) 13) &&& nI 7) = nI (hm s k f) := pk_and _ 3 (by decide +kernel)
set_option maxHeartbeats 4000000 in
set_option maxRecDepth 100000 in
/-- homeBy, the first -/
theorem c_homeBy1 (l : Launch) (D : va_G) (cI cZ cJ : ClassId) (ws : va_W) (s0 k : Int32) : CM l D (cm_T cI cZ cJ) yX3_homeBy cX3_homeBy 8 (some .int) (cm_rm 0 0) [.int s0, .int k, .int (nI 0)] ws (some (.int (nI (hm1 s0 k)))) (ws) := by
  refine CM.of (by decide) (Nat.le_of_ble_eq_true rfl) ?_
  intro p e s m below meth c ls H locs C hl hP hD hS
  refine lv_ldc C.1 C.2.1 C.2.2.2.2.1 (C.2.2.2.2.2.1 _ tw_117) dX3_homeBy_0 ?_
  refine lv_iload_n C.1 C.2.1 dX3_homeBy_2 rfl (lv_at hl 1 rfl) ?_
  refine lv_imul C.1 C.2.1 dX3_homeBy_3 ?_
  refine lv_iload_n C.1 C.2.1 dX3_homeBy_4 rfl (lv_at hl 0 rfl) ?_
  refine lv_iadd C.1 C.2.1 dX3_homeBy_5 ?_
  refine lv_istore_n (lv' := [(3, _), (0, _), (1, _), (2, _)]) C.1 C.2.1 dX3_homeBy_6 rfl hl (by decide) rfl (fun ls hl => ?_)
  refine lv_iload_n C.1 C.2.1 dX3_homeBy_7 rfl (lv_at hl 0 rfl) ?_
  refine lv_iload_n C.1 C.2.1 dX3_homeBy_8 rfl (lv_at hl 0 rfl) ?_
  refine lv_bipush (v := nI 15) C.1 C.2.1 dX3_homeBy_9 (by decide +kernel) ?_
  refine lv_iushr (v := us _ 15) C.1 C.2.1 dX3_homeBy_11 rfl ?_
  refine lv_ixor C.1 C.2.1 dX3_homeBy_12 ?_
  refine lv_istore_n (lv' := [(3, _), (0, _), (1, _), (2, _)]) C.1 C.2.1 dX3_homeBy_13 rfl hl (by decide) rfl (fun ls hl => ?_)
  refine lv_iload_n C.1 C.2.1 dX3_homeBy_14 rfl (lv_at hl 0 rfl) ?_
  refine lv_ldc C.1 C.2.1 C.2.2.2.2.1 (C.2.2.2.2.2.1 _ tw_118) dX3_homeBy_15 ?_
  refine lv_imul C.1 C.2.1 dX3_homeBy_17 ?_
  refine lv_istore (lv' := [(4, _), (3, _), (0, _), (1, _), (2, _)]) C.1 C.2.1 dX3_homeBy_18 hl (by decide) rfl (fun ls hl => ?_)
  refine lv_iload C.1 C.2.1 dX3_homeBy_20 (lv_at hl 0 rfl) ?_
  refine lv_iload C.1 C.2.1 dX3_homeBy_22 (lv_at hl 0 rfl) ?_
  refine lv_bipush (v := nI 13) C.1 C.2.1 dX3_homeBy_24 (by decide +kernel) ?_
  refine lv_iushr (v := us _ 13) C.1 C.2.1 dX3_homeBy_26 rfl ?_
  refine lv_ixor C.1 C.2.1 dX3_homeBy_27 ?_
  refine lv_bipush (v := nI 7) C.1 C.2.1 dX3_homeBy_28 (by decide +kernel) ?_
  refine lv_iand C.1 C.2.1 dX3_homeBy_30 ?_
  rw [hm_and]
  refine lv_istore (lv' := [(5, _), (4, _), (3, _), (0, _), (1, _), (2, _)]) C.1 C.2.1 dX3_homeBy_31 hl (by decide) rfl (fun ls hl => ?_)
  refine lv_iload_n C.1 C.2.1 dX3_homeBy_33 rfl (lv_at hl 5 rfl) ?_
  refine lv_if_ne (tgt := 40) C.1 C.2.1 dX3_homeBy_34 (by decide) (fun h => absurd (by decide) h) (fun _ => ?_)
  refine lv_iload C.1 C.2.1 dX3_homeBy_37 (lv_at hl 0 rfl) ?_
  exact cm_iret C hP hD hS dX3_homeBy_39 rfl rfl
set_option maxHeartbeats 4000000 in
set_option maxRecDepth 100000 in
/-- homeBy, the second -/
theorem c_homeBy2 (l : Launch) (D : va_G) (cI cZ cJ : ClassId) (ws : va_W) (s0 k : Int32) : CM l D (cm_T cI cZ cJ) yX3_homeBy cX3_homeBy 8 (some .int) (cm_rm 0 0) [.int s0, .int k, .int (nI 1)] ws (some (.int (nI (hm2 s0 k)))) (ws) := by
  refine CM.of (by decide) (Nat.le_of_ble_eq_true rfl) ?_
  intro p e s m below meth c ls H locs C hl hP hD hS
  have q1 := hm_lt s0 k (-2048144789)
  have q2 := hm_lt s0 k (-1028477387)
  refine lv_ldc C.1 C.2.1 C.2.2.2.2.1 (C.2.2.2.2.2.1 _ tw_117) dX3_homeBy_0 ?_
  refine lv_iload_n C.1 C.2.1 dX3_homeBy_2 rfl (lv_at hl 1 rfl) ?_
  refine lv_imul C.1 C.2.1 dX3_homeBy_3 ?_
  refine lv_iload_n C.1 C.2.1 dX3_homeBy_4 rfl (lv_at hl 0 rfl) ?_
  refine lv_iadd C.1 C.2.1 dX3_homeBy_5 ?_
  refine lv_istore_n (lv' := [(3, _), (0, _), (1, _), (2, _)]) C.1 C.2.1 dX3_homeBy_6 rfl hl (by decide) rfl (fun ls hl => ?_)
  refine lv_iload_n C.1 C.2.1 dX3_homeBy_7 rfl (lv_at hl 0 rfl) ?_
  refine lv_iload_n C.1 C.2.1 dX3_homeBy_8 rfl (lv_at hl 0 rfl) ?_
  refine lv_bipush (v := nI 15) C.1 C.2.1 dX3_homeBy_9 (by decide +kernel) ?_
  refine lv_iushr (v := us _ 15) C.1 C.2.1 dX3_homeBy_11 rfl ?_
  refine lv_ixor C.1 C.2.1 dX3_homeBy_12 ?_
  refine lv_istore_n (lv' := [(3, _), (0, _), (1, _), (2, _)]) C.1 C.2.1 dX3_homeBy_13 rfl hl (by decide) rfl (fun ls hl => ?_)
  refine lv_iload_n C.1 C.2.1 dX3_homeBy_14 rfl (lv_at hl 0 rfl) ?_
  refine lv_ldc C.1 C.2.1 C.2.2.2.2.1 (C.2.2.2.2.2.1 _ tw_118) dX3_homeBy_15 ?_
  refine lv_imul C.1 C.2.1 dX3_homeBy_17 ?_
  refine lv_istore (lv' := [(4, _), (3, _), (0, _), (1, _), (2, _)]) C.1 C.2.1 dX3_homeBy_18 hl (by decide) rfl (fun ls hl => ?_)
  refine lv_iload C.1 C.2.1 dX3_homeBy_20 (lv_at hl 0 rfl) ?_
  refine lv_iload C.1 C.2.1 dX3_homeBy_22 (lv_at hl 0 rfl) ?_
  refine lv_bipush (v := nI 13) C.1 C.2.1 dX3_homeBy_24 (by decide +kernel) ?_
  refine lv_iushr (v := us _ 13) C.1 C.2.1 dX3_homeBy_26 rfl ?_
  refine lv_ixor C.1 C.2.1 dX3_homeBy_27 ?_
  refine lv_bipush (v := nI 7) C.1 C.2.1 dX3_homeBy_28 (by decide +kernel) ?_
  refine lv_iand C.1 C.2.1 dX3_homeBy_30 ?_
  rw [hm_and]
  refine lv_istore (lv' := [(5, _), (4, _), (3, _), (0, _), (1, _), (2, _)]) C.1 C.2.1 dX3_homeBy_31 hl (by decide) rfl (fun ls hl => ?_)
  refine lv_iload_n C.1 C.2.1 dX3_homeBy_33 rfl (lv_at hl 5 rfl) ?_
  refine lv_if_ne (tgt := 40) C.1 C.2.1 dX3_homeBy_34 (by decide) (fun _ => ?_) (fun h => absurd h (by decide))
  refine lv_iload_n C.1 C.2.1 dX3_homeBy_40 rfl (lv_at hl 2 rfl) ?_
  refine lv_ldc C.1 C.2.1 C.2.2.2.2.1 (C.2.2.2.2.2.1 _ tw_119) dX3_homeBy_41 ?_
  refine lv_imul C.1 C.2.1 dX3_homeBy_43 ?_
  refine lv_istore (lv' := [(6, _), (5, _), (4, _), (3, _), (0, _), (1, _), (2, _)]) C.1 C.2.1 dX3_homeBy_44 hl (by decide) rfl (fun ls hl => ?_)
  refine lv_iload C.1 C.2.1 dX3_homeBy_46 (lv_at hl 0 rfl) ?_
  refine lv_iload C.1 C.2.1 dX3_homeBy_48 (lv_at hl 0 rfl) ?_
  refine lv_bipush (v := nI 13) C.1 C.2.1 dX3_homeBy_50 (by decide +kernel) ?_
  refine lv_iushr (v := us _ 13) C.1 C.2.1 dX3_homeBy_52 rfl ?_
  refine lv_ixor C.1 C.2.1 dX3_homeBy_53 ?_
  refine lv_bipush (v := nI 7) C.1 C.2.1 dX3_homeBy_54 (by decide +kernel) ?_
  refine lv_iand C.1 C.2.1 dX3_homeBy_56 ?_
  rw [hm_and]
  refine lv_istore (lv' := [(7, _), (6, _), (5, _), (4, _), (3, _), (0, _), (1, _), (2, _)]) C.1 C.2.1 dX3_homeBy_57 hl (by decide) rfl (fun ls hl => ?_)
  refine lv_iload C.1 C.2.1 dX3_homeBy_59 (lv_at hl 0 rfl) ?_
  refine lv_iload C.1 C.2.1 dX3_homeBy_61 (lv_at hl 2 rfl) ?_
  refine lv_icmp_ne (tgt := 76) C.1 C.2.1 dX3_homeBy_63 (by decide) (fun h63 => ?_) (fun h63 => ?_)
  · refine lv_iload C.1 C.2.1 dX3_homeBy_76 (lv_at hl 0 rfl) ?_
    exact cm_iret C hP hD hS dX3_homeBy_78 (by unfold hm2 hm1; rw [if_neg (fun q => h63 (by rw [q]))]) rfl
  · refine lv_iload C.1 C.2.1 dX3_homeBy_66 (lv_at hl 2 rfl) ?_
    refine lv_iconst (v := nI 1) C.1 C.2.1 dX3_homeBy_68 (by decide +kernel) ?_
    refine lv_iadd C.1 C.2.1 dX3_homeBy_69 ?_
    rw [nI_add]
    refine lv_bipush (v := nI 8) C.1 C.2.1 dX3_homeBy_70 (by decide +kernel) ?_
    refine lv_irem C.1 C.2.1 dX3_homeBy_72 (by decide) ?_
    rw [pk_rem (by omega) (by decide) (by decide)]
    refine lv_goto (tgt := 78) C.1 C.2.1 dX3_homeBy_73 (by decide) ?_
    have h63 : hm s0 k (-1028477387) = hm s0 k (-2048144789) := by
      exact (nI_eq (by omega) (by omega)).mp h63
    exact cm_iret C hP hD hS dX3_homeBy_78 (by unfold hm2 hm1; rw [if_pos h63]) rfl
set_option maxHeartbeats 4000000 in
set_option maxRecDepth 100000 in
/-- otherRow -/
theorem c_otherRow (l : Launch) (D : va_G) (cI cZ cJ : ClassId) (ws : va_W) (z b : Nat) (hz0 : z < 2) (hb0 : b < 8) (s0 k : Int32) : CM l D (cm_T cI cZ cJ) yX3_otherRow cX3_otherRow 5 (some .int) (cm_rm 1 27) [.int (nI (9 * z + b)), .int s0, .int k] ws (some (.int (nI (9 * z + (if b = hm1 s0 k then hm2 s0 k else hm1 s0 k))))) (ws) := by
  refine CM.of (by decide) (Nat.le_of_ble_eq_true rfl) ?_
  intro p e s m below meth c ls H locs C hl hP hD hS
  have q1 := hm1_lt s0 k
  have q2 := hm2_lt s0 k
  have hz : 9 * z + b - (9 * z + b) % 9 = 9 * z := by omega
  refine lv_iload_n C.1 C.2.1 dX3_otherRow_0 rfl (lv_at hl 0 rfl) ?_
  refine lv_iload_n C.1 C.2.1 dX3_otherRow_1 rfl (lv_at hl 0 rfl) ?_
  refine lv_bipush (v := nI 9) C.1 C.2.1 dX3_otherRow_2 (by decide +kernel) ?_
  refine lv_irem C.1 C.2.1 dX3_otherRow_4 (by decide) ?_
  rw [pk_rem (by omega) (by decide) (by decide)]
  refine lv_isub C.1 C.2.1 dX3_otherRow_5 ?_
  rw [pk_sub (by omega), hz]
  refine lv_istore_n (lv' := [(3, _), (0, _), (1, _), (2, _)]) C.1 C.2.1 dX3_otherRow_6 rfl hl (by decide) rfl (fun ls hl => ?_)
  refine lv_iload_n C.1 C.2.1 dX3_otherRow_7 rfl (lv_at hl 0 rfl) ?_
  refine lv_iload_n C.1 C.2.1 dX3_otherRow_8 rfl (lv_at hl 2 rfl) ?_
  refine lv_iload_n C.1 C.2.1 dX3_otherRow_9 rfl (lv_at hl 3 rfl) ?_
  refine lv_iconst (v := nI 0) C.1 C.2.1 dX3_otherRow_10 (by decide +kernel) ?_
  refine cm_cS1 3 C (c_homeBy1 l D cI cZ cJ _ s0 k) tw_114 tw_115 tw_1 tw_116 rfl rfl (by decide +kernel) ⟨Nat.le_of_ble_eq_true rfl, Nat.le_of_ble_eq_true rfl⟩ ⟨Nat.zero_le _, Nat.zero_le _⟩ hP hD hS hl.1 rfl rfl (Nat.le_of_ble_eq_true rfl) dX3_otherRow_11 (fun H locs hP hD hS => ?_)
  refine lv_iadd C.1 C.2.1 dX3_otherRow_14 ?_
  rw [nI_add]
  refine lv_istore (lv' := [(4, _), (3, _), (0, _), (1, _), (2, _)]) C.1 C.2.1 dX3_otherRow_15 hl (by decide) rfl (fun ls hl => ?_)
  refine lv_iload_n C.1 C.2.1 dX3_otherRow_17 rfl (lv_at hl 2 rfl) ?_
  refine lv_iload C.1 C.2.1 dX3_otherRow_18 (lv_at hl 0 rfl) ?_
  refine lv_icmp_ne (tgt := 34) C.1 C.2.1 dX3_otherRow_20 (by decide) (fun h20 => ?_) (fun h20 => ?_)
  · refine lv_iload C.1 C.2.1 dX3_otherRow_34 (lv_at hl 0 rfl) ?_
    exact cm_iret C hP hD hS dX3_otherRow_36 (by rw [if_neg (fun q => h20 (by rw [q]))]) rfl
  · refine lv_iload_n C.1 C.2.1 dX3_otherRow_23 rfl (lv_at hl 1 rfl) ?_
    refine lv_iload_n C.1 C.2.1 dX3_otherRow_24 rfl (lv_at hl 3 rfl) ?_
    refine lv_iload_n C.1 C.2.1 dX3_otherRow_25 rfl (lv_at hl 4 rfl) ?_
    refine lv_iconst (v := nI 1) C.1 C.2.1 dX3_otherRow_26 (by decide +kernel) ?_
    refine cm_cS1 3 C (c_homeBy2 l D cI cZ cJ _ s0 k) tw_114 tw_115 tw_1 tw_116 rfl rfl (by decide +kernel) ⟨Nat.le_of_ble_eq_true rfl, Nat.le_of_ble_eq_true rfl⟩ ⟨Nat.zero_le _, Nat.zero_le _⟩ hP hD hS hl.1 rfl rfl (Nat.le_of_ble_eq_true rfl) dX3_otherRow_27 (fun H locs hP hD hS => ?_)
    refine lv_iadd C.1 C.2.1 dX3_otherRow_30 ?_
    rw [nI_add]
    refine lv_goto (tgt := 36) C.1 C.2.1 dX3_otherRow_31 (by decide) ?_
    have h20 : 9 * z + b = 9 * z + hm1 s0 k := (nI_eq (by omega) (by omega)).mp h20
    exact cm_iret C hP hD hS dX3_otherRow_36 (by rw [if_pos (by omega)]) rfl
end
section
/-! ===== Image, Moves, Waiting: what their cells are, and their methods ===== -/
theorem ws_self {ws : va_W} {q : Nat} {y z : Nat × va_E} (h : ws[q]? = some y) : (ws.set q z)[q]? = some z := by
  have hq : q < ws.length := (List.getElem?_eq_some_iff.mp h).1
  simp [hq]
theorem ws_ne {ws : va_W} {q q2 : Nat} {x z : Nat × va_E} (hq : q ≠ q2) (h : ws[q]? = some x) : (ws.set q2 z)[q]? = some x := by
  rw [List.getElem?_set_ne (Ne.symm hq)]; exact h
theorem ws_id {ws : va_W} {q : Nat} {x : Nat × va_E} (h : ws[q]? = some x) : ws.set q x = ws := by
  obtain ⟨hq, rfl⟩ := List.getElem?_eq_some_iff.mp h
  exact List.set_getElem_self hq
/-- the first cell of a SLOT's three -/
def ix (p : Nat) : Nat := p / 4 * 22 + p % 4 * 3
def uC (f : Nat → Int32) (p : Nat) : Int32 := f (ix p)
def kC (f : Nat → Int32) (p : Nat) : Int32 := f (ix p + 1)
def vC (f : Nat → Int32) (p : Nat) : Int32 := f (ix p + 2)
def fillC (f : Nat → Int32) (p : Nat) (k v : Int32) : Nat → Int32 := upd (upd (upd f (ix p) (nI 1)) (ix p + 1) k) (ix p + 2) v
def emptyC (f : Nat → Int32) (p : Nat) : Nat → Int32 := upd f (ix p) (nI 0)
def optI : Option Nat → Int32
  | none => -1
  | some p => nI p
/-- the first of k places from j on that P holds of, told from b on -/
def scan (P : Nat → Bool) (b : Nat) : Nat → Nat → Option Nat
  | _, 0 => none
  | j, k + 1 => if P j = true then some (b + j) else scan P b (j + 1) k
def cnt (P : Nat → Bool) : Nat → Nat → Nat
  | _, 0 => 0
  | j, k + 1 => (if P j = true then 1 else 0) + cnt P (j + 1) k
def anyB (P : Nat → Bool) : Nat → Nat → Bool
  | _, 0 => false
  | j, k + 1 => P j || anyB P (j + 1) k
def bI (b : Bool) : Int32 := if b = true then nI 1 else nI 0
theorem bI_nar (b : Bool) : narrow .boolean (.int (bI b)) = .int (bI b) := by cases b <;> decide +kernel
def emP (f : Nat → Int32) (r : Nat) (j : Nat) : Bool := decide (f (r * 22 + j * 3) = 0)
def atP (f : Nat → Int32) (r : Nat) (key : Int32) (j : Nat) : Bool := decide (¬ f (r * 22 + j * 3) = 0 ∧ f (r * 22 + (j * 3 + 1)) = key)
set_option maxHeartbeats 4000000 in
set_option maxRecDepth 100000 in
/-- setTold -/
theorem k_X0_setTold (l : Launch) (D : va_G) (cI cZ cJ : ClassId) (ws : va_W) {qI qA im ad : Nat} {f : Nat → Int32} (hI : ws[qI]? = some (im, .inr (0, [.ref ad]))) (hA : ws[qA]? = some (ad, .inl (cI, 440, .inl f))) : CM l D (cm_T cI cZ cJ) yX0_setTold cX0_setTold 1 (some .int) (cm_rm 1 23) [.ref im] ws (some (.int (f 396))) (ws) := by
  refine CM.of (by decide) (Nat.le_of_ble_eq_true rfl) ?_
  intro p e s m below meth c ls H locs C hl hP hD hS
  refine lv_aload_n C.1 C.2.1 dX0_setTold_0 rfl (lv_at hl 0 rfl) ?_
  refine va_get (ci := 0) (C := RX0) (T := TX0) (N := 1) C.1 C.2.1 C.2.2.2.2.2.1 ui_X0 C.2.2.2.2.1 C.2.2.2.2.2.2.2.1 hP qI (hI) rfl 0 (by decide) (C.2.2.2.2.2.1 _ tw_27) (fun _ h9 => h9) rfl dX0_setTold_1 ?_
  refine lv_bipush (v := nI 18) C.1 C.2.1 dX0_setTold_4 (by decide +kernel) ?_
  refine lv_iconst (v := nI 0) C.1 C.2.1 dX0_setTold_6 (by decide +kernel) ?_
  refine cm_cN1 (host := RX3) 3 C (c_cellAt l D cI cZ cJ _ hA (by decide) (18) (0) (by decide)) tw_106 rfl rfl (C.2.2.2.2.2.2.2.2.1) tw_1 tw_105 (by decide +kernel) ⟨Nat.le_of_ble_eq_true rfl, Nat.le_of_ble_eq_true rfl⟩ ⟨Nat.zero_le _, Nat.zero_le _⟩ hP hD hS hl.1 rfl rfl (Nat.le_of_ble_eq_true rfl) dX0_setTold_7 (fun H locs hP hD hS => ?_)
  exact cm_iret C hP hD hS dX0_setTold_10 (rfl) (rfl)
set_option maxHeartbeats 4000000 in
set_option maxRecDepth 100000 in
/-- seedTold -/
theorem k_X0_seedTold (l : Launch) (D : va_G) (cI cZ cJ : ClassId) (ws : va_W) {qI qA im ad : Nat} {f : Nat → Int32} (hI : ws[qI]? = some (im, .inr (0, [.ref ad]))) (hA : ws[qA]? = some (ad, .inl (cI, 440, .inl f))) : CM l D (cm_T cI cZ cJ) yX0_seedTold cX0_seedTold 1 (some .int) (cm_rm 1 23) [.ref im] ws (some (.int (f 397))) (ws) := by
  refine CM.of (by decide) (Nat.le_of_ble_eq_true rfl) ?_
  intro p e s m below meth c ls H locs C hl hP hD hS
  refine lv_aload_n C.1 C.2.1 dX0_seedTold_0 rfl (lv_at hl 0 rfl) ?_
  refine va_get (ci := 0) (C := RX0) (T := TX0) (N := 1) C.1 C.2.1 C.2.2.2.2.2.1 ui_X0 C.2.2.2.2.1 C.2.2.2.2.2.2.2.1 hP qI (hI) rfl 0 (by decide) (C.2.2.2.2.2.1 _ tw_27) (fun _ h9 => h9) rfl dX0_seedTold_1 ?_
  refine lv_bipush (v := nI 18) C.1 C.2.1 dX0_seedTold_4 (by decide +kernel) ?_
  refine lv_iconst (v := nI 1) C.1 C.2.1 dX0_seedTold_6 (by decide +kernel) ?_
  refine cm_cN1 (host := RX3) 3 C (c_cellAt l D cI cZ cJ _ hA (by decide) (18) (1) (by decide)) tw_106 rfl rfl (C.2.2.2.2.2.2.2.2.1) tw_1 tw_105 (by decide +kernel) ⟨Nat.le_of_ble_eq_true rfl, Nat.le_of_ble_eq_true rfl⟩ ⟨Nat.zero_le _, Nat.zero_le _⟩ hP hD hS hl.1 rfl rfl (Nat.le_of_ble_eq_true rfl) dX0_seedTold_7 (fun H locs hP hD hS => ?_)
  exact cm_iret C hP hD hS dX0_seedTold_10 (rfl) (rfl)
set_option maxHeartbeats 4000000 in
set_option maxRecDepth 100000 in
/-- rowInUse -/
theorem k_X0_rowInUse (l : Launch) (D : va_G) (cI cZ cJ : ClassId) (ws : va_W) {qI qA im ad : Nat} {f : Nat → Int32} (hI : ws[qI]? = some (im, .inr (0, [.ref ad]))) (hA : ws[qA]? = some (ad, .inl (cI, 440, .inl f))) (z g : Nat) (hz : f 396 = nI z) : CM l D (cm_T cI cZ cJ) yX0_rowInUse cX0_rowInUse 2 (some .int) (cm_rm 2 43) [.ref im, .int (nI g)] ws (some (.int (nI (z * 9 + g)))) (ws) := by
  refine CM.of (by decide) (Nat.le_of_ble_eq_true rfl) ?_
  intro p e s m below meth c ls H locs C hl hP hD hS
  refine lv_aload_n C.1 C.2.1 dX0_rowInUse_0 rfl (lv_at hl 0 rfl) ?_
  refine cm_cV1 (q0 := qI) 0 C (k_X0_setTold l D cI cZ cJ _ hI hA) tw_124 tw_125 tw_126 tw_2 tw_127 rfl rfl (hI) rfl (by decide +kernel) ⟨Nat.le_of_ble_eq_true rfl, Nat.le_of_ble_eq_true rfl⟩ ⟨Nat.zero_le _, Nat.zero_le _⟩ hP hD hS hl.1 rfl rfl (Nat.le_of_ble_eq_true rfl) dX0_rowInUse_1 (fun H locs hP hD hS => ?_)
  rw [hz]
  refine lv_bipush (v := nI 9) C.1 C.2.1 dX0_rowInUse_4 (by decide +kernel) ?_
  refine lv_imul C.1 C.2.1 dX0_rowInUse_6 ?_
  rw [pk_mul]
  refine lv_iload_n C.1 C.2.1 dX0_rowInUse_7 rfl (lv_at hl 1 rfl) ?_
  refine lv_iadd C.1 C.2.1 dX0_rowInUse_8 ?_
  rw [nI_add]
  exact cm_iret C hP hD hS dX0_rowInUse_9 (rfl) (rfl)
set_option maxHeartbeats 4000000 in
set_option maxRecDepth 100000 in
/-- holds -/
theorem k_X0_holds (l : Launch) (D : va_G) (cI cZ cJ : ClassId) (ws : va_W) {qI qA im ad : Nat} {f : Nat → Int32} (hI : ws[qI]? = some (im, .inr (0, [.ref ad]))) (hA : ws[qA]? = some (ad, .inl (cI, 440, .inl f))) (p0 : Nat) (hp0 : p0 < 72) : CM l D (cm_T cI cZ cJ) yX0_holds cX0_holds 2 (some .boolean) (cm_rm 1 23) [.ref im, .int (nI p0)] ws (some (.int (bI (decide (¬ uC f p0 = 0))))) (ws) := by
  refine CM.of (by decide) (Nat.le_of_ble_eq_true rfl) ?_
  intro p e s m below meth c ls H locs C hl hP hD hS
  refine lv_aload_n C.1 C.2.1 dX0_holds_0 rfl (lv_at hl 0 rfl) ?_
  refine va_get (ci := 0) (C := RX0) (T := TX0) (N := 1) C.1 C.2.1 C.2.2.2.2.2.1 ui_X0 C.2.2.2.2.1 C.2.2.2.2.2.2.2.1 hP qI (hI) rfl 0 (by decide) (C.2.2.2.2.2.1 _ tw_27) (fun _ h9 => h9) rfl dX0_holds_1 ?_
  refine lv_iload_n C.1 C.2.1 dX0_holds_4 rfl (lv_at hl 1 rfl) ?_
  refine cm_cN1 (host := RX3) 1 C (c_rowOf l D cI cZ cJ _ p0 (by omega)) tw_180 rfl rfl (C.2.2.2.2.2.2.2.2.2.2.2.1) tw_1 tw_179 (by decide +kernel) ⟨Nat.le_of_ble_eq_true rfl, Nat.le_of_ble_eq_true rfl⟩ ⟨Nat.zero_le _, Nat.zero_le _⟩ hP hD hS hl.1 rfl rfl (Nat.le_of_ble_eq_true rfl) dX0_holds_5 (fun H locs hP hD hS => ?_)
  refine lv_iload_n C.1 C.2.1 dX0_holds_8 rfl (lv_at hl 1 rfl) ?_
  refine cm_cN1 (host := RX3) 1 C (c_columnOf l D cI cZ cJ _ p0 (by omega)) tw_183 rfl rfl (C.2.2.2.2.2.2.2.2.2.2.2.2.1) tw_1 tw_182 (by decide +kernel) ⟨Nat.le_of_ble_eq_true rfl, Nat.le_of_ble_eq_true rfl⟩ ⟨Nat.zero_le _, Nat.zero_le _⟩ hP hD hS hl.1 rfl rfl (Nat.le_of_ble_eq_true rfl) dX0_holds_9 (fun H locs hP hD hS => ?_)
  refine cm_cN1 (host := RX3) 3 C (c_cellAt l D cI cZ cJ _ hA (by decide) (p0 / 4) (p0 % 4 * 3) (by have := Nat.mod_lt p0 (show 4 > 0 by decide); omega)) tw_106 rfl rfl (C.2.2.2.2.2.2.2.2.1) tw_1 tw_105 (by decide +kernel) ⟨Nat.le_of_ble_eq_true rfl, Nat.le_of_ble_eq_true rfl⟩ ⟨Nat.zero_le _, Nat.zero_le _⟩ hP hD hS hl.1 rfl rfl (Nat.le_of_ble_eq_true rfl) dX0_holds_12 (fun H locs hP hD hS => ?_)
  refine lv_if_eq (tgt := 22) C.1 C.2.1 dX0_holds_15 (by decide) (fun h15 => ?_) (fun h15 => ?_)
  · refine lv_iconst (v := nI 0) C.1 C.2.1 dX0_holds_22 (by decide +kernel) ?_
    exact cm_zret C hP hD hS dX0_holds_23 (by decide +kernel) (by unfold bI; simp [uC, ix, h15]) rfl
  · refine lv_iconst (v := nI 1) C.1 C.2.1 dX0_holds_18 (by decide +kernel) ?_
    refine lv_goto (tgt := 23) C.1 C.2.1 dX0_holds_19 (by decide) ?_
    exact cm_zret C hP hD hS dX0_holds_23 (by decide +kernel) (by unfold bI; simp [uC, ix, h15]) rfl
set_option maxHeartbeats 4000000 in
set_option maxRecDepth 100000 in
/-- X0_keyAt -/
theorem k_X0_keyAt (l : Launch) (D : va_G) (cI cZ cJ : ClassId) (ws : va_W) {qI qA im ad : Nat} {f : Nat → Int32} (hI : ws[qI]? = some (im, .inr (0, [.ref ad]))) (hA : ws[qA]? = some (ad, .inl (cI, 440, .inl f))) (p0 : Nat) (hp0 : p0 < 72) : CM l D (cm_T cI cZ cJ) yX0_keyAt cX0_keyAt 2 (some .int) (cm_rm 1 23) [.ref im, .int (nI p0)] ws (some (.int (kC f p0))) (ws) := by
  refine CM.of (by decide) (Nat.le_of_ble_eq_true rfl) ?_
  intro p e s m below meth c ls H locs C hl hP hD hS
  refine lv_aload_n C.1 C.2.1 dX0_keyAt_0 rfl (lv_at hl 0 rfl) ?_
  refine va_get (ci := 0) (C := RX0) (T := TX0) (N := 1) C.1 C.2.1 C.2.2.2.2.2.1 ui_X0 C.2.2.2.2.1 C.2.2.2.2.2.2.2.1 hP qI (hI) rfl 0 (by decide) (C.2.2.2.2.2.1 _ tw_27) (fun _ h9 => h9) rfl dX0_keyAt_1 ?_
  refine lv_iload_n C.1 C.2.1 dX0_keyAt_4 rfl (lv_at hl 1 rfl) ?_
  refine cm_cN1 (host := RX3) 1 C (c_rowOf l D cI cZ cJ _ p0 (by omega)) tw_180 rfl rfl (C.2.2.2.2.2.2.2.2.2.2.2.1) tw_1 tw_179 (by decide +kernel) ⟨Nat.le_of_ble_eq_true rfl, Nat.le_of_ble_eq_true rfl⟩ ⟨Nat.zero_le _, Nat.zero_le _⟩ hP hD hS hl.1 rfl rfl (Nat.le_of_ble_eq_true rfl) dX0_keyAt_5 (fun H locs hP hD hS => ?_)
  refine lv_iload_n C.1 C.2.1 dX0_keyAt_8 rfl (lv_at hl 1 rfl) ?_
  refine cm_cN1 (host := RX3) 1 C (c_columnOf l D cI cZ cJ _ p0 (by omega)) tw_183 rfl rfl (C.2.2.2.2.2.2.2.2.2.2.2.2.1) tw_1 tw_182 (by decide +kernel) ⟨Nat.le_of_ble_eq_true rfl, Nat.le_of_ble_eq_true rfl⟩ ⟨Nat.zero_le _, Nat.zero_le _⟩ hP hD hS hl.1 rfl rfl (Nat.le_of_ble_eq_true rfl) dX0_keyAt_9 (fun H locs hP hD hS => ?_)
  refine lv_iconst (v := nI 1) C.1 C.2.1 dX0_keyAt_12 (by decide +kernel) ?_
  refine lv_iadd C.1 C.2.1 dX0_keyAt_13 ?_
  rw [nI_add]
  refine cm_cN1 (host := RX3) 3 C (c_cellAt l D cI cZ cJ _ hA (by decide) (p0 / 4) (p0 % 4 * 3 + 1) (by have := Nat.mod_lt p0 (show 4 > 0 by decide); omega)) tw_106 rfl rfl (C.2.2.2.2.2.2.2.2.1) tw_1 tw_105 (by decide +kernel) ⟨Nat.le_of_ble_eq_true rfl, Nat.le_of_ble_eq_true rfl⟩ ⟨Nat.zero_le _, Nat.zero_le _⟩ hP hD hS hl.1 rfl rfl (Nat.le_of_ble_eq_true rfl) dX0_keyAt_14 (fun H locs hP hD hS => ?_)
  exact cm_iret C hP hD hS dX0_keyAt_17 (rfl) (rfl)
set_option maxHeartbeats 4000000 in
set_option maxRecDepth 100000 in
/-- X0_valueAt -/
theorem k_X0_valueAt (l : Launch) (D : va_G) (cI cZ cJ : ClassId) (ws : va_W) {qI qA im ad : Nat} {f : Nat → Int32} (hI : ws[qI]? = some (im, .inr (0, [.ref ad]))) (hA : ws[qA]? = some (ad, .inl (cI, 440, .inl f))) (p0 : Nat) (hp0 : p0 < 72) : CM l D (cm_T cI cZ cJ) yX0_valueAt cX0_valueAt 2 (some .int) (cm_rm 1 23) [.ref im, .int (nI p0)] ws (some (.int (vC f p0))) (ws) := by
  refine CM.of (by decide) (Nat.le_of_ble_eq_true rfl) ?_
  intro p e s m below meth c ls H locs C hl hP hD hS
  refine lv_aload_n C.1 C.2.1 dX0_valueAt_0 rfl (lv_at hl 0 rfl) ?_
  refine va_get (ci := 0) (C := RX0) (T := TX0) (N := 1) C.1 C.2.1 C.2.2.2.2.2.1 ui_X0 C.2.2.2.2.1 C.2.2.2.2.2.2.2.1 hP qI (hI) rfl 0 (by decide) (C.2.2.2.2.2.1 _ tw_27) (fun _ h9 => h9) rfl dX0_valueAt_1 ?_
  refine lv_iload_n C.1 C.2.1 dX0_valueAt_4 rfl (lv_at hl 1 rfl) ?_
  refine cm_cN1 (host := RX3) 1 C (c_rowOf l D cI cZ cJ _ p0 (by omega)) tw_180 rfl rfl (C.2.2.2.2.2.2.2.2.2.2.2.1) tw_1 tw_179 (by decide +kernel) ⟨Nat.le_of_ble_eq_true rfl, Nat.le_of_ble_eq_true rfl⟩ ⟨Nat.zero_le _, Nat.zero_le _⟩ hP hD hS hl.1 rfl rfl (Nat.le_of_ble_eq_true rfl) dX0_valueAt_5 (fun H locs hP hD hS => ?_)
  refine lv_iload_n C.1 C.2.1 dX0_valueAt_8 rfl (lv_at hl 1 rfl) ?_
  refine cm_cN1 (host := RX3) 1 C (c_columnOf l D cI cZ cJ _ p0 (by omega)) tw_183 rfl rfl (C.2.2.2.2.2.2.2.2.2.2.2.2.1) tw_1 tw_182 (by decide +kernel) ⟨Nat.le_of_ble_eq_true rfl, Nat.le_of_ble_eq_true rfl⟩ ⟨Nat.zero_le _, Nat.zero_le _⟩ hP hD hS hl.1 rfl rfl (Nat.le_of_ble_eq_true rfl) dX0_valueAt_9 (fun H locs hP hD hS => ?_)
  refine lv_iconst (v := nI 2) C.1 C.2.1 dX0_valueAt_12 (by decide +kernel) ?_
  refine lv_iadd C.1 C.2.1 dX0_valueAt_13 ?_
  rw [nI_add]
  refine cm_cN1 (host := RX3) 3 C (c_cellAt l D cI cZ cJ _ hA (by decide) (p0 / 4) (p0 % 4 * 3 + 2) (by have := Nat.mod_lt p0 (show 4 > 0 by decide); omega)) tw_106 rfl rfl (C.2.2.2.2.2.2.2.2.1) tw_1 tw_105 (by decide +kernel) ⟨Nat.le_of_ble_eq_true rfl, Nat.le_of_ble_eq_true rfl⟩ ⟨Nat.zero_le _, Nat.zero_le _⟩ hP hD hS hl.1 rfl rfl (Nat.le_of_ble_eq_true rfl) dX0_valueAt_14 (fun H locs hP hD hS => ?_)
  exact cm_iret C hP hD hS dX0_valueAt_17 (rfl) (rfl)
set_option maxHeartbeats 4000000 in
set_option maxRecDepth 100000 in
/-- empty -/
theorem k_X0_empty (l : Launch) (D : va_G) (cI cZ cJ : ClassId) (ws : va_W) {qI qA im ad : Nat} {f : Nat → Int32} (hI : ws[qI]? = some (im, .inr (0, [.ref ad]))) (hA : ws[qA]? = some (ad, .inl (cI, 440, .inl f))) (p0 : Nat) (hp0 : p0 < 72) : CM l D (cm_T cI cZ cJ) yX0_empty cX0_empty 2 none (cm_rm 1 24) [.ref im, .int (nI p0)] ws none (ws.set qA (ad, .inl (cI, 440, .inl (emptyC f p0)))) := by
  refine CM.of (by decide) (Nat.le_of_ble_eq_true rfl) ?_
  intro p e s m below meth c ls H locs C hl hP hD hS
  refine lv_aload_n C.1 C.2.1 dX0_empty_0 rfl (lv_at hl 0 rfl) ?_
  refine va_get (ci := 0) (C := RX0) (T := TX0) (N := 1) C.1 C.2.1 C.2.2.2.2.2.1 ui_X0 C.2.2.2.2.1 C.2.2.2.2.2.2.2.1 hP qI (hI) rfl 0 (by decide) (C.2.2.2.2.2.1 _ tw_27) (fun _ h9 => h9) rfl dX0_empty_1 ?_
  refine lv_iload_n C.1 C.2.1 dX0_empty_4 rfl (lv_at hl 1 rfl) ?_
  refine cm_cN1 (host := RX3) 1 C (c_rowOf l D cI cZ cJ _ p0 (by omega)) tw_180 rfl rfl (C.2.2.2.2.2.2.2.2.2.2.2.1) tw_1 tw_179 (by decide +kernel) ⟨Nat.le_of_ble_eq_true rfl, Nat.le_of_ble_eq_true rfl⟩ ⟨Nat.zero_le _, Nat.zero_le _⟩ hP hD hS hl.1 rfl rfl (Nat.le_of_ble_eq_true rfl) dX0_empty_5 (fun H locs hP hD hS => ?_)
  refine lv_iload_n C.1 C.2.1 dX0_empty_8 rfl (lv_at hl 1 rfl) ?_
  refine cm_cN1 (host := RX3) 1 C (c_columnOf l D cI cZ cJ _ p0 (by omega)) tw_183 rfl rfl (C.2.2.2.2.2.2.2.2.2.2.2.2.1) tw_1 tw_182 (by decide +kernel) ⟨Nat.le_of_ble_eq_true rfl, Nat.le_of_ble_eq_true rfl⟩ ⟨Nat.zero_le _, Nat.zero_le _⟩ hP hD hS hl.1 rfl rfl (Nat.le_of_ble_eq_true rfl) dX0_empty_9 (fun H locs hP hD hS => ?_)
  refine lv_iconst (v := nI 0) C.1 C.2.1 dX0_empty_12 (by decide +kernel) ?_
  refine cm_cN0 (host := RX3) 4 C (c_tellCell l D cI cZ cJ _ hA (by decide) (p0 / 4) (p0 % 4 * 3) (nI 0) (by have := Nat.mod_lt p0 (show 4 > 0 by decide); omega)) tw_145 rfl rfl (C.2.2.2.2.2.2.2.2.2.1) tw_1 tw_144 (by decide +kernel) ⟨Nat.le_of_ble_eq_true rfl, Nat.le_of_ble_eq_true rfl⟩ ⟨Nat.zero_le _, Nat.zero_le _⟩ hP hD hS hl.1 rfl rfl (Nat.le_of_ble_eq_true rfl) dX0_empty_13 (fun H locs hP hD hS => ?_)
  exact cm_vret C hP hD hS dX0_empty_16 (rfl)
set_option maxHeartbeats 4000000 in
set_option maxRecDepth 100000 in
/-- fill -/
theorem k_X0_fill (l : Launch) (D : va_G) (cI cZ cJ : ClassId) (ws : va_W) {qI qA im ad : Nat} {f : Nat → Int32} (hI : ws[qI]? = some (im, .inr (0, [.ref ad]))) (hA : ws[qA]? = some (ad, .inl (cI, 440, .inl f))) (hq : qI ≠ qA) (p0 : Nat) (hp0 : p0 < 72) (k v : Int32) : CM l D (cm_T cI cZ cJ) yX0_fill cX0_fill 6 none (cm_rm 1 24) [.ref im, .int (nI p0), .int k, .int v] ws none (ws.set qA (ad, .inl (cI, 440, .inl (fillC f p0 k v)))) := by
  refine CM.of (by decide) (Nat.le_of_ble_eq_true rfl) ?_
  intro p e s m below meth c ls H locs C hl hP hD hS
  refine lv_iload_n C.1 C.2.1 dX0_fill_0 rfl (lv_at hl 1 rfl) ?_
  refine cm_cN1 (host := RX3) 1 C (c_rowOf l D cI cZ cJ _ p0 (by omega)) tw_180 rfl rfl (C.2.2.2.2.2.2.2.2.2.2.2.1) tw_1 tw_179 (by decide +kernel) ⟨Nat.le_of_ble_eq_true rfl, Nat.le_of_ble_eq_true rfl⟩ ⟨Nat.zero_le _, Nat.zero_le _⟩ hP hD hS hl.1 rfl rfl (Nat.le_of_ble_eq_true rfl) dX0_fill_1 (fun H locs hP hD hS => ?_)
  refine lv_istore (lv' := [(4, _), (0, _), (1, _), (2, _), (3, _)]) C.1 C.2.1 dX0_fill_4 hl (by decide) rfl (fun ls hl => ?_)
  refine lv_iload_n C.1 C.2.1 dX0_fill_6 rfl (lv_at hl 2 rfl) ?_
  refine cm_cN1 (host := RX3) 1 C (c_columnOf l D cI cZ cJ _ p0 (by omega)) tw_183 rfl rfl (C.2.2.2.2.2.2.2.2.2.2.2.2.1) tw_1 tw_182 (by decide +kernel) ⟨Nat.le_of_ble_eq_true rfl, Nat.le_of_ble_eq_true rfl⟩ ⟨Nat.zero_le _, Nat.zero_le _⟩ hP hD hS hl.1 rfl rfl (Nat.le_of_ble_eq_true rfl) dX0_fill_7 (fun H locs hP hD hS => ?_)
  refine lv_istore (lv' := [(5, _), (4, _), (0, _), (1, _), (2, _), (3, _)]) C.1 C.2.1 dX0_fill_10 hl (by decide) rfl (fun ls hl => ?_)
  refine lv_aload_n C.1 C.2.1 dX0_fill_12 rfl (lv_at hl 2 rfl) ?_
  refine va_get (ci := 0) (C := RX0) (T := TX0) (N := 1) C.1 C.2.1 C.2.2.2.2.2.1 ui_X0 C.2.2.2.2.1 C.2.2.2.2.2.2.2.1 hP qI (hI) rfl 0 (by decide) (C.2.2.2.2.2.1 _ tw_27) (fun _ h9 => h9) rfl dX0_fill_13 ?_
  refine lv_iload C.1 C.2.1 dX0_fill_16 (lv_at hl 1 rfl) ?_
  refine lv_iload C.1 C.2.1 dX0_fill_18 (lv_at hl 0 rfl) ?_
  refine lv_iconst (v := nI 1) C.1 C.2.1 dX0_fill_20 (by decide +kernel) ?_
  refine cm_cN0 (host := RX3) 4 C (c_tellCell l D cI cZ cJ _ hA (by decide) (p0 / 4) (p0 % 4 * 3) (nI 1) (by have := Nat.mod_lt p0 (show 4 > 0 by decide); omega)) tw_145 rfl rfl (C.2.2.2.2.2.2.2.2.2.1) tw_1 tw_144 (by decide +kernel) ⟨Nat.le_of_ble_eq_true rfl, Nat.le_of_ble_eq_true rfl⟩ ⟨Nat.zero_le _, Nat.zero_le _⟩ hP hD hS hl.1 rfl rfl (Nat.le_of_ble_eq_true rfl) dX0_fill_21 (fun H locs hP hD hS => ?_)
  refine lv_aload_n C.1 C.2.1 dX0_fill_24 rfl (lv_at hl 2 rfl) ?_
  refine va_get (ci := 0) (C := RX0) (T := TX0) (N := 1) C.1 C.2.1 C.2.2.2.2.2.1 ui_X0 C.2.2.2.2.1 C.2.2.2.2.2.2.2.1 hP qI (ws_ne hq hI) rfl 0 (by decide) (C.2.2.2.2.2.1 _ tw_27) (fun _ h9 => h9) rfl dX0_fill_25 ?_
  refine lv_iload C.1 C.2.1 dX0_fill_28 (lv_at hl 1 rfl) ?_
  refine lv_iload C.1 C.2.1 dX0_fill_30 (lv_at hl 0 rfl) ?_
  refine lv_iconst (v := nI 1) C.1 C.2.1 dX0_fill_32 (by decide +kernel) ?_
  refine lv_iadd C.1 C.2.1 dX0_fill_33 ?_
  rw [nI_add]
  refine lv_iload_n C.1 C.2.1 dX0_fill_34 rfl (lv_at hl 4 rfl) ?_
  refine cm_cN0 (host := RX3) 4 C (c_tellCell l D cI cZ cJ _ (ws_self hA) (by decide) (p0 / 4) (p0 % 4 * 3 + 1) (k) (by have := Nat.mod_lt p0 (show 4 > 0 by decide); omega)) tw_145 rfl rfl (C.2.2.2.2.2.2.2.2.2.1) tw_1 tw_144 (by decide +kernel) ⟨Nat.le_of_ble_eq_true rfl, Nat.le_of_ble_eq_true rfl⟩ ⟨Nat.zero_le _, Nat.zero_le _⟩ hP hD hS hl.1 rfl rfl (Nat.le_of_ble_eq_true rfl) dX0_fill_35 (fun H locs hP hD hS => ?_)
  rw [List.set_set] at hP hD
  refine lv_aload_n C.1 C.2.1 dX0_fill_38 rfl (lv_at hl 2 rfl) ?_
  refine va_get (ci := 0) (C := RX0) (T := TX0) (N := 1) C.1 C.2.1 C.2.2.2.2.2.1 ui_X0 C.2.2.2.2.1 C.2.2.2.2.2.2.2.1 hP qI (ws_ne hq hI) rfl 0 (by decide) (C.2.2.2.2.2.1 _ tw_27) (fun _ h9 => h9) rfl dX0_fill_39 ?_
  refine lv_iload C.1 C.2.1 dX0_fill_42 (lv_at hl 1 rfl) ?_
  refine lv_iload C.1 C.2.1 dX0_fill_44 (lv_at hl 0 rfl) ?_
  refine lv_iconst (v := nI 2) C.1 C.2.1 dX0_fill_46 (by decide +kernel) ?_
  refine lv_iadd C.1 C.2.1 dX0_fill_47 ?_
  rw [nI_add]
  refine lv_iload_n C.1 C.2.1 dX0_fill_48 rfl (lv_at hl 5 rfl) ?_
  refine cm_cN0 (host := RX3) 4 C (c_tellCell l D cI cZ cJ _ (ws_self hA) (by decide) (p0 / 4) (p0 % 4 * 3 + 2) (v) (by have := Nat.mod_lt p0 (show 4 > 0 by decide); omega)) tw_145 rfl rfl (C.2.2.2.2.2.2.2.2.2.1) tw_1 tw_144 (by decide +kernel) ⟨Nat.le_of_ble_eq_true rfl, Nat.le_of_ble_eq_true rfl⟩ ⟨Nat.zero_le _, Nat.zero_le _⟩ hP hD hS hl.1 rfl rfl (Nat.le_of_ble_eq_true rfl) dX0_fill_49 (fun H locs hP hD hS => ?_)
  rw [List.set_set] at hP hD
  exact cm_vret C hP hD hS dX0_fill_52 (rfl)
set_option maxHeartbeats 4000000 in
set_option maxRecDepth 100000 in
/-- tellRoot -/
theorem k_X0_tellRoot (l : Launch) (D : va_G) (cI cZ cJ : ClassId) (ws : va_W) {qI qA im ad : Nat} {f : Nat → Int32} (hI : ws[qI]? = some (im, .inr (0, [.ref ad]))) (hA : ws[qA]? = some (ad, .inl (cI, 440, .inl f))) (hq : qI ≠ qA) (a b : Int32) : CM l D (cm_T cI cZ cJ) yX0_tellRoot cX0_tellRoot 3 none (cm_rm 1 24) [.ref im, .int a, .int b] ws none (ws.set qA (ad, .inl (cI, 440, .inl (upd (upd f 396 a) 397 b)))) := by
  refine CM.of (by decide) (Nat.le_of_ble_eq_true rfl) ?_
  intro p e s m below meth c ls H locs C hl hP hD hS
  refine lv_aload_n C.1 C.2.1 dX0_tellRoot_0 rfl (lv_at hl 0 rfl) ?_
  refine va_get (ci := 0) (C := RX0) (T := TX0) (N := 1) C.1 C.2.1 C.2.2.2.2.2.1 ui_X0 C.2.2.2.2.1 C.2.2.2.2.2.2.2.1 hP qI (hI) rfl 0 (by decide) (C.2.2.2.2.2.1 _ tw_27) (fun _ h9 => h9) rfl dX0_tellRoot_1 ?_
  refine lv_bipush (v := nI 18) C.1 C.2.1 dX0_tellRoot_4 (by decide +kernel) ?_
  refine lv_iconst (v := nI 0) C.1 C.2.1 dX0_tellRoot_6 (by decide +kernel) ?_
  refine lv_iload_n C.1 C.2.1 dX0_tellRoot_7 rfl (lv_at hl 1 rfl) ?_
  refine cm_cN0 (host := RX3) 4 C (c_tellCell l D cI cZ cJ _ hA (by decide) (18) (0) (a) (by decide)) tw_145 rfl rfl (C.2.2.2.2.2.2.2.2.2.1) tw_1 tw_144 (by decide +kernel) ⟨Nat.le_of_ble_eq_true rfl, Nat.le_of_ble_eq_true rfl⟩ ⟨Nat.zero_le _, Nat.zero_le _⟩ hP hD hS hl.1 rfl rfl (Nat.le_of_ble_eq_true rfl) dX0_tellRoot_8 (fun H locs hP hD hS => ?_)
  refine lv_aload_n C.1 C.2.1 dX0_tellRoot_11 rfl (lv_at hl 0 rfl) ?_
  refine va_get (ci := 0) (C := RX0) (T := TX0) (N := 1) C.1 C.2.1 C.2.2.2.2.2.1 ui_X0 C.2.2.2.2.1 C.2.2.2.2.2.2.2.1 hP qI (ws_ne hq hI) rfl 0 (by decide) (C.2.2.2.2.2.1 _ tw_27) (fun _ h9 => h9) rfl dX0_tellRoot_12 ?_
  refine lv_bipush (v := nI 18) C.1 C.2.1 dX0_tellRoot_15 (by decide +kernel) ?_
  refine lv_iconst (v := nI 1) C.1 C.2.1 dX0_tellRoot_17 (by decide +kernel) ?_
  refine lv_iload_n C.1 C.2.1 dX0_tellRoot_18 rfl (lv_at hl 2 rfl) ?_
  refine cm_cN0 (host := RX3) 4 C (c_tellCell l D cI cZ cJ _ (ws_self hA) (by decide) (18) (1) (b) (by decide)) tw_145 rfl rfl (C.2.2.2.2.2.2.2.2.2.1) tw_1 tw_144 (by decide +kernel) ⟨Nat.le_of_ble_eq_true rfl, Nat.le_of_ble_eq_true rfl⟩ ⟨Nat.zero_le _, Nat.zero_le _⟩ hP hD hS hl.1 rfl rfl (Nat.le_of_ble_eq_true rfl) dX0_tellRoot_19 (fun H locs hP hD hS => ?_)
  rw [List.set_set] at hP hD
  exact cm_vret C hP hD hS dX0_tellRoot_22 (rfl)
set_option maxHeartbeats 4000000 in
set_option maxRecDepth 100000 in
/-- emptyJournal -/
theorem k_X0_emptyJournal (l : Launch) (D : va_G) (cI cZ cJ : ClassId) (ws : va_W) {qI qA im ad : Nat} {f : Nat → Int32} (hI : ws[qI]? = some (im, .inr (0, [.ref ad]))) (hA : ws[qA]? = some (ad, .inl (cI, 440, .inl f))) : CM l D (cm_T cI cZ cJ) yX0_emptyJournal cX0_emptyJournal 1 none (cm_rm 1 24) [.ref im] ws none (ws.set qA (ad, .inl (cI, 440, .inl (upd f 418 (nI 0))))) := by
  refine CM.of (by decide) (Nat.le_of_ble_eq_true rfl) ?_
  intro p e s m below meth c ls H locs C hl hP hD hS
  refine lv_aload_n C.1 C.2.1 dX0_emptyJournal_0 rfl (lv_at hl 0 rfl) ?_
  refine va_get (ci := 0) (C := RX0) (T := TX0) (N := 1) C.1 C.2.1 C.2.2.2.2.2.1 ui_X0 C.2.2.2.2.1 C.2.2.2.2.2.2.2.1 hP qI (hI) rfl 0 (by decide) (C.2.2.2.2.2.1 _ tw_27) (fun _ h9 => h9) rfl dX0_emptyJournal_1 ?_
  refine lv_bipush (v := nI 19) C.1 C.2.1 dX0_emptyJournal_4 (by decide +kernel) ?_
  refine lv_iconst (v := nI 0) C.1 C.2.1 dX0_emptyJournal_6 (by decide +kernel) ?_
  refine lv_iconst (v := nI 0) C.1 C.2.1 dX0_emptyJournal_7 (by decide +kernel) ?_
  refine cm_cN0 (host := RX3) 4 C (c_tellCell l D cI cZ cJ _ hA (by decide) (19) (0) (nI 0) (by decide)) tw_145 rfl rfl (C.2.2.2.2.2.2.2.2.2.1) tw_1 tw_144 (by decide +kernel) ⟨Nat.le_of_ble_eq_true rfl, Nat.le_of_ble_eq_true rfl⟩ ⟨Nat.zero_le _, Nat.zero_le _⟩ hP hD hS hl.1 rfl rfl (Nat.le_of_ble_eq_true rfl) dX0_emptyJournal_8 (fun H locs hP hD hS => ?_)
  exact cm_vret C hP hD hS dX0_emptyJournal_11 (rfl)
set_option maxHeartbeats 4000000 in
set_option maxRecDepth 100000 in
/-- tellJournal -/
theorem k_X0_tellJournal (l : Launch) (D : va_G) (cI cZ cJ : ClassId) (ws : va_W) {qI qA im ad : Nat} {f : Nat → Int32} (hI : ws[qI]? = some (im, .inr (0, [.ref ad]))) (hA : ws[qA]? = some (ad, .inl (cI, 440, .inl f))) {qM qN mv an : Nat} {fm : Nat → Int32} (hM : ws[qM]? = some (mv, .inr (1, [.ref an]))) (hN : ws[qN]? = some (an, .inl (cI, 22, .inl fm))) : CM l D (cm_T cI cZ cJ) yX0_tellJournal cX0_tellJournal 2 none (cm_rm 2 65) [.ref im, .ref mv] ws none (ws.set qA (ad, .inl (cI, 440, .inl (va_cpy fm f 0 418 22)))) := by
  refine CM.of (by decide) (Nat.le_of_ble_eq_true rfl) ?_
  intro p e s m below meth c ls H locs C hl hP hD hS
  refine lv_aload_n C.1 C.2.1 dX0_tellJournal_0 rfl (lv_at hl 1 rfl) ?_
  refine va_get (ci := 1) (C := RX1) (T := TX1) (N := 1) C.1 C.2.1 C.2.2.2.2.2.1 ui_X1 C.2.2.2.2.1 C.2.2.2.2.2.2.2.1 hP qM (hM) rfl 0 (by decide) (C.2.2.2.2.2.1 _ tw_57) (fun _ h9 => h9) rfl dX0_tellJournal_1 ?_
  refine lv_iconst (v := nI 0) C.1 C.2.1 dX0_tellJournal_4 (by decide +kernel) ?_
  refine lv_aload_n C.1 C.2.1 dX0_tellJournal_5 rfl (lv_at hl 0 rfl) ?_
  refine va_get (ci := 0) (C := RX0) (T := TX0) (N := 1) C.1 C.2.1 C.2.2.2.2.2.1 ui_X0 C.2.2.2.2.1 C.2.2.2.2.2.2.2.1 hP qI (hI) rfl 0 (by decide) (C.2.2.2.2.2.1 _ tw_27) (fun _ h9 => h9) rfl dX0_tellJournal_6 ?_
  refine lv_bipush (v := nI 19) C.1 C.2.1 dX0_tellJournal_9 (by decide +kernel) ?_
  refine cm_cN0 (host := RX3) 4 C (c_copyRow l D cI cZ cJ _ hN (by decide) hA (by decide) 0 19 (by decide) (by decide)) tw_240 rfl rfl (C.2.2.2.2.2.2.2.2.2.2.1) tw_1 tw_239 (by decide +kernel) ⟨Nat.le_of_ble_eq_true rfl, Nat.le_of_ble_eq_true rfl⟩ ⟨Nat.zero_le _, Nat.zero_le _⟩ hP hD hS hl.1 rfl rfl (Nat.le_of_ble_eq_true rfl) dX0_tellJournal_11 (fun H locs hP hD hS => ?_)
  exact cm_vret C hP hD hS dX0_tellJournal_14 (rfl)
set_option maxHeartbeats 4000000 in
set_option maxRecDepth 100000 in
/-- takeRow -/
theorem k_X0_takeRow (l : Launch) (D : va_G) (cI cZ cJ : ClassId) (ws : va_W) {qI qA im ad : Nat} {f : Nat → Int32} (hI : ws[qI]? = some (im, .inr (0, [.ref ad]))) (hA : ws[qA]? = some (ad, .inl (cI, 440, .inl f))) {qJ qB jm bd : Nat} {f2 : Nat → Int32} (hJ : ws[qJ]? = some (jm, .inr (0, [.ref bd]))) (hB : ws[qB]? = some (bd, .inl (cI, 440, .inl f2))) (r : Nat) (hr : r < 20) : CM l D (cm_T cI cZ cJ) yX0_takeRow cX0_takeRow 3 none (cm_rm 2 65) [.ref im, .ref jm, .int (nI r)] ws none (ws.set qA (ad, .inl (cI, 440, .inl (va_cpy f2 f (r * 22) (r * 22) 22)))) := by
  refine CM.of (by decide) (Nat.le_of_ble_eq_true rfl) ?_
  intro p e s m below meth c ls H locs C hl hP hD hS
  refine lv_aload_n C.1 C.2.1 dX0_takeRow_0 rfl (lv_at hl 1 rfl) ?_
  refine va_get (ci := 0) (C := RX0) (T := TX0) (N := 1) C.1 C.2.1 C.2.2.2.2.2.1 ui_X0 C.2.2.2.2.1 C.2.2.2.2.2.2.2.1 hP qJ (hJ) rfl 0 (by decide) (C.2.2.2.2.2.1 _ tw_27) (fun _ h9 => h9) rfl dX0_takeRow_1 ?_
  refine lv_iload_n C.1 C.2.1 dX0_takeRow_4 rfl (lv_at hl 2 rfl) ?_
  refine lv_aload_n C.1 C.2.1 dX0_takeRow_5 rfl (lv_at hl 0 rfl) ?_
  refine va_get (ci := 0) (C := RX0) (T := TX0) (N := 1) C.1 C.2.1 C.2.2.2.2.2.1 ui_X0 C.2.2.2.2.1 C.2.2.2.2.2.2.2.1 hP qI (hI) rfl 0 (by decide) (C.2.2.2.2.2.1 _ tw_27) (fun _ h9 => h9) rfl dX0_takeRow_6 ?_
  refine lv_iload_n C.1 C.2.1 dX0_takeRow_9 rfl (lv_at hl 2 rfl) ?_
  refine cm_cN0 (host := RX3) 4 C (c_copyRow l D cI cZ cJ _ hB (by decide) hA (by decide) r r (by omega) (by omega)) tw_240 rfl rfl (C.2.2.2.2.2.2.2.2.2.2.1) tw_1 tw_239 (by decide +kernel) ⟨Nat.le_of_ble_eq_true rfl, Nat.le_of_ble_eq_true rfl⟩ ⟨Nat.zero_le _, Nat.zero_le _⟩ hP hD hS hl.1 rfl rfl (Nat.le_of_ble_eq_true rfl) dX0_takeRow_10 (fun H locs hP hD hS => ?_)
  exact cm_vret C hP hD hS dX0_takeRow_13 (rfl)
set_option maxHeartbeats 4000000 in
set_option maxRecDepth 100000 in
/-- leastEmpty -/
theorem k_X0_leastEmpty (l : Launch) (D : va_G) (cI cZ cJ : ClassId) (ws : va_W) {qI qA im ad : Nat} {f : Nat → Int32} (hI : ws[qI]? = some (im, .inr (0, [.ref ad]))) (hA : ws[qA]? = some (ad, .inl (cI, 440, .inl f))) (r : Nat) (hr : r < 20) : CM l D (cm_T cI cZ cJ) yX0_leastEmpty cX0_leastEmpty 3 (some .int) (cm_rm 1 23) [.ref im, .int (nI r)] ws (some (.int (optI (scan (emP f r) (r * 4) 0 4)))) (ws) := by
  refine CM.of (by decide) (Nat.le_of_ble_eq_true rfl) ?_
  intro p e s m below meth c ls H locs C hl hP hD hS
  refine lv_iconst (v := nI 0) C.1 C.2.1 dX0_leastEmpty_0 (by decide +kernel) ?_
  refine lv_istore_n (lv' := [(2, _), (0, _), (1, _)]) C.1 C.2.1 dX0_leastEmpty_1 rfl hl (by decide) rfl (fun ls hl => ?_)
  have loop : ∀ (k j : Nat), j + k = 4 → ∀ (ls : Array Slot) (H : Heap) (locs : List Loc), lv_has ls 3 [(2, .int (nI j)), (0, .ref im), (1, .int (nI r))] → va_P D vwCl (ws) H → va_D (cm_A ws) (ws) → va_S (cm_A ws) s.heap H locs → W p l e (cm_rm 1 23) s m ([.ref im, .int (nI r)] : List Value).toArray below meth c H locs 0 0 (cm_Q below D [.ref im, .int (nI r)] s ws (some (.int (optI (scan (emP f r) (r * 4) j k)))) (ws)) (F0 m 2 ls []) := by
    intro k
    induction k with
    | zero =>
      intro j hj ls H locs hl hP hD hS
      refine lv_iload_n C.1 C.2.1 dX0_leastEmpty_2 rfl (lv_at hl 0 rfl) ?_
      refine lv_iconst (v := nI 4) C.1 C.2.1 dX0_leastEmpty_3 (by decide +kernel) ?_
      refine lv_icmp_ge (tgt := 33) C.1 C.2.1 dX0_leastEmpty_4 (by decide) (fun _ => ?_) (fun h => absurd (nI_le (by omega) (by omega)) h)
      refine lv_iconst (v := (-1)) C.1 C.2.1 dX0_leastEmpty_33 (by decide +kernel) ?_
      exact cm_iret C hP hD hS dX0_leastEmpty_34 rfl rfl
    | succ k ih =>
      intro j hj ls H locs hl hP hD hS
      refine lv_iload_n C.1 C.2.1 dX0_leastEmpty_2 rfl (lv_at hl 0 rfl) ?_
      refine lv_iconst (v := nI 4) C.1 C.2.1 dX0_leastEmpty_3 (by decide +kernel) ?_
      refine lv_icmp_ge (tgt := 33) C.1 C.2.1 dX0_leastEmpty_4 (by decide) (fun h => absurd h (nI_ge (by omega) (by decide))) (fun _ => ?_)
      refine lv_aload_n C.1 C.2.1 dX0_leastEmpty_7 rfl (lv_at hl 1 rfl) ?_
      refine va_get (ci := 0) (C := RX0) (T := TX0) (N := 1) C.1 C.2.1 C.2.2.2.2.2.1 ui_X0 C.2.2.2.2.1 C.2.2.2.2.2.2.2.1 hP qI (hI) rfl 0 (by decide) (C.2.2.2.2.2.1 _ tw_27) (fun _ h9 => h9) rfl dX0_leastEmpty_8 ?_
      refine lv_iload_n C.1 C.2.1 dX0_leastEmpty_11 rfl (lv_at hl 2 rfl) ?_
      refine lv_iload_n C.1 C.2.1 dX0_leastEmpty_12 rfl (lv_at hl 0 rfl) ?_
      refine lv_iconst (v := nI 3) C.1 C.2.1 dX0_leastEmpty_13 (by decide +kernel) ?_
      refine lv_imul C.1 C.2.1 dX0_leastEmpty_14 ?_
      rw [pk_mul]
      refine cm_cN1 (host := RX3) 3 C (c_cellAt l D cI cZ cJ _ hA (by decide) (r) (j * 3) (by omega)) tw_106 rfl rfl (C.2.2.2.2.2.2.2.2.1) tw_1 tw_105 (by decide +kernel) ⟨Nat.le_of_ble_eq_true rfl, Nat.le_of_ble_eq_true rfl⟩ ⟨Nat.zero_le _, Nat.zero_le _⟩ hP hD hS hl.1 rfl rfl (Nat.le_of_ble_eq_true rfl) dX0_leastEmpty_15 (fun H locs hP hD hS => ?_)
      refine lv_if_ne (tgt := 27) C.1 C.2.1 dX0_leastEmpty_18 (by decide) (fun h18 => ?_) (fun h18 => ?_)
      · refine lv_iinc (v := nI (j + 1)) (lv' := [(2, _), (0, _), (1, _)]) C.1 C.2.1 dX0_leastEmpty_27 hl (k := 0) rfl (nI_1 j) (by decide) rfl (fun ls hl => ?_)
        refine lv_goto (tgt := 2) C.1 C.2.1 dX0_leastEmpty_30 (by decide) ?_
        rw [show scan (emP f r) (r * 4) j (k + 1) = scan (emP f r) (r * 4) (j + 1) k from if_neg (by unfold emP; simp [h18])]
        exact ih (j + 1) (by omega) ls H locs hl hP hD hS
      · refine lv_iload_n C.1 C.2.1 dX0_leastEmpty_21 rfl (lv_at hl 2 rfl) ?_
        refine lv_iload_n C.1 C.2.1 dX0_leastEmpty_22 rfl (lv_at hl 0 rfl) ?_
        refine cm_cN1 (host := RX3) 2 C (c_placeOf l D cI cZ cJ _ r j) tw_134 rfl rfl (C.2.2.2.2.2.2.2.2.2.2.2.2.2.1) tw_1 tw_133 (by decide +kernel) ⟨Nat.le_of_ble_eq_true rfl, Nat.le_of_ble_eq_true rfl⟩ ⟨Nat.zero_le _, Nat.zero_le _⟩ hP hD hS hl.1 rfl rfl (Nat.le_of_ble_eq_true rfl) dX0_leastEmpty_23 (fun H locs hP hD hS => ?_)
        exact cm_iret C hP hD hS dX0_leastEmpty_26 (by rw [show scan (emP f r) (r * 4) j (k + 1) = some (r * 4 + j) from if_pos (by unfold emP; simp [h18])]; rfl) rfl
  exact loop 4 0 rfl ls H locs hl hP hD hS
set_option maxHeartbeats 4000000 in
set_option maxRecDepth 100000 in
/-- placeIn -/
theorem k_X0_placeIn (l : Launch) (D : va_G) (cI cZ cJ : ClassId) (ws : va_W) {qI qA im ad : Nat} {f : Nat → Int32} (hI : ws[qI]? = some (im, .inr (0, [.ref ad]))) (hA : ws[qA]? = some (ad, .inl (cI, 440, .inl f))) (r : Nat) (hr : r < 20) (key : Int32) : CM l D (cm_T cI cZ cJ) yX0_placeIn cX0_placeIn 5 (some .int) (cm_rm 1 23) [.ref im, .int (nI r), .int key] ws (some (.int (optI (scan (atP f r key) (r * 4) 0 4)))) (ws) := by
  refine CM.of (by decide) (Nat.le_of_ble_eq_true rfl) ?_
  intro p e s m below meth c ls H locs C hl hP hD hS
  refine lv_iconst (v := nI 0) C.1 C.2.1 dX0_placeIn_0 (by decide +kernel) ?_
  refine lv_istore_n (lv' := [(3, _), (0, _), (1, _), (2, _)]) C.1 C.2.1 dX0_placeIn_1 rfl hl (by decide) rfl (fun ls hl => ?_)
  have loop : ∀ (k j : Nat), j + k = 4 → ∀ (ls : Array Slot) (H : Heap) (locs : List Loc), lv_has ls 5 [(3, .int (nI j)), (0, .ref im), (1, .int (nI r)), (2, .int key)] → va_P D vwCl (ws) H → va_D (cm_A ws) (ws) → va_S (cm_A ws) s.heap H locs → W p l e (cm_rm 1 23) s m ([.ref im, .int (nI r), .int key] : List Value).toArray below meth c H locs 0 0 (cm_Q below D [.ref im, .int (nI r), .int key] s ws (some (.int (optI (scan (atP f r key) (r * 4) j k)))) (ws)) (F0 m 2 ls []) := by
    intro k
    induction k with
    | zero =>
      intro j hj ls H locs hl hP hD hS
      refine lv_iload_n C.1 C.2.1 dX0_placeIn_2 rfl (lv_at hl 0 rfl) ?_
      refine lv_iconst (v := nI 4) C.1 C.2.1 dX0_placeIn_3 (by decide +kernel) ?_
      refine lv_icmp_ge (tgt := 62) C.1 C.2.1 dX0_placeIn_4 (by decide) (fun _ => ?_) (fun h => absurd (nI_le (by omega) (by omega)) h)
      refine lv_iconst (v := (-1)) C.1 C.2.1 dX0_placeIn_62 (by decide +kernel) ?_
      exact cm_iret C hP hD hS dX0_placeIn_63 rfl rfl
    | succ k ih =>
      intro j hj ls H locs hl hP hD hS
      refine lv_iload_n C.1 C.2.1 dX0_placeIn_2 rfl (lv_at hl 0 rfl) ?_
      refine lv_iconst (v := nI 4) C.1 C.2.1 dX0_placeIn_3 (by decide +kernel) ?_
      refine lv_icmp_ge (tgt := 62) C.1 C.2.1 dX0_placeIn_4 (by decide) (fun h => absurd h (nI_ge (by omega) (by decide))) (fun _ => ?_)
      refine lv_aload_n C.1 C.2.1 dX0_placeIn_7 rfl (lv_at hl 1 rfl) ?_
      refine va_get (ci := 0) (C := RX0) (T := TX0) (N := 1) C.1 C.2.1 C.2.2.2.2.2.1 ui_X0 C.2.2.2.2.1 C.2.2.2.2.2.2.2.1 hP qI (hI) rfl 0 (by decide) (C.2.2.2.2.2.1 _ tw_27) (fun _ h9 => h9) rfl dX0_placeIn_8 ?_
      refine lv_iload_n C.1 C.2.1 dX0_placeIn_11 rfl (lv_at hl 2 rfl) ?_
      refine lv_iload_n C.1 C.2.1 dX0_placeIn_12 rfl (lv_at hl 0 rfl) ?_
      refine lv_iconst (v := nI 3) C.1 C.2.1 dX0_placeIn_13 (by decide +kernel) ?_
      refine lv_imul C.1 C.2.1 dX0_placeIn_14 ?_
      rw [pk_mul]
      refine cm_cN1 (host := RX3) 3 C (c_cellAt l D cI cZ cJ _ hA (by decide) (r) (j * 3) (by omega)) tw_106 rfl rfl (C.2.2.2.2.2.2.2.2.1) tw_1 tw_105 (by decide +kernel) ⟨Nat.le_of_ble_eq_true rfl, Nat.le_of_ble_eq_true rfl⟩ ⟨Nat.zero_le _, Nat.zero_le _⟩ hP hD hS hl.1 rfl rfl (Nat.le_of_ble_eq_true rfl) dX0_placeIn_15 (fun H locs hP hD hS => ?_)
      refine lv_if_eq (tgt := 25) C.1 C.2.1 dX0_placeIn_18 (by decide) (fun h18 => ?_) (fun h18 => ?_)
      · refine lv_iconst (v := nI 0) C.1 C.2.1 dX0_placeIn_25 (by decide +kernel) ?_
        refine lv_istore (lv' := [(4, _), (3, _), (0, _), (1, _), (2, _)]) C.1 C.2.1 dX0_placeIn_26 hl (by decide) rfl (fun ls hl => ?_)
        refine lv_iload C.1 C.2.1 dX0_placeIn_28 (lv_at hl 0 rfl) ?_
        refine lv_if_eq (tgt := 56) C.1 C.2.1 dX0_placeIn_30 (by decide) (fun _ => ?_) (fun h => absurd (by decide) h)
        refine lv_iinc (v := nI (j + 1)) (lv' := [(3, _), (4, _), (0, _), (1, _), (2, _)]) C.1 C.2.1 dX0_placeIn_56 hl (k := 1) rfl (nI_1 j) (by decide) rfl (fun ls hl => ?_)
        refine lv_goto (tgt := 2) C.1 C.2.1 dX0_placeIn_59 (by decide) ?_
        rw [show scan (atP f r key) (r * 4) j (k + 1) = scan (atP f r key) (r * 4) (j + 1) k from if_neg (by unfold atP; simp [h18])]
        exact ih (j + 1) (by omega) ls H locs (lv_sub hl [0, 2, 3, 4] rfl) hP hD hS
      · refine lv_iconst (v := nI 1) C.1 C.2.1 dX0_placeIn_21 (by decide +kernel) ?_
        refine lv_goto (tgt := 26) C.1 C.2.1 dX0_placeIn_22 (by decide) ?_
        refine lv_istore (lv' := [(4, _), (3, _), (0, _), (1, _), (2, _)]) C.1 C.2.1 dX0_placeIn_26 hl (by decide) rfl (fun ls hl => ?_)
        refine lv_iload C.1 C.2.1 dX0_placeIn_28 (lv_at hl 0 rfl) ?_
        refine lv_if_eq (tgt := 56) C.1 C.2.1 dX0_placeIn_30 (by decide) (fun h => absurd h (by decide)) (fun _ => ?_)
        refine lv_aload_n C.1 C.2.1 dX0_placeIn_33 rfl (lv_at hl 2 rfl) ?_
        refine va_get (ci := 0) (C := RX0) (T := TX0) (N := 1) C.1 C.2.1 C.2.2.2.2.2.1 ui_X0 C.2.2.2.2.1 C.2.2.2.2.2.2.2.1 hP qI (hI) rfl 0 (by decide) (C.2.2.2.2.2.1 _ tw_27) (fun _ h9 => h9) rfl dX0_placeIn_34 ?_
        refine lv_iload_n C.1 C.2.1 dX0_placeIn_37 rfl (lv_at hl 3 rfl) ?_
        refine lv_iload_n C.1 C.2.1 dX0_placeIn_38 rfl (lv_at hl 1 rfl) ?_
        refine lv_iconst (v := nI 3) C.1 C.2.1 dX0_placeIn_39 (by decide +kernel) ?_
        refine lv_imul C.1 C.2.1 dX0_placeIn_40 ?_
        rw [pk_mul]
        refine lv_iconst (v := nI 1) C.1 C.2.1 dX0_placeIn_41 (by decide +kernel) ?_
        refine lv_iadd C.1 C.2.1 dX0_placeIn_42 ?_
        rw [nI_add]
        refine cm_cN1 (host := RX3) 3 C (c_cellAt l D cI cZ cJ _ hA (by decide) (r) (j * 3 + 1) (by omega)) tw_106 rfl rfl (C.2.2.2.2.2.2.2.2.1) tw_1 tw_105 (by decide +kernel) ⟨Nat.le_of_ble_eq_true rfl, Nat.le_of_ble_eq_true rfl⟩ ⟨Nat.zero_le _, Nat.zero_le _⟩ hP hD hS hl.1 rfl rfl (Nat.le_of_ble_eq_true rfl) dX0_placeIn_43 (fun H locs hP hD hS => ?_)
        refine lv_iload_n C.1 C.2.1 dX0_placeIn_46 rfl (lv_at hl 4 rfl) ?_
        refine lv_icmp_ne (tgt := 56) C.1 C.2.1 dX0_placeIn_47 (by decide) (fun h47 => ?_) (fun h47 => ?_)
        · refine lv_iinc (v := nI (j + 1)) (lv' := [(3, _), (4, _), (0, _), (1, _), (2, _)]) C.1 C.2.1 dX0_placeIn_56 hl (k := 1) rfl (nI_1 j) (by decide) rfl (fun ls hl => ?_)
          refine lv_goto (tgt := 2) C.1 C.2.1 dX0_placeIn_59 (by decide) ?_
          rw [show scan (atP f r key) (r * 4) j (k + 1) = scan (atP f r key) (r * 4) (j + 1) k from if_neg (by unfold atP; simp [h18, h47])]
          exact ih (j + 1) (by omega) ls H locs (lv_sub hl [0, 2, 3, 4] rfl) hP hD hS
        · refine lv_iload_n C.1 C.2.1 dX0_placeIn_50 rfl (lv_at hl 3 rfl) ?_
          refine lv_iload_n C.1 C.2.1 dX0_placeIn_51 rfl (lv_at hl 1 rfl) ?_
          refine cm_cN1 (host := RX3) 2 C (c_placeOf l D cI cZ cJ _ r j) tw_134 rfl rfl (C.2.2.2.2.2.2.2.2.2.2.2.2.2.1) tw_1 tw_133 (by decide +kernel) ⟨Nat.le_of_ble_eq_true rfl, Nat.le_of_ble_eq_true rfl⟩ ⟨Nat.zero_le _, Nat.zero_le _⟩ hP hD hS hl.1 rfl rfl (Nat.le_of_ble_eq_true rfl) dX0_placeIn_52 (fun H locs hP hD hS => ?_)
          exact cm_iret C hP hD hS dX0_placeIn_55 (by rw [show scan (atP f r key) (r * 4) j (k + 1) = some (r * 4 + j) from if_pos (by unfold atP; simp [h18, h47])]; rfl) rfl
  exact loop 4 0 rfl ls H locs hl hP hD hS
end
section
/-! ===== Image's loops, Moves, Waiting ===== -/
/-- all before j is 0 -/
def zeroTo (f : Nat → Int32) (j : Nat) : Nat → Int32 := fun i => if i < j then nI 0 else f i
theorem zeroTo_0 (f : Nat → Int32) : zeroTo f 0 = f := by funext i; simp [zeroTo]
theorem zeroTo_s (f : Nat → Int32) (j : Nat) : upd (zeroTo f j) j (nI 0) = zeroTo f (j + 1) := by
  funext i
  by_cases h : i = j
  · subst h; simp [upd, zeroTo]
  · by_cases h2 : i < j
    · simp [upd, zeroTo, h, h2, Nat.lt_succ_of_lt h2]
    · have : ¬ i < j + 1 := by omega
      simp [upd, zeroTo, h, h2, this]
/-- the moves that a row tells: how many, and of each its SLOT, KEY and VALUE -/
def mP (fm : Nat → Int32) (j : Nat) : Nat := (fm (1 + j * 3)).toNatClampNeg
def mOk (fm : Nat → Int32) (t : Nat) : Prop := t ≤ 7 ∧ fm 0 = nI t ∧ ∀ j, j < t → fm (1 + j * 3) = nI (mP fm j) ∧ mP fm j < 72
def fillN (fm : Nat → Int32) : Nat → Nat → (Nat → Int32) → (Nat → Int32)
  | _, 0, f => f
  | j, k + 1, f => fillN fm (j + 1) k (fillC f (mP fm j) (fm (2 + j * 3)) (fm (3 + j * 3)))
def saysP (fm : Nat → Int32) (x : Int32) (j : Nat) : Bool := decide (fm (1 + j * 3) = x)
/-- the WRITES from j on, k of them, done upon g -/
def doN (fr fw : Nat → Int32) : Nat → Nat → (Nat → Int32) → (Nat → Int32)
  | _, 0, g => g
  | j, k + 1, g => doN fr fw (j + 1) k (va_cpy fw g (j * 22) ((fr j).toNatClampNeg * 22) 22)
def addM (fm : Nat → Int32) (t : Nat) (a k v : Int32) : Nat → Int32 := upd (upd (upd (upd fm (1 + t * 3) a) (2 + t * 3) k) (3 + t * 3) v) 0 (nI (t + 1))
set_option maxHeartbeats 4000000 in
set_option maxRecDepth 100000 in
/-- keysIn -/
theorem k_X0_keysIn (l : Launch) (D : va_G) (cI cZ cJ : ClassId) (ws : va_W) {qI qA im ad : Nat} {f : Nat → Int32} (hI : ws[qI]? = some (im, .inr (0, [.ref ad]))) (hA : ws[qA]? = some (ad, .inl (cI, 440, .inl f))) (r : Nat) (hr : r < 20) : CM l D (cm_T cI cZ cJ) yX0_keysIn cX0_keysIn 4 (some .int) (cm_rm 1 23) [.ref im, .int (nI r)] ws (some (.int (nI (cnt (fun i => !emP f r i) 0 4)))) (ws) := by
  refine CM.of (by decide) (Nat.le_of_ble_eq_true rfl) ?_
  intro p e s m below meth c ls H locs C hl hP hD hS
  refine lv_iconst (v := nI 0) C.1 C.2.1 dX0_keysIn_0 (by decide +kernel) ?_
  refine lv_istore_n (lv' := [(2, _), (0, _), (1, _)]) C.1 C.2.1 dX0_keysIn_1 rfl hl (by decide) rfl (fun ls hl => ?_)
  refine lv_iconst (v := nI 0) C.1 C.2.1 dX0_keysIn_2 (by decide +kernel) ?_
  refine lv_istore_n (lv' := [(3, _), (2, _), (0, _), (1, _)]) C.1 C.2.1 dX0_keysIn_3 rfl hl (by decide) rfl (fun ls hl => ?_)
  have loop : ∀ (k j : Nat) (n : Nat), j + k = 4 → ∀ (ls : Array Slot) (H : Heap) (locs : List Loc), lv_has ls 4 [(3, .int (nI j)), (2, .int (nI n)), (0, .ref im), (1, .int (nI r))] → va_P D vwCl (ws) H → va_D (cm_A ws) (ws) → va_S (cm_A ws) s.heap H locs → W p l e (cm_rm 1 23) s m ([.ref im, .int (nI r)] : List Value).toArray below meth c H locs 0 0 (cm_Q below D [.ref im, .int (nI r)] s ws (some (.int (nI (n + cnt (fun i => !emP f r i) j k)))) (ws)) (F0 m 4 ls []) := by
    intro k
    induction k with
    | zero =>
      intro j n hj ls H locs hl hP hD hS
      refine lv_iload_n C.1 C.2.1 dX0_keysIn_4 rfl (lv_at hl 0 rfl) ?_
      refine lv_iconst (v := nI 4) C.1 C.2.1 dX0_keysIn_5 (by decide +kernel) ?_
      refine lv_icmp_ge (tgt := 32) C.1 C.2.1 dX0_keysIn_6 (by decide) (fun _ => ?_) (fun h => absurd (nI_le (by omega) (by omega)) h)
      refine lv_iload_n C.1 C.2.1 dX0_keysIn_32 rfl (lv_at hl 1 rfl) ?_
      exact cm_iret C hP hD hS dX0_keysIn_33 rfl rfl
    | succ k ih =>
      intro j n hj ls H locs hl hP hD hS
      refine lv_iload_n C.1 C.2.1 dX0_keysIn_4 rfl (lv_at hl 0 rfl) ?_
      refine lv_iconst (v := nI 4) C.1 C.2.1 dX0_keysIn_5 (by decide +kernel) ?_
      refine lv_icmp_ge (tgt := 32) C.1 C.2.1 dX0_keysIn_6 (by decide) (fun h => absurd h (nI_ge (by omega) (by decide))) (fun _ => ?_)
      refine lv_aload_n C.1 C.2.1 dX0_keysIn_9 rfl (lv_at hl 2 rfl) ?_
      refine va_get (ci := 0) (C := RX0) (T := TX0) (N := 1) C.1 C.2.1 C.2.2.2.2.2.1 ui_X0 C.2.2.2.2.1 C.2.2.2.2.2.2.2.1 hP qI (hI) rfl 0 (by decide) (C.2.2.2.2.2.1 _ tw_27) (fun _ h9 => h9) rfl dX0_keysIn_10 ?_
      refine lv_iload_n C.1 C.2.1 dX0_keysIn_13 rfl (lv_at hl 3 rfl) ?_
      refine lv_iload_n C.1 C.2.1 dX0_keysIn_14 rfl (lv_at hl 0 rfl) ?_
      refine lv_iconst (v := nI 3) C.1 C.2.1 dX0_keysIn_15 (by decide +kernel) ?_
      refine lv_imul C.1 C.2.1 dX0_keysIn_16 ?_
      rw [pk_mul]
      refine cm_cN1 (host := RX3) 3 C (c_cellAt l D cI cZ cJ _ hA (by decide) (r) (j * 3) (by omega)) tw_106 rfl rfl (C.2.2.2.2.2.2.2.2.1) tw_1 tw_105 (by decide +kernel) ⟨Nat.le_of_ble_eq_true rfl, Nat.le_of_ble_eq_true rfl⟩ ⟨Nat.zero_le _, Nat.zero_le _⟩ hP hD hS hl.1 rfl rfl (Nat.le_of_ble_eq_true rfl) dX0_keysIn_17 (fun H locs hP hD hS => ?_)
      refine lv_if_eq (tgt := 26) C.1 C.2.1 dX0_keysIn_20 (by decide) (fun h20 => ?_) (fun h20 => ?_)
      · refine lv_iinc (v := nI (j + 1)) (lv' := [(3, _), (2, _), (0, _), (1, _)]) C.1 C.2.1 dX0_keysIn_26 hl (k := 0) rfl (nI_1 j) (by decide) rfl (fun ls hl => ?_)
        refine lv_goto (tgt := 4) C.1 C.2.1 dX0_keysIn_29 (by decide) ?_
        rw [show n + cnt (fun i => !emP f r i) j (k + 1) = n + cnt (fun i => !emP f r i) (j + 1) k by simp [cnt, emP, h20]]
        exact ih (j + 1) n (by omega) ls H locs hl hP hD hS
      · refine lv_iinc (v := nI (n + 1)) (lv' := [(2, _), (3, _), (0, _), (1, _)]) C.1 C.2.1 dX0_keysIn_23 hl (k := 1) rfl (nI_1 n) (by decide) rfl (fun ls hl => ?_)
        refine lv_iinc (v := nI (j + 1)) (lv' := [(3, _), (2, _), (0, _), (1, _)]) C.1 C.2.1 dX0_keysIn_26 hl (k := 1) rfl (nI_1 j) (by decide) rfl (fun ls hl => ?_)
        refine lv_goto (tgt := 4) C.1 C.2.1 dX0_keysIn_29 (by decide) ?_
        rw [show n + cnt (fun i => !emP f r i) j (k + 1) = (n + 1) + cnt (fun i => !emP f r i) (j + 1) k by simp [cnt, emP, h20]; omega]
        exact ih (j + 1) (n + 1) (by omega) ls H locs hl hP hD hS
  have h := loop 4 0 0 rfl ls H locs hl hP hD hS
  rw [Nat.zero_add] at h
  exact h
set_option maxHeartbeats 4000000 in
set_option maxRecDepth 100000 in
/-- emptyAll -/
theorem k_X0_emptyAll (l : Launch) (D : va_G) (cI cZ cJ : ClassId) (ws : va_W) {qI qA im ad : Nat} {f : Nat → Int32} (hI : ws[qI]? = some (im, .inr (0, [.ref ad]))) (hA : ws[qA]? = some (ad, .inl (cI, 440, .inl f))) (hq : qI ≠ qA) : CM l D (cm_T cI cZ cJ) yX0_emptyAll cX0_emptyAll 2 none (cm_rm 0 0) [.ref im] ws none (ws.set qA (ad, .inl (cI, 440, .inl (zeroTo f 440)))) := by
  refine CM.of (by decide) (Nat.le_of_ble_eq_true rfl) ?_
  intro p e s m below meth c ls H locs C hl hP hD hS
  refine lv_iconst (v := nI 0) C.1 C.2.1 dX0_emptyAll_0 (by decide +kernel) ?_
  refine lv_istore_n (lv' := [(1, _), (0, _)]) C.1 C.2.1 dX0_emptyAll_1 rfl hl (by decide) rfl (fun ls hl => ?_)
  have loop : ∀ (k j : Nat), j + k = 440 → ∀ (ls : Array Slot) (H : Heap) (locs : List Loc), lv_has ls 2 [(1, .int (nI j)), (0, .ref im)] → va_P D vwCl (ws.set qA (ad, .inl (cI, 440, .inl (zeroTo f j)))) H → va_D (cm_A ws) (ws.set qA (ad, .inl (cI, 440, .inl (zeroTo f j)))) → va_S (cm_A ws) s.heap H locs → W p l e (cm_rm 0 0) s m ([.ref im] : List Value).toArray below meth c H locs 0 0 (cm_Q below D [.ref im] s ws none (ws.set qA (ad, .inl (cI, 440, .inl (zeroTo f 440))))) (F0 m 2 ls []) := by
    intro k
    induction k with
    | zero =>
      intro j hj ls H locs hl hP hD hS
      refine lv_iload_n C.1 C.2.1 dX0_emptyAll_2 rfl (lv_at hl 0 rfl) ?_
      refine lv_aload_n C.1 C.2.1 dX0_emptyAll_3 rfl (lv_at hl 1 rfl) ?_
      refine va_get (ci := 0) (C := RX0) (T := TX0) (N := 1) C.1 C.2.1 C.2.2.2.2.2.1 ui_X0 C.2.2.2.2.1 C.2.2.2.2.2.2.2.1 hP qI (ws_ne hq hI) rfl 0 (by decide) (C.2.2.2.2.2.1 _ tw_27) (fun _ h9 => h9) rfl dX0_emptyAll_4 ?_
      refine va_alen C.1 C.2.1 C.2.2.2.2.2.2.2.1 hP qA 0 (ws_self hA) rfl (v := nI 440) rfl dX0_emptyAll_7 ?_
      refine lv_icmp_ge (tgt := 24) C.1 C.2.1 dX0_emptyAll_8 (by decide) (fun _ => ?_) (fun h => absurd (nI_le (by omega) (by omega)) h)
      obtain rfl : j = 440 := by omega
      exact cm_vret C hP hD hS dX0_emptyAll_24 rfl
    | succ k ih =>
      intro j hj ls H locs hl hP hD hS
      refine lv_iload_n C.1 C.2.1 dX0_emptyAll_2 rfl (lv_at hl 0 rfl) ?_
      refine lv_aload_n C.1 C.2.1 dX0_emptyAll_3 rfl (lv_at hl 1 rfl) ?_
      refine va_get (ci := 0) (C := RX0) (T := TX0) (N := 1) C.1 C.2.1 C.2.2.2.2.2.1 ui_X0 C.2.2.2.2.1 C.2.2.2.2.2.2.2.1 hP qI (ws_ne hq hI) rfl 0 (by decide) (C.2.2.2.2.2.1 _ tw_27) (fun _ h9 => h9) rfl dX0_emptyAll_4 ?_
      refine va_alen C.1 C.2.1 C.2.2.2.2.2.2.2.1 hP qA 0 (ws_self hA) rfl (v := nI 440) rfl dX0_emptyAll_7 ?_
      refine lv_icmp_ge (tgt := 24) C.1 C.2.1 dX0_emptyAll_8 (by decide) (fun h => absurd h (nI_ge (by omega) (by decide))) (fun _ => ?_)
      refine lv_aload_n C.1 C.2.1 dX0_emptyAll_11 rfl (lv_at hl 1 rfl) ?_
      refine va_get (ci := 0) (C := RX0) (T := TX0) (N := 1) C.1 C.2.1 C.2.2.2.2.2.1 ui_X0 C.2.2.2.2.1 C.2.2.2.2.2.2.2.1 hP qI (ws_ne hq hI) rfl 0 (by decide) (C.2.2.2.2.2.1 _ tw_27) (fun _ h9 => h9) rfl dX0_emptyAll_12 ?_
      refine lv_iload_n C.1 C.2.1 dX0_emptyAll_15 rfl (lv_at hl 0 rfl) ?_
      refine lv_iconst (v := nI 0) C.1 C.2.1 dX0_emptyAll_16 (by decide +kernel) ?_
      refine va_iast C.1 C.2.1 C.2.2.2.2.2.2.2.1 hP hD hS qA 0 (ws_self hA) rfl (vp_in_nI (by omega) (by decide)) dX0_emptyAll_17 (fun H locs hP hD hS => ?_)
      refine lv_iinc (v := nI (j + 1)) (lv' := [(1, _), (0, _)]) C.1 C.2.1 dX0_emptyAll_18 hl (k := 0) rfl (nI_1 j) (by decide) rfl (fun ls hl => ?_)
      refine lv_goto (tgt := 2) C.1 C.2.1 dX0_emptyAll_21 (by decide) ?_
      rw [List.set_set, nI_clamp (by omega), zeroTo_s] at hP hD
      exact ih (j + 1) (by omega) ls H locs hl hP hD hS
  have hs : ws.set qA (ad, .inl (cI, 440, .inl (zeroTo f 0))) = ws := by rw [zeroTo_0]; exact ws_id hA
  exact loop 440 0 rfl ls H locs hl (by rw [hs]; exact hP) (by rw [hs]; exact hD) hS
set_option maxHeartbeats 4000000 in
set_option maxRecDepth 100000 in
/-- size -/
theorem k_X1_size (l : Launch) (D : va_G) (cI cZ cJ : ClassId) (ws : va_W) {qM qN mv an : Nat} {fm : Nat → Int32} (hM : ws[qM]? = some (mv, .inr (1, [.ref an]))) (hN : ws[qN]? = some (an, .inl (cI, 22, .inl fm))) : CM l D (cm_T cI cZ cJ) yX1_size cX1_size 1 (some .int) (cm_rm 1 23) [.ref mv] ws (some (.int (fm 0))) (ws) := by
  refine CM.of (by decide) (Nat.le_of_ble_eq_true rfl) ?_
  intro p e s m below meth c ls H locs C hl hP hD hS
  refine lv_aload_n C.1 C.2.1 dX1_size_0 rfl (lv_at hl 0 rfl) ?_
  refine va_get (ci := 1) (C := RX1) (T := TX1) (N := 1) C.1 C.2.1 C.2.2.2.2.2.1 ui_X1 C.2.2.2.2.1 C.2.2.2.2.2.2.2.1 hP qM (hM) rfl 0 (by decide) (C.2.2.2.2.2.1 _ tw_56) (fun _ h9 => h9) rfl dX1_size_1 ?_
  refine lv_iconst (v := nI 0) C.1 C.2.1 dX1_size_4 (by decide +kernel) ?_
  refine lv_iconst (v := nI 0) C.1 C.2.1 dX1_size_5 (by decide +kernel) ?_
  refine cm_cN1 (host := RX3) 3 C (c_cellAt l D cI cZ cJ _ hN (by decide) (0) (0) (by decide)) tw_106 rfl rfl (C.2.2.2.2.2.2.2.2.2.2.2.2.2.2.1) tw_1 tw_105 (by decide +kernel) ⟨Nat.le_of_ble_eq_true rfl, Nat.le_of_ble_eq_true rfl⟩ ⟨Nat.zero_le _, Nat.zero_le _⟩ hP hD hS hl.1 rfl rfl (Nat.le_of_ble_eq_true rfl) dX1_size_6 (fun H locs hP hD hS => ?_)
  exact cm_iret C hP hD hS dX1_size_9 (rfl) (rfl)
set_option maxHeartbeats 4000000 in
set_option maxRecDepth 100000 in
/-- X1_placeAt -/
theorem k_X1_placeAt (l : Launch) (D : va_G) (cI cZ cJ : ClassId) (ws : va_W) {qM qN mv an : Nat} {fm : Nat → Int32} (hM : ws[qM]? = some (mv, .inr (1, [.ref an]))) (hN : ws[qN]? = some (an, .inl (cI, 22, .inl fm))) (t : Nat) (ht : t < 7) : CM l D (cm_T cI cZ cJ) yX1_placeAt cX1_placeAt 2 (some .int) (cm_rm 1 23) [.ref mv, .int (nI t)] ws (some (.int (fm (1 + t * 3)))) (ws) := by
  refine CM.of (by decide) (Nat.le_of_ble_eq_true rfl) ?_
  intro p e s m below meth c ls H locs C hl hP hD hS
  refine lv_aload_n C.1 C.2.1 dX1_placeAt_0 rfl (lv_at hl 0 rfl) ?_
  refine va_get (ci := 1) (C := RX1) (T := TX1) (N := 1) C.1 C.2.1 C.2.2.2.2.2.1 ui_X1 C.2.2.2.2.1 C.2.2.2.2.2.2.2.1 hP qM (hM) rfl 0 (by decide) (C.2.2.2.2.2.1 _ tw_56) (fun _ h9 => h9) rfl dX1_placeAt_1 ?_
  refine lv_iconst (v := nI 0) C.1 C.2.1 dX1_placeAt_4 (by decide +kernel) ?_
  refine lv_iconst (v := nI 1) C.1 C.2.1 dX1_placeAt_5 (by decide +kernel) ?_
  refine lv_iload_n C.1 C.2.1 dX1_placeAt_6 rfl (lv_at hl 1 rfl) ?_
  refine lv_iconst (v := nI 3) C.1 C.2.1 dX1_placeAt_7 (by decide +kernel) ?_
  refine lv_imul C.1 C.2.1 dX1_placeAt_8 ?_
  rw [pk_mul]
  refine lv_iadd C.1 C.2.1 dX1_placeAt_9 ?_
  rw [nI_add]
  refine cm_cN1 (host := RX3) 3 C (c_cellAt l D cI cZ cJ _ hN (by decide) (0) (1 + t * 3) (by omega)) tw_106 rfl rfl (C.2.2.2.2.2.2.2.2.2.2.2.2.2.2.1) tw_1 tw_105 (by decide +kernel) ⟨Nat.le_of_ble_eq_true rfl, Nat.le_of_ble_eq_true rfl⟩ ⟨Nat.zero_le _, Nat.zero_le _⟩ hP hD hS hl.1 rfl rfl (Nat.le_of_ble_eq_true rfl) dX1_placeAt_10 (fun H locs hP hD hS => ?_)
  exact cm_iret C hP hD hS dX1_placeAt_13 (by rw [Nat.zero_mul, Nat.zero_add]) (rfl)
set_option maxHeartbeats 4000000 in
set_option maxRecDepth 100000 in
/-- X1_keyAt -/
theorem k_X1_keyAt (l : Launch) (D : va_G) (cI cZ cJ : ClassId) (ws : va_W) {qM qN mv an : Nat} {fm : Nat → Int32} (hM : ws[qM]? = some (mv, .inr (1, [.ref an]))) (hN : ws[qN]? = some (an, .inl (cI, 22, .inl fm))) (t : Nat) (ht : t < 7) : CM l D (cm_T cI cZ cJ) yX1_keyAt cX1_keyAt 2 (some .int) (cm_rm 1 23) [.ref mv, .int (nI t)] ws (some (.int (fm (2 + t * 3)))) (ws) := by
  refine CM.of (by decide) (Nat.le_of_ble_eq_true rfl) ?_
  intro p e s m below meth c ls H locs C hl hP hD hS
  refine lv_aload_n C.1 C.2.1 dX1_keyAt_0 rfl (lv_at hl 0 rfl) ?_
  refine va_get (ci := 1) (C := RX1) (T := TX1) (N := 1) C.1 C.2.1 C.2.2.2.2.2.1 ui_X1 C.2.2.2.2.1 C.2.2.2.2.2.2.2.1 hP qM (hM) rfl 0 (by decide) (C.2.2.2.2.2.1 _ tw_56) (fun _ h9 => h9) rfl dX1_keyAt_1 ?_
  refine lv_iconst (v := nI 0) C.1 C.2.1 dX1_keyAt_4 (by decide +kernel) ?_
  refine lv_iconst (v := nI 2) C.1 C.2.1 dX1_keyAt_5 (by decide +kernel) ?_
  refine lv_iload_n C.1 C.2.1 dX1_keyAt_6 rfl (lv_at hl 1 rfl) ?_
  refine lv_iconst (v := nI 3) C.1 C.2.1 dX1_keyAt_7 (by decide +kernel) ?_
  refine lv_imul C.1 C.2.1 dX1_keyAt_8 ?_
  rw [pk_mul]
  refine lv_iadd C.1 C.2.1 dX1_keyAt_9 ?_
  rw [nI_add]
  refine cm_cN1 (host := RX3) 3 C (c_cellAt l D cI cZ cJ _ hN (by decide) (0) (2 + t * 3) (by omega)) tw_106 rfl rfl (C.2.2.2.2.2.2.2.2.2.2.2.2.2.2.1) tw_1 tw_105 (by decide +kernel) ⟨Nat.le_of_ble_eq_true rfl, Nat.le_of_ble_eq_true rfl⟩ ⟨Nat.zero_le _, Nat.zero_le _⟩ hP hD hS hl.1 rfl rfl (Nat.le_of_ble_eq_true rfl) dX1_keyAt_10 (fun H locs hP hD hS => ?_)
  exact cm_iret C hP hD hS dX1_keyAt_13 (by rw [Nat.zero_mul, Nat.zero_add]) (rfl)
set_option maxHeartbeats 4000000 in
set_option maxRecDepth 100000 in
/-- X1_valueAt -/
theorem k_X1_valueAt (l : Launch) (D : va_G) (cI cZ cJ : ClassId) (ws : va_W) {qM qN mv an : Nat} {fm : Nat → Int32} (hM : ws[qM]? = some (mv, .inr (1, [.ref an]))) (hN : ws[qN]? = some (an, .inl (cI, 22, .inl fm))) (t : Nat) (ht : t < 7) : CM l D (cm_T cI cZ cJ) yX1_valueAt cX1_valueAt 2 (some .int) (cm_rm 1 23) [.ref mv, .int (nI t)] ws (some (.int (fm (3 + t * 3)))) (ws) := by
  refine CM.of (by decide) (Nat.le_of_ble_eq_true rfl) ?_
  intro p e s m below meth c ls H locs C hl hP hD hS
  refine lv_aload_n C.1 C.2.1 dX1_valueAt_0 rfl (lv_at hl 0 rfl) ?_
  refine va_get (ci := 1) (C := RX1) (T := TX1) (N := 1) C.1 C.2.1 C.2.2.2.2.2.1 ui_X1 C.2.2.2.2.1 C.2.2.2.2.2.2.2.1 hP qM (hM) rfl 0 (by decide) (C.2.2.2.2.2.1 _ tw_56) (fun _ h9 => h9) rfl dX1_valueAt_1 ?_
  refine lv_iconst (v := nI 0) C.1 C.2.1 dX1_valueAt_4 (by decide +kernel) ?_
  refine lv_iconst (v := nI 3) C.1 C.2.1 dX1_valueAt_5 (by decide +kernel) ?_
  refine lv_iload_n C.1 C.2.1 dX1_valueAt_6 rfl (lv_at hl 1 rfl) ?_
  refine lv_iconst (v := nI 3) C.1 C.2.1 dX1_valueAt_7 (by decide +kernel) ?_
  refine lv_imul C.1 C.2.1 dX1_valueAt_8 ?_
  rw [pk_mul]
  refine lv_iadd C.1 C.2.1 dX1_valueAt_9 ?_
  rw [nI_add]
  refine cm_cN1 (host := RX3) 3 C (c_cellAt l D cI cZ cJ _ hN (by decide) (0) (3 + t * 3) (by omega)) tw_106 rfl rfl (C.2.2.2.2.2.2.2.2.2.2.2.2.2.2.1) tw_1 tw_105 (by decide +kernel) ⟨Nat.le_of_ble_eq_true rfl, Nat.le_of_ble_eq_true rfl⟩ ⟨Nat.zero_le _, Nat.zero_le _⟩ hP hD hS hl.1 rfl rfl (Nat.le_of_ble_eq_true rfl) dX1_valueAt_10 (fun H locs hP hD hS => ?_)
  exact cm_iret C hP hD hS dX1_valueAt_13 (by rw [Nat.zero_mul, Nat.zero_add]) (rfl)
set_option maxHeartbeats 4000000 in
set_option maxRecDepth 100000 in
/-- tellNothing -/
theorem k_X1_tellNothing (l : Launch) (D : va_G) (cI cZ cJ : ClassId) (ws : va_W) {qM qN mv an : Nat} {fm : Nat → Int32} (hM : ws[qM]? = some (mv, .inr (1, [.ref an]))) (hN : ws[qN]? = some (an, .inl (cI, 22, .inl fm))) : CM l D (cm_T cI cZ cJ) yX1_tellNothing cX1_tellNothing 1 none (cm_rm 1 24) [.ref mv] ws none (ws.set qN (an, .inl (cI, 22, .inl (upd fm 0 (nI 0))))) := by
  refine CM.of (by decide) (Nat.le_of_ble_eq_true rfl) ?_
  intro p e s m below meth c ls H locs C hl hP hD hS
  refine lv_aload_n C.1 C.2.1 dX1_tellNothing_0 rfl (lv_at hl 0 rfl) ?_
  refine va_get (ci := 1) (C := RX1) (T := TX1) (N := 1) C.1 C.2.1 C.2.2.2.2.2.1 ui_X1 C.2.2.2.2.1 C.2.2.2.2.2.2.2.1 hP qM (hM) rfl 0 (by decide) (C.2.2.2.2.2.1 _ tw_56) (fun _ h9 => h9) rfl dX1_tellNothing_1 ?_
  refine lv_iconst (v := nI 0) C.1 C.2.1 dX1_tellNothing_4 (by decide +kernel) ?_
  refine lv_iconst (v := nI 0) C.1 C.2.1 dX1_tellNothing_5 (by decide +kernel) ?_
  refine lv_iconst (v := nI 0) C.1 C.2.1 dX1_tellNothing_6 (by decide +kernel) ?_
  refine cm_cN0 (host := RX3) 4 C (c_tellCell l D cI cZ cJ _ hN (by decide) (0) (0) (nI 0) (by decide)) tw_145 rfl rfl (C.2.2.2.2.2.2.2.2.2.2.2.2.2.2.2.1) tw_1 tw_144 (by decide +kernel) ⟨Nat.le_of_ble_eq_true rfl, Nat.le_of_ble_eq_true rfl⟩ ⟨Nat.zero_le _, Nat.zero_le _⟩ hP hD hS hl.1 rfl rfl (Nat.le_of_ble_eq_true rfl) dX1_tellNothing_7 (fun H locs hP hD hS => ?_)
  exact cm_vret C hP hD hS dX1_tellNothing_10 (rfl)
set_option maxHeartbeats 4000000 in
set_option maxRecDepth 100000 in
/-- add -/
theorem k_X1_add (l : Launch) (D : va_G) (cI cZ cJ : ClassId) (ws : va_W) {qM qN mv an : Nat} {fm : Nat → Int32} (hM : ws[qM]? = some (mv, .inr (1, [.ref an]))) (hN : ws[qN]? = some (an, .inl (cI, 22, .inl fm))) (hqm : qM ≠ qN) (t : Nat) (ht : t < 7) (h0 : fm 0 = nI t) (a k v : Int32) : CM l D (cm_T cI cZ cJ) yX1_add cX1_add 5 none (cm_rm 2 43) [.ref mv, .int a, .int k, .int v] ws none (ws.set qN (an, .inl (cI, 22, .inl (addM fm t a k v)))) := by
  refine CM.of (by decide) (Nat.le_of_ble_eq_true rfl) ?_
  intro p e s m below meth c ls H locs C hl hP hD hS
  refine lv_aload_n C.1 C.2.1 dX1_add_0 rfl (lv_at hl 0 rfl) ?_
  refine cm_cV1 (q0 := qM) 0 C (k_X1_size l D cI cZ cJ _ hM hN) tw_150 tw_151 tw_152 tw_4 tw_153 rfl rfl (hM) rfl (by decide +kernel) ⟨Nat.le_of_ble_eq_true rfl, Nat.le_of_ble_eq_true rfl⟩ ⟨Nat.zero_le _, Nat.zero_le _⟩ hP hD hS hl.1 rfl rfl (Nat.le_of_ble_eq_true rfl) dX1_add_1 (fun H locs hP hD hS => ?_)
  rw [h0]
  refine lv_istore (lv' := [(4, _), (0, _), (1, _), (2, _), (3, _)]) C.1 C.2.1 dX1_add_4 hl (by decide) rfl (fun ls hl => ?_)
  refine lv_iload C.1 C.2.1 dX1_add_6 (lv_at hl 0 rfl) ?_
  refine lv_bipush (v := nI 7) C.1 C.2.1 dX1_add_8 (by decide +kernel) ?_
  refine lv_icmp_ge (tgt := 71) C.1 C.2.1 dX1_add_10 (by decide) (fun h => absurd h (nI_ge ht (by decide))) (fun _ => ?_)
  refine lv_aload_n C.1 C.2.1 dX1_add_13 rfl (lv_at hl 1 rfl) ?_
  refine va_get (ci := 1) (C := RX1) (T := TX1) (N := 1) C.1 C.2.1 C.2.2.2.2.2.1 ui_X1 C.2.2.2.2.1 C.2.2.2.2.2.2.2.1 hP qM (hM) rfl 0 (by decide) (C.2.2.2.2.2.1 _ tw_56) (fun _ h9 => h9) rfl dX1_add_14 ?_
  refine lv_iconst (v := nI 0) C.1 C.2.1 dX1_add_17 (by decide +kernel) ?_
  refine lv_iconst (v := nI 1) C.1 C.2.1 dX1_add_18 (by decide +kernel) ?_
  refine lv_iload C.1 C.2.1 dX1_add_19 (lv_at hl 0 rfl) ?_
  refine lv_iconst (v := nI 3) C.1 C.2.1 dX1_add_21 (by decide +kernel) ?_
  refine lv_imul C.1 C.2.1 dX1_add_22 ?_
  rw [pk_mul]
  refine lv_iadd C.1 C.2.1 dX1_add_23 ?_
  rw [nI_add]
  refine lv_iload_n C.1 C.2.1 dX1_add_24 rfl (lv_at hl 2 rfl) ?_
  refine cm_cN0 (host := RX3) 4 C (c_tellCell l D cI cZ cJ _ hN (by decide) (0) (1 + t * 3) (a) (by omega)) tw_145 rfl rfl (C.2.2.2.2.2.2.2.2.2.2.2.2.2.2.2.1) tw_1 tw_144 (by decide +kernel) ⟨Nat.le_of_ble_eq_true rfl, Nat.le_of_ble_eq_true rfl⟩ ⟨Nat.zero_le _, Nat.zero_le _⟩ hP hD hS hl.1 rfl rfl (Nat.le_of_ble_eq_true rfl) dX1_add_25 (fun H locs hP hD hS => ?_)
  refine lv_aload_n C.1 C.2.1 dX1_add_28 rfl (lv_at hl 1 rfl) ?_
  refine va_get (ci := 1) (C := RX1) (T := TX1) (N := 1) C.1 C.2.1 C.2.2.2.2.2.1 ui_X1 C.2.2.2.2.1 C.2.2.2.2.2.2.2.1 hP qM (ws_ne hqm hM) rfl 0 (by decide) (C.2.2.2.2.2.1 _ tw_56) (fun _ h9 => h9) rfl dX1_add_29 ?_
  refine lv_iconst (v := nI 0) C.1 C.2.1 dX1_add_32 (by decide +kernel) ?_
  refine lv_iconst (v := nI 2) C.1 C.2.1 dX1_add_33 (by decide +kernel) ?_
  refine lv_iload C.1 C.2.1 dX1_add_34 (lv_at hl 0 rfl) ?_
  refine lv_iconst (v := nI 3) C.1 C.2.1 dX1_add_36 (by decide +kernel) ?_
  refine lv_imul C.1 C.2.1 dX1_add_37 ?_
  rw [pk_mul]
  refine lv_iadd C.1 C.2.1 dX1_add_38 ?_
  rw [nI_add]
  refine lv_iload_n C.1 C.2.1 dX1_add_39 rfl (lv_at hl 3 rfl) ?_
  refine cm_cN0 (host := RX3) 4 C (c_tellCell l D cI cZ cJ _ (ws_self hN) (by decide) (0) (2 + t * 3) (k) (by omega)) tw_145 rfl rfl (C.2.2.2.2.2.2.2.2.2.2.2.2.2.2.2.1) tw_1 tw_144 (by decide +kernel) ⟨Nat.le_of_ble_eq_true rfl, Nat.le_of_ble_eq_true rfl⟩ ⟨Nat.zero_le _, Nat.zero_le _⟩ hP hD hS hl.1 rfl rfl (Nat.le_of_ble_eq_true rfl) dX1_add_40 (fun H locs hP hD hS => ?_)
  rw [List.set_set] at hP hD
  refine lv_aload_n C.1 C.2.1 dX1_add_43 rfl (lv_at hl 1 rfl) ?_
  refine va_get (ci := 1) (C := RX1) (T := TX1) (N := 1) C.1 C.2.1 C.2.2.2.2.2.1 ui_X1 C.2.2.2.2.1 C.2.2.2.2.2.2.2.1 hP qM (ws_ne hqm hM) rfl 0 (by decide) (C.2.2.2.2.2.1 _ tw_56) (fun _ h9 => h9) rfl dX1_add_44 ?_
  refine lv_iconst (v := nI 0) C.1 C.2.1 dX1_add_47 (by decide +kernel) ?_
  refine lv_iconst (v := nI 3) C.1 C.2.1 dX1_add_48 (by decide +kernel) ?_
  refine lv_iload C.1 C.2.1 dX1_add_49 (lv_at hl 0 rfl) ?_
  refine lv_iconst (v := nI 3) C.1 C.2.1 dX1_add_51 (by decide +kernel) ?_
  refine lv_imul C.1 C.2.1 dX1_add_52 ?_
  rw [pk_mul]
  refine lv_iadd C.1 C.2.1 dX1_add_53 ?_
  rw [nI_add]
  refine lv_iload_n C.1 C.2.1 dX1_add_54 rfl (lv_at hl 4 rfl) ?_
  refine cm_cN0 (host := RX3) 4 C (c_tellCell l D cI cZ cJ _ (ws_self hN) (by decide) (0) (3 + t * 3) (v) (by omega)) tw_145 rfl rfl (C.2.2.2.2.2.2.2.2.2.2.2.2.2.2.2.1) tw_1 tw_144 (by decide +kernel) ⟨Nat.le_of_ble_eq_true rfl, Nat.le_of_ble_eq_true rfl⟩ ⟨Nat.zero_le _, Nat.zero_le _⟩ hP hD hS hl.1 rfl rfl (Nat.le_of_ble_eq_true rfl) dX1_add_55 (fun H locs hP hD hS => ?_)
  rw [List.set_set] at hP hD
  refine lv_aload_n C.1 C.2.1 dX1_add_58 rfl (lv_at hl 1 rfl) ?_
  refine va_get (ci := 1) (C := RX1) (T := TX1) (N := 1) C.1 C.2.1 C.2.2.2.2.2.1 ui_X1 C.2.2.2.2.1 C.2.2.2.2.2.2.2.1 hP qM (ws_ne hqm hM) rfl 0 (by decide) (C.2.2.2.2.2.1 _ tw_56) (fun _ h9 => h9) rfl dX1_add_59 ?_
  refine lv_iconst (v := nI 0) C.1 C.2.1 dX1_add_62 (by decide +kernel) ?_
  refine lv_iconst (v := nI 0) C.1 C.2.1 dX1_add_63 (by decide +kernel) ?_
  refine lv_iload C.1 C.2.1 dX1_add_64 (lv_at hl 0 rfl) ?_
  refine lv_iconst (v := nI 1) C.1 C.2.1 dX1_add_66 (by decide +kernel) ?_
  refine lv_iadd C.1 C.2.1 dX1_add_67 ?_
  rw [nI_add]
  refine cm_cN0 (host := RX3) 4 C (c_tellCell l D cI cZ cJ _ (ws_self hN) (by decide) (0) (0) (nI (t + 1)) (by decide)) tw_145 rfl rfl (C.2.2.2.2.2.2.2.2.2.2.2.2.2.2.2.1) tw_1 tw_144 (by decide +kernel) ⟨Nat.le_of_ble_eq_true rfl, Nat.le_of_ble_eq_true rfl⟩ ⟨Nat.zero_le _, Nat.zero_le _⟩ hP hD hS hl.1 rfl rfl (Nat.le_of_ble_eq_true rfl) dX1_add_68 (fun H locs hP hD hS => ?_)
  rw [List.set_set] at hP hD
  exact cm_vret C hP hD hS dX1_add_71 (by simp only [Nat.zero_mul, Nat.zero_add]; rfl)
set_option maxHeartbeats 4000000 in
set_option maxRecDepth 100000 in
/-- tellOne -/
theorem k_X1_tellOne (l : Launch) (D : va_G) (cI cZ cJ : ClassId) (ws : va_W) {qM qN mv an : Nat} {fm : Nat → Int32} (hM : ws[qM]? = some (mv, .inr (1, [.ref an]))) (hN : ws[qN]? = some (an, .inl (cI, 22, .inl fm))) (hqm : qM ≠ qN) (a k v : Int32) : CM l D (cm_T cI cZ cJ) yX1_tellOne cX1_tellOne 4 none (cm_rm 3 67) [.ref mv, .int a, .int k, .int v] ws none (ws.set qN (an, .inl (cI, 22, .inl (addM (upd fm 0 (nI 0)) 0 a k v)))) := by
  refine CM.of (by decide) (Nat.le_of_ble_eq_true rfl) ?_
  intro p e s m below meth c ls H locs C hl hP hD hS
  refine lv_aload_n C.1 C.2.1 dX1_tellOne_0 rfl (lv_at hl 0 rfl) ?_
  refine cm_cV0 (q0 := qM) 0 C (k_X1_tellNothing l D cI cZ cJ _ hM hN) tw_139 tw_140 tw_141 tw_4 tw_142 rfl rfl (hM) rfl (by decide +kernel) ⟨Nat.le_of_ble_eq_true rfl, Nat.le_of_ble_eq_true rfl⟩ ⟨Nat.zero_le _, Nat.zero_le _⟩ hP hD hS hl.1 rfl rfl (Nat.le_of_ble_eq_true rfl) dX1_tellOne_1 (fun H locs hP hD hS => ?_)
  refine lv_aload_n C.1 C.2.1 dX1_tellOne_4 rfl (lv_at hl 0 rfl) ?_
  refine lv_iload_n C.1 C.2.1 dX1_tellOne_5 rfl (lv_at hl 1 rfl) ?_
  refine lv_iload_n C.1 C.2.1 dX1_tellOne_6 rfl (lv_at hl 2 rfl) ?_
  refine lv_iload_n C.1 C.2.1 dX1_tellOne_7 rfl (lv_at hl 3 rfl) ?_
  refine cm_cV0 (q0 := qM) 3 C (k_X1_add l D cI cZ cJ _ (ws_ne hqm hM) (ws_self hN) hqm 0 (by decide) (by simp [upd]) a k v) tw_146 tw_147 tw_148 tw_4 tw_149 rfl rfl (ws_ne hqm hM) rfl (by decide +kernel) ⟨Nat.le_of_ble_eq_true rfl, Nat.le_of_ble_eq_true rfl⟩ ⟨Nat.zero_le _, Nat.zero_le _⟩ hP hD hS hl.1 rfl rfl (Nat.le_of_ble_eq_true rfl) dX1_tellOne_8 (fun H locs hP hD hS => ?_)
  rw [List.set_set] at hP hD
  exact cm_vret C hP hD hS dX1_tellOne_11 (rfl)
set_option maxHeartbeats 4000000 in
set_option maxRecDepth 100000 in
/-- takeJournal -/
theorem k_X1_takeJournal (l : Launch) (D : va_G) (cI cZ cJ : ClassId) (ws : va_W) {qM qN mv an : Nat} {fm : Nat → Int32} (hM : ws[qM]? = some (mv, .inr (1, [.ref an]))) (hN : ws[qN]? = some (an, .inl (cI, 22, .inl fm))) {qI qA im ad : Nat} {f : Nat → Int32} (hI : ws[qI]? = some (im, .inr (0, [.ref ad]))) (hA : ws[qA]? = some (ad, .inl (cI, 440, .inl f))) : CM l D (cm_T cI cZ cJ) yX1_takeJournal cX1_takeJournal 2 none (cm_rm 2 65) [.ref mv, .ref im] ws none (ws.set qN (an, .inl (cI, 22, .inl (va_cpy f fm 418 0 22)))) := by
  refine CM.of (by decide) (Nat.le_of_ble_eq_true rfl) ?_
  intro p e s m below meth c ls H locs C hl hP hD hS
  refine lv_aload_n C.1 C.2.1 dX1_takeJournal_0 rfl (lv_at hl 1 rfl) ?_
  refine va_get (ci := 0) (C := RX0) (T := TX0) (N := 1) C.1 C.2.1 C.2.2.2.2.2.1 ui_X0 C.2.2.2.2.1 C.2.2.2.2.2.2.2.1 hP qI (hI) rfl 0 (by decide) (C.2.2.2.2.2.1 _ tw_29) (fun _ h9 => h9) rfl dX1_takeJournal_1 ?_
  refine lv_bipush (v := nI 19) C.1 C.2.1 dX1_takeJournal_4 (by decide +kernel) ?_
  refine lv_aload_n C.1 C.2.1 dX1_takeJournal_6 rfl (lv_at hl 0 rfl) ?_
  refine va_get (ci := 1) (C := RX1) (T := TX1) (N := 1) C.1 C.2.1 C.2.2.2.2.2.1 ui_X1 C.2.2.2.2.1 C.2.2.2.2.2.2.2.1 hP qM (hM) rfl 0 (by decide) (C.2.2.2.2.2.1 _ tw_56) (fun _ h9 => h9) rfl dX1_takeJournal_7 ?_
  refine lv_iconst (v := nI 0) C.1 C.2.1 dX1_takeJournal_10 (by decide +kernel) ?_
  refine cm_cN0 (host := RX3) 4 C (c_copyRow l D cI cZ cJ _ hA (by decide) hN (by decide) 19 0 (by decide) (by decide)) tw_240 rfl rfl (C.2.2.2.2.2.2.2.2.2.2.2.2.2.2.2.2.1) tw_1 tw_239 (by decide +kernel) ⟨Nat.le_of_ble_eq_true rfl, Nat.le_of_ble_eq_true rfl⟩ ⟨Nat.zero_le _, Nat.zero_le _⟩ hP hD hS hl.1 rfl rfl (Nat.le_of_ble_eq_true rfl) dX1_takeJournal_11 (fun H locs hP hD hS => ?_)
  exact cm_vret C hP hD hS dX1_takeJournal_14 (rfl)
set_option maxHeartbeats 4000000 in
set_option maxRecDepth 100000 in
/-- tellOf -/
theorem k_X1_tellOf (l : Launch) (D : va_G) (cI cZ cJ : ClassId) (ws : va_W) {qM qN mv an : Nat} {fm : Nat → Int32} (hM : ws[qM]? = some (mv, .inr (1, [.ref an]))) (hN : ws[qN]? = some (an, .inl (cI, 22, .inl fm))) (t : Nat) (ht : t ≤ 7) (h0 : fm 0 = nI t) (x : Int32) : CM l D (cm_T cI cZ cJ) yX1_tellOf cX1_tellOf 4 (some .boolean) (cm_rm 1 23) [.ref mv, .int x] ws (some (.int (bI (anyB (saysP fm x) 0 t)))) (ws) := by
  refine CM.of (by decide) (Nat.le_of_ble_eq_true rfl) ?_
  intro p e s m below meth c ls H locs C hl hP hD hS
  refine lv_aload_n C.1 C.2.1 dX1_tellOf_0 rfl (lv_at hl 0 rfl) ?_
  refine va_get (ci := 1) (C := RX1) (T := TX1) (N := 1) C.1 C.2.1 C.2.2.2.2.2.1 ui_X1 C.2.2.2.2.1 C.2.2.2.2.2.2.2.1 hP qM (hM) rfl 0 (by decide) (C.2.2.2.2.2.1 _ tw_56) (fun _ h9 => h9) rfl dX1_tellOf_1 ?_
  refine lv_iconst (v := nI 0) C.1 C.2.1 dX1_tellOf_4 (by decide +kernel) ?_
  refine lv_iconst (v := nI 0) C.1 C.2.1 dX1_tellOf_5 (by decide +kernel) ?_
  refine cm_cN1 (host := RX3) 3 C (c_cellAt l D cI cZ cJ _ hN (by decide) (0) (0) (by decide)) tw_106 rfl rfl (C.2.2.2.2.2.2.2.2.2.2.2.2.2.2.1) tw_1 tw_105 (by decide +kernel) ⟨Nat.le_of_ble_eq_true rfl, Nat.le_of_ble_eq_true rfl⟩ ⟨Nat.zero_le _, Nat.zero_le _⟩ hP hD hS hl.1 rfl rfl (Nat.le_of_ble_eq_true rfl) dX1_tellOf_6 (fun H locs hP hD hS => ?_)
  rw [show fm (0 * 22 + 0) = nI t from h0]
  refine lv_istore_n (lv' := [(2, _), (0, _), (1, _)]) C.1 C.2.1 dX1_tellOf_9 rfl hl (by decide) rfl (fun ls hl => ?_)
  refine lv_iconst (v := nI 0) C.1 C.2.1 dX1_tellOf_10 (by decide +kernel) ?_
  refine lv_istore_n (lv' := [(3, _), (2, _), (0, _), (1, _)]) C.1 C.2.1 dX1_tellOf_11 rfl hl (by decide) rfl (fun ls hl => ?_)
  have loop : ∀ (k j : Nat), j + k = t → ∀ (ls : Array Slot) (H : Heap) (locs : List Loc), lv_has ls 4 [(3, .int (nI j)), (2, .int (nI t)), (0, .ref mv), (1, .int x)] → va_P D vwCl (ws) H → va_D (cm_A ws) (ws) → va_S (cm_A ws) s.heap H locs → W p l e (cm_rm 1 23) s m ([.ref mv, .int x] : List Value).toArray below meth c H locs 0 0 (cm_Q below D [.ref mv, .int x] s ws (some (.int (bI (anyB (saysP fm x) j k)))) (ws)) (F0 m 12 ls []) := by
    intro k
    induction k with
    | zero =>
      intro j hj ls H locs hl hP hD hS
      refine lv_iload_n C.1 C.2.1 dX1_tellOf_12 rfl (lv_at hl 0 rfl) ?_
      refine lv_bipush (v := nI 7) C.1 C.2.1 dX1_tellOf_13 (by decide +kernel) ?_
      refine lv_icmp_ge (tgt := 48) C.1 C.2.1 dX1_tellOf_15 (by decide) (fun h15 => ?_) (fun h15 => ?_)
      · refine lv_iconst (v := nI 0) C.1 C.2.1 dX1_tellOf_48 (by decide +kernel) ?_
        exact cm_zret C hP hD hS dX1_tellOf_49 (by decide +kernel) rfl rfl
      · refine lv_iload_n C.1 C.2.1 dX1_tellOf_18 rfl (lv_at hl 0 rfl) ?_
        refine lv_iload_n C.1 C.2.1 dX1_tellOf_19 rfl (lv_at hl 1 rfl) ?_
        refine lv_icmp_ge (tgt := 48) C.1 C.2.1 dX1_tellOf_20 (by decide) (fun _ => ?_) (fun h => absurd (nI_le (by omega) (by omega)) h)
        refine lv_iconst (v := nI 0) C.1 C.2.1 dX1_tellOf_48 (by decide +kernel) ?_
        exact cm_zret C hP hD hS dX1_tellOf_49 (by decide +kernel) rfl rfl
    | succ k ih =>
      intro j hj ls H locs hl hP hD hS
      refine lv_iload_n C.1 C.2.1 dX1_tellOf_12 rfl (lv_at hl 0 rfl) ?_
      refine lv_bipush (v := nI 7) C.1 C.2.1 dX1_tellOf_13 (by decide +kernel) ?_
      refine lv_icmp_ge (tgt := 48) C.1 C.2.1 dX1_tellOf_15 (by decide) (fun h => absurd h (nI_ge (by omega) (by decide))) (fun _ => ?_)
      refine lv_iload_n C.1 C.2.1 dX1_tellOf_18 rfl (lv_at hl 0 rfl) ?_
      refine lv_iload_n C.1 C.2.1 dX1_tellOf_19 rfl (lv_at hl 1 rfl) ?_
      refine lv_icmp_ge (tgt := 48) C.1 C.2.1 dX1_tellOf_20 (by decide) (fun h => absurd h (nI_ge (by omega) (by omega))) (fun _ => ?_)
      refine lv_aload_n C.1 C.2.1 dX1_tellOf_23 rfl (lv_at hl 2 rfl) ?_
      refine va_get (ci := 1) (C := RX1) (T := TX1) (N := 1) C.1 C.2.1 C.2.2.2.2.2.1 ui_X1 C.2.2.2.2.1 C.2.2.2.2.2.2.2.1 hP qM (hM) rfl 0 (by decide) (C.2.2.2.2.2.1 _ tw_56) (fun _ h9 => h9) rfl dX1_tellOf_24 ?_
      refine lv_iconst (v := nI 0) C.1 C.2.1 dX1_tellOf_27 (by decide +kernel) ?_
      refine lv_iconst (v := nI 1) C.1 C.2.1 dX1_tellOf_28 (by decide +kernel) ?_
      refine lv_iload_n C.1 C.2.1 dX1_tellOf_29 rfl (lv_at hl 0 rfl) ?_
      refine lv_iconst (v := nI 3) C.1 C.2.1 dX1_tellOf_30 (by decide +kernel) ?_
      refine lv_imul C.1 C.2.1 dX1_tellOf_31 ?_
      rw [pk_mul]
      refine lv_iadd C.1 C.2.1 dX1_tellOf_32 ?_
      rw [nI_add]
      refine cm_cN1 (host := RX3) 3 C (c_cellAt l D cI cZ cJ _ hN (by decide) (0) (1 + j * 3) (by omega)) tw_106 rfl rfl (C.2.2.2.2.2.2.2.2.2.2.2.2.2.2.1) tw_1 tw_105 (by decide +kernel) ⟨Nat.le_of_ble_eq_true rfl, Nat.le_of_ble_eq_true rfl⟩ ⟨Nat.zero_le _, Nat.zero_le _⟩ hP hD hS hl.1 rfl rfl (Nat.le_of_ble_eq_true rfl) dX1_tellOf_33 (fun H locs hP hD hS => ?_)
      rw [Nat.zero_mul, Nat.zero_add]
      refine lv_iload_n C.1 C.2.1 dX1_tellOf_36 rfl (lv_at hl 3 rfl) ?_
      refine lv_icmp_ne (tgt := 42) C.1 C.2.1 dX1_tellOf_37 (by decide) (fun h37 => ?_) (fun h37 => ?_)
      · refine lv_iinc (v := nI (j + 1)) (lv' := [(3, _), (2, _), (0, _), (1, _)]) C.1 C.2.1 dX1_tellOf_42 hl (k := 0) rfl (nI_1 j) (by decide) rfl (fun ls hl => ?_)
        refine lv_goto (tgt := 12) C.1 C.2.1 dX1_tellOf_45 (by decide) ?_
        rw [show anyB (saysP fm x) j (k + 1) = anyB (saysP fm x) (j + 1) k by simp [anyB, saysP, h37]]
        exact ih (j + 1) (by omega) ls H locs hl hP hD hS
      · refine lv_iconst (v := nI 1) C.1 C.2.1 dX1_tellOf_40 (by decide +kernel) ?_
        exact cm_zret C hP hD hS dX1_tellOf_41 (by decide +kernel) (by simp [anyB, saysP, h37, bI]) rfl
  exact loop t 0 (Nat.zero_add t) ls H locs hl hP hD hS
set_option maxHeartbeats 4000000 in
set_option maxRecDepth 100000 in
/-- fillAll -/
theorem k_X0_fillAll (l : Launch) (D : va_G) (cI cZ cJ : ClassId) (ws : va_W) {qI qA im ad : Nat} {f : Nat → Int32} (hI : ws[qI]? = some (im, .inr (0, [.ref ad]))) (hA : ws[qA]? = some (ad, .inl (cI, 440, .inl f))) (hq : qI ≠ qA) {qM qN mv an : Nat} {fm : Nat → Int32} (hM : ws[qM]? = some (mv, .inr (1, [.ref an]))) (hN : ws[qN]? = some (an, .inl (cI, 22, .inl fm))) (hqa : qM ≠ qA) (hqb : qN ≠ qA) (t : Nat) (hm : mOk fm t) : CM l D (cm_T cI cZ cJ) yX0_fillAll cX0_fillAll 3 none (cm_rm 2 49) [.ref im, .ref mv] ws none (ws.set qA (ad, .inl (cI, 440, .inl (fillN fm 0 t f)))) := by
  refine CM.of (by decide) (Nat.le_of_ble_eq_true rfl) ?_
  intro p e s m below meth c ls H locs C hl hP hD hS
  refine lv_iconst (v := nI 0) C.1 C.2.1 dX0_fillAll_0 (by decide +kernel) ?_
  refine lv_istore_n (lv' := [(2, _), (0, _), (1, _)]) C.1 C.2.1 dX0_fillAll_1 rfl hl (by decide) rfl (fun ls hl => ?_)
  have loop : ∀ (k j : Nat) (g : Nat → Int32), j + k = t → ∀ (ls : Array Slot) (H : Heap) (locs : List Loc), lv_has ls 3 [(2, .int (nI j)), (0, .ref im), (1, .ref mv)] → va_P D vwCl (ws.set qA (ad, .inl (cI, 440, .inl (g)))) H → va_D (cm_A ws) (ws.set qA (ad, .inl (cI, 440, .inl (g)))) → va_S (cm_A ws) s.heap H locs → W p l e (cm_rm 2 49) s m ([.ref im, .ref mv] : List Value).toArray below meth c H locs 0 0 (cm_Q below D [.ref im, .ref mv] s ws none (ws.set qA (ad, .inl (cI, 440, .inl (fillN fm j k g))))) (F0 m 2 ls []) := by
    intro k
    induction k with
    | zero =>
      intro j g hj ls H locs hl hP hD hS
      have hm1 := hm.1
      refine lv_iload_n C.1 C.2.1 dX0_fillAll_2 rfl (lv_at hl 0 rfl) ?_
      refine lv_bipush (v := nI 7) C.1 C.2.1 dX0_fillAll_3 (by decide +kernel) ?_
      refine lv_icmp_ge (tgt := 41) C.1 C.2.1 dX0_fillAll_5 (by decide) (fun h5 => ?_) (fun h5 => ?_)
      · exact cm_vret C hP hD hS dX0_fillAll_41 rfl
      · refine lv_iload_n C.1 C.2.1 dX0_fillAll_8 rfl (lv_at hl 0 rfl) ?_
        refine lv_aload_n C.1 C.2.1 dX0_fillAll_9 rfl (lv_at hl 2 rfl) ?_
        refine cm_cV1 (q0 := qM) 0 C (k_X1_size l D cI cZ cJ _ (ws_ne hqa hM) (ws_ne hqb hN)) tw_213 tw_151 tw_152 tw_4 tw_153 rfl rfl (ws_ne hqa hM) rfl (by decide +kernel) ⟨Nat.le_of_ble_eq_true rfl, Nat.le_of_ble_eq_true rfl⟩ ⟨Nat.zero_le _, Nat.zero_le _⟩ hP hD hS hl.1 rfl rfl (Nat.le_of_ble_eq_true rfl) dX0_fillAll_10 (fun H locs hP hD hS => ?_)
        rw [hm.2.1]
        refine lv_icmp_ge (tgt := 41) C.1 C.2.1 dX0_fillAll_13 (by decide) (fun _ => ?_) (fun h => absurd (nI_le (by omega) (by omega)) h)
        exact cm_vret C hP hD hS dX0_fillAll_41 rfl
    | succ k ih =>
      intro j g hj ls H locs hl hP hD hS
      have hm1 := hm.1
      refine lv_iload_n C.1 C.2.1 dX0_fillAll_2 rfl (lv_at hl 0 rfl) ?_
      refine lv_bipush (v := nI 7) C.1 C.2.1 dX0_fillAll_3 (by decide +kernel) ?_
      refine lv_icmp_ge (tgt := 41) C.1 C.2.1 dX0_fillAll_5 (by decide) (fun h => absurd h (nI_ge (by omega) (by decide))) (fun _ => ?_)
      refine lv_iload_n C.1 C.2.1 dX0_fillAll_8 rfl (lv_at hl 0 rfl) ?_
      refine lv_aload_n C.1 C.2.1 dX0_fillAll_9 rfl (lv_at hl 2 rfl) ?_
      refine cm_cV1 (q0 := qM) 0 C (k_X1_size l D cI cZ cJ _ (ws_ne hqa hM) (ws_ne hqb hN)) tw_213 tw_151 tw_152 tw_4 tw_153 rfl rfl (ws_ne hqa hM) rfl (by decide +kernel) ⟨Nat.le_of_ble_eq_true rfl, Nat.le_of_ble_eq_true rfl⟩ ⟨Nat.zero_le _, Nat.zero_le _⟩ hP hD hS hl.1 rfl rfl (Nat.le_of_ble_eq_true rfl) dX0_fillAll_10 (fun H locs hP hD hS => ?_)
      rw [hm.2.1]
      refine lv_icmp_ge (tgt := 41) C.1 C.2.1 dX0_fillAll_13 (by decide) (fun h => absurd h (nI_ge (by omega) (by omega))) (fun _ => ?_)
      refine lv_aload_n C.1 C.2.1 dX0_fillAll_16 rfl (lv_at hl 1 rfl) ?_
      refine lv_aload_n C.1 C.2.1 dX0_fillAll_17 rfl (lv_at hl 2 rfl) ?_
      refine lv_iload_n C.1 C.2.1 dX0_fillAll_18 rfl (lv_at hl 0 rfl) ?_
      refine cm_cV1 (q0 := qM) 1 C (k_X1_placeAt l D cI cZ cJ _ (ws_ne hqa hM) (ws_ne hqb hN) j (by omega)) tw_214 tw_215 tw_216 tw_4 tw_217 rfl rfl (ws_ne hqa hM) rfl (by decide +kernel) ⟨Nat.le_of_ble_eq_true rfl, Nat.le_of_ble_eq_true rfl⟩ ⟨Nat.zero_le _, Nat.zero_le _⟩ hP hD hS hl.1 rfl rfl (Nat.le_of_ble_eq_true rfl) dX0_fillAll_19 (fun H locs hP hD hS => ?_)
      rw [(hm.2.2 j (by omega)).1]
      refine lv_aload_n C.1 C.2.1 dX0_fillAll_22 rfl (lv_at hl 2 rfl) ?_
      refine lv_iload_n C.1 C.2.1 dX0_fillAll_23 rfl (lv_at hl 0 rfl) ?_
      refine cm_cV1 (q0 := qM) 1 C (k_X1_keyAt l D cI cZ cJ _ (ws_ne hqa hM) (ws_ne hqb hN) j (by omega)) tw_218 tw_219 tw_220 tw_4 tw_221 rfl rfl (ws_ne hqa hM) rfl (by decide +kernel) ⟨Nat.le_of_ble_eq_true rfl, Nat.le_of_ble_eq_true rfl⟩ ⟨Nat.zero_le _, Nat.zero_le _⟩ hP hD hS hl.1 rfl rfl (Nat.le_of_ble_eq_true rfl) dX0_fillAll_24 (fun H locs hP hD hS => ?_)
      refine lv_aload_n C.1 C.2.1 dX0_fillAll_27 rfl (lv_at hl 2 rfl) ?_
      refine lv_iload_n C.1 C.2.1 dX0_fillAll_28 rfl (lv_at hl 0 rfl) ?_
      refine cm_cV1 (q0 := qM) 1 C (k_X1_valueAt l D cI cZ cJ _ (ws_ne hqa hM) (ws_ne hqb hN) j (by omega)) tw_222 tw_223 tw_224 tw_4 tw_225 rfl rfl (ws_ne hqa hM) rfl (by decide +kernel) ⟨Nat.le_of_ble_eq_true rfl, Nat.le_of_ble_eq_true rfl⟩ ⟨Nat.zero_le _, Nat.zero_le _⟩ hP hD hS hl.1 rfl rfl (Nat.le_of_ble_eq_true rfl) dX0_fillAll_29 (fun H locs hP hD hS => ?_)
      refine cm_cV0 (q0 := qI) 3 C (k_X0_fill l D cI cZ cJ _ (ws_ne hq hI) (ws_self hA) hq (mP fm j) (hm.2.2 j (by omega)).2 _ _) tw_226 tw_227 tw_228 tw_2 tw_229 rfl rfl (ws_ne hq hI) rfl (by decide +kernel) ⟨Nat.le_of_ble_eq_true rfl, Nat.le_of_ble_eq_true rfl⟩ ⟨Nat.zero_le _, Nat.zero_le _⟩ hP hD hS hl.1 rfl rfl (Nat.le_of_ble_eq_true rfl) dX0_fillAll_32 (fun H locs hP hD hS => ?_)
      rw [List.set_set] at hP hD
      refine lv_iinc (v := nI (j + 1)) (lv' := [(2, _), (0, _), (1, _)]) C.1 C.2.1 dX0_fillAll_35 hl (k := 0) rfl (nI_1 j) (by decide) rfl (fun ls hl => ?_)
      refine lv_goto (tgt := 2) C.1 C.2.1 dX0_fillAll_38 (by decide) ?_
      exact ih (j + 1) _ (by omega) ls H locs hl hP hD hS
  have hs : ws.set qA (ad, .inl (cI, 440, .inl f)) = ws := ws_id hA
  exact loop t 0 f (Nat.zero_add t) ls H locs hl (by rw [hs]; exact hP) (by rw [hs]; exact hD) hS
end
section
/-! ===== the words of the document over 36 SLOTS of one SET: used, KEY, VALUE by their place in it ===== -/
theorem scan_shift (P : Nat → Bool) (c b : Nat) : ∀ (k j : Nat), scan P (c + b) j k = (scan P b j k).map (fun i => c + i) := by
  intro k
  induction k with
  | zero => intro j; rfl
  | succ k ih =>
    intro j
    unfold scan
    by_cases h : P j = true
    · rw [if_pos h, if_pos h]; simp [Nat.add_assoc]
    · rw [if_neg h, if_neg h]; exact ih (j + 1)
theorem scan_congr {P Q : Nat → Bool} (b : Nat) : ∀ (k j : Nat), (∀ i, j ≤ i → i < j + k → P i = Q i) → scan P b j k = scan Q b j k := by
  intro k
  induction k with
  | zero => intro j _; rfl
  | succ k ih =>
    intro j h
    unfold scan
    rw [h j (Nat.le_refl j) (by omega), ih (j + 1) (fun i h1 h2 => h i (by omega) (by omega))]
theorem scan_some {P : Nat → Bool} (b : Nat) : ∀ (k j : Nat) {i : Nat}, scan P b j k = some i → ∃ s, i = b + s ∧ j ≤ s ∧ s < j + k ∧ P s = true := by
  intro k
  induction k with
  | zero => intro j i h; cases h
  | succ k ih =>
    intro j i h
    unfold scan at h
    by_cases hp : P j = true
    · rw [if_pos hp] at h
      cases h
      exact ⟨j, rfl, Nat.le_refl j, by omega, hp⟩
    · rw [if_neg hp] at h
      obtain ⟨s, h1, h2, h3, h4⟩ := ih (j + 1) h
      exact ⟨s, h1, by omega, by omega, h4⟩
theorem scan_none {P : Nat → Bool} (b : Nat) : ∀ (k j : Nat), scan P b j k = none → ∀ s, j ≤ s → s < j + k → P s = false := by
  intro k
  induction k with
  | zero => intro j _ s h1 h2; omega
  | succ k ih =>
    intro j h s h1 h2
    unfold scan at h
    by_cases hp : P j = true
    · rw [if_pos hp] at h; cases h
    · rw [if_neg hp] at h
      rcases Nat.lt_or_ge j s with q | q
      · exact ih (j + 1) h s (by omega) (by omega)
      · obtain rfl : s = j := by omega
        simpa using hp
/-- the least empty SLOT of a PAGE; the SLOT of a PAGE with a KEY -/
def emS (u : Nat → Bool) (b : Nat) : Option Nat := scan (fun j => !u (4 * b + j)) (4 * b) 0 4
def atS (u : Nat → Bool) (k : Nat → Int32) (key : Int32) (b : Nat) : Option Nat := scan (fun j => u (4 * b + j) && decide (k (4 * b + j) = key)) (4 * b) 0 4
theorem emS_lt {u : Nat → Bool} {b i : Nat} (h : emS u b = some i) (hb : b < 9) : i < 36 ∧ i / 4 = b ∧ u i = false := by
  obtain ⟨s, h1, -, h3, h4⟩ := scan_some _ _ _ h
  subst h1
  exact ⟨by omega, by omega, by simpa using h4⟩
theorem atS_lt {u : Nat → Bool} {k : Nat → Int32} {key : Int32} {b i : Nat} (h : atS u k key b = some i) (hb : b < 9) : i < 36 ∧ i / 4 = b ∧ u i = true ∧ k i = key := by
  obtain ⟨s, h1, -, h3, h4⟩ := scan_some _ _ _ h
  subst h1
  simp only [Bool.and_eq_true, decide_eq_true_eq] at h4
  exact ⟨by omega, by omega, h4.1, h4.2⟩
def findS (u : Nat → Bool) (k : Nat → Int32) (s key : Int32) : Option Nat := match atS u k key (hm1 s key) with
  | some i => some i
  | none => match atS u k key (hm2 s key) with
    | some i => some i
    | none => atS u k key 8
/-- the first SLOT of b, from t on, round, that is not in L -/
def nx (L : List Nat) (b t : Nat) : Nat → Nat → Option Nat
  | _, 0 => none
  | i, k + 1 => if 4 * b + (t + i) % 4 ∈ L then nx L b t (i + 1) k else some (4 * b + (t + i) % 4)
theorem nx_mod (L : List Nat) (b t : Nat) : ∀ (k i : Nat), nx L b (t % 4) i k = nx L b t i k := by
  intro k
  induction k with
  | zero => intro i; rfl
  | succ k ih =>
    intro i
    unfold nx
    rw [ih (i + 1), show (t % 4 + i) % 4 = (t + i) % 4 by omega]
theorem nx_some {L : List Nat} {b t : Nat} : ∀ (k i : Nat) {q : Nat}, nx L b t i k = some q → q / 4 = b ∧ q ∉ L := by
  intro k
  induction k with
  | zero => intro i q h; cases h
  | succ k ih =>
    intro i q h
    unfold nx at h
    split at h
    · exact ih (i + 1) h
    · cases h; exact ⟨by omega, by assumption⟩
/-- the other HOME of a KEY that stands in b -/
def otherS (s key : Int32) (b : Nat) : Nat := if b = hm1 s key then hm2 s key else hm1 s key
theorem otherS_lt (s key : Int32) (b : Nat) : otherS s key b < 8 := by
  unfold otherS
  split
  · exact hm2_lt s key
  · exact hm1_lt s key
/-- a PATH: n steps left, t done, from b, with L on it -/
def pathS (u : Nat → Bool) (k : Nat → Int32) (s : Int32) : Nat → Nat → Nat → List Nat → Bool × List Nat
  | 0, _, _, L => (false, L)
  | n + 1, t, b, L => match nx L b t 0 4 with
    | none => (false, L)
    | some p => match emS u (otherS s (k p) b) with
      | some e => (true, L ++ [p] ++ [e])
      | none => pathS u k s n (t + 1) (otherS s (k p) b) (L ++ [p])
/-- what goes to each SLOT of a list -/
def mvS (k v : Nat → Int32) : Int32 → Int32 → List Nat → List (Nat × Int32 × Int32)
  | _, _, [] => []
  | a, b, p :: L => (p, a, b) :: mvS k v (k p) (v p) L
/-- what is to be moved on behind a list -/
def kvS (k v : Nat → Int32) : Int32 → Int32 → List Nat → Int32 × Int32
  | a, b, [] => (a, b)
  | _, _, p :: L => kvS k v (k p) (v p) L
theorem mvS_app (k v : Nat → Int32) (p : Nat) : ∀ (L : List Nat) (a b : Int32), mvS k v a b (L ++ [p]) = mvS k v a b L ++ [(p, (kvS k v a b L).1, (kvS k v a b L).2)] := by
  intro L
  induction L with
  | nil => intro a b; rfl
  | cons q L ih => intro a b; simp only [List.cons_append, mvS, kvS, ih]
theorem kvS_app (k v : Nat → Int32) (p : Nat) : ∀ (L : List Nat) (a b : Int32), kvS k v a b (L ++ [p]) = (k p, v p) := by
  intro L
  induction L with
  | nil => intro a b; rfl
  | cons q L ih => intro a b; simp only [List.cons_append, kvS, ih]
theorem mvS_len (k v : Nat → Int32) : ∀ (L : List Nat) (a b : Int32), (mvS k v a b L).length = L.length := by
  intro L
  induction L with
  | nil => intro a b; rfl
  | cons q L ih => intro a b; simp only [mvS, List.length_cons, ih]
/-! ===== an image's row of cells read as SLOTS of a SET ===== -/
def uR (f : Nat → Int32) (z i : Nat) : Bool := decide (¬ uC f (36 * z + i) = 0)
def kR (f : Nat → Int32) (z i : Nat) : Int32 := kC f (36 * z + i)
def vR (f : Nat → Int32) (z i : Nat) : Int32 := vC f (36 * z + i)
theorem ix_row (z b j : Nat) (hj : j < 4) : ix (36 * z + (4 * b + j)) = (z * 9 + b) * 22 + j * 3 := by
  unfold ix
  have h1 : (36 * z + (4 * b + j)) / 4 = z * 9 + b := by omega
  have h2 : (36 * z + (4 * b + j)) % 4 = j := by omega
  rw [h1, h2]
/-- a place in a SET as the class tells it -/
def optA (z : Nat) (o : Option Nat) : Int32 := optI (o.map (fun i => 36 * z + i))
theorem em_abs (f : Nat → Int32) (z b : Nat) : optI (scan (emP f (z * 9 + b)) ((z * 9 + b) * 4) 0 4) = optA z (emS (uR f z) b) := by
  unfold optA emS
  rw [← scan_shift, show 36 * z + 4 * b = (z * 9 + b) * 4 by omega]
  congr 1
  refine scan_congr _ _ _ (fun i _ h => ?_)
  unfold emP uR uC
  rw [ix_row z b i (by omega)]
  by_cases h0 : f ((z * 9 + b) * 22 + i * 3) = 0 <;> simp [h0]
theorem at_abs (f : Nat → Int32) (z b : Nat) (key : Int32) : optI (scan (atP f (z * 9 + b) key) ((z * 9 + b) * 4) 0 4) = optA z (atS (uR f z) (kR f z) key b) := by
  unfold optA atS
  rw [← scan_shift, show 36 * z + 4 * b = (z * 9 + b) * 4 by omega]
  congr 1
  refine scan_congr _ _ _ (fun i _ h => ?_)
  unfold atP uR uC kR kC
  rw [ix_row z b i (by omega), show (z * 9 + b) * 22 + i * 3 + 1 = (z * 9 + b) * 22 + (i * 3 + 1) by omega]
  by_cases h0 : f ((z * 9 + b) * 22 + i * 3) = 0 <;> simp [h0]
theorem nI_m1 {n : Nat} (h : n < 2 ^ 31) : ¬ nI n = -1 := by
  intro q
  have h1 := nI_toInt h
  rw [q] at h1
  have h2 : (-1 : Int32).toInt = -1 := by decide
  omega
/-! ===== Waiting ===== -/
set_option maxHeartbeats 4000000 in
set_option maxRecDepth 100000 in
/-- size -/
theorem k_X2_size (l : Launch) (D : va_G) (cI cZ cJ : ClassId) (ws : va_W) (t : Nat) {qW qR qC wt ar ac : Nat} {fr fw : Nat → Int32} (hW : ws[qW]? = some (wt, .inr (2, [.ref ar, .ref ac, .int (nI t)]))) (hR : ws[qR]? = some (ar, .inl (cI, 40, .inl fr))) (hC : ws[qC]? = some (ac, .inl (cI, 880, .inl fw))) : CM l D (cm_T cI cZ cJ) yX2_size cX2_size 1 (some .int) (cm_rm 0 0) [.ref wt] ws (some (.int (nI t))) (ws) := by
  refine CM.of (by decide) (Nat.le_of_ble_eq_true rfl) ?_
  intro p e s m below meth c ls H locs C hl hP hD hS
  refine lv_aload_n C.1 C.2.1 dX2_size_0 rfl (lv_at hl 0 rfl) ?_
  refine va_get (ci := 2) (C := RX2) (T := TX2) (N := 3) C.1 C.2.1 C.2.2.2.2.2.1 ui_X2 C.2.2.2.2.1 C.2.2.2.2.2.2.2.1 hP qW (hW) rfl 2 (by decide) (C.2.2.2.2.2.1 _ tw_42) (fun _ h9 => h9) rfl dX2_size_1 ?_
  exact cm_iret C hP hD hS dX2_size_4 (rfl) (rfl)
set_option maxHeartbeats 4000000 in
set_option maxRecDepth 100000 in
/-- add -/
theorem k_X2_add (l : Launch) (D : va_G) (cI cZ cJ : ClassId) (ws : va_W) (t : Nat) (ht : t < 40) {qW qR qC wt ar ac : Nat} {fr fw : Nat → Int32} (hW : ws[qW]? = some (wt, .inr (2, [.ref ar, .ref ac, .int (nI t)]))) (hR : ws[qR]? = some (ar, .inl (cI, 40, .inl fr))) (hC : ws[qC]? = some (ac, .inl (cI, 880, .inl fw))) {qI qA im ad : Nat} {f : Nat → Int32} (hI : ws[qI]? = some (im, .inr (0, [.ref ad]))) (hA : ws[qA]? = some (ad, .inl (cI, 440, .inl f))) (hwr : qW ≠ qR) (hwc : qW ≠ qC) (hcr : qC ≠ qR) (hir : qI ≠ qR) (har : qA ≠ qR) (r : Nat) (hr : r < 20) : CM l D (cm_T cI cZ cJ) yX2_add cX2_add 3 none (cm_rm 2 65) [.ref wt, .ref im, .int (nI r)] ws none (((ws.set qR (ar, .inl (cI, 40, .inl (upd fr t (nI r))))).set qC (ac, .inl (cI, 880, .inl (va_cpy f fw (r * 22) (t * 22) 22)))).set qW (wt, .inr (2, [.ref ar, .ref ac, .int (nI (t + 1))]))) := by
  refine CM.of (by decide) (Nat.le_of_ble_eq_true rfl) ?_
  intro p e s m below meth c ls H locs C hl hP hD hS
  refine lv_aload_n C.1 C.2.1 dX2_add_0 rfl (lv_at hl 0 rfl) ?_
  refine va_get (ci := 2) (C := RX2) (T := TX2) (N := 3) C.1 C.2.1 C.2.2.2.2.2.1 ui_X2 C.2.2.2.2.1 C.2.2.2.2.2.2.2.1 hP qW (hW) rfl 2 (by decide) (C.2.2.2.2.2.1 _ tw_42) (fun _ h9 => h9) rfl dX2_add_1 ?_
  refine lv_if_lt (tgt := 55) C.1 C.2.1 dX2_add_4 (by decide) (fun h => absurd h (nI_pos (by omega))) (fun _ => ?_)
  refine lv_aload_n C.1 C.2.1 dX2_add_7 rfl (lv_at hl 0 rfl) ?_
  refine va_get (ci := 2) (C := RX2) (T := TX2) (N := 3) C.1 C.2.1 C.2.2.2.2.2.1 ui_X2 C.2.2.2.2.1 C.2.2.2.2.2.2.2.1 hP qW (hW) rfl 2 (by decide) (C.2.2.2.2.2.1 _ tw_42) (fun _ h9 => h9) rfl dX2_add_8 ?_
  refine lv_aload_n C.1 C.2.1 dX2_add_11 rfl (lv_at hl 0 rfl) ?_
  refine va_get (ci := 2) (C := RX2) (T := TX2) (N := 3) C.1 C.2.1 C.2.2.2.2.2.1 ui_X2 C.2.2.2.2.1 C.2.2.2.2.2.2.2.1 hP qW (hW) rfl 0 (by decide) (C.2.2.2.2.2.1 _ tw_40) (fun _ h9 => h9) rfl dX2_add_12 ?_
  refine va_alen C.1 C.2.1 C.2.2.2.2.2.2.2.1 hP qR 0 (hR) rfl (v := nI 40) rfl dX2_add_15 ?_
  refine lv_icmp_ge (tgt := 55) C.1 C.2.1 dX2_add_16 (by decide) (fun h => absurd h (nI_ge ht (by decide))) (fun _ => ?_)
  refine lv_aload_n C.1 C.2.1 dX2_add_19 rfl (lv_at hl 0 rfl) ?_
  refine va_get (ci := 2) (C := RX2) (T := TX2) (N := 3) C.1 C.2.1 C.2.2.2.2.2.1 ui_X2 C.2.2.2.2.1 C.2.2.2.2.2.2.2.1 hP qW (hW) rfl 0 (by decide) (C.2.2.2.2.2.1 _ tw_40) (fun _ h9 => h9) rfl dX2_add_20 ?_
  refine lv_aload_n C.1 C.2.1 dX2_add_23 rfl (lv_at hl 0 rfl) ?_
  refine va_get (ci := 2) (C := RX2) (T := TX2) (N := 3) C.1 C.2.1 C.2.2.2.2.2.1 ui_X2 C.2.2.2.2.1 C.2.2.2.2.2.2.2.1 hP qW (hW) rfl 2 (by decide) (C.2.2.2.2.2.1 _ tw_42) (fun _ h9 => h9) rfl dX2_add_24 ?_
  refine lv_iload_n C.1 C.2.1 dX2_add_27 rfl (lv_at hl 2 rfl) ?_
  refine va_iast C.1 C.2.1 C.2.2.2.2.2.2.2.1 hP hD hS qR 0 (hR) rfl (vp_in_nI ht (by decide)) dX2_add_28 (fun H locs hP hD hS => ?_)
  refine lv_aload_n C.1 C.2.1 dX2_add_29 rfl (lv_at hl 1 rfl) ?_
  refine va_get (ci := 0) (C := RX0) (T := TX0) (N := 1) C.1 C.2.1 C.2.2.2.2.2.1 ui_X0 C.2.2.2.2.1 C.2.2.2.2.2.2.2.1 hP qI (ws_ne hir hI) rfl 0 (by decide) (C.2.2.2.2.2.1 _ tw_28) (fun _ h9 => h9) rfl dX2_add_30 ?_
  refine lv_iload_n C.1 C.2.1 dX2_add_33 rfl (lv_at hl 2 rfl) ?_
  refine lv_aload_n C.1 C.2.1 dX2_add_34 rfl (lv_at hl 0 rfl) ?_
  refine va_get (ci := 2) (C := RX2) (T := TX2) (N := 3) C.1 C.2.1 C.2.2.2.2.2.1 ui_X2 C.2.2.2.2.1 C.2.2.2.2.2.2.2.1 hP qW (ws_ne hwr hW) rfl 1 (by decide) (C.2.2.2.2.2.1 _ tw_41) (fun _ h9 => h9) rfl dX2_add_35 ?_
  refine lv_aload_n C.1 C.2.1 dX2_add_38 rfl (lv_at hl 0 rfl) ?_
  refine va_get (ci := 2) (C := RX2) (T := TX2) (N := 3) C.1 C.2.1 C.2.2.2.2.2.1 ui_X2 C.2.2.2.2.1 C.2.2.2.2.2.2.2.1 hP qW (ws_ne hwr hW) rfl 2 (by decide) (C.2.2.2.2.2.1 _ tw_42) (fun _ h9 => h9) rfl dX2_add_39 ?_
  refine cm_cN0 (host := RX3) 4 C (c_copyRow l D cI cZ cJ _ (ws_ne har hA) (by decide) (ws_ne hcr hC) (by decide) r t (by omega) (by omega)) tw_240 rfl rfl (C.2.2.2.2.2.2.2.2.2.2.2.2.2.2.2.2.2) tw_1 tw_239 (by decide +kernel) ⟨Nat.le_of_ble_eq_true rfl, Nat.le_of_ble_eq_true rfl⟩ ⟨Nat.zero_le _, Nat.zero_le _⟩ hP hD hS hl.1 rfl rfl (Nat.le_of_ble_eq_true rfl) dX2_add_42 (fun H locs hP hD hS => ?_)
  refine lv_aload_n C.1 C.2.1 dX2_add_45 rfl (lv_at hl 0 rfl) ?_
  refine lv_dup C.1 C.2.1 dX2_add_46 rfl ?_
  refine va_get (ci := 2) (C := RX2) (T := TX2) (N := 3) C.1 C.2.1 C.2.2.2.2.2.1 ui_X2 C.2.2.2.2.1 C.2.2.2.2.2.2.2.1 hP qW (ws_ne hwc (ws_ne hwr hW)) rfl 2 (by decide) (C.2.2.2.2.2.1 _ tw_42) (fun _ h9 => h9) rfl dX2_add_47 ?_
  refine lv_iconst (v := nI 1) C.1 C.2.1 dX2_add_50 (by decide +kernel) ?_
  refine lv_iadd C.1 C.2.1 dX2_add_51 ?_
  rw [nI_add]
  refine va_put (ci := 2) (C := RX2) (T := TX2) (N := 3) (ty := .int) C.1 C.2.1 C.2.2.2.2.2.1 ui_X2 tyX2 tyX2_ok nmX2 C.2.2.2.2.1 C.2.2.2.2.2.2.2.1 hP hD hS qW (ws_ne hwc (ws_ne hwr hW)) rfl 2 (by decide) (C.2.2.2.2.2.1 _ tw_42) (fun _ h9 => h9) rfl (by decide +kernel) rfl rfl (Nat.le_of_ble_eq_true rfl) dX2_add_52 (fun H locs hP hD hS => ?_)
  exact cm_vret C hP hD hS dX2_add_55 (by rw [nI_clamp (by omega)]; rfl)
set_option maxHeartbeats 4000000 in
set_option maxRecDepth 100000 in
/-- doFirst -/
theorem k_X2_doFirst (l : Launch) (D : va_G) (cI cZ cJ : ClassId) (ws : va_W) (t : Nat) {qW qR qC wt ar ac : Nat} {fr fw : Nat → Int32} (hW : ws[qW]? = some (wt, .inr (2, [.ref ar, .ref ac, .int (nI t)]))) (hR : ws[qR]? = some (ar, .inl (cI, 40, .inl fr))) (hC : ws[qC]? = some (ac, .inl (cI, 880, .inl fw))) {qI qA im ad : Nat} {f : Nat → Int32} (hI : ws[qI]? = some (im, .inr (0, [.ref ad]))) (hA : ws[qA]? = some (ad, .inl (cI, 440, .inl f))) (hia : qI ≠ qA) (hwa : qW ≠ qA) (hra : qR ≠ qA) (hca : qC ≠ qA) (n : Nat) (hn : n ≤ 40) (hrw : ∀ j, j < n → fr j = nI (fr j).toNatClampNeg ∧ (fr j).toNatClampNeg < 20) : CM l D (cm_T cI cZ cJ) yX2_doFirst cX2_doFirst 4 none (cm_rm 2 65) [.ref wt, .int (nI n), .ref im] ws none ((ws.set qA (ad, .inl (cI, 440, .inl (doN fr fw 0 n f)))).set qW (wt, .inr (2, [.ref ar, .ref ac, .int (nI 0)]))) := by
  refine CM.of (by decide) (Nat.le_of_ble_eq_true rfl) ?_
  intro p e s m below meth c ls H locs C hl hP hD hS
  refine lv_iconst (v := nI 0) C.1 C.2.1 dX2_doFirst_0 (by decide +kernel) ?_
  refine lv_istore_n (lv' := [(3, _), (0, _), (1, _), (2, _)]) C.1 C.2.1 dX2_doFirst_1 rfl hl (by decide) rfl (fun ls hl => ?_)
  have loop : ∀ (k j : Nat) (g : Nat → Int32), j + k = n → ∀ (ls : Array Slot) (H : Heap) (locs : List Loc), lv_has ls 4 [(3, .int (nI j)), (0, .ref wt), (1, .int (nI n)), (2, .ref im)] → va_P D vwCl (ws.set qA (ad, .inl (cI, 440, .inl (g)))) H → va_D (cm_A ws) (ws.set qA (ad, .inl (cI, 440, .inl (g)))) → va_S (cm_A ws) s.heap H locs → W p l e (cm_rm 2 65) s m ([.ref wt, .int (nI n), .ref im] : List Value).toArray below meth c H locs 0 0 (cm_Q below D [.ref wt, .int (nI n), .ref im] s ws none ((ws.set qA (ad, .inl (cI, 440, .inl (doN fr fw j k g)))).set qW (wt, .inr (2, [.ref ar, .ref ac, .int (nI 0)])))) (F0 m 2 ls []) := by
    intro k
    induction k with
    | zero =>
      intro j g hj ls H locs hl hP hD hS
      refine lv_iload_n C.1 C.2.1 dX2_doFirst_2 rfl (lv_at hl 0 rfl) ?_
      refine lv_iload_n C.1 C.2.1 dX2_doFirst_3 rfl (lv_at hl 2 rfl) ?_
      refine lv_icmp_ge (tgt := 40) C.1 C.2.1 dX2_doFirst_4 (by decide) (fun _ => ?_) (fun h => absurd (nI_le (by omega) (by omega)) h)
      refine lv_aload_n C.1 C.2.1 dX2_doFirst_40 rfl (lv_at hl 1 rfl) ?_
      refine lv_iconst (v := nI 0) C.1 C.2.1 dX2_doFirst_41 (by decide +kernel) ?_
      refine va_put (ci := 2) (C := RX2) (T := TX2) (N := 3) (ty := .int) C.1 C.2.1 C.2.2.2.2.2.1 ui_X2 tyX2 tyX2_ok nmX2 C.2.2.2.2.1 C.2.2.2.2.2.2.2.1 hP hD hS qW (ws_ne hwa hW) rfl 2 (by decide) (C.2.2.2.2.2.1 _ tw_42) (fun _ h9 => h9) rfl (by decide +kernel) rfl rfl (Nat.le_of_ble_eq_true rfl) dX2_doFirst_42 (fun H locs hP hD hS => ?_)
      exact cm_vret C hP hD hS dX2_doFirst_45 rfl
    | succ k ih =>
      intro j g hj ls H locs hl hP hD hS
      refine lv_iload_n C.1 C.2.1 dX2_doFirst_2 rfl (lv_at hl 0 rfl) ?_
      refine lv_iload_n C.1 C.2.1 dX2_doFirst_3 rfl (lv_at hl 2 rfl) ?_
      refine lv_icmp_ge (tgt := 40) C.1 C.2.1 dX2_doFirst_4 (by decide) (fun h => absurd h (nI_ge (by omega) (by omega))) (fun _ => ?_)
      refine lv_iload_n C.1 C.2.1 dX2_doFirst_7 rfl (lv_at hl 0 rfl) ?_
      refine lv_aload_n C.1 C.2.1 dX2_doFirst_8 rfl (lv_at hl 1 rfl) ?_
      refine va_get (ci := 2) (C := RX2) (T := TX2) (N := 3) C.1 C.2.1 C.2.2.2.2.2.1 ui_X2 C.2.2.2.2.1 C.2.2.2.2.2.2.2.1 hP qW (ws_ne hwa hW) rfl 0 (by decide) (C.2.2.2.2.2.1 _ tw_40) (fun _ h9 => h9) rfl dX2_doFirst_9 ?_
      refine va_alen C.1 C.2.1 C.2.2.2.2.2.2.2.1 hP qR 0 (ws_ne hra hR) rfl (v := nI 40) rfl dX2_doFirst_12 ?_
      refine lv_icmp_ge (tgt := 40) C.1 C.2.1 dX2_doFirst_13 (by decide) (fun h => absurd h (nI_ge (by omega) (by decide))) (fun _ => ?_)
      refine lv_aload_n C.1 C.2.1 dX2_doFirst_16 rfl (lv_at hl 1 rfl) ?_
      refine va_get (ci := 2) (C := RX2) (T := TX2) (N := 3) C.1 C.2.1 C.2.2.2.2.2.1 ui_X2 C.2.2.2.2.1 C.2.2.2.2.2.2.2.1 hP qW (ws_ne hwa hW) rfl 1 (by decide) (C.2.2.2.2.2.1 _ tw_41) (fun _ h9 => h9) rfl dX2_doFirst_17 ?_
      refine lv_iload_n C.1 C.2.1 dX2_doFirst_20 rfl (lv_at hl 0 rfl) ?_
      refine lv_aload_n C.1 C.2.1 dX2_doFirst_21 rfl (lv_at hl 3 rfl) ?_
      refine va_get (ci := 0) (C := RX0) (T := TX0) (N := 1) C.1 C.2.1 C.2.2.2.2.2.1 ui_X0 C.2.2.2.2.1 C.2.2.2.2.2.2.2.1 hP qI (ws_ne hia hI) rfl 0 (by decide) (C.2.2.2.2.2.1 _ tw_28) (fun _ h9 => h9) rfl dX2_doFirst_22 ?_
      refine lv_aload_n C.1 C.2.1 dX2_doFirst_25 rfl (lv_at hl 1 rfl) ?_
      refine va_get (ci := 2) (C := RX2) (T := TX2) (N := 3) C.1 C.2.1 C.2.2.2.2.2.1 ui_X2 C.2.2.2.2.1 C.2.2.2.2.2.2.2.1 hP qW (ws_ne hwa hW) rfl 0 (by decide) (C.2.2.2.2.2.1 _ tw_40) (fun _ h9 => h9) rfl dX2_doFirst_26 ?_
      refine lv_iload_n C.1 C.2.1 dX2_doFirst_29 rfl (lv_at hl 0 rfl) ?_
      refine va_iald C.1 C.2.1 C.2.2.2.2.2.2.2.1 hP qR 0 (ws_ne hra hR) rfl (vp_in_nI (by omega) (by decide)) dX2_doFirst_30 ?_
      rw [nI_clamp (by omega), (hrw j (by omega)).1]
      refine cm_cN0 (host := RX3) 4 C (c_copyRow l D cI cZ cJ _ (ws_ne hca hC) (by decide) (ws_self hA) (by decide) j (fr j).toNatClampNeg (by omega) (by have := (hrw j (by omega)).2; omega)) tw_240 rfl rfl (C.2.2.2.2.2.2.2.2.2.2.2.2.2.2.2.2.2) tw_1 tw_239 (by decide +kernel) ⟨Nat.le_of_ble_eq_true rfl, Nat.le_of_ble_eq_true rfl⟩ ⟨Nat.zero_le _, Nat.zero_le _⟩ hP hD hS hl.1 rfl rfl (Nat.le_of_ble_eq_true rfl) dX2_doFirst_31 (fun H locs hP hD hS => ?_)
      rw [List.set_set] at hP hD
      refine lv_iinc (v := nI (j + 1)) (lv' := [(3, _), (0, _), (1, _), (2, _)]) C.1 C.2.1 dX2_doFirst_34 hl (k := 0) rfl (nI_1 j) (by decide) rfl (fun ls hl => ?_)
      refine lv_goto (tgt := 2) C.1 C.2.1 dX2_doFirst_37 (by decide) ?_
      exact ih (j + 1) _ (by omega) ls H locs hl hP hD hS
  have hs : ws.set qA (ad, .inl (cI, 440, .inl f)) = ws := ws_id hA
  exact loop n 0 f (Nat.zero_add n) ls H locs hl (by rw [hs]; exact hP) (by rw [hs]; exact hD) hS
end
section
theorem optA_some (z i : Nat) : optA z (some i) = nI (36 * z + i) := rfl
theorem optA_none (z : Nat) : optA z none = -1 := rfl
/-! ===== moves told in a row, and the class's search: find, nextOnPath, layPath, choose ===== -/
def encA (z : Nat) : (Nat → Int32) → Nat → List (Nat × Int32 × Int32) → (Nat → Int32)
  | fm, _, [] => fm
  | fm, t, m :: M => encA z (addM fm t (nI (36 * z + m.1)) m.2.1 m.2.2) (t + 1) M
theorem encA_app (z : Nat) (m : Nat × Int32 × Int32) : ∀ (M : List (Nat × Int32 × Int32)) (fm : Nat → Int32) (t : Nat), encA z fm t (M ++ [m]) = addM (encA z fm t M) (t + M.length) (nI (36 * z + m.1)) m.2.1 m.2.2 := by
  intro M
  induction M with
  | nil => intro fm t; rfl
  | cons a M ih =>
    intro fm t
    simp only [List.cons_append, encA, List.length_cons]
    rw [ih, show t + 1 + M.length = t + (M.length + 1) by omega]
theorem addM_0 (fm : Nat → Int32) (t : Nat) (a k v : Int32) : addM fm t a k v 0 = nI (t + 1) := by simp [addM, upd]
theorem addM_old (fm : Nat → Int32) (t : Nat) (a k v : Int32) (i j : Nat) (hi : 1 ≤ i) (hi2 : i ≤ 3) (hj : j < t) : addM fm t a k v (i + j * 3) = fm (i + j * 3) := by
  unfold addM
  rw [pk_un (by omega), pk_un (by omega), pk_un (by omega), pk_un (by omega)]
theorem addM_1 (fm : Nat → Int32) (t : Nat) (a k v : Int32) : addM fm t a k v (1 + t * 3) = a := by
  unfold addM
  rw [pk_un (by omega), pk_un (by omega), pk_un (by omega), pk_us]
theorem addM_2 (fm : Nat → Int32) (t : Nat) (a k v : Int32) : addM fm t a k v (2 + t * 3) = k := by
  unfold addM
  rw [pk_un (by omega), pk_un (by omega), pk_us]
theorem addM_3 (fm : Nat → Int32) (t : Nat) (a k v : Int32) : addM fm t a k v (3 + t * 3) = v := by
  unfold addM
  rw [pk_un (by omega), pk_us]
theorem encA_0 (z : Nat) : ∀ (M : List (Nat × Int32 × Int32)) (fm : Nat → Int32) (t : Nat), fm 0 = nI t → encA z fm t M 0 = nI (t + M.length) := by
  intro M
  induction M with
  | nil => intro fm t h; exact h
  | cons a M ih =>
    intro fm t h
    simp only [encA, List.length_cons]
    rw [ih _ _ (addM_0 _ _ _ _ _), show t + 1 + M.length = t + (M.length + 1) by omega]
theorem encA_old (z i j : Nat) (hi : 1 ≤ i) (hi2 : i ≤ 3) : ∀ (M : List (Nat × Int32 × Int32)) (fm : Nat → Int32) (t : Nat), j < t → encA z fm t M (i + j * 3) = fm (i + j * 3) := by
  intro M
  induction M with
  | nil => intro fm t h; rfl
  | cons a M ih =>
    intro fm t h
    simp only [encA]
    rw [ih _ _ (by omega), addM_old _ _ _ _ _ _ _ hi hi2 h]
theorem encA_get (z : Nat) : ∀ (M : List (Nat × Int32 × Int32)) (fm : Nat → Int32) (t j : Nat) (m : Nat × Int32 × Int32), M[j]? = some m → encA z fm t M (1 + (t + j) * 3) = nI (36 * z + m.1) ∧ encA z fm t M (2 + (t + j) * 3) = m.2.1 ∧ encA z fm t M (3 + (t + j) * 3) = m.2.2 := by
  intro M
  induction M with
  | nil => intro fm t j m h; simp at h
  | cons a M ih =>
    intro fm t j m h
    simp only [encA]
    cases j with
    | zero =>
      have h : a = m := by simpa using h
      subst h
      simp only [Nat.add_zero]
      refine ⟨?_, ?_, ?_⟩
      · rw [encA_old z 1 t (by omega) (by omega) M _ (t + 1) (by omega)]; exact addM_1 _ _ _ _ _
      · rw [encA_old z 2 t (by omega) (by omega) M _ (t + 1) (by omega)]; exact addM_2 _ _ _ _ _
      · rw [encA_old z 3 t (by omega) (by omega) M _ (t + 1) (by omega)]; exact addM_3 _ _ _ _ _
    | succ j =>
      have h : M[j]? = some m := by simpa using h
      rw [show t + (j + 1) = t + 1 + j by omega]
      exact ih _ _ j m h
theorem mvS_get (k v : Nat → Int32) : ∀ (L : List Nat) (a b : Int32) (j : Nat), ((mvS k v a b L)[j]?).map (·.1) = L[j]? := by
  intro L
  induction L with
  | nil => intro a b j; simp [mvS]
  | cons q L ih =>
    intro a b j
    cases j with
    | zero => simp [mvS]
    | succ j => simp only [mvS, List.getElem?_cons_succ]; exact ih _ _ j
theorem anyB_iff (P : Nat → Bool) : ∀ (k j : Nat), anyB P j k = true ↔ ∃ i, j ≤ i ∧ i < j + k ∧ P i = true := by
  intro k
  induction k with
  | zero => intro j; constructor
            · intro h; cases h
            · rintro ⟨i, h1, h2, -⟩; omega
  | succ k ih =>
    intro j
    simp only [anyB, Bool.or_eq_true, ih]
    constructor
    · rintro (h | ⟨i, h1, h2, h3⟩)
      · exact ⟨j, Nat.le_refl j, by omega, h⟩
      · exact ⟨i, by omega, by omega, h3⟩
    · rintro ⟨i, h1, h2, h3⟩
      rcases Nat.lt_or_ge j i with q | q
      · exact Or.inr ⟨i, by omega, by omega, h3⟩
      · obtain rfl : i = j := by omega
        exact Or.inl h3
theorem says_iff (z : Nat) (hz : z < 2) (fm0 : Nat → Int32) (k v : Nat → Int32) (a b : Int32) (L : List Nat) (hL : ∀ q ∈ L, q < 36) (q : Nat) (hq : q < 36) : anyB (saysP (encA z fm0 0 (mvS k v a b L)) (nI (36 * z + q))) 0 L.length = decide (q ∈ L) := by
  rw [Bool.eq_iff_iff, anyB_iff, decide_eq_true_eq]
  have key : ∀ i p, L[i]? = some p → encA z fm0 0 (mvS k v a b L) (1 + i * 3) = nI (36 * z + p) := by
    intro i p h
    have h1 := mvS_get k v L a b i
    rw [h] at h1
    cases hm : (mvS k v a b L)[i]? with
    | none => rw [hm] at h1; cases h1
    | some m =>
      rw [hm] at h1
      have h2 := (encA_get z _ fm0 0 i m hm).1
      rw [Nat.zero_add] at h2
      rw [h2, ← Option.some.inj h1]
  constructor
  · rintro ⟨i, -, h2, h3⟩
    have hi : L[i]? = some (L[i]'(by omega)) := List.getElem?_eq_getElem (by omega)
    have h4 := key i _ hi
    simp only [saysP, decide_eq_true_eq] at h3
    rw [h4] at h3
    have hlt := hL _ (List.getElem_mem (l := L) (n := i) (by omega))
    have h5 := (nI_eq (by omega) (by omega)).mp h3
    have h6 : L[i]'(by omega) = q := by omega
    rw [← h6]; exact List.getElem_mem _
  · intro h
    obtain ⟨i, hi, rfl⟩ := List.getElem_of_mem h
    refine ⟨i, Nat.zero_le _, by omega, ?_⟩
    simp only [saysP, decide_eq_true_eq]
    exact key i _ (List.getElem?_eq_getElem hi)
theorem kX_otherRow (l : Launch) (D : va_G) (cI cZ cJ : ClassId) (ws : va_W) (z b : Nat) (hz0 : z < 2) (hb0 : b < 8) (s0 k : Int32) : CM l D (cm_T cI cZ cJ) yX3_otherRow cX3_otherRow 5 (some .int) (cm_rm 1 27) [.int (nI (z * 9 + b)), .int s0, .int k] ws (some (.int (nI (z * 9 + otherS s0 k b)))) ws := by
  have h := c_otherRow l D cI cZ cJ ws z b hz0 hb0 s0 k
  rw [Nat.mul_comm 9 z] at h
  exact h
set_option maxHeartbeats 4000000 in
set_option maxRecDepth 100000 in
/-- find -/
theorem k_X3_find (l : Launch) (D : va_G) (cI cZ cJ : ClassId) (ws : va_W) {qI qA im ad : Nat} {f : Nat → Int32} (hI : ws[qI]? = some (im, .inr (0, [.ref ad]))) (hA : ws[qA]? = some (ad, .inl (cI, 440, .inl f))) (z : Nat) (hz0 : z < 2) (hz : f 396 = nI z) (s0 key : Int32) : CM l D (cm_T cI cZ cJ) yX3_find cX3_find 4 (some .int) (cm_rm 3 64) [.ref im, .int s0, .int key] ws (some (.int (optA z (findS (uR f z) (kR f z) s0 key)))) (ws) := by
  refine CM.of (by decide) (Nat.le_of_ble_eq_true rfl) ?_
  intro p e s m below meth c ls H locs C hl hP hD hS
  have q1 := hm1_lt s0 key
  have q2 := hm2_lt s0 key
  cases e1 : atS (uR f z) (kR f z) key (hm1 s0 key) with
  | some i =>
    have q3 := (atS_lt e1 (by omega)).1
    refine lv_aload_n C.1 C.2.1 dX3_find_0 rfl (lv_at hl 0 rfl) ?_
    refine lv_aload_n C.1 C.2.1 dX3_find_1 rfl (lv_at hl 0 rfl) ?_
    refine lv_iload_n C.1 C.2.1 dX3_find_2 rfl (lv_at hl 1 rfl) ?_
    refine lv_iload_n C.1 C.2.1 dX3_find_3 rfl (lv_at hl 2 rfl) ?_
    refine lv_iconst (v := nI 0) C.1 C.2.1 dX3_find_4 (by decide +kernel) ?_
    refine cm_cS1 3 C (c_homeBy1 l D cI cZ cJ _ s0 key) tw_114 tw_115 tw_1 tw_116 rfl rfl (by decide +kernel) ⟨Nat.le_of_ble_eq_true rfl, Nat.le_of_ble_eq_true rfl⟩ ⟨Nat.zero_le _, Nat.zero_le _⟩ hP hD hS hl.1 rfl rfl (Nat.le_of_ble_eq_true rfl) dX3_find_5 (fun H locs hP hD hS => ?_)
    refine cm_cV1 (q0 := qI) 1 C (k_X0_rowInUse l D cI cZ cJ _ hI hA z (hm1 s0 key) hz) tw_120 tw_121 tw_122 tw_2 tw_123 rfl rfl (hI) rfl (by decide +kernel) ⟨Nat.le_of_ble_eq_true rfl, Nat.le_of_ble_eq_true rfl⟩ ⟨Nat.zero_le _, Nat.zero_le _⟩ hP hD hS hl.1 rfl rfl (Nat.le_of_ble_eq_true rfl) dX3_find_8 (fun H locs hP hD hS => ?_)
    refine lv_iload_n C.1 C.2.1 dX3_find_11 rfl (lv_at hl 2 rfl) ?_
    refine cm_cV1 (q0 := qI) 2 C (k_X0_placeIn l D cI cZ cJ _ hI hA (z * 9 + hm1 s0 key) (by omega) key) tw_128 tw_129 tw_130 tw_2 tw_131 rfl rfl (hI) rfl (by decide +kernel) ⟨Nat.le_of_ble_eq_true rfl, Nat.le_of_ble_eq_true rfl⟩ ⟨Nat.zero_le _, Nat.zero_le _⟩ hP hD hS hl.1 rfl rfl (Nat.le_of_ble_eq_true rfl) dX3_find_12 (fun H locs hP hD hS => ?_)
    rw [at_abs, e1, optA_some]
    refine lv_istore_n (lv' := [(3, _), (0, _), (1, _), (2, _)]) C.1 C.2.1 dX3_find_15 rfl hl (by decide) rfl (fun ls hl => ?_)
    refine lv_iload_n C.1 C.2.1 dX3_find_16 rfl (lv_at hl 0 rfl) ?_
    refine lv_iconst (v := (-1)) C.1 C.2.1 dX3_find_17 (by decide +kernel) ?_
    refine lv_icmp_ne (tgt := 37) C.1 C.2.1 dX3_find_18 (by decide) (fun _ => ?_) (fun h => absurd h (nI_m1 (by omega)))
    refine lv_iload_n C.1 C.2.1 dX3_find_37 rfl (lv_at hl 0 rfl) ?_
    refine lv_iconst (v := (-1)) C.1 C.2.1 dX3_find_38 (by decide +kernel) ?_
    refine lv_icmp_ne (tgt := 54) C.1 C.2.1 dX3_find_39 (by decide) (fun _ => ?_) (fun h => absurd h (nI_m1 (by omega)))
    refine lv_iload_n C.1 C.2.1 dX3_find_54 rfl (lv_at hl 0 rfl) ?_
    exact cm_iret C hP hD hS dX3_find_55 (by unfold findS; rw [e1]; rfl) rfl
  | none =>
    cases e2 : atS (uR f z) (kR f z) key (hm2 s0 key) with
    | some i =>
      have q3 := (atS_lt e2 (by omega)).1
      refine lv_aload_n C.1 C.2.1 dX3_find_0 rfl (lv_at hl 0 rfl) ?_
      refine lv_aload_n C.1 C.2.1 dX3_find_1 rfl (lv_at hl 0 rfl) ?_
      refine lv_iload_n C.1 C.2.1 dX3_find_2 rfl (lv_at hl 1 rfl) ?_
      refine lv_iload_n C.1 C.2.1 dX3_find_3 rfl (lv_at hl 2 rfl) ?_
      refine lv_iconst (v := nI 0) C.1 C.2.1 dX3_find_4 (by decide +kernel) ?_
      refine cm_cS1 3 C (c_homeBy1 l D cI cZ cJ _ s0 key) tw_114 tw_115 tw_1 tw_116 rfl rfl (by decide +kernel) ⟨Nat.le_of_ble_eq_true rfl, Nat.le_of_ble_eq_true rfl⟩ ⟨Nat.zero_le _, Nat.zero_le _⟩ hP hD hS hl.1 rfl rfl (Nat.le_of_ble_eq_true rfl) dX3_find_5 (fun H locs hP hD hS => ?_)
      refine cm_cV1 (q0 := qI) 1 C (k_X0_rowInUse l D cI cZ cJ _ hI hA z (hm1 s0 key) hz) tw_120 tw_121 tw_122 tw_2 tw_123 rfl rfl (hI) rfl (by decide +kernel) ⟨Nat.le_of_ble_eq_true rfl, Nat.le_of_ble_eq_true rfl⟩ ⟨Nat.zero_le _, Nat.zero_le _⟩ hP hD hS hl.1 rfl rfl (Nat.le_of_ble_eq_true rfl) dX3_find_8 (fun H locs hP hD hS => ?_)
      refine lv_iload_n C.1 C.2.1 dX3_find_11 rfl (lv_at hl 2 rfl) ?_
      refine cm_cV1 (q0 := qI) 2 C (k_X0_placeIn l D cI cZ cJ _ hI hA (z * 9 + hm1 s0 key) (by omega) key) tw_128 tw_129 tw_130 tw_2 tw_131 rfl rfl (hI) rfl (by decide +kernel) ⟨Nat.le_of_ble_eq_true rfl, Nat.le_of_ble_eq_true rfl⟩ ⟨Nat.zero_le _, Nat.zero_le _⟩ hP hD hS hl.1 rfl rfl (Nat.le_of_ble_eq_true rfl) dX3_find_12 (fun H locs hP hD hS => ?_)
      rw [at_abs, e1, optA_none]
      refine lv_istore_n (lv' := [(3, _), (0, _), (1, _), (2, _)]) C.1 C.2.1 dX3_find_15 rfl hl (by decide) rfl (fun ls hl => ?_)
      refine lv_iload_n C.1 C.2.1 dX3_find_16 rfl (lv_at hl 0 rfl) ?_
      refine lv_iconst (v := (-1)) C.1 C.2.1 dX3_find_17 (by decide +kernel) ?_
      refine lv_icmp_ne (tgt := 37) C.1 C.2.1 dX3_find_18 (by decide) (fun h => absurd (rfl) h) (fun _ => ?_)
      refine lv_aload_n C.1 C.2.1 dX3_find_21 rfl (lv_at hl 1 rfl) ?_
      refine lv_aload_n C.1 C.2.1 dX3_find_22 rfl (lv_at hl 1 rfl) ?_
      refine lv_iload_n C.1 C.2.1 dX3_find_23 rfl (lv_at hl 2 rfl) ?_
      refine lv_iload_n C.1 C.2.1 dX3_find_24 rfl (lv_at hl 3 rfl) ?_
      refine lv_iconst (v := nI 1) C.1 C.2.1 dX3_find_25 (by decide +kernel) ?_
      refine cm_cS1 3 C (c_homeBy2 l D cI cZ cJ _ s0 key) tw_114 tw_115 tw_1 tw_116 rfl rfl (by decide +kernel) ⟨Nat.le_of_ble_eq_true rfl, Nat.le_of_ble_eq_true rfl⟩ ⟨Nat.zero_le _, Nat.zero_le _⟩ hP hD hS hl.1 rfl rfl (Nat.le_of_ble_eq_true rfl) dX3_find_26 (fun H locs hP hD hS => ?_)
      refine cm_cV1 (q0 := qI) 1 C (k_X0_rowInUse l D cI cZ cJ _ hI hA z (hm2 s0 key) hz) tw_120 tw_121 tw_122 tw_2 tw_123 rfl rfl (hI) rfl (by decide +kernel) ⟨Nat.le_of_ble_eq_true rfl, Nat.le_of_ble_eq_true rfl⟩ ⟨Nat.zero_le _, Nat.zero_le _⟩ hP hD hS hl.1 rfl rfl (Nat.le_of_ble_eq_true rfl) dX3_find_29 (fun H locs hP hD hS => ?_)
      refine lv_iload_n C.1 C.2.1 dX3_find_32 rfl (lv_at hl 3 rfl) ?_
      refine cm_cV1 (q0 := qI) 2 C (k_X0_placeIn l D cI cZ cJ _ hI hA (z * 9 + hm2 s0 key) (by omega) key) tw_128 tw_129 tw_130 tw_2 tw_131 rfl rfl (hI) rfl (by decide +kernel) ⟨Nat.le_of_ble_eq_true rfl, Nat.le_of_ble_eq_true rfl⟩ ⟨Nat.zero_le _, Nat.zero_le _⟩ hP hD hS hl.1 rfl rfl (Nat.le_of_ble_eq_true rfl) dX3_find_33 (fun H locs hP hD hS => ?_)
      rw [at_abs, e2, optA_some]
      refine lv_istore_n (lv' := [(3, _), (0, _), (1, _), (2, _)]) C.1 C.2.1 dX3_find_36 rfl hl (by decide) rfl (fun ls hl => ?_)
      refine lv_iload_n C.1 C.2.1 dX3_find_37 rfl (lv_at hl 0 rfl) ?_
      refine lv_iconst (v := (-1)) C.1 C.2.1 dX3_find_38 (by decide +kernel) ?_
      refine lv_icmp_ne (tgt := 54) C.1 C.2.1 dX3_find_39 (by decide) (fun _ => ?_) (fun h => absurd h (nI_m1 (by omega)))
      refine lv_iload_n C.1 C.2.1 dX3_find_54 rfl (lv_at hl 0 rfl) ?_
      exact cm_iret C hP hD hS dX3_find_55 (by unfold findS; rw [e1, e2]; rfl) rfl
    | none =>
      refine lv_aload_n C.1 C.2.1 dX3_find_0 rfl (lv_at hl 0 rfl) ?_
      refine lv_aload_n C.1 C.2.1 dX3_find_1 rfl (lv_at hl 0 rfl) ?_
      refine lv_iload_n C.1 C.2.1 dX3_find_2 rfl (lv_at hl 1 rfl) ?_
      refine lv_iload_n C.1 C.2.1 dX3_find_3 rfl (lv_at hl 2 rfl) ?_
      refine lv_iconst (v := nI 0) C.1 C.2.1 dX3_find_4 (by decide +kernel) ?_
      refine cm_cS1 3 C (c_homeBy1 l D cI cZ cJ _ s0 key) tw_114 tw_115 tw_1 tw_116 rfl rfl (by decide +kernel) ⟨Nat.le_of_ble_eq_true rfl, Nat.le_of_ble_eq_true rfl⟩ ⟨Nat.zero_le _, Nat.zero_le _⟩ hP hD hS hl.1 rfl rfl (Nat.le_of_ble_eq_true rfl) dX3_find_5 (fun H locs hP hD hS => ?_)
      refine cm_cV1 (q0 := qI) 1 C (k_X0_rowInUse l D cI cZ cJ _ hI hA z (hm1 s0 key) hz) tw_120 tw_121 tw_122 tw_2 tw_123 rfl rfl (hI) rfl (by decide +kernel) ⟨Nat.le_of_ble_eq_true rfl, Nat.le_of_ble_eq_true rfl⟩ ⟨Nat.zero_le _, Nat.zero_le _⟩ hP hD hS hl.1 rfl rfl (Nat.le_of_ble_eq_true rfl) dX3_find_8 (fun H locs hP hD hS => ?_)
      refine lv_iload_n C.1 C.2.1 dX3_find_11 rfl (lv_at hl 2 rfl) ?_
      refine cm_cV1 (q0 := qI) 2 C (k_X0_placeIn l D cI cZ cJ _ hI hA (z * 9 + hm1 s0 key) (by omega) key) tw_128 tw_129 tw_130 tw_2 tw_131 rfl rfl (hI) rfl (by decide +kernel) ⟨Nat.le_of_ble_eq_true rfl, Nat.le_of_ble_eq_true rfl⟩ ⟨Nat.zero_le _, Nat.zero_le _⟩ hP hD hS hl.1 rfl rfl (Nat.le_of_ble_eq_true rfl) dX3_find_12 (fun H locs hP hD hS => ?_)
      rw [at_abs, e1, optA_none]
      refine lv_istore_n (lv' := [(3, _), (0, _), (1, _), (2, _)]) C.1 C.2.1 dX3_find_15 rfl hl (by decide) rfl (fun ls hl => ?_)
      refine lv_iload_n C.1 C.2.1 dX3_find_16 rfl (lv_at hl 0 rfl) ?_
      refine lv_iconst (v := (-1)) C.1 C.2.1 dX3_find_17 (by decide +kernel) ?_
      refine lv_icmp_ne (tgt := 37) C.1 C.2.1 dX3_find_18 (by decide) (fun h => absurd (rfl) h) (fun _ => ?_)
      refine lv_aload_n C.1 C.2.1 dX3_find_21 rfl (lv_at hl 1 rfl) ?_
      refine lv_aload_n C.1 C.2.1 dX3_find_22 rfl (lv_at hl 1 rfl) ?_
      refine lv_iload_n C.1 C.2.1 dX3_find_23 rfl (lv_at hl 2 rfl) ?_
      refine lv_iload_n C.1 C.2.1 dX3_find_24 rfl (lv_at hl 3 rfl) ?_
      refine lv_iconst (v := nI 1) C.1 C.2.1 dX3_find_25 (by decide +kernel) ?_
      refine cm_cS1 3 C (c_homeBy2 l D cI cZ cJ _ s0 key) tw_114 tw_115 tw_1 tw_116 rfl rfl (by decide +kernel) ⟨Nat.le_of_ble_eq_true rfl, Nat.le_of_ble_eq_true rfl⟩ ⟨Nat.zero_le _, Nat.zero_le _⟩ hP hD hS hl.1 rfl rfl (Nat.le_of_ble_eq_true rfl) dX3_find_26 (fun H locs hP hD hS => ?_)
      refine cm_cV1 (q0 := qI) 1 C (k_X0_rowInUse l D cI cZ cJ _ hI hA z (hm2 s0 key) hz) tw_120 tw_121 tw_122 tw_2 tw_123 rfl rfl (hI) rfl (by decide +kernel) ⟨Nat.le_of_ble_eq_true rfl, Nat.le_of_ble_eq_true rfl⟩ ⟨Nat.zero_le _, Nat.zero_le _⟩ hP hD hS hl.1 rfl rfl (Nat.le_of_ble_eq_true rfl) dX3_find_29 (fun H locs hP hD hS => ?_)
      refine lv_iload_n C.1 C.2.1 dX3_find_32 rfl (lv_at hl 3 rfl) ?_
      refine cm_cV1 (q0 := qI) 2 C (k_X0_placeIn l D cI cZ cJ _ hI hA (z * 9 + hm2 s0 key) (by omega) key) tw_128 tw_129 tw_130 tw_2 tw_131 rfl rfl (hI) rfl (by decide +kernel) ⟨Nat.le_of_ble_eq_true rfl, Nat.le_of_ble_eq_true rfl⟩ ⟨Nat.zero_le _, Nat.zero_le _⟩ hP hD hS hl.1 rfl rfl (Nat.le_of_ble_eq_true rfl) dX3_find_33 (fun H locs hP hD hS => ?_)
      rw [at_abs, e2, optA_none]
      refine lv_istore_n (lv' := [(3, _), (0, _), (1, _), (2, _)]) C.1 C.2.1 dX3_find_36 rfl hl (by decide) rfl (fun ls hl => ?_)
      refine lv_iload_n C.1 C.2.1 dX3_find_37 rfl (lv_at hl 0 rfl) ?_
      refine lv_iconst (v := (-1)) C.1 C.2.1 dX3_find_38 (by decide +kernel) ?_
      refine lv_icmp_ne (tgt := 54) C.1 C.2.1 dX3_find_39 (by decide) (fun h => absurd (rfl) h) (fun _ => ?_)
      refine lv_aload_n C.1 C.2.1 dX3_find_42 rfl (lv_at hl 1 rfl) ?_
      refine lv_aload_n C.1 C.2.1 dX3_find_43 rfl (lv_at hl 1 rfl) ?_
      refine lv_bipush (v := nI 8) C.1 C.2.1 dX3_find_44 (by decide +kernel) ?_
      refine cm_cV1 (q0 := qI) 1 C (k_X0_rowInUse l D cI cZ cJ _ hI hA z (8) hz) tw_120 tw_121 tw_122 tw_2 tw_123 rfl rfl (hI) rfl (by decide +kernel) ⟨Nat.le_of_ble_eq_true rfl, Nat.le_of_ble_eq_true rfl⟩ ⟨Nat.zero_le _, Nat.zero_le _⟩ hP hD hS hl.1 rfl rfl (Nat.le_of_ble_eq_true rfl) dX3_find_46 (fun H locs hP hD hS => ?_)
      refine lv_iload_n C.1 C.2.1 dX3_find_49 rfl (lv_at hl 3 rfl) ?_
      refine cm_cV1 (q0 := qI) 2 C (k_X0_placeIn l D cI cZ cJ _ hI hA (z * 9 + 8) (by omega) key) tw_128 tw_129 tw_130 tw_2 tw_131 rfl rfl (hI) rfl (by decide +kernel) ⟨Nat.le_of_ble_eq_true rfl, Nat.le_of_ble_eq_true rfl⟩ ⟨Nat.zero_le _, Nat.zero_le _⟩ hP hD hS hl.1 rfl rfl (Nat.le_of_ble_eq_true rfl) dX3_find_50 (fun H locs hP hD hS => ?_)
      rw [at_abs]
      refine lv_istore_n (lv' := [(3, _), (0, _), (1, _), (2, _)]) C.1 C.2.1 dX3_find_53 rfl hl (by decide) rfl (fun ls hl => ?_)
      refine lv_iload_n C.1 C.2.1 dX3_find_54 rfl (lv_at hl 0 rfl) ?_
      exact cm_iret C hP hD hS dX3_find_55 (by unfold findS; rw [e1, e2]) rfl
set_option maxHeartbeats 4000000 in
set_option maxRecDepth 100000 in
/-- seedInUse -/
theorem k_X3_seedInUse (l : Launch) (D : va_G) (cI cZ cJ : ClassId) (ws : va_W) {qO h v1 v2 v3 v4 v5 mv : Nat} {ev ta lp lr : Int32} (hO : ws[qO]? = some (h, .inr (3, [.ref v1, .ref v2, .ref v3, .ref v4, .ref v5, .ref mv, .int ev, .int ta, .int lp, .int lr]))) {qS : Nat} {sd : Nat → Int32} (hS0 : ws[qS]? = some (v1, .inl (cI, 4, .inl sd))) {qI qA im ad : Nat} {f : Nat → Int32} (hI : ws[qI]? = some (im, .inr (0, [.ref ad]))) (hA : ws[qA]? = some (ad, .inl (cI, 440, .inl f))) (y : Nat) (hy : y < 4) (h397 : f 397 = nI y) : CM l D (cm_T cI cZ cJ) yX3_seedInUse cX3_seedInUse 3 (some .int) (cm_rm 2 43) [.ref h, .ref im] ws (some (.int (sd y))) (ws) := by
  refine CM.of (by decide) (Nat.le_of_ble_eq_true rfl) ?_
  intro p e s m below meth c ls H locs C hl hP hD hS
  refine lv_aload_n C.1 C.2.1 dX3_seedInUse_0 rfl (lv_at hl 1 rfl) ?_
  refine cm_cV1 (q0 := qI) 0 C (k_X0_seedTold l D cI cZ cJ _ hI hA) tw_100 tw_101 tw_102 tw_2 tw_103 rfl rfl (hI) rfl (by decide +kernel) ⟨Nat.le_of_ble_eq_true rfl, Nat.le_of_ble_eq_true rfl⟩ ⟨Nat.zero_le _, Nat.zero_le _⟩ hP hD hS hl.1 rfl rfl (Nat.le_of_ble_eq_true rfl) dX3_seedInUse_1 (fun H locs hP hD hS => ?_)
  rw [h397]
  refine lv_istore_n (lv' := [(2, _), (0, _), (1, _)]) C.1 C.2.1 dX3_seedInUse_4 rfl hl (by decide) rfl (fun ls hl => ?_)
  refine lv_iload_n C.1 C.2.1 dX3_seedInUse_5 rfl (lv_at hl 0 rfl) ?_
  refine lv_if_lt (tgt := 27) C.1 C.2.1 dX3_seedInUse_6 (by decide) (fun h => absurd h (nI_pos (by omega))) (fun _ => ?_)
  refine lv_iload_n C.1 C.2.1 dX3_seedInUse_9 rfl (lv_at hl 0 rfl) ?_
  refine lv_aload_n C.1 C.2.1 dX3_seedInUse_10 rfl (lv_at hl 1 rfl) ?_
  refine va_get (ci := 3) (C := RX3) (T := TX3) (N := 10) C.1 C.2.1 C.2.2.2.2.2.1 ui_X3 C.2.2.2.2.1 C.2.2.2.2.2.2.2.1 hP qO (hO) rfl 0 (by decide) (C.2.2.2.2.2.1 _ tw_61) (fun _ h9 => h9) rfl dX3_seedInUse_11 ?_
  refine va_alen C.1 C.2.1 C.2.2.2.2.2.2.2.1 hP qS 0 (hS0) rfl (v := nI 4) rfl dX3_seedInUse_14 ?_
  refine lv_icmp_ge (tgt := 27) C.1 C.2.1 dX3_seedInUse_15 (by decide) (fun h => absurd h (nI_ge hy (by decide))) (fun _ => ?_)
  refine lv_aload_n C.1 C.2.1 dX3_seedInUse_18 rfl (lv_at hl 1 rfl) ?_
  refine va_get (ci := 3) (C := RX3) (T := TX3) (N := 10) C.1 C.2.1 C.2.2.2.2.2.1 ui_X3 C.2.2.2.2.1 C.2.2.2.2.2.2.2.1 hP qO (hO) rfl 0 (by decide) (C.2.2.2.2.2.1 _ tw_61) (fun _ h9 => h9) rfl dX3_seedInUse_19 ?_
  refine lv_iload_n C.1 C.2.1 dX3_seedInUse_22 rfl (lv_at hl 0 rfl) ?_
  refine va_iald C.1 C.2.1 C.2.2.2.2.2.2.2.1 hP qS 0 (hS0) rfl (vp_in_nI hy (by decide)) dX3_seedInUse_23 ?_
  rw [nI_clamp (by omega)]
  refine lv_goto (tgt := 28) C.1 C.2.1 dX3_seedInUse_24 (by decide) ?_
  exact cm_iret C hP hD hS dX3_seedInUse_28 (rfl) (rfl)
set_option maxHeartbeats 4000000 in
set_option maxRecDepth 100000 in
/-- nextOnPath -/
theorem k_X3_nextOnPath (l : Launch) (D : va_G) (cI cZ cJ : ClassId) (ws : va_W) {qO h v1 v2 v3 v4 v5 mv : Nat} {ev ta lp lr : Int32} (hO : ws[qO]? = some (h, .inr (3, [.ref v1, .ref v2, .ref v3, .ref v4, .ref v5, .ref mv, .int ev, .int ta, .int lp, .int lr]))) {an : Nat} {fm : Nat → Int32} {qM qN : Nat} (hM : ws[qM]? = some (mv, .inr (1, [.ref an]))) (hN : ws[qN]? = some (an, .inl (cI, 22, .inl fm))) (z b t0 : Nat) (hz0 : z < 2) (hb0 : b < 8) (ht0 : t0 < 4) (L : List Nat) (hLt : L.length ≤ 7) (h0 : fm 0 = nI L.length) (hsay : ∀ q, q < 36 → anyB (saysP fm (nI (36 * z + q))) 0 L.length = decide (q ∈ L)) : CM l D (cm_T cI cZ cJ) yX3_nextOnPath cX3_nextOnPath 5 (some .int) (cm_rm 2 46) [.ref h, .int (nI (z * 9 + b)), .int (nI t0)] ws (some (.int (optA z (nx L b t0 0 4)))) (ws) := by
  refine CM.of (by decide) (Nat.le_of_ble_eq_true rfl) ?_
  intro p e s m below meth c ls H locs C hl hP hD hS
  refine lv_iconst (v := nI 0) C.1 C.2.1 dX3_nextOnPath_0 (by decide +kernel) ?_
  refine lv_istore_n (lv' := [(3, _), (0, _), (1, _), (2, _)]) C.1 C.2.1 dX3_nextOnPath_1 rfl hl (by decide) rfl (fun ls hl => ?_)
  have loop : ∀ (k j : Nat), j + k = 4 → ∀ (ls : Array Slot) (H : Heap) (locs : List Loc), lv_has ls 5 [(3, .int (nI j)), (0, .ref h), (1, .int (nI (z * 9 + b))), (2, .int (nI t0))] → va_P D vwCl (ws) H → va_D (cm_A ws) (ws) → va_S (cm_A ws) s.heap H locs → W p l e (cm_rm 2 46) s m ([.ref h, .int (nI (z * 9 + b)), .int (nI t0)] : List Value).toArray below meth c H locs 0 0 (cm_Q below D [.ref h, .int (nI (z * 9 + b)), .int (nI t0)] s ws (some (.int (optA z (nx L b t0 j k)))) (ws)) (F0 m 2 ls []) := by
    intro k
    induction k with
    | zero =>
      intro j hj ls H locs hl hP hD hS
      refine lv_iload_n C.1 C.2.1 dX3_nextOnPath_2 rfl (lv_at hl 0 rfl) ?_
      refine lv_iconst (v := nI 4) C.1 C.2.1 dX3_nextOnPath_3 (by decide +kernel) ?_
      refine lv_icmp_ge (tgt := 39) C.1 C.2.1 dX3_nextOnPath_4 (by decide) (fun _ => ?_) (fun h => absurd (nI_le (by omega) (by omega)) h)
      refine lv_iconst (v := (-1)) C.1 C.2.1 dX3_nextOnPath_39 (by decide +kernel) ?_
      exact cm_iret C hP hD hS dX3_nextOnPath_40 rfl rfl
    | succ k ih =>
      intro j hj ls H locs hl hP hD hS
      refine lv_iload_n C.1 C.2.1 dX3_nextOnPath_2 rfl (lv_at hl 0 rfl) ?_
      refine lv_iconst (v := nI 4) C.1 C.2.1 dX3_nextOnPath_3 (by decide +kernel) ?_
      refine lv_icmp_ge (tgt := 39) C.1 C.2.1 dX3_nextOnPath_4 (by decide) (fun h => absurd h (nI_ge (by omega) (by decide))) (fun _ => ?_)
      refine lv_iload_n C.1 C.2.1 dX3_nextOnPath_7 rfl (lv_at hl 2 rfl) ?_
      refine lv_iload_n C.1 C.2.1 dX3_nextOnPath_8 rfl (lv_at hl 3 rfl) ?_
      refine lv_iload_n C.1 C.2.1 dX3_nextOnPath_9 rfl (lv_at hl 0 rfl) ?_
      refine lv_iadd C.1 C.2.1 dX3_nextOnPath_10 ?_
      rw [nI_add]
      refine lv_iconst (v := nI 4) C.1 C.2.1 dX3_nextOnPath_11 (by decide +kernel) ?_
      refine lv_irem C.1 C.2.1 dX3_nextOnPath_12 (by decide) ?_
      rw [pk_rem (by omega) (by decide) (by decide)]
      refine cm_cS1 2 C (c_placeOf l D cI cZ cJ _ (z * 9 + b) ((t0 + j) % 4)) tw_168 tw_133 tw_1 tw_134 rfl rfl (by decide +kernel) ⟨Nat.le_of_ble_eq_true rfl, Nat.le_of_ble_eq_true rfl⟩ ⟨Nat.zero_le _, Nat.zero_le _⟩ hP hD hS hl.1 rfl rfl (Nat.le_of_ble_eq_true rfl) dX3_nextOnPath_13 (fun H locs hP hD hS => ?_)
      rw [show (z * 9 + b) * 4 + (t0 + j) % 4 = 36 * z + (4 * b + (t0 + j) % 4) by omega]
      refine lv_istore (lv' := [(4, _), (3, _), (0, _), (1, _), (2, _)]) C.1 C.2.1 dX3_nextOnPath_16 hl (by decide) rfl (fun ls hl => ?_)
      refine lv_aload_n C.1 C.2.1 dX3_nextOnPath_18 rfl (lv_at hl 2 rfl) ?_
      refine va_get (ci := 3) (C := RX3) (T := TX3) (N := 10) C.1 C.2.1 C.2.2.2.2.2.1 ui_X3 C.2.2.2.2.1 C.2.2.2.2.2.2.2.1 hP qO (hO) rfl 5 (by decide) (C.2.2.2.2.2.1 _ tw_66) (fun _ h9 => h9) rfl dX3_nextOnPath_19 ?_
      refine lv_iload C.1 C.2.1 dX3_nextOnPath_22 (lv_at hl 0 rfl) ?_
      refine cm_cV1 (q0 := qM) 1 C (k_X1_tellOf l D cI cZ cJ _ hM hN L.length hLt h0 (nI (36 * z + (4 * b + (t0 + j) % 4)))) tw_169 tw_170 tw_171 tw_4 tw_172 rfl rfl (hM) rfl (by decide +kernel) ⟨Nat.le_of_ble_eq_true rfl, Nat.le_of_ble_eq_true rfl⟩ ⟨Nat.zero_le _, Nat.zero_le _⟩ hP hD hS hl.1 rfl rfl (Nat.le_of_ble_eq_true rfl) dX3_nextOnPath_24 (fun H locs hP hD hS => ?_)
      rw [hsay _ (by omega)]
      refine lv_if_ne (tgt := 33) C.1 C.2.1 dX3_nextOnPath_27 (by decide) (fun h27 => ?_) (fun h27 => ?_)
      · refine lv_iinc (v := nI (j + 1)) (lv' := [(3, _), (4, _), (0, _), (1, _), (2, _)]) C.1 C.2.1 dX3_nextOnPath_33 hl (k := 1) rfl (nI_1 j) (by decide) rfl (fun ls hl => ?_)
        refine lv_goto (tgt := 2) C.1 C.2.1 dX3_nextOnPath_36 (by decide) ?_
        have h27 : 4 * b + (t0 + j) % 4 ∈ L := Decidable.byContradiction (fun q => h27 (by rw [decide_eq_false q]; rfl))
        rw [show nx L b t0 j (k + 1) = nx L b t0 (j + 1) k from if_pos h27]
        exact ih (j + 1) (by omega) ls H locs (lv_sub hl [0, 2, 3, 4] rfl) hP hD hS
      · refine lv_iload C.1 C.2.1 dX3_nextOnPath_30 (lv_at hl 0 rfl) ?_
        have h27 : ¬ 4 * b + (t0 + j) % 4 ∈ L := fun q => by rw [decide_eq_true q] at h27; exact absurd h27 (by decide)
        exact cm_iret C hP hD hS dX3_nextOnPath_32 (by rw [show nx L b t0 j (k + 1) = some (4 * b + (t0 + j) % 4) from if_neg h27]; rfl) rfl
  exact loop 4 0 rfl ls H locs hl hP hD hS
end
section
/-! ===== layPath, choose ===== -/
/-- PUTTING without MAKING ANEW, chosen: the answer, and what goes to which SLOT -/
def chS (u : Nat → Bool) (k v : Nat → Int32) (s key val : Int32) : Int32 × List (Nat × Int32 × Int32) := match findS u k s key with
  | some p => (nI 0, [(p, key, val)])
  | none => match emS u (hm1 s key) with
    | some p => (nI 1, [(p, key, val)])
    | none => match emS u (hm2 s key) with
      | some p => (nI 1, [(p, key, val)])
      | none => if (pathS u k s 6 0 (hm1 s key) []).1 = true then (nI 2, mvS k v key val (pathS u k s 6 0 (hm1 s key) []).2)
        else if (pathS u k s 6 0 (hm2 s key) []).1 = true then (nI 2, mvS k v key val (pathS u k s 6 0 (hm2 s key) []).2)
        else match emS u 8 with
          | some p => (nI 3, [(p, key, val)])
          | none => (-2, mvS k v key val (pathS u k s 6 0 (hm2 s key) []).2)
theorem findS_lt {u : Nat → Bool} {k : Nat → Int32} {s key : Int32} {i : Nat} (h : findS u k s key = some i) : i < 36 ∧ u i = true ∧ k i = key := by
  have q1 := hm1_lt s key
  have q2 := hm2_lt s key
  unfold findS at h
  cases e1 : atS u k key (hm1 s key) with
  | some j => rw [e1] at h; cases h; exact ⟨(atS_lt e1 (by omega)).1, (atS_lt e1 (by omega)).2.2⟩
  | none =>
    rw [e1] at h
    cases e2 : atS u k key (hm2 s key) with
    | some j => rw [e2] at h; cases h; exact ⟨(atS_lt e2 (by omega)).1, (atS_lt e2 (by omega)).2.2⟩
    | none => rw [e2] at h; exact ⟨(atS_lt h (by omega)).1, (atS_lt h (by omega)).2.2⟩
set_option maxHeartbeats 4000000 in
set_option maxRecDepth 100000 in
/-- layPath -/
theorem k_X3_layPath (l : Launch) (D : va_G) (cI cZ cJ : ClassId) (ws : va_W) {qO h v1 v2 v3 v4 v5 mv : Nat} {ev ta lp lr : Int32} (hO : ws[qO]? = some (h, .inr (3, [.ref v1, .ref v2, .ref v3, .ref v4, .ref v5, .ref mv, .int ev, .int ta, .int lp, .int lr]))) {an : Nat} {fm : Nat → Int32} {qM qN : Nat} (hM : ws[qM]? = some (mv, .inr (1, [.ref an]))) (hN : ws[qN]? = some (an, .inl (cI, 22, .inl fm))) {qI qA im ad : Nat} {f : Nat → Int32} (hI : ws[qI]? = some (im, .inr (0, [.ref ad]))) (hA : ws[qA]? = some (ad, .inl (cI, 440, .inl f))) (hon : qO ≠ qN) (hmn : qM ≠ qN) (hin : qI ≠ qN) (han : qA ≠ qN) (z b0 : Nat) (hz0 : z < 2) (hb0 : b0 < 8) (s0 key val : Int32) : CM l D (cm_T cI cZ cJ) yX3_layPath cX3_layPath 12 (some .boolean) (cm_rm 3 70) [.ref h, .ref im, .int s0, .int (nI (z * 9 + b0)), .int key, .int val] ws (some (.int (bI (pathS (uR f z) (kR f z) s0 6 0 b0 []).1))) (ws.set qN (an, .inl (cI, 22, .inl (encA z (upd fm 0 (nI 0)) 0 (mvS (kR f z) (vR f z) key val (pathS (uR f z) (kR f z) s0 6 0 b0 []).2))))) := by
  refine CM.of (by decide) (Nat.le_of_ble_eq_true rfl) ?_
  intro p e s m below meth c ls H locs C hl hP hD hS
  refine lv_iload_n C.1 C.2.1 dX3_layPath_0 rfl (lv_at hl 3 rfl) ?_
  refine lv_istore (lv' := [(6, _), (0, _), (1, _), (2, _), (3, _), (4, _), (5, _)]) C.1 C.2.1 dX3_layPath_1 hl (by decide) rfl (fun ls hl => ?_)
  refine lv_iload C.1 C.2.1 dX3_layPath_3 (lv_at hl 5 rfl) ?_
  refine lv_istore (lv' := [(7, _), (6, _), (0, _), (1, _), (2, _), (3, _), (4, _), (5, _)]) C.1 C.2.1 dX3_layPath_5 hl (by decide) rfl (fun ls hl => ?_)
  refine lv_iload C.1 C.2.1 dX3_layPath_7 (lv_at hl 7 rfl) ?_
  refine lv_istore (lv' := [(8, _), (7, _), (6, _), (0, _), (1, _), (2, _), (3, _), (4, _), (5, _)]) C.1 C.2.1 dX3_layPath_9 hl (by decide) rfl (fun ls hl => ?_)
  refine lv_aload_n C.1 C.2.1 dX3_layPath_11 rfl (lv_at hl 3 rfl) ?_
  refine va_get (ci := 3) (C := RX3) (T := TX3) (N := 10) C.1 C.2.1 C.2.2.2.2.2.1 ui_X3 C.2.2.2.2.1 C.2.2.2.2.2.2.2.1 hP qO (hO) rfl 5 (by decide) (C.2.2.2.2.2.1 _ tw_66) (fun _ h9 => h9) rfl dX3_layPath_12 ?_
  refine cm_cV0 (q0 := qM) 0 C (k_X1_tellNothing l D cI cZ cJ _ hM hN) tw_163 tw_140 tw_141 tw_4 tw_142 rfl rfl (hM) rfl (by decide +kernel) ⟨Nat.le_of_ble_eq_true rfl, Nat.le_of_ble_eq_true rfl⟩ ⟨Nat.zero_le _, Nat.zero_le _⟩ hP hD hS hl.1 rfl rfl (Nat.le_of_ble_eq_true rfl) dX3_layPath_15 (fun H locs hP hD hS => ?_)
  refine lv_iconst (v := nI 0) C.1 C.2.1 dX3_layPath_18 (by decide +kernel) ?_
  refine lv_istore (lv' := [(9, _), (8, _), (7, _), (6, _), (0, _), (1, _), (2, _), (3, _), (4, _), (5, _)]) C.1 C.2.1 dX3_layPath_19 hl (by decide) rfl (fun ls hl => ?_)
  have loop : ∀ (k j : Nat) (b : Nat) (L : List Nat), j + k = 6 ∧ L.length = j ∧ b < 8 ∧ (∀ q ∈ L, q < 36) → ∀ (ls : Array Slot) (H : Heap) (locs : List Loc), lv_has ls 12 [(9, .int (nI j)), (8, .int (kvS (kR f z) (vR f z) key val L).2), (7, .int (kvS (kR f z) (vR f z) key val L).1), (6, .int (nI (z * 9 + b))), (0, .ref h), (1, .ref im), (2, .int s0), (3, .int (nI (z * 9 + b0))), (4, .int key), (5, .int val)] → va_P D vwCl (ws.set qN (an, .inl (cI, 22, .inl (encA z (upd fm 0 (nI 0)) 0 (mvS (kR f z) (vR f z) key val L))))) H → va_D (cm_A ws) (ws.set qN (an, .inl (cI, 22, .inl (encA z (upd fm 0 (nI 0)) 0 (mvS (kR f z) (vR f z) key val L))))) → va_S (cm_A ws) s.heap H locs → W p l e (cm_rm 3 70) s m ([.ref h, .ref im, .int s0, .int (nI (z * 9 + b0)), .int key, .int val] : List Value).toArray below meth c H locs 0 0 (cm_Q below D [.ref h, .ref im, .int s0, .int (nI (z * 9 + b0)), .int key, .int val] s ws (some (.int (bI (pathS (uR f z) (kR f z) s0 k j b L).1))) (ws.set qN (an, .inl (cI, 22, .inl (encA z (upd fm 0 (nI 0)) 0 (mvS (kR f z) (vR f z) key val (pathS (uR f z) (kR f z) s0 k j b L).2)))))) (F0 m 21 ls []) := by
    intro k
    induction k with
    | zero =>
      intro j b L hj ls H locs hl hP hD hS
      obtain ⟨hj, hLj, hb, hL⟩ := hj
      refine lv_iload C.1 C.2.1 dX3_layPath_21 (lv_at hl 0 rfl) ?_
      refine lv_bipush (v := nI 6) C.1 C.2.1 dX3_layPath_23 (by decide +kernel) ?_
      refine lv_icmp_ge (tgt := 122) C.1 C.2.1 dX3_layPath_25 (by decide) (fun _ => ?_) (fun h => absurd (nI_le (by omega) (by omega)) h)
      refine lv_iconst (v := nI 0) C.1 C.2.1 dX3_layPath_122 (by decide +kernel) ?_
      exact cm_zret C hP hD hS dX3_layPath_123 (by decide +kernel) rfl rfl
    | succ k ih =>
      intro j b L hj ls H locs hl hP hD hS
      obtain ⟨hj, hLj, hb, hL⟩ := hj
      have e0 : encA z (upd fm 0 (nI 0)) 0 (mvS (kR f z) (vR f z) key val L) 0 = nI L.length := by rw [encA_0 z _ _ _ pk_us, mvS_len, Nat.zero_add]
      cases hnx : nx L b j 0 4 with
      | none =>
        refine lv_iload C.1 C.2.1 dX3_layPath_21 (lv_at hl 0 rfl) ?_
        refine lv_bipush (v := nI 6) C.1 C.2.1 dX3_layPath_23 (by decide +kernel) ?_
        refine lv_icmp_ge (tgt := 122) C.1 C.2.1 dX3_layPath_25 (by decide) (fun h => absurd h (nI_ge (by omega) (by decide))) (fun _ => ?_)
        refine lv_aload_n C.1 C.2.1 dX3_layPath_28 rfl (lv_at hl 4 rfl) ?_
        refine lv_iload C.1 C.2.1 dX3_layPath_29 (lv_at hl 3 rfl) ?_
        refine lv_iload C.1 C.2.1 dX3_layPath_31 (lv_at hl 0 rfl) ?_
        refine lv_iconst (v := nI 4) C.1 C.2.1 dX3_layPath_33 (by decide +kernel) ?_
        refine lv_irem C.1 C.2.1 dX3_layPath_34 (by decide) ?_
        rw [pk_rem (by omega) (by decide) (by decide)]
        refine cm_cV1 (q0 := qO) 2 C (k_X3_nextOnPath l D cI cZ cJ _ (ws_ne hon hO) (ws_ne hmn hM) (ws_self hN) z b (j % 4) hz0 hb (by omega) L (by omega) e0 (fun q hq => says_iff z hz0 _ _ _ _ _ L hL q hq)) tw_164 tw_166 ts_3 tw_1 tw_167 rfl rfl (ws_ne hon hO) rfl (by decide +kernel) ⟨Nat.le_of_ble_eq_true rfl, Nat.le_of_ble_eq_true rfl⟩ ⟨Nat.zero_le _, Nat.zero_le _⟩ hP hD hS hl.1 rfl rfl (Nat.le_of_ble_eq_true rfl) dX3_layPath_35 (fun H locs hP hD hS => ?_)
        rw [nx_mod, hnx, optA_none]
        refine lv_istore (lv' := [(10, _), (9, _), (8, _), (7, _), (6, _), (0, _), (1, _), (2, _), (3, _), (4, _), (5, _)]) C.1 C.2.1 dX3_layPath_38 hl (by decide) rfl (fun ls hl => ?_)
        refine lv_iload C.1 C.2.1 dX3_layPath_40 (lv_at hl 0 rfl) ?_
        refine lv_iconst (v := (-1)) C.1 C.2.1 dX3_layPath_42 (by decide +kernel) ?_
        refine lv_icmp_ne (tgt := 48) C.1 C.2.1 dX3_layPath_43 (by decide) (fun h => absurd (rfl) h) (fun _ => ?_)
        refine lv_iconst (v := nI 0) C.1 C.2.1 dX3_layPath_46 (by decide +kernel) ?_
        exact cm_zret C hP hD hS dX3_layPath_47 (by decide +kernel) (by simp only [pathS, hnx]; rfl) (by simp only [pathS, hnx])
      | some p =>
        have hp := nx_some _ _ hnx
        have hor := otherS_lt s0 (kR f z p) b
        have e1 : addM (encA z (upd fm 0 (nI 0)) 0 (mvS (kR f z) (vR f z) key val L)) j (nI (36 * z + p)) (kvS (kR f z) (vR f z) key val L).1 (kvS (kR f z) (vR f z) key val L).2 = encA z (upd fm 0 (nI 0)) 0 (mvS (kR f z) (vR f z) key val (L ++ [p])) := by rw [mvS_app, encA_app, mvS_len, Nat.zero_add, hLj]
        have e2 : encA z (upd fm 0 (nI 0)) 0 (mvS (kR f z) (vR f z) key val (L ++ [p])) 0 = nI (j + 1) := by rw [encA_0 z _ _ _ pk_us, mvS_len, Nat.zero_add, List.length_append, hLj]; rfl
        cases hem : emS (uR f z) (otherS s0 (kR f z p) b) with
        | some e9 =>
          have he := emS_lt hem (by omega)
          have e3 : addM (encA z (upd fm 0 (nI 0)) 0 (mvS (kR f z) (vR f z) key val (L ++ [p]))) (j + 1) (nI (36 * z + e9)) (kR f z p) (vR f z p) = encA z (upd fm 0 (nI 0)) 0 (mvS (kR f z) (vR f z) key val (L ++ [p] ++ [e9])) := by rw [mvS_app _ _ e9, encA_app, mvS_len, kvS_app, Nat.zero_add, List.length_append, hLj]; rfl
          refine lv_iload C.1 C.2.1 dX3_layPath_21 (lv_at hl 0 rfl) ?_
          refine lv_bipush (v := nI 6) C.1 C.2.1 dX3_layPath_23 (by decide +kernel) ?_
          refine lv_icmp_ge (tgt := 122) C.1 C.2.1 dX3_layPath_25 (by decide) (fun h => absurd h (nI_ge (by omega) (by decide))) (fun _ => ?_)
          refine lv_aload_n C.1 C.2.1 dX3_layPath_28 rfl (lv_at hl 4 rfl) ?_
          refine lv_iload C.1 C.2.1 dX3_layPath_29 (lv_at hl 3 rfl) ?_
          refine lv_iload C.1 C.2.1 dX3_layPath_31 (lv_at hl 0 rfl) ?_
          refine lv_iconst (v := nI 4) C.1 C.2.1 dX3_layPath_33 (by decide +kernel) ?_
          refine lv_irem C.1 C.2.1 dX3_layPath_34 (by decide) ?_
          rw [pk_rem (by omega) (by decide) (by decide)]
          refine cm_cV1 (q0 := qO) 2 C (k_X3_nextOnPath l D cI cZ cJ _ (ws_ne hon hO) (ws_ne hmn hM) (ws_self hN) z b (j % 4) hz0 hb (by omega) L (by omega) e0 (fun q hq => says_iff z hz0 _ _ _ _ _ L hL q hq)) tw_164 tw_166 ts_3 tw_1 tw_167 rfl rfl (ws_ne hon hO) rfl (by decide +kernel) ⟨Nat.le_of_ble_eq_true rfl, Nat.le_of_ble_eq_true rfl⟩ ⟨Nat.zero_le _, Nat.zero_le _⟩ hP hD hS hl.1 rfl rfl (Nat.le_of_ble_eq_true rfl) dX3_layPath_35 (fun H locs hP hD hS => ?_)
          rw [nx_mod, hnx, optA_some]
          refine lv_istore (lv' := [(10, _), (9, _), (8, _), (7, _), (6, _), (0, _), (1, _), (2, _), (3, _), (4, _), (5, _)]) C.1 C.2.1 dX3_layPath_38 hl (by decide) rfl (fun ls hl => ?_)
          refine lv_iload C.1 C.2.1 dX3_layPath_40 (lv_at hl 0 rfl) ?_
          refine lv_iconst (v := (-1)) C.1 C.2.1 dX3_layPath_42 (by decide +kernel) ?_
          refine lv_icmp_ne (tgt := 48) C.1 C.2.1 dX3_layPath_43 (by decide) (fun _ => ?_) (fun h => absurd h (nI_m1 (by omega)))
          refine lv_aload_n C.1 C.2.1 dX3_layPath_48 rfl (lv_at hl 5 rfl) ?_
          refine va_get (ci := 3) (C := RX3) (T := TX3) (N := 10) C.1 C.2.1 C.2.2.2.2.2.1 ui_X3 C.2.2.2.2.1 C.2.2.2.2.2.2.2.1 hP qO (ws_ne hon hO) rfl 5 (by decide) (C.2.2.2.2.2.1 _ tw_66) (fun _ h9 => h9) rfl dX3_layPath_49 ?_
          refine lv_iload C.1 C.2.1 dX3_layPath_52 (lv_at hl 0 rfl) ?_
          refine lv_iload C.1 C.2.1 dX3_layPath_54 (lv_at hl 3 rfl) ?_
          refine lv_iload C.1 C.2.1 dX3_layPath_56 (lv_at hl 2 rfl) ?_
          refine cm_cV0 (q0 := qM) 3 C (k_X1_add l D cI cZ cJ _ (ws_ne hmn hM) (ws_self hN) hmn (j) (by omega) (by rw [e0, hLj]) (nI (36 * z + p)) ((kvS (kR f z) (vR f z) key val L).1) ((kvS (kR f z) (vR f z) key val L).2)) tw_173 tw_147 tw_148 tw_4 tw_149 rfl rfl (ws_ne hmn hM) rfl (by decide +kernel) ⟨Nat.le_of_ble_eq_true rfl, Nat.le_of_ble_eq_true rfl⟩ ⟨Nat.zero_le _, Nat.zero_le _⟩ hP hD hS hl.1 rfl rfl (Nat.le_of_ble_eq_true rfl) dX3_layPath_58 (fun H locs hP hD hS => ?_)
          rw [List.set_set, e1] at hP hD
          refine lv_aload_n C.1 C.2.1 dX3_layPath_61 rfl (lv_at hl 6 rfl) ?_
          refine lv_iload C.1 C.2.1 dX3_layPath_62 (lv_at hl 0 rfl) ?_
          refine cm_cV1 (q0 := qI) 1 C (k_X0_keyAt l D cI cZ cJ _ (ws_ne hin hI) (ws_ne han hA) (36 * z + p) (by omega)) tw_174 tw_175 tw_176 tw_2 tw_177 rfl rfl (ws_ne hin hI) rfl (by decide +kernel) ⟨Nat.le_of_ble_eq_true rfl, Nat.le_of_ble_eq_true rfl⟩ ⟨Nat.zero_le _, Nat.zero_le _⟩ hP hD hS hl.1 rfl rfl (Nat.le_of_ble_eq_true rfl) dX3_layPath_64 (fun H locs hP hD hS => ?_)
          rw [show kC f (36 * z + p) = kR f z p from rfl]
          refine lv_istore (lv' := [(7, _), (10, _), (9, _), (8, _), (6, _), (0, _), (1, _), (2, _), (3, _), (4, _), (5, _)]) C.1 C.2.1 dX3_layPath_67 hl (by decide) rfl (fun ls hl => ?_)
          refine lv_aload_n C.1 C.2.1 dX3_layPath_69 rfl (lv_at hl 6 rfl) ?_
          refine lv_iload C.1 C.2.1 dX3_layPath_70 (lv_at hl 1 rfl) ?_
          refine cm_cV1 (q0 := qI) 1 C (k_X0_valueAt l D cI cZ cJ _ (ws_ne hin hI) (ws_ne han hA) (36 * z + p) (by omega)) tw_184 tw_185 tw_186 tw_2 tw_187 rfl rfl (ws_ne hin hI) rfl (by decide +kernel) ⟨Nat.le_of_ble_eq_true rfl, Nat.le_of_ble_eq_true rfl⟩ ⟨Nat.zero_le _, Nat.zero_le _⟩ hP hD hS hl.1 rfl rfl (Nat.le_of_ble_eq_true rfl) dX3_layPath_72 (fun H locs hP hD hS => ?_)
          rw [show vC f (36 * z + p) = vR f z p from rfl]
          refine lv_istore (lv' := [(8, _), (7, _), (10, _), (9, _), (6, _), (0, _), (1, _), (2, _), (3, _), (4, _), (5, _)]) C.1 C.2.1 dX3_layPath_75 hl (by decide) rfl (fun ls hl => ?_)
          refine lv_iload C.1 C.2.1 dX3_layPath_77 (lv_at hl 4 rfl) ?_
          refine lv_iload_n C.1 C.2.1 dX3_layPath_79 rfl (lv_at hl 7 rfl) ?_
          refine lv_iload C.1 C.2.1 dX3_layPath_80 (lv_at hl 1 rfl) ?_
          refine cm_cS1 3 C (kX_otherRow l D cI cZ cJ _ z b hz0 hb s0 (kR f z p)) tw_188 tw_189 tw_1 tw_190 rfl rfl (by decide +kernel) ⟨Nat.le_of_ble_eq_true rfl, Nat.le_of_ble_eq_true rfl⟩ ⟨Nat.zero_le _, Nat.zero_le _⟩ hP hD hS hl.1 rfl rfl (Nat.le_of_ble_eq_true rfl) dX3_layPath_82 (fun H locs hP hD hS => ?_)
          refine lv_istore (lv' := [(6, _), (8, _), (7, _), (10, _), (9, _), (0, _), (1, _), (2, _), (3, _), (4, _), (5, _)]) C.1 C.2.1 dX3_layPath_85 hl (by decide) rfl (fun ls hl => ?_)
          refine lv_aload_n C.1 C.2.1 dX3_layPath_87 rfl (lv_at hl 6 rfl) ?_
          refine lv_iload C.1 C.2.1 dX3_layPath_88 (lv_at hl 0 rfl) ?_
          refine cm_cV1 (q0 := qI) 1 C (k_X0_leastEmpty l D cI cZ cJ _ (ws_ne hin hI) (ws_ne han hA) (z * 9 + otherS s0 (kR f z p) b) (by omega)) tw_155 tw_156 tw_157 tw_2 tw_158 rfl rfl (ws_ne hin hI) rfl (by decide +kernel) ⟨Nat.le_of_ble_eq_true rfl, Nat.le_of_ble_eq_true rfl⟩ ⟨Nat.zero_le _, Nat.zero_le _⟩ hP hD hS hl.1 rfl rfl (Nat.le_of_ble_eq_true rfl) dX3_layPath_90 (fun H locs hP hD hS => ?_)
          rw [em_abs, hem, optA_some]
          refine lv_istore (lv' := [(11, _), (6, _), (8, _), (7, _), (10, _), (9, _), (0, _), (1, _), (2, _), (3, _), (4, _), (5, _)]) C.1 C.2.1 dX3_layPath_93 hl (by decide) rfl (fun ls hl => ?_)
          refine lv_iload C.1 C.2.1 dX3_layPath_95 (lv_at hl 0 rfl) ?_
          refine lv_iconst (v := (-1)) C.1 C.2.1 dX3_layPath_97 (by decide +kernel) ?_
          refine lv_icmp_eq (tgt := 116) C.1 C.2.1 dX3_layPath_98 (by decide) (fun h => absurd h (nI_m1 (by omega))) (fun _ => ?_)
          refine lv_aload_n C.1 C.2.1 dX3_layPath_101 rfl (lv_at hl 6 rfl) ?_
          refine va_get (ci := 3) (C := RX3) (T := TX3) (N := 10) C.1 C.2.1 C.2.2.2.2.2.1 ui_X3 C.2.2.2.2.1 C.2.2.2.2.2.2.2.1 hP qO (ws_ne hon hO) rfl 5 (by decide) (C.2.2.2.2.2.1 _ tw_66) (fun _ h9 => h9) rfl dX3_layPath_102 ?_
          refine lv_iload C.1 C.2.1 dX3_layPath_105 (lv_at hl 0 rfl) ?_
          refine lv_iload C.1 C.2.1 dX3_layPath_107 (lv_at hl 3 rfl) ?_
          refine lv_iload C.1 C.2.1 dX3_layPath_109 (lv_at hl 2 rfl) ?_
          refine cm_cV0 (q0 := qM) 3 C (k_X1_add l D cI cZ cJ _ (ws_ne hmn hM) (ws_self hN) hmn (j + 1) (by omega) (e2) (nI (36 * z + e9)) (kR f z p) (vR f z p)) tw_173 tw_147 tw_148 tw_4 tw_149 rfl rfl (ws_ne hmn hM) rfl (by decide +kernel) ⟨Nat.le_of_ble_eq_true rfl, Nat.le_of_ble_eq_true rfl⟩ ⟨Nat.zero_le _, Nat.zero_le _⟩ hP hD hS hl.1 rfl rfl (Nat.le_of_ble_eq_true rfl) dX3_layPath_111 (fun H locs hP hD hS => ?_)
          rw [List.set_set, e3] at hP hD
          refine lv_iconst (v := nI 1) C.1 C.2.1 dX3_layPath_114 (by decide +kernel) ?_
          exact cm_zret C hP hD hS dX3_layPath_115 (by decide +kernel) (by simp only [pathS, hnx, hem]; rfl) (by simp only [pathS, hnx, hem])
        | none =>
          refine lv_iload C.1 C.2.1 dX3_layPath_21 (lv_at hl 0 rfl) ?_
          refine lv_bipush (v := nI 6) C.1 C.2.1 dX3_layPath_23 (by decide +kernel) ?_
          refine lv_icmp_ge (tgt := 122) C.1 C.2.1 dX3_layPath_25 (by decide) (fun h => absurd h (nI_ge (by omega) (by decide))) (fun _ => ?_)
          refine lv_aload_n C.1 C.2.1 dX3_layPath_28 rfl (lv_at hl 4 rfl) ?_
          refine lv_iload C.1 C.2.1 dX3_layPath_29 (lv_at hl 3 rfl) ?_
          refine lv_iload C.1 C.2.1 dX3_layPath_31 (lv_at hl 0 rfl) ?_
          refine lv_iconst (v := nI 4) C.1 C.2.1 dX3_layPath_33 (by decide +kernel) ?_
          refine lv_irem C.1 C.2.1 dX3_layPath_34 (by decide) ?_
          rw [pk_rem (by omega) (by decide) (by decide)]
          refine cm_cV1 (q0 := qO) 2 C (k_X3_nextOnPath l D cI cZ cJ _ (ws_ne hon hO) (ws_ne hmn hM) (ws_self hN) z b (j % 4) hz0 hb (by omega) L (by omega) e0 (fun q hq => says_iff z hz0 _ _ _ _ _ L hL q hq)) tw_164 tw_166 ts_3 tw_1 tw_167 rfl rfl (ws_ne hon hO) rfl (by decide +kernel) ⟨Nat.le_of_ble_eq_true rfl, Nat.le_of_ble_eq_true rfl⟩ ⟨Nat.zero_le _, Nat.zero_le _⟩ hP hD hS hl.1 rfl rfl (Nat.le_of_ble_eq_true rfl) dX3_layPath_35 (fun H locs hP hD hS => ?_)
          rw [nx_mod, hnx, optA_some]
          refine lv_istore (lv' := [(10, _), (9, _), (8, _), (7, _), (6, _), (0, _), (1, _), (2, _), (3, _), (4, _), (5, _)]) C.1 C.2.1 dX3_layPath_38 hl (by decide) rfl (fun ls hl => ?_)
          refine lv_iload C.1 C.2.1 dX3_layPath_40 (lv_at hl 0 rfl) ?_
          refine lv_iconst (v := (-1)) C.1 C.2.1 dX3_layPath_42 (by decide +kernel) ?_
          refine lv_icmp_ne (tgt := 48) C.1 C.2.1 dX3_layPath_43 (by decide) (fun _ => ?_) (fun h => absurd h (nI_m1 (by omega)))
          refine lv_aload_n C.1 C.2.1 dX3_layPath_48 rfl (lv_at hl 5 rfl) ?_
          refine va_get (ci := 3) (C := RX3) (T := TX3) (N := 10) C.1 C.2.1 C.2.2.2.2.2.1 ui_X3 C.2.2.2.2.1 C.2.2.2.2.2.2.2.1 hP qO (ws_ne hon hO) rfl 5 (by decide) (C.2.2.2.2.2.1 _ tw_66) (fun _ h9 => h9) rfl dX3_layPath_49 ?_
          refine lv_iload C.1 C.2.1 dX3_layPath_52 (lv_at hl 0 rfl) ?_
          refine lv_iload C.1 C.2.1 dX3_layPath_54 (lv_at hl 3 rfl) ?_
          refine lv_iload C.1 C.2.1 dX3_layPath_56 (lv_at hl 2 rfl) ?_
          refine cm_cV0 (q0 := qM) 3 C (k_X1_add l D cI cZ cJ _ (ws_ne hmn hM) (ws_self hN) hmn (j) (by omega) (by rw [e0, hLj]) (nI (36 * z + p)) ((kvS (kR f z) (vR f z) key val L).1) ((kvS (kR f z) (vR f z) key val L).2)) tw_173 tw_147 tw_148 tw_4 tw_149 rfl rfl (ws_ne hmn hM) rfl (by decide +kernel) ⟨Nat.le_of_ble_eq_true rfl, Nat.le_of_ble_eq_true rfl⟩ ⟨Nat.zero_le _, Nat.zero_le _⟩ hP hD hS hl.1 rfl rfl (Nat.le_of_ble_eq_true rfl) dX3_layPath_58 (fun H locs hP hD hS => ?_)
          rw [List.set_set, e1] at hP hD
          refine lv_aload_n C.1 C.2.1 dX3_layPath_61 rfl (lv_at hl 6 rfl) ?_
          refine lv_iload C.1 C.2.1 dX3_layPath_62 (lv_at hl 0 rfl) ?_
          refine cm_cV1 (q0 := qI) 1 C (k_X0_keyAt l D cI cZ cJ _ (ws_ne hin hI) (ws_ne han hA) (36 * z + p) (by omega)) tw_174 tw_175 tw_176 tw_2 tw_177 rfl rfl (ws_ne hin hI) rfl (by decide +kernel) ⟨Nat.le_of_ble_eq_true rfl, Nat.le_of_ble_eq_true rfl⟩ ⟨Nat.zero_le _, Nat.zero_le _⟩ hP hD hS hl.1 rfl rfl (Nat.le_of_ble_eq_true rfl) dX3_layPath_64 (fun H locs hP hD hS => ?_)
          rw [show kC f (36 * z + p) = kR f z p from rfl]
          refine lv_istore (lv' := [(7, _), (10, _), (9, _), (8, _), (6, _), (0, _), (1, _), (2, _), (3, _), (4, _), (5, _)]) C.1 C.2.1 dX3_layPath_67 hl (by decide) rfl (fun ls hl => ?_)
          refine lv_aload_n C.1 C.2.1 dX3_layPath_69 rfl (lv_at hl 6 rfl) ?_
          refine lv_iload C.1 C.2.1 dX3_layPath_70 (lv_at hl 1 rfl) ?_
          refine cm_cV1 (q0 := qI) 1 C (k_X0_valueAt l D cI cZ cJ _ (ws_ne hin hI) (ws_ne han hA) (36 * z + p) (by omega)) tw_184 tw_185 tw_186 tw_2 tw_187 rfl rfl (ws_ne hin hI) rfl (by decide +kernel) ⟨Nat.le_of_ble_eq_true rfl, Nat.le_of_ble_eq_true rfl⟩ ⟨Nat.zero_le _, Nat.zero_le _⟩ hP hD hS hl.1 rfl rfl (Nat.le_of_ble_eq_true rfl) dX3_layPath_72 (fun H locs hP hD hS => ?_)
          rw [show vC f (36 * z + p) = vR f z p from rfl]
          refine lv_istore (lv' := [(8, _), (7, _), (10, _), (9, _), (6, _), (0, _), (1, _), (2, _), (3, _), (4, _), (5, _)]) C.1 C.2.1 dX3_layPath_75 hl (by decide) rfl (fun ls hl => ?_)
          refine lv_iload C.1 C.2.1 dX3_layPath_77 (lv_at hl 4 rfl) ?_
          refine lv_iload_n C.1 C.2.1 dX3_layPath_79 rfl (lv_at hl 7 rfl) ?_
          refine lv_iload C.1 C.2.1 dX3_layPath_80 (lv_at hl 1 rfl) ?_
          refine cm_cS1 3 C (kX_otherRow l D cI cZ cJ _ z b hz0 hb s0 (kR f z p)) tw_188 tw_189 tw_1 tw_190 rfl rfl (by decide +kernel) ⟨Nat.le_of_ble_eq_true rfl, Nat.le_of_ble_eq_true rfl⟩ ⟨Nat.zero_le _, Nat.zero_le _⟩ hP hD hS hl.1 rfl rfl (Nat.le_of_ble_eq_true rfl) dX3_layPath_82 (fun H locs hP hD hS => ?_)
          refine lv_istore (lv' := [(6, _), (8, _), (7, _), (10, _), (9, _), (0, _), (1, _), (2, _), (3, _), (4, _), (5, _)]) C.1 C.2.1 dX3_layPath_85 hl (by decide) rfl (fun ls hl => ?_)
          refine lv_aload_n C.1 C.2.1 dX3_layPath_87 rfl (lv_at hl 6 rfl) ?_
          refine lv_iload C.1 C.2.1 dX3_layPath_88 (lv_at hl 0 rfl) ?_
          refine cm_cV1 (q0 := qI) 1 C (k_X0_leastEmpty l D cI cZ cJ _ (ws_ne hin hI) (ws_ne han hA) (z * 9 + otherS s0 (kR f z p) b) (by omega)) tw_155 tw_156 tw_157 tw_2 tw_158 rfl rfl (ws_ne hin hI) rfl (by decide +kernel) ⟨Nat.le_of_ble_eq_true rfl, Nat.le_of_ble_eq_true rfl⟩ ⟨Nat.zero_le _, Nat.zero_le _⟩ hP hD hS hl.1 rfl rfl (Nat.le_of_ble_eq_true rfl) dX3_layPath_90 (fun H locs hP hD hS => ?_)
          rw [em_abs, hem, optA_none]
          refine lv_istore (lv' := [(11, _), (6, _), (8, _), (7, _), (10, _), (9, _), (0, _), (1, _), (2, _), (3, _), (4, _), (5, _)]) C.1 C.2.1 dX3_layPath_93 hl (by decide) rfl (fun ls hl => ?_)
          refine lv_iload C.1 C.2.1 dX3_layPath_95 (lv_at hl 0 rfl) ?_
          refine lv_iconst (v := (-1)) C.1 C.2.1 dX3_layPath_97 (by decide +kernel) ?_
          refine lv_icmp_eq (tgt := 116) C.1 C.2.1 dX3_layPath_98 (by decide) (fun _ => ?_) (fun h => absurd (rfl) h)
          refine lv_iinc (v := nI (j + 1)) (lv' := [(9, _), (11, _), (6, _), (8, _), (7, _), (10, _), (0, _), (1, _), (2, _), (3, _), (4, _), (5, _)]) C.1 C.2.1 dX3_layPath_116 hl (k := 5) rfl (nI_1 j) (by decide) rfl (fun ls hl => ?_)
          refine lv_goto (tgt := 21) C.1 C.2.1 dX3_layPath_119 (by decide) ?_
          rw [show pathS (uR f z) (kR f z) s0 (k + 1) j b L = pathS (uR f z) (kR f z) s0 k (j + 1) (otherS s0 (kR f z p) b) (L ++ [p]) by simp only [pathS, hnx, hem]]
          exact ih (j + 1) _ _ ⟨by omega, by rw [List.length_append, hLj]; rfl, hor, fun q hq => (List.mem_append.mp hq).elim (hL q) (fun h9 => by rw [List.mem_singleton.mp h9]; omega)⟩ ls H locs (by rw [kvS_app]; exact lv_sub hl [0, 3, 4, 2, 6, 7, 8, 9, 10, 11] rfl) hP hD hS
  exact loop 6 0 b0 [] ⟨rfl, rfl, hb0, fun q hq => by cases hq⟩ ls H locs hl hP hD hS
set_option maxHeartbeats 4000000 in
set_option maxRecDepth 100000 in
/-- choose -/
theorem k_X3_choose (l : Launch) (D : va_G) (cI cZ cJ : ClassId) (ws : va_W) {qO h v1 v2 v3 v4 v5 mv : Nat} {ev ta lp lr : Int32} (hO : ws[qO]? = some (h, .inr (3, [.ref v1, .ref v2, .ref v3, .ref v4, .ref v5, .ref mv, .int ev, .int ta, .int lp, .int lr]))) {an : Nat} {fm : Nat → Int32} {qM qN : Nat} (hM : ws[qM]? = some (mv, .inr (1, [.ref an]))) (hN : ws[qN]? = some (an, .inl (cI, 22, .inl fm))) {qI qA im ad : Nat} {f : Nat → Int32} (hI : ws[qI]? = some (im, .inr (0, [.ref ad]))) (hA : ws[qA]? = some (ad, .inl (cI, 440, .inl f))) (hon : qO ≠ qN) (hmn : qM ≠ qN) (hin : qI ≠ qN) (han : qA ≠ qN) (z : Nat) (hz0 : z < 2) (hz : f 396 = nI z) (s0 key val : Int32) : ∃ fm0 : Nat → Int32, fm0 0 = nI 0 ∧ CM l D (cm_T cI cZ cJ) yX3_choose cX3_choose 9 (some .int) (cm_rm 4 101) [.ref h, .ref im, .int s0, .int key, .int val] ws (some (.int (chS (uR f z) (kR f z) (vR f z) s0 key val).1)) (ws.set qN (an, .inl (cI, 22, .inl (encA z fm0 0 (chS (uR f z) (kR f z) (vR f z) s0 key val).2)))) := by
  have q1 := hm1_lt s0 key
  have q2 := hm2_lt s0 key
  cases e1 : findS (uR f z) (kR f z) s0 key with
  | some p9 =>
    have q3 := (findS_lt e1).1
    refine ⟨(upd fm 0 (nI 0)), pk_us, ?_⟩
    refine CM.of (by decide) (Nat.le_of_ble_eq_true rfl) ?_
    intro p e s m below meth c ls H locs C hl hP hD hS
    refine lv_aload_n C.1 C.2.1 dX3_choose_0 rfl (lv_at hl 1 rfl) ?_
    refine lv_iload_n C.1 C.2.1 dX3_choose_1 rfl (lv_at hl 2 rfl) ?_
    refine lv_iload_n C.1 C.2.1 dX3_choose_2 rfl (lv_at hl 3 rfl) ?_
    refine cm_cS1 3 C (k_X3_find l D cI cZ cJ _ hI hA z hz0 hz s0 key) tw_111 tw_112 tw_1 tw_113 rfl rfl (by decide +kernel) ⟨Nat.le_of_ble_eq_true rfl, Nat.le_of_ble_eq_true rfl⟩ ⟨Nat.zero_le _, Nat.zero_le _⟩ hP hD hS hl.1 rfl rfl (Nat.le_of_ble_eq_true rfl) dX3_choose_3 (fun H locs hP hD hS => ?_)
    rw [e1, optA_some]
    refine lv_istore (lv' := [(5, _), (0, _), (1, _), (2, _), (3, _), (4, _)]) C.1 C.2.1 dX3_choose_6 hl (by decide) rfl (fun ls hl => ?_)
    refine lv_iload C.1 C.2.1 dX3_choose_8 (lv_at hl 0 rfl) ?_
    refine lv_iconst (v := (-1)) C.1 C.2.1 dX3_choose_10 (by decide +kernel) ?_
    refine lv_icmp_eq (tgt := 28) C.1 C.2.1 dX3_choose_11 (by decide) (fun h => absurd h (nI_m1 (by omega))) (fun _ => ?_)
    refine lv_aload_n C.1 C.2.1 dX3_choose_14 rfl (lv_at hl 1 rfl) ?_
    refine va_get (ci := 3) (C := RX3) (T := TX3) (N := 10) C.1 C.2.1 C.2.2.2.2.2.1 ui_X3 C.2.2.2.2.1 C.2.2.2.2.2.2.2.1 hP qO (hO) rfl 5 (by decide) (C.2.2.2.2.2.1 _ tw_66) (fun _ h9 => h9) rfl dX3_choose_15 ?_
    refine lv_iload C.1 C.2.1 dX3_choose_18 (lv_at hl 0 rfl) ?_
    refine lv_iload_n C.1 C.2.1 dX3_choose_20 rfl (lv_at hl 4 rfl) ?_
    refine lv_iload C.1 C.2.1 dX3_choose_21 (lv_at hl 5 rfl) ?_
    refine cm_cV0 (q0 := qM) 3 C (k_X1_tellOne l D cI cZ cJ _ hM hN hmn (nI (36 * z + p9)) key val) tw_135 tw_136 tw_137 tw_4 tw_138 rfl rfl (hM) rfl (by decide +kernel) ⟨Nat.le_of_ble_eq_true rfl, Nat.le_of_ble_eq_true rfl⟩ ⟨Nat.zero_le _, Nat.zero_le _⟩ hP hD hS hl.1 rfl rfl (Nat.le_of_ble_eq_true rfl) dX3_choose_23 (fun H locs hP hD hS => ?_)
    refine lv_iconst (v := nI 0) C.1 C.2.1 dX3_choose_26 (by decide +kernel) ?_
    exact cm_iret C hP hD hS dX3_choose_27 (by simp [chS, e1]) (by simp [chS, e1, encA])
  | none =>
    cases e2 : emS (uR f z) (hm1 s0 key) with
    | some p9 =>
      have q3 := (emS_lt e2 (by omega)).1
      refine ⟨(upd fm 0 (nI 0)), pk_us, ?_⟩
      refine CM.of (by decide) (Nat.le_of_ble_eq_true rfl) ?_
      intro p e s m below meth c ls H locs C hl hP hD hS
      refine lv_aload_n C.1 C.2.1 dX3_choose_0 rfl (lv_at hl 1 rfl) ?_
      refine lv_iload_n C.1 C.2.1 dX3_choose_1 rfl (lv_at hl 2 rfl) ?_
      refine lv_iload_n C.1 C.2.1 dX3_choose_2 rfl (lv_at hl 3 rfl) ?_
      refine cm_cS1 3 C (k_X3_find l D cI cZ cJ _ hI hA z hz0 hz s0 key) tw_111 tw_112 tw_1 tw_113 rfl rfl (by decide +kernel) ⟨Nat.le_of_ble_eq_true rfl, Nat.le_of_ble_eq_true rfl⟩ ⟨Nat.zero_le _, Nat.zero_le _⟩ hP hD hS hl.1 rfl rfl (Nat.le_of_ble_eq_true rfl) dX3_choose_3 (fun H locs hP hD hS => ?_)
      rw [e1, optA_none]
      refine lv_istore (lv' := [(5, _), (0, _), (1, _), (2, _), (3, _), (4, _)]) C.1 C.2.1 dX3_choose_6 hl (by decide) rfl (fun ls hl => ?_)
      refine lv_iload C.1 C.2.1 dX3_choose_8 (lv_at hl 0 rfl) ?_
      refine lv_iconst (v := (-1)) C.1 C.2.1 dX3_choose_10 (by decide +kernel) ?_
      refine lv_icmp_eq (tgt := 28) C.1 C.2.1 dX3_choose_11 (by decide) (fun _ => ?_) (fun h => absurd (rfl) h)
      refine lv_aload_n C.1 C.2.1 dX3_choose_28 rfl (lv_at hl 2 rfl) ?_
      refine lv_iload_n C.1 C.2.1 dX3_choose_29 rfl (lv_at hl 3 rfl) ?_
      refine lv_iload_n C.1 C.2.1 dX3_choose_30 rfl (lv_at hl 4 rfl) ?_
      refine lv_iconst (v := nI 0) C.1 C.2.1 dX3_choose_31 (by decide +kernel) ?_
      refine cm_cS1 3 C (c_homeBy1 l D cI cZ cJ _ s0 key) tw_114 tw_115 tw_1 tw_116 rfl rfl (by decide +kernel) ⟨Nat.le_of_ble_eq_true rfl, Nat.le_of_ble_eq_true rfl⟩ ⟨Nat.zero_le _, Nat.zero_le _⟩ hP hD hS hl.1 rfl rfl (Nat.le_of_ble_eq_true rfl) dX3_choose_32 (fun H locs hP hD hS => ?_)
      refine cm_cV1 (q0 := qI) 1 C (k_X0_rowInUse l D cI cZ cJ _ hI hA z (hm1 s0 key) hz) tw_120 tw_121 tw_122 tw_2 tw_123 rfl rfl (hI) rfl (by decide +kernel) ⟨Nat.le_of_ble_eq_true rfl, Nat.le_of_ble_eq_true rfl⟩ ⟨Nat.zero_le _, Nat.zero_le _⟩ hP hD hS hl.1 rfl rfl (Nat.le_of_ble_eq_true rfl) dX3_choose_35 (fun H locs hP hD hS => ?_)
      refine lv_istore (lv' := [(6, _), (5, _), (0, _), (1, _), (2, _), (3, _), (4, _)]) C.1 C.2.1 dX3_choose_38 hl (by decide) rfl (fun ls hl => ?_)
      refine lv_aload_n C.1 C.2.1 dX3_choose_40 rfl (lv_at hl 3 rfl) ?_
      refine lv_iload_n C.1 C.2.1 dX3_choose_41 rfl (lv_at hl 4 rfl) ?_
      refine lv_iload_n C.1 C.2.1 dX3_choose_42 rfl (lv_at hl 5 rfl) ?_
      refine lv_iconst (v := nI 1) C.1 C.2.1 dX3_choose_43 (by decide +kernel) ?_
      refine cm_cS1 3 C (c_homeBy2 l D cI cZ cJ _ s0 key) tw_114 tw_115 tw_1 tw_116 rfl rfl (by decide +kernel) ⟨Nat.le_of_ble_eq_true rfl, Nat.le_of_ble_eq_true rfl⟩ ⟨Nat.zero_le _, Nat.zero_le _⟩ hP hD hS hl.1 rfl rfl (Nat.le_of_ble_eq_true rfl) dX3_choose_44 (fun H locs hP hD hS => ?_)
      refine cm_cV1 (q0 := qI) 1 C (k_X0_rowInUse l D cI cZ cJ _ hI hA z (hm2 s0 key) hz) tw_120 tw_121 tw_122 tw_2 tw_123 rfl rfl (hI) rfl (by decide +kernel) ⟨Nat.le_of_ble_eq_true rfl, Nat.le_of_ble_eq_true rfl⟩ ⟨Nat.zero_le _, Nat.zero_le _⟩ hP hD hS hl.1 rfl rfl (Nat.le_of_ble_eq_true rfl) dX3_choose_47 (fun H locs hP hD hS => ?_)
      refine lv_istore (lv' := [(7, _), (6, _), (5, _), (0, _), (1, _), (2, _), (3, _), (4, _)]) C.1 C.2.1 dX3_choose_50 hl (by decide) rfl (fun ls hl => ?_)
      refine lv_aload_n C.1 C.2.1 dX3_choose_52 rfl (lv_at hl 4 rfl) ?_
      refine lv_iload C.1 C.2.1 dX3_choose_53 (lv_at hl 1 rfl) ?_
      refine cm_cV1 (q0 := qI) 1 C (k_X0_leastEmpty l D cI cZ cJ _ hI hA (z * 9 + hm1 s0 key) (by omega)) tw_155 tw_156 tw_157 tw_2 tw_158 rfl rfl (hI) rfl (by decide +kernel) ⟨Nat.le_of_ble_eq_true rfl, Nat.le_of_ble_eq_true rfl⟩ ⟨Nat.zero_le _, Nat.zero_le _⟩ hP hD hS hl.1 rfl rfl (Nat.le_of_ble_eq_true rfl) dX3_choose_55 (fun H locs hP hD hS => ?_)
      rw [em_abs, e2, optA_some]
      refine lv_istore (lv' := [(8, _), (7, _), (6, _), (5, _), (0, _), (1, _), (2, _), (3, _), (4, _)]) C.1 C.2.1 dX3_choose_58 hl (by decide) rfl (fun ls hl => ?_)
      refine lv_iload C.1 C.2.1 dX3_choose_60 (lv_at hl 0 rfl) ?_
      refine lv_iconst (v := (-1)) C.1 C.2.1 dX3_choose_62 (by decide +kernel) ?_
      refine lv_icmp_ne (tgt := 74) C.1 C.2.1 dX3_choose_63 (by decide) (fun _ => ?_) (fun h => absurd h (nI_m1 (by omega)))
      refine lv_iload C.1 C.2.1 dX3_choose_74 (lv_at hl 0 rfl) ?_
      refine lv_iconst (v := (-1)) C.1 C.2.1 dX3_choose_76 (by decide +kernel) ?_
      refine lv_icmp_eq (tgt := 94) C.1 C.2.1 dX3_choose_77 (by decide) (fun h => absurd h (nI_m1 (by omega))) (fun _ => ?_)
      refine lv_aload_n C.1 C.2.1 dX3_choose_80 rfl (lv_at hl 4 rfl) ?_
      refine va_get (ci := 3) (C := RX3) (T := TX3) (N := 10) C.1 C.2.1 C.2.2.2.2.2.1 ui_X3 C.2.2.2.2.1 C.2.2.2.2.2.2.2.1 hP qO (hO) rfl 5 (by decide) (C.2.2.2.2.2.1 _ tw_66) (fun _ h9 => h9) rfl dX3_choose_81 ?_
      refine lv_iload C.1 C.2.1 dX3_choose_84 (lv_at hl 0 rfl) ?_
      refine lv_iload_n C.1 C.2.1 dX3_choose_86 rfl (lv_at hl 7 rfl) ?_
      refine lv_iload C.1 C.2.1 dX3_choose_87 (lv_at hl 8 rfl) ?_
      refine cm_cV0 (q0 := qM) 3 C (k_X1_tellOne l D cI cZ cJ _ hM hN hmn (nI (36 * z + p9)) key val) tw_135 tw_136 tw_137 tw_4 tw_138 rfl rfl (hM) rfl (by decide +kernel) ⟨Nat.le_of_ble_eq_true rfl, Nat.le_of_ble_eq_true rfl⟩ ⟨Nat.zero_le _, Nat.zero_le _⟩ hP hD hS hl.1 rfl rfl (Nat.le_of_ble_eq_true rfl) dX3_choose_89 (fun H locs hP hD hS => ?_)
      refine lv_iconst (v := nI 1) C.1 C.2.1 dX3_choose_92 (by decide +kernel) ?_
      exact cm_iret C hP hD hS dX3_choose_93 (by simp [chS, e1, e2]) (by simp [chS, e1, e2, encA])
    | none =>
      cases e3 : emS (uR f z) (hm2 s0 key) with
      | some p9 =>
        have q3 := (emS_lt e3 (by omega)).1
        refine ⟨(upd fm 0 (nI 0)), pk_us, ?_⟩
        refine CM.of (by decide) (Nat.le_of_ble_eq_true rfl) ?_
        intro p e s m below meth c ls H locs C hl hP hD hS
        refine lv_aload_n C.1 C.2.1 dX3_choose_0 rfl (lv_at hl 1 rfl) ?_
        refine lv_iload_n C.1 C.2.1 dX3_choose_1 rfl (lv_at hl 2 rfl) ?_
        refine lv_iload_n C.1 C.2.1 dX3_choose_2 rfl (lv_at hl 3 rfl) ?_
        refine cm_cS1 3 C (k_X3_find l D cI cZ cJ _ hI hA z hz0 hz s0 key) tw_111 tw_112 tw_1 tw_113 rfl rfl (by decide +kernel) ⟨Nat.le_of_ble_eq_true rfl, Nat.le_of_ble_eq_true rfl⟩ ⟨Nat.zero_le _, Nat.zero_le _⟩ hP hD hS hl.1 rfl rfl (Nat.le_of_ble_eq_true rfl) dX3_choose_3 (fun H locs hP hD hS => ?_)
        rw [e1, optA_none]
        refine lv_istore (lv' := [(5, _), (0, _), (1, _), (2, _), (3, _), (4, _)]) C.1 C.2.1 dX3_choose_6 hl (by decide) rfl (fun ls hl => ?_)
        refine lv_iload C.1 C.2.1 dX3_choose_8 (lv_at hl 0 rfl) ?_
        refine lv_iconst (v := (-1)) C.1 C.2.1 dX3_choose_10 (by decide +kernel) ?_
        refine lv_icmp_eq (tgt := 28) C.1 C.2.1 dX3_choose_11 (by decide) (fun _ => ?_) (fun h => absurd (rfl) h)
        refine lv_aload_n C.1 C.2.1 dX3_choose_28 rfl (lv_at hl 2 rfl) ?_
        refine lv_iload_n C.1 C.2.1 dX3_choose_29 rfl (lv_at hl 3 rfl) ?_
        refine lv_iload_n C.1 C.2.1 dX3_choose_30 rfl (lv_at hl 4 rfl) ?_
        refine lv_iconst (v := nI 0) C.1 C.2.1 dX3_choose_31 (by decide +kernel) ?_
        refine cm_cS1 3 C (c_homeBy1 l D cI cZ cJ _ s0 key) tw_114 tw_115 tw_1 tw_116 rfl rfl (by decide +kernel) ⟨Nat.le_of_ble_eq_true rfl, Nat.le_of_ble_eq_true rfl⟩ ⟨Nat.zero_le _, Nat.zero_le _⟩ hP hD hS hl.1 rfl rfl (Nat.le_of_ble_eq_true rfl) dX3_choose_32 (fun H locs hP hD hS => ?_)
        refine cm_cV1 (q0 := qI) 1 C (k_X0_rowInUse l D cI cZ cJ _ hI hA z (hm1 s0 key) hz) tw_120 tw_121 tw_122 tw_2 tw_123 rfl rfl (hI) rfl (by decide +kernel) ⟨Nat.le_of_ble_eq_true rfl, Nat.le_of_ble_eq_true rfl⟩ ⟨Nat.zero_le _, Nat.zero_le _⟩ hP hD hS hl.1 rfl rfl (Nat.le_of_ble_eq_true rfl) dX3_choose_35 (fun H locs hP hD hS => ?_)
        refine lv_istore (lv' := [(6, _), (5, _), (0, _), (1, _), (2, _), (3, _), (4, _)]) C.1 C.2.1 dX3_choose_38 hl (by decide) rfl (fun ls hl => ?_)
        refine lv_aload_n C.1 C.2.1 dX3_choose_40 rfl (lv_at hl 3 rfl) ?_
        refine lv_iload_n C.1 C.2.1 dX3_choose_41 rfl (lv_at hl 4 rfl) ?_
        refine lv_iload_n C.1 C.2.1 dX3_choose_42 rfl (lv_at hl 5 rfl) ?_
        refine lv_iconst (v := nI 1) C.1 C.2.1 dX3_choose_43 (by decide +kernel) ?_
        refine cm_cS1 3 C (c_homeBy2 l D cI cZ cJ _ s0 key) tw_114 tw_115 tw_1 tw_116 rfl rfl (by decide +kernel) ⟨Nat.le_of_ble_eq_true rfl, Nat.le_of_ble_eq_true rfl⟩ ⟨Nat.zero_le _, Nat.zero_le _⟩ hP hD hS hl.1 rfl rfl (Nat.le_of_ble_eq_true rfl) dX3_choose_44 (fun H locs hP hD hS => ?_)
        refine cm_cV1 (q0 := qI) 1 C (k_X0_rowInUse l D cI cZ cJ _ hI hA z (hm2 s0 key) hz) tw_120 tw_121 tw_122 tw_2 tw_123 rfl rfl (hI) rfl (by decide +kernel) ⟨Nat.le_of_ble_eq_true rfl, Nat.le_of_ble_eq_true rfl⟩ ⟨Nat.zero_le _, Nat.zero_le _⟩ hP hD hS hl.1 rfl rfl (Nat.le_of_ble_eq_true rfl) dX3_choose_47 (fun H locs hP hD hS => ?_)
        refine lv_istore (lv' := [(7, _), (6, _), (5, _), (0, _), (1, _), (2, _), (3, _), (4, _)]) C.1 C.2.1 dX3_choose_50 hl (by decide) rfl (fun ls hl => ?_)
        refine lv_aload_n C.1 C.2.1 dX3_choose_52 rfl (lv_at hl 4 rfl) ?_
        refine lv_iload C.1 C.2.1 dX3_choose_53 (lv_at hl 1 rfl) ?_
        refine cm_cV1 (q0 := qI) 1 C (k_X0_leastEmpty l D cI cZ cJ _ hI hA (z * 9 + hm1 s0 key) (by omega)) tw_155 tw_156 tw_157 tw_2 tw_158 rfl rfl (hI) rfl (by decide +kernel) ⟨Nat.le_of_ble_eq_true rfl, Nat.le_of_ble_eq_true rfl⟩ ⟨Nat.zero_le _, Nat.zero_le _⟩ hP hD hS hl.1 rfl rfl (Nat.le_of_ble_eq_true rfl) dX3_choose_55 (fun H locs hP hD hS => ?_)
        rw [em_abs, e2, optA_none]
        refine lv_istore (lv' := [(8, _), (7, _), (6, _), (5, _), (0, _), (1, _), (2, _), (3, _), (4, _)]) C.1 C.2.1 dX3_choose_58 hl (by decide) rfl (fun ls hl => ?_)
        refine lv_iload C.1 C.2.1 dX3_choose_60 (lv_at hl 0 rfl) ?_
        refine lv_iconst (v := (-1)) C.1 C.2.1 dX3_choose_62 (by decide +kernel) ?_
        refine lv_icmp_ne (tgt := 74) C.1 C.2.1 dX3_choose_63 (by decide) (fun h => absurd (rfl) h) (fun _ => ?_)
        refine lv_aload_n C.1 C.2.1 dX3_choose_66 rfl (lv_at hl 5 rfl) ?_
        refine lv_iload C.1 C.2.1 dX3_choose_67 (lv_at hl 1 rfl) ?_
        refine cm_cV1 (q0 := qI) 1 C (k_X0_leastEmpty l D cI cZ cJ _ hI hA (z * 9 + hm2 s0 key) (by omega)) tw_155 tw_156 tw_157 tw_2 tw_158 rfl rfl (hI) rfl (by decide +kernel) ⟨Nat.le_of_ble_eq_true rfl, Nat.le_of_ble_eq_true rfl⟩ ⟨Nat.zero_le _, Nat.zero_le _⟩ hP hD hS hl.1 rfl rfl (Nat.le_of_ble_eq_true rfl) dX3_choose_69 (fun H locs hP hD hS => ?_)
        rw [em_abs, e3, optA_some]
        refine lv_istore (lv' := [(8, _), (7, _), (6, _), (5, _), (0, _), (1, _), (2, _), (3, _), (4, _)]) C.1 C.2.1 dX3_choose_72 hl (by decide) rfl (fun ls hl => ?_)
        refine lv_iload C.1 C.2.1 dX3_choose_74 (lv_at hl 0 rfl) ?_
        refine lv_iconst (v := (-1)) C.1 C.2.1 dX3_choose_76 (by decide +kernel) ?_
        refine lv_icmp_eq (tgt := 94) C.1 C.2.1 dX3_choose_77 (by decide) (fun h => absurd h (nI_m1 (by omega))) (fun _ => ?_)
        refine lv_aload_n C.1 C.2.1 dX3_choose_80 rfl (lv_at hl 4 rfl) ?_
        refine va_get (ci := 3) (C := RX3) (T := TX3) (N := 10) C.1 C.2.1 C.2.2.2.2.2.1 ui_X3 C.2.2.2.2.1 C.2.2.2.2.2.2.2.1 hP qO (hO) rfl 5 (by decide) (C.2.2.2.2.2.1 _ tw_66) (fun _ h9 => h9) rfl dX3_choose_81 ?_
        refine lv_iload C.1 C.2.1 dX3_choose_84 (lv_at hl 0 rfl) ?_
        refine lv_iload_n C.1 C.2.1 dX3_choose_86 rfl (lv_at hl 7 rfl) ?_
        refine lv_iload C.1 C.2.1 dX3_choose_87 (lv_at hl 8 rfl) ?_
        refine cm_cV0 (q0 := qM) 3 C (k_X1_tellOne l D cI cZ cJ _ hM hN hmn (nI (36 * z + p9)) key val) tw_135 tw_136 tw_137 tw_4 tw_138 rfl rfl (hM) rfl (by decide +kernel) ⟨Nat.le_of_ble_eq_true rfl, Nat.le_of_ble_eq_true rfl⟩ ⟨Nat.zero_le _, Nat.zero_le _⟩ hP hD hS hl.1 rfl rfl (Nat.le_of_ble_eq_true rfl) dX3_choose_89 (fun H locs hP hD hS => ?_)
        refine lv_iconst (v := nI 1) C.1 C.2.1 dX3_choose_92 (by decide +kernel) ?_
        exact cm_iret C hP hD hS dX3_choose_93 (by simp [chS, e1, e2, e3]) (by simp [chS, e1, e2, e3, encA])
      | none =>
        by_cases e4 : (pathS (uR f z) (kR f z) s0 6 0 (hm1 s0 key) []).1 = true
        · refine ⟨(upd fm 0 (nI 0)), pk_us, ?_⟩
          refine CM.of (by decide) (Nat.le_of_ble_eq_true rfl) ?_
          intro p e s m below meth c ls H locs C hl hP hD hS
          refine lv_aload_n C.1 C.2.1 dX3_choose_0 rfl (lv_at hl 1 rfl) ?_
          refine lv_iload_n C.1 C.2.1 dX3_choose_1 rfl (lv_at hl 2 rfl) ?_
          refine lv_iload_n C.1 C.2.1 dX3_choose_2 rfl (lv_at hl 3 rfl) ?_
          refine cm_cS1 3 C (k_X3_find l D cI cZ cJ _ hI hA z hz0 hz s0 key) tw_111 tw_112 tw_1 tw_113 rfl rfl (by decide +kernel) ⟨Nat.le_of_ble_eq_true rfl, Nat.le_of_ble_eq_true rfl⟩ ⟨Nat.zero_le _, Nat.zero_le _⟩ hP hD hS hl.1 rfl rfl (Nat.le_of_ble_eq_true rfl) dX3_choose_3 (fun H locs hP hD hS => ?_)
          rw [e1, optA_none]
          refine lv_istore (lv' := [(5, _), (0, _), (1, _), (2, _), (3, _), (4, _)]) C.1 C.2.1 dX3_choose_6 hl (by decide) rfl (fun ls hl => ?_)
          refine lv_iload C.1 C.2.1 dX3_choose_8 (lv_at hl 0 rfl) ?_
          refine lv_iconst (v := (-1)) C.1 C.2.1 dX3_choose_10 (by decide +kernel) ?_
          refine lv_icmp_eq (tgt := 28) C.1 C.2.1 dX3_choose_11 (by decide) (fun _ => ?_) (fun h => absurd (rfl) h)
          refine lv_aload_n C.1 C.2.1 dX3_choose_28 rfl (lv_at hl 2 rfl) ?_
          refine lv_iload_n C.1 C.2.1 dX3_choose_29 rfl (lv_at hl 3 rfl) ?_
          refine lv_iload_n C.1 C.2.1 dX3_choose_30 rfl (lv_at hl 4 rfl) ?_
          refine lv_iconst (v := nI 0) C.1 C.2.1 dX3_choose_31 (by decide +kernel) ?_
          refine cm_cS1 3 C (c_homeBy1 l D cI cZ cJ _ s0 key) tw_114 tw_115 tw_1 tw_116 rfl rfl (by decide +kernel) ⟨Nat.le_of_ble_eq_true rfl, Nat.le_of_ble_eq_true rfl⟩ ⟨Nat.zero_le _, Nat.zero_le _⟩ hP hD hS hl.1 rfl rfl (Nat.le_of_ble_eq_true rfl) dX3_choose_32 (fun H locs hP hD hS => ?_)
          refine cm_cV1 (q0 := qI) 1 C (k_X0_rowInUse l D cI cZ cJ _ hI hA z (hm1 s0 key) hz) tw_120 tw_121 tw_122 tw_2 tw_123 rfl rfl (hI) rfl (by decide +kernel) ⟨Nat.le_of_ble_eq_true rfl, Nat.le_of_ble_eq_true rfl⟩ ⟨Nat.zero_le _, Nat.zero_le _⟩ hP hD hS hl.1 rfl rfl (Nat.le_of_ble_eq_true rfl) dX3_choose_35 (fun H locs hP hD hS => ?_)
          refine lv_istore (lv' := [(6, _), (5, _), (0, _), (1, _), (2, _), (3, _), (4, _)]) C.1 C.2.1 dX3_choose_38 hl (by decide) rfl (fun ls hl => ?_)
          refine lv_aload_n C.1 C.2.1 dX3_choose_40 rfl (lv_at hl 3 rfl) ?_
          refine lv_iload_n C.1 C.2.1 dX3_choose_41 rfl (lv_at hl 4 rfl) ?_
          refine lv_iload_n C.1 C.2.1 dX3_choose_42 rfl (lv_at hl 5 rfl) ?_
          refine lv_iconst (v := nI 1) C.1 C.2.1 dX3_choose_43 (by decide +kernel) ?_
          refine cm_cS1 3 C (c_homeBy2 l D cI cZ cJ _ s0 key) tw_114 tw_115 tw_1 tw_116 rfl rfl (by decide +kernel) ⟨Nat.le_of_ble_eq_true rfl, Nat.le_of_ble_eq_true rfl⟩ ⟨Nat.zero_le _, Nat.zero_le _⟩ hP hD hS hl.1 rfl rfl (Nat.le_of_ble_eq_true rfl) dX3_choose_44 (fun H locs hP hD hS => ?_)
          refine cm_cV1 (q0 := qI) 1 C (k_X0_rowInUse l D cI cZ cJ _ hI hA z (hm2 s0 key) hz) tw_120 tw_121 tw_122 tw_2 tw_123 rfl rfl (hI) rfl (by decide +kernel) ⟨Nat.le_of_ble_eq_true rfl, Nat.le_of_ble_eq_true rfl⟩ ⟨Nat.zero_le _, Nat.zero_le _⟩ hP hD hS hl.1 rfl rfl (Nat.le_of_ble_eq_true rfl) dX3_choose_47 (fun H locs hP hD hS => ?_)
          refine lv_istore (lv' := [(7, _), (6, _), (5, _), (0, _), (1, _), (2, _), (3, _), (4, _)]) C.1 C.2.1 dX3_choose_50 hl (by decide) rfl (fun ls hl => ?_)
          refine lv_aload_n C.1 C.2.1 dX3_choose_52 rfl (lv_at hl 4 rfl) ?_
          refine lv_iload C.1 C.2.1 dX3_choose_53 (lv_at hl 1 rfl) ?_
          refine cm_cV1 (q0 := qI) 1 C (k_X0_leastEmpty l D cI cZ cJ _ hI hA (z * 9 + hm1 s0 key) (by omega)) tw_155 tw_156 tw_157 tw_2 tw_158 rfl rfl (hI) rfl (by decide +kernel) ⟨Nat.le_of_ble_eq_true rfl, Nat.le_of_ble_eq_true rfl⟩ ⟨Nat.zero_le _, Nat.zero_le _⟩ hP hD hS hl.1 rfl rfl (Nat.le_of_ble_eq_true rfl) dX3_choose_55 (fun H locs hP hD hS => ?_)
          rw [em_abs, e2, optA_none]
          refine lv_istore (lv' := [(8, _), (7, _), (6, _), (5, _), (0, _), (1, _), (2, _), (3, _), (4, _)]) C.1 C.2.1 dX3_choose_58 hl (by decide) rfl (fun ls hl => ?_)
          refine lv_iload C.1 C.2.1 dX3_choose_60 (lv_at hl 0 rfl) ?_
          refine lv_iconst (v := (-1)) C.1 C.2.1 dX3_choose_62 (by decide +kernel) ?_
          refine lv_icmp_ne (tgt := 74) C.1 C.2.1 dX3_choose_63 (by decide) (fun h => absurd (rfl) h) (fun _ => ?_)
          refine lv_aload_n C.1 C.2.1 dX3_choose_66 rfl (lv_at hl 5 rfl) ?_
          refine lv_iload C.1 C.2.1 dX3_choose_67 (lv_at hl 1 rfl) ?_
          refine cm_cV1 (q0 := qI) 1 C (k_X0_leastEmpty l D cI cZ cJ _ hI hA (z * 9 + hm2 s0 key) (by omega)) tw_155 tw_156 tw_157 tw_2 tw_158 rfl rfl (hI) rfl (by decide +kernel) ⟨Nat.le_of_ble_eq_true rfl, Nat.le_of_ble_eq_true rfl⟩ ⟨Nat.zero_le _, Nat.zero_le _⟩ hP hD hS hl.1 rfl rfl (Nat.le_of_ble_eq_true rfl) dX3_choose_69 (fun H locs hP hD hS => ?_)
          rw [em_abs, e3, optA_none]
          refine lv_istore (lv' := [(8, _), (7, _), (6, _), (5, _), (0, _), (1, _), (2, _), (3, _), (4, _)]) C.1 C.2.1 dX3_choose_72 hl (by decide) rfl (fun ls hl => ?_)
          refine lv_iload C.1 C.2.1 dX3_choose_74 (lv_at hl 0 rfl) ?_
          refine lv_iconst (v := (-1)) C.1 C.2.1 dX3_choose_76 (by decide +kernel) ?_
          refine lv_icmp_eq (tgt := 94) C.1 C.2.1 dX3_choose_77 (by decide) (fun _ => ?_) (fun h => absurd (rfl) h)
          refine lv_aload_n C.1 C.2.1 dX3_choose_94 rfl (lv_at hl 4 rfl) ?_
          refine lv_aload_n C.1 C.2.1 dX3_choose_95 rfl (lv_at hl 5 rfl) ?_
          refine lv_iload_n C.1 C.2.1 dX3_choose_96 rfl (lv_at hl 6 rfl) ?_
          refine lv_iload C.1 C.2.1 dX3_choose_97 (lv_at hl 2 rfl) ?_
          refine lv_iload_n C.1 C.2.1 dX3_choose_99 rfl (lv_at hl 7 rfl) ?_
          refine lv_iload C.1 C.2.1 dX3_choose_100 (lv_at hl 8 rfl) ?_
          refine cm_cV1 (q0 := qO) 5 C (k_X3_layPath l D cI cZ cJ _ hO hM hN hI hA hon hmn hin han z (hm1 s0 key) hz0 (by omega) s0 key val) tw_159 tw_161 ts_2 tw_1 tw_162 rfl rfl (hO) rfl (by decide +kernel) ⟨Nat.le_of_ble_eq_true rfl, Nat.le_of_ble_eq_true rfl⟩ ⟨Nat.zero_le _, Nat.zero_le _⟩ hP hD hS hl.1 rfl rfl (Nat.le_of_ble_eq_true rfl) dX3_choose_102 (fun H locs hP hD hS => ?_)
          rw [e4]
          refine lv_if_ne (tgt := 122) C.1 C.2.1 dX3_choose_105 (by decide) (fun _ => ?_) (fun h => absurd h (by decide))
          refine lv_iconst (v := nI 2) C.1 C.2.1 dX3_choose_122 (by decide +kernel) ?_
          exact cm_iret C hP hD hS dX3_choose_123 (by simp [chS, e1, e2, e3, e4]) (by simp [chS, e1, e2, e3, e4, encA])
        · have e4 : (pathS (uR f z) (kR f z) s0 6 0 (hm1 s0 key) []).1 = false := by simpa using e4
          by_cases e5 : (pathS (uR f z) (kR f z) s0 6 0 (hm2 s0 key) []).1 = true
          · refine ⟨(upd (encA z (upd fm 0 (nI 0)) 0 (mvS (kR f z) (vR f z) key val (pathS (uR f z) (kR f z) s0 6 0 (hm1 s0 key) []).2)) 0 (nI 0)), pk_us, ?_⟩
            refine CM.of (by decide) (Nat.le_of_ble_eq_true rfl) ?_
            intro p e s m below meth c ls H locs C hl hP hD hS
            refine lv_aload_n C.1 C.2.1 dX3_choose_0 rfl (lv_at hl 1 rfl) ?_
            refine lv_iload_n C.1 C.2.1 dX3_choose_1 rfl (lv_at hl 2 rfl) ?_
            refine lv_iload_n C.1 C.2.1 dX3_choose_2 rfl (lv_at hl 3 rfl) ?_
            refine cm_cS1 3 C (k_X3_find l D cI cZ cJ _ hI hA z hz0 hz s0 key) tw_111 tw_112 tw_1 tw_113 rfl rfl (by decide +kernel) ⟨Nat.le_of_ble_eq_true rfl, Nat.le_of_ble_eq_true rfl⟩ ⟨Nat.zero_le _, Nat.zero_le _⟩ hP hD hS hl.1 rfl rfl (Nat.le_of_ble_eq_true rfl) dX3_choose_3 (fun H locs hP hD hS => ?_)
            rw [e1, optA_none]
            refine lv_istore (lv' := [(5, _), (0, _), (1, _), (2, _), (3, _), (4, _)]) C.1 C.2.1 dX3_choose_6 hl (by decide) rfl (fun ls hl => ?_)
            refine lv_iload C.1 C.2.1 dX3_choose_8 (lv_at hl 0 rfl) ?_
            refine lv_iconst (v := (-1)) C.1 C.2.1 dX3_choose_10 (by decide +kernel) ?_
            refine lv_icmp_eq (tgt := 28) C.1 C.2.1 dX3_choose_11 (by decide) (fun _ => ?_) (fun h => absurd (rfl) h)
            refine lv_aload_n C.1 C.2.1 dX3_choose_28 rfl (lv_at hl 2 rfl) ?_
            refine lv_iload_n C.1 C.2.1 dX3_choose_29 rfl (lv_at hl 3 rfl) ?_
            refine lv_iload_n C.1 C.2.1 dX3_choose_30 rfl (lv_at hl 4 rfl) ?_
            refine lv_iconst (v := nI 0) C.1 C.2.1 dX3_choose_31 (by decide +kernel) ?_
            refine cm_cS1 3 C (c_homeBy1 l D cI cZ cJ _ s0 key) tw_114 tw_115 tw_1 tw_116 rfl rfl (by decide +kernel) ⟨Nat.le_of_ble_eq_true rfl, Nat.le_of_ble_eq_true rfl⟩ ⟨Nat.zero_le _, Nat.zero_le _⟩ hP hD hS hl.1 rfl rfl (Nat.le_of_ble_eq_true rfl) dX3_choose_32 (fun H locs hP hD hS => ?_)
            refine cm_cV1 (q0 := qI) 1 C (k_X0_rowInUse l D cI cZ cJ _ hI hA z (hm1 s0 key) hz) tw_120 tw_121 tw_122 tw_2 tw_123 rfl rfl (hI) rfl (by decide +kernel) ⟨Nat.le_of_ble_eq_true rfl, Nat.le_of_ble_eq_true rfl⟩ ⟨Nat.zero_le _, Nat.zero_le _⟩ hP hD hS hl.1 rfl rfl (Nat.le_of_ble_eq_true rfl) dX3_choose_35 (fun H locs hP hD hS => ?_)
            refine lv_istore (lv' := [(6, _), (5, _), (0, _), (1, _), (2, _), (3, _), (4, _)]) C.1 C.2.1 dX3_choose_38 hl (by decide) rfl (fun ls hl => ?_)
            refine lv_aload_n C.1 C.2.1 dX3_choose_40 rfl (lv_at hl 3 rfl) ?_
            refine lv_iload_n C.1 C.2.1 dX3_choose_41 rfl (lv_at hl 4 rfl) ?_
            refine lv_iload_n C.1 C.2.1 dX3_choose_42 rfl (lv_at hl 5 rfl) ?_
            refine lv_iconst (v := nI 1) C.1 C.2.1 dX3_choose_43 (by decide +kernel) ?_
            refine cm_cS1 3 C (c_homeBy2 l D cI cZ cJ _ s0 key) tw_114 tw_115 tw_1 tw_116 rfl rfl (by decide +kernel) ⟨Nat.le_of_ble_eq_true rfl, Nat.le_of_ble_eq_true rfl⟩ ⟨Nat.zero_le _, Nat.zero_le _⟩ hP hD hS hl.1 rfl rfl (Nat.le_of_ble_eq_true rfl) dX3_choose_44 (fun H locs hP hD hS => ?_)
            refine cm_cV1 (q0 := qI) 1 C (k_X0_rowInUse l D cI cZ cJ _ hI hA z (hm2 s0 key) hz) tw_120 tw_121 tw_122 tw_2 tw_123 rfl rfl (hI) rfl (by decide +kernel) ⟨Nat.le_of_ble_eq_true rfl, Nat.le_of_ble_eq_true rfl⟩ ⟨Nat.zero_le _, Nat.zero_le _⟩ hP hD hS hl.1 rfl rfl (Nat.le_of_ble_eq_true rfl) dX3_choose_47 (fun H locs hP hD hS => ?_)
            refine lv_istore (lv' := [(7, _), (6, _), (5, _), (0, _), (1, _), (2, _), (3, _), (4, _)]) C.1 C.2.1 dX3_choose_50 hl (by decide) rfl (fun ls hl => ?_)
            refine lv_aload_n C.1 C.2.1 dX3_choose_52 rfl (lv_at hl 4 rfl) ?_
            refine lv_iload C.1 C.2.1 dX3_choose_53 (lv_at hl 1 rfl) ?_
            refine cm_cV1 (q0 := qI) 1 C (k_X0_leastEmpty l D cI cZ cJ _ hI hA (z * 9 + hm1 s0 key) (by omega)) tw_155 tw_156 tw_157 tw_2 tw_158 rfl rfl (hI) rfl (by decide +kernel) ⟨Nat.le_of_ble_eq_true rfl, Nat.le_of_ble_eq_true rfl⟩ ⟨Nat.zero_le _, Nat.zero_le _⟩ hP hD hS hl.1 rfl rfl (Nat.le_of_ble_eq_true rfl) dX3_choose_55 (fun H locs hP hD hS => ?_)
            rw [em_abs, e2, optA_none]
            refine lv_istore (lv' := [(8, _), (7, _), (6, _), (5, _), (0, _), (1, _), (2, _), (3, _), (4, _)]) C.1 C.2.1 dX3_choose_58 hl (by decide) rfl (fun ls hl => ?_)
            refine lv_iload C.1 C.2.1 dX3_choose_60 (lv_at hl 0 rfl) ?_
            refine lv_iconst (v := (-1)) C.1 C.2.1 dX3_choose_62 (by decide +kernel) ?_
            refine lv_icmp_ne (tgt := 74) C.1 C.2.1 dX3_choose_63 (by decide) (fun h => absurd (rfl) h) (fun _ => ?_)
            refine lv_aload_n C.1 C.2.1 dX3_choose_66 rfl (lv_at hl 5 rfl) ?_
            refine lv_iload C.1 C.2.1 dX3_choose_67 (lv_at hl 1 rfl) ?_
            refine cm_cV1 (q0 := qI) 1 C (k_X0_leastEmpty l D cI cZ cJ _ hI hA (z * 9 + hm2 s0 key) (by omega)) tw_155 tw_156 tw_157 tw_2 tw_158 rfl rfl (hI) rfl (by decide +kernel) ⟨Nat.le_of_ble_eq_true rfl, Nat.le_of_ble_eq_true rfl⟩ ⟨Nat.zero_le _, Nat.zero_le _⟩ hP hD hS hl.1 rfl rfl (Nat.le_of_ble_eq_true rfl) dX3_choose_69 (fun H locs hP hD hS => ?_)
            rw [em_abs, e3, optA_none]
            refine lv_istore (lv' := [(8, _), (7, _), (6, _), (5, _), (0, _), (1, _), (2, _), (3, _), (4, _)]) C.1 C.2.1 dX3_choose_72 hl (by decide) rfl (fun ls hl => ?_)
            refine lv_iload C.1 C.2.1 dX3_choose_74 (lv_at hl 0 rfl) ?_
            refine lv_iconst (v := (-1)) C.1 C.2.1 dX3_choose_76 (by decide +kernel) ?_
            refine lv_icmp_eq (tgt := 94) C.1 C.2.1 dX3_choose_77 (by decide) (fun _ => ?_) (fun h => absurd (rfl) h)
            refine lv_aload_n C.1 C.2.1 dX3_choose_94 rfl (lv_at hl 4 rfl) ?_
            refine lv_aload_n C.1 C.2.1 dX3_choose_95 rfl (lv_at hl 5 rfl) ?_
            refine lv_iload_n C.1 C.2.1 dX3_choose_96 rfl (lv_at hl 6 rfl) ?_
            refine lv_iload C.1 C.2.1 dX3_choose_97 (lv_at hl 2 rfl) ?_
            refine lv_iload_n C.1 C.2.1 dX3_choose_99 rfl (lv_at hl 7 rfl) ?_
            refine lv_iload C.1 C.2.1 dX3_choose_100 (lv_at hl 8 rfl) ?_
            refine cm_cV1 (q0 := qO) 5 C (k_X3_layPath l D cI cZ cJ _ hO hM hN hI hA hon hmn hin han z (hm1 s0 key) hz0 (by omega) s0 key val) tw_159 tw_161 ts_2 tw_1 tw_162 rfl rfl (hO) rfl (by decide +kernel) ⟨Nat.le_of_ble_eq_true rfl, Nat.le_of_ble_eq_true rfl⟩ ⟨Nat.zero_le _, Nat.zero_le _⟩ hP hD hS hl.1 rfl rfl (Nat.le_of_ble_eq_true rfl) dX3_choose_102 (fun H locs hP hD hS => ?_)
            rw [e4]
            refine lv_if_ne (tgt := 122) C.1 C.2.1 dX3_choose_105 (by decide) (fun h => absurd (by decide) h) (fun _ => ?_)
            refine lv_aload_n C.1 C.2.1 dX3_choose_108 rfl (lv_at hl 4 rfl) ?_
            refine lv_aload_n C.1 C.2.1 dX3_choose_109 rfl (lv_at hl 5 rfl) ?_
            refine lv_iload_n C.1 C.2.1 dX3_choose_110 rfl (lv_at hl 6 rfl) ?_
            refine lv_iload C.1 C.2.1 dX3_choose_111 (lv_at hl 1 rfl) ?_
            refine lv_iload_n C.1 C.2.1 dX3_choose_113 rfl (lv_at hl 7 rfl) ?_
            refine lv_iload C.1 C.2.1 dX3_choose_114 (lv_at hl 8 rfl) ?_
            refine cm_cV1 (q0 := qO) 5 C (k_X3_layPath l D cI cZ cJ _ (ws_ne hon hO) (ws_ne hmn hM) (ws_self hN) (ws_ne hin hI) (ws_ne han hA) hon hmn hin han z (hm2 s0 key) hz0 (by omega) s0 key val) tw_159 tw_161 ts_2 tw_1 tw_162 rfl rfl ((ws_ne hon hO)) rfl (by decide +kernel) ⟨Nat.le_of_ble_eq_true rfl, Nat.le_of_ble_eq_true rfl⟩ ⟨Nat.zero_le _, Nat.zero_le _⟩ hP hD hS hl.1 rfl rfl (Nat.le_of_ble_eq_true rfl) dX3_choose_116 (fun H locs hP hD hS => ?_)
            rw [e5]
            rw [List.set_set] at hP hD
            refine lv_if_eq (tgt := 124) C.1 C.2.1 dX3_choose_119 (by decide) (fun h => absurd h (by decide)) (fun _ => ?_)
            refine lv_iconst (v := nI 2) C.1 C.2.1 dX3_choose_122 (by decide +kernel) ?_
            exact cm_iret C hP hD hS dX3_choose_123 (by simp [chS, e1, e2, e3, e4, e5]) (by simp [chS, e1, e2, e3, e4, e5, encA])
          · have e5 : (pathS (uR f z) (kR f z) s0 6 0 (hm2 s0 key) []).1 = false := by simpa using e5
            cases e6 : emS (uR f z) 8 with
            | some p9 =>
              have q3 := (emS_lt e6 (by omega)).1
              refine ⟨(upd (encA z (upd (encA z (upd fm 0 (nI 0)) 0 (mvS (kR f z) (vR f z) key val (pathS (uR f z) (kR f z) s0 6 0 (hm1 s0 key) []).2)) 0 (nI 0)) 0 (mvS (kR f z) (vR f z) key val (pathS (uR f z) (kR f z) s0 6 0 (hm2 s0 key) []).2)) 0 (nI 0)), pk_us, ?_⟩
              refine CM.of (by decide) (Nat.le_of_ble_eq_true rfl) ?_
              intro p e s m below meth c ls H locs C hl hP hD hS
              refine lv_aload_n C.1 C.2.1 dX3_choose_0 rfl (lv_at hl 1 rfl) ?_
              refine lv_iload_n C.1 C.2.1 dX3_choose_1 rfl (lv_at hl 2 rfl) ?_
              refine lv_iload_n C.1 C.2.1 dX3_choose_2 rfl (lv_at hl 3 rfl) ?_
              refine cm_cS1 3 C (k_X3_find l D cI cZ cJ _ hI hA z hz0 hz s0 key) tw_111 tw_112 tw_1 tw_113 rfl rfl (by decide +kernel) ⟨Nat.le_of_ble_eq_true rfl, Nat.le_of_ble_eq_true rfl⟩ ⟨Nat.zero_le _, Nat.zero_le _⟩ hP hD hS hl.1 rfl rfl (Nat.le_of_ble_eq_true rfl) dX3_choose_3 (fun H locs hP hD hS => ?_)
              rw [e1, optA_none]
              refine lv_istore (lv' := [(5, _), (0, _), (1, _), (2, _), (3, _), (4, _)]) C.1 C.2.1 dX3_choose_6 hl (by decide) rfl (fun ls hl => ?_)
              refine lv_iload C.1 C.2.1 dX3_choose_8 (lv_at hl 0 rfl) ?_
              refine lv_iconst (v := (-1)) C.1 C.2.1 dX3_choose_10 (by decide +kernel) ?_
              refine lv_icmp_eq (tgt := 28) C.1 C.2.1 dX3_choose_11 (by decide) (fun _ => ?_) (fun h => absurd (rfl) h)
              refine lv_aload_n C.1 C.2.1 dX3_choose_28 rfl (lv_at hl 2 rfl) ?_
              refine lv_iload_n C.1 C.2.1 dX3_choose_29 rfl (lv_at hl 3 rfl) ?_
              refine lv_iload_n C.1 C.2.1 dX3_choose_30 rfl (lv_at hl 4 rfl) ?_
              refine lv_iconst (v := nI 0) C.1 C.2.1 dX3_choose_31 (by decide +kernel) ?_
              refine cm_cS1 3 C (c_homeBy1 l D cI cZ cJ _ s0 key) tw_114 tw_115 tw_1 tw_116 rfl rfl (by decide +kernel) ⟨Nat.le_of_ble_eq_true rfl, Nat.le_of_ble_eq_true rfl⟩ ⟨Nat.zero_le _, Nat.zero_le _⟩ hP hD hS hl.1 rfl rfl (Nat.le_of_ble_eq_true rfl) dX3_choose_32 (fun H locs hP hD hS => ?_)
              refine cm_cV1 (q0 := qI) 1 C (k_X0_rowInUse l D cI cZ cJ _ hI hA z (hm1 s0 key) hz) tw_120 tw_121 tw_122 tw_2 tw_123 rfl rfl (hI) rfl (by decide +kernel) ⟨Nat.le_of_ble_eq_true rfl, Nat.le_of_ble_eq_true rfl⟩ ⟨Nat.zero_le _, Nat.zero_le _⟩ hP hD hS hl.1 rfl rfl (Nat.le_of_ble_eq_true rfl) dX3_choose_35 (fun H locs hP hD hS => ?_)
              refine lv_istore (lv' := [(6, _), (5, _), (0, _), (1, _), (2, _), (3, _), (4, _)]) C.1 C.2.1 dX3_choose_38 hl (by decide) rfl (fun ls hl => ?_)
              refine lv_aload_n C.1 C.2.1 dX3_choose_40 rfl (lv_at hl 3 rfl) ?_
              refine lv_iload_n C.1 C.2.1 dX3_choose_41 rfl (lv_at hl 4 rfl) ?_
              refine lv_iload_n C.1 C.2.1 dX3_choose_42 rfl (lv_at hl 5 rfl) ?_
              refine lv_iconst (v := nI 1) C.1 C.2.1 dX3_choose_43 (by decide +kernel) ?_
              refine cm_cS1 3 C (c_homeBy2 l D cI cZ cJ _ s0 key) tw_114 tw_115 tw_1 tw_116 rfl rfl (by decide +kernel) ⟨Nat.le_of_ble_eq_true rfl, Nat.le_of_ble_eq_true rfl⟩ ⟨Nat.zero_le _, Nat.zero_le _⟩ hP hD hS hl.1 rfl rfl (Nat.le_of_ble_eq_true rfl) dX3_choose_44 (fun H locs hP hD hS => ?_)
              refine cm_cV1 (q0 := qI) 1 C (k_X0_rowInUse l D cI cZ cJ _ hI hA z (hm2 s0 key) hz) tw_120 tw_121 tw_122 tw_2 tw_123 rfl rfl (hI) rfl (by decide +kernel) ⟨Nat.le_of_ble_eq_true rfl, Nat.le_of_ble_eq_true rfl⟩ ⟨Nat.zero_le _, Nat.zero_le _⟩ hP hD hS hl.1 rfl rfl (Nat.le_of_ble_eq_true rfl) dX3_choose_47 (fun H locs hP hD hS => ?_)
              refine lv_istore (lv' := [(7, _), (6, _), (5, _), (0, _), (1, _), (2, _), (3, _), (4, _)]) C.1 C.2.1 dX3_choose_50 hl (by decide) rfl (fun ls hl => ?_)
              refine lv_aload_n C.1 C.2.1 dX3_choose_52 rfl (lv_at hl 4 rfl) ?_
              refine lv_iload C.1 C.2.1 dX3_choose_53 (lv_at hl 1 rfl) ?_
              refine cm_cV1 (q0 := qI) 1 C (k_X0_leastEmpty l D cI cZ cJ _ hI hA (z * 9 + hm1 s0 key) (by omega)) tw_155 tw_156 tw_157 tw_2 tw_158 rfl rfl (hI) rfl (by decide +kernel) ⟨Nat.le_of_ble_eq_true rfl, Nat.le_of_ble_eq_true rfl⟩ ⟨Nat.zero_le _, Nat.zero_le _⟩ hP hD hS hl.1 rfl rfl (Nat.le_of_ble_eq_true rfl) dX3_choose_55 (fun H locs hP hD hS => ?_)
              rw [em_abs, e2, optA_none]
              refine lv_istore (lv' := [(8, _), (7, _), (6, _), (5, _), (0, _), (1, _), (2, _), (3, _), (4, _)]) C.1 C.2.1 dX3_choose_58 hl (by decide) rfl (fun ls hl => ?_)
              refine lv_iload C.1 C.2.1 dX3_choose_60 (lv_at hl 0 rfl) ?_
              refine lv_iconst (v := (-1)) C.1 C.2.1 dX3_choose_62 (by decide +kernel) ?_
              refine lv_icmp_ne (tgt := 74) C.1 C.2.1 dX3_choose_63 (by decide) (fun h => absurd (rfl) h) (fun _ => ?_)
              refine lv_aload_n C.1 C.2.1 dX3_choose_66 rfl (lv_at hl 5 rfl) ?_
              refine lv_iload C.1 C.2.1 dX3_choose_67 (lv_at hl 1 rfl) ?_
              refine cm_cV1 (q0 := qI) 1 C (k_X0_leastEmpty l D cI cZ cJ _ hI hA (z * 9 + hm2 s0 key) (by omega)) tw_155 tw_156 tw_157 tw_2 tw_158 rfl rfl (hI) rfl (by decide +kernel) ⟨Nat.le_of_ble_eq_true rfl, Nat.le_of_ble_eq_true rfl⟩ ⟨Nat.zero_le _, Nat.zero_le _⟩ hP hD hS hl.1 rfl rfl (Nat.le_of_ble_eq_true rfl) dX3_choose_69 (fun H locs hP hD hS => ?_)
              rw [em_abs, e3, optA_none]
              refine lv_istore (lv' := [(8, _), (7, _), (6, _), (5, _), (0, _), (1, _), (2, _), (3, _), (4, _)]) C.1 C.2.1 dX3_choose_72 hl (by decide) rfl (fun ls hl => ?_)
              refine lv_iload C.1 C.2.1 dX3_choose_74 (lv_at hl 0 rfl) ?_
              refine lv_iconst (v := (-1)) C.1 C.2.1 dX3_choose_76 (by decide +kernel) ?_
              refine lv_icmp_eq (tgt := 94) C.1 C.2.1 dX3_choose_77 (by decide) (fun _ => ?_) (fun h => absurd (rfl) h)
              refine lv_aload_n C.1 C.2.1 dX3_choose_94 rfl (lv_at hl 4 rfl) ?_
              refine lv_aload_n C.1 C.2.1 dX3_choose_95 rfl (lv_at hl 5 rfl) ?_
              refine lv_iload_n C.1 C.2.1 dX3_choose_96 rfl (lv_at hl 6 rfl) ?_
              refine lv_iload C.1 C.2.1 dX3_choose_97 (lv_at hl 2 rfl) ?_
              refine lv_iload_n C.1 C.2.1 dX3_choose_99 rfl (lv_at hl 7 rfl) ?_
              refine lv_iload C.1 C.2.1 dX3_choose_100 (lv_at hl 8 rfl) ?_
              refine cm_cV1 (q0 := qO) 5 C (k_X3_layPath l D cI cZ cJ _ hO hM hN hI hA hon hmn hin han z (hm1 s0 key) hz0 (by omega) s0 key val) tw_159 tw_161 ts_2 tw_1 tw_162 rfl rfl (hO) rfl (by decide +kernel) ⟨Nat.le_of_ble_eq_true rfl, Nat.le_of_ble_eq_true rfl⟩ ⟨Nat.zero_le _, Nat.zero_le _⟩ hP hD hS hl.1 rfl rfl (Nat.le_of_ble_eq_true rfl) dX3_choose_102 (fun H locs hP hD hS => ?_)
              rw [e4]
              refine lv_if_ne (tgt := 122) C.1 C.2.1 dX3_choose_105 (by decide) (fun h => absurd (by decide) h) (fun _ => ?_)
              refine lv_aload_n C.1 C.2.1 dX3_choose_108 rfl (lv_at hl 4 rfl) ?_
              refine lv_aload_n C.1 C.2.1 dX3_choose_109 rfl (lv_at hl 5 rfl) ?_
              refine lv_iload_n C.1 C.2.1 dX3_choose_110 rfl (lv_at hl 6 rfl) ?_
              refine lv_iload C.1 C.2.1 dX3_choose_111 (lv_at hl 1 rfl) ?_
              refine lv_iload_n C.1 C.2.1 dX3_choose_113 rfl (lv_at hl 7 rfl) ?_
              refine lv_iload C.1 C.2.1 dX3_choose_114 (lv_at hl 8 rfl) ?_
              refine cm_cV1 (q0 := qO) 5 C (k_X3_layPath l D cI cZ cJ _ (ws_ne hon hO) (ws_ne hmn hM) (ws_self hN) (ws_ne hin hI) (ws_ne han hA) hon hmn hin han z (hm2 s0 key) hz0 (by omega) s0 key val) tw_159 tw_161 ts_2 tw_1 tw_162 rfl rfl ((ws_ne hon hO)) rfl (by decide +kernel) ⟨Nat.le_of_ble_eq_true rfl, Nat.le_of_ble_eq_true rfl⟩ ⟨Nat.zero_le _, Nat.zero_le _⟩ hP hD hS hl.1 rfl rfl (Nat.le_of_ble_eq_true rfl) dX3_choose_116 (fun H locs hP hD hS => ?_)
              rw [e5]
              rw [List.set_set] at hP hD
              refine lv_if_eq (tgt := 124) C.1 C.2.1 dX3_choose_119 (by decide) (fun _ => ?_) (fun h => absurd (by decide) h)
              refine lv_aload_n C.1 C.2.1 dX3_choose_124 rfl (lv_at hl 5 rfl) ?_
              refine lv_aload_n C.1 C.2.1 dX3_choose_125 rfl (lv_at hl 5 rfl) ?_
              refine lv_bipush (v := nI 8) C.1 C.2.1 dX3_choose_126 (by decide +kernel) ?_
              refine cm_cV1 (q0 := qI) 1 C (k_X0_rowInUse l D cI cZ cJ _ (ws_ne hin hI) (ws_ne han hA) z (8) hz) tw_120 tw_121 tw_122 tw_2 tw_123 rfl rfl ((ws_ne hin hI)) rfl (by decide +kernel) ⟨Nat.le_of_ble_eq_true rfl, Nat.le_of_ble_eq_true rfl⟩ ⟨Nat.zero_le _, Nat.zero_le _⟩ hP hD hS hl.1 rfl rfl (Nat.le_of_ble_eq_true rfl) dX3_choose_128 (fun H locs hP hD hS => ?_)
              refine cm_cV1 (q0 := qI) 1 C (k_X0_leastEmpty l D cI cZ cJ _ (ws_ne hin hI) (ws_ne han hA) (z * 9 + 8) (by omega)) tw_155 tw_156 tw_157 tw_2 tw_158 rfl rfl ((ws_ne hin hI)) rfl (by decide +kernel) ⟨Nat.le_of_ble_eq_true rfl, Nat.le_of_ble_eq_true rfl⟩ ⟨Nat.zero_le _, Nat.zero_le _⟩ hP hD hS hl.1 rfl rfl (Nat.le_of_ble_eq_true rfl) dX3_choose_131 (fun H locs hP hD hS => ?_)
              rw [em_abs, e6, optA_some]
              refine lv_istore (lv' := [(8, _), (7, _), (6, _), (5, _), (0, _), (1, _), (2, _), (3, _), (4, _)]) C.1 C.2.1 dX3_choose_134 hl (by decide) rfl (fun ls hl => ?_)
              refine lv_iload C.1 C.2.1 dX3_choose_136 (lv_at hl 0 rfl) ?_
              refine lv_iconst (v := (-1)) C.1 C.2.1 dX3_choose_138 (by decide +kernel) ?_
              refine lv_icmp_eq (tgt := 156) C.1 C.2.1 dX3_choose_139 (by decide) (fun h => absurd h (nI_m1 (by omega))) (fun _ => ?_)
              refine lv_aload_n C.1 C.2.1 dX3_choose_142 rfl (lv_at hl 4 rfl) ?_
              refine va_get (ci := 3) (C := RX3) (T := TX3) (N := 10) C.1 C.2.1 C.2.2.2.2.2.1 ui_X3 C.2.2.2.2.1 C.2.2.2.2.2.2.2.1 hP qO (ws_ne hon hO) rfl 5 (by decide) (C.2.2.2.2.2.1 _ tw_66) (fun _ h9 => h9) rfl dX3_choose_143 ?_
              refine lv_iload C.1 C.2.1 dX3_choose_146 (lv_at hl 0 rfl) ?_
              refine lv_iload_n C.1 C.2.1 dX3_choose_148 rfl (lv_at hl 7 rfl) ?_
              refine lv_iload C.1 C.2.1 dX3_choose_149 (lv_at hl 8 rfl) ?_
              refine cm_cV0 (q0 := qM) 3 C (k_X1_tellOne l D cI cZ cJ _ (ws_ne hmn hM) (ws_self hN) hmn (nI (36 * z + p9)) key val) tw_135 tw_136 tw_137 tw_4 tw_138 rfl rfl ((ws_ne hmn hM)) rfl (by decide +kernel) ⟨Nat.le_of_ble_eq_true rfl, Nat.le_of_ble_eq_true rfl⟩ ⟨Nat.zero_le _, Nat.zero_le _⟩ hP hD hS hl.1 rfl rfl (Nat.le_of_ble_eq_true rfl) dX3_choose_151 (fun H locs hP hD hS => ?_)
              rw [List.set_set] at hP hD
              refine lv_iconst (v := nI 3) C.1 C.2.1 dX3_choose_154 (by decide +kernel) ?_
              exact cm_iret C hP hD hS dX3_choose_155 (by simp [chS, e1, e2, e3, e4, e5, e6]) (by simp [chS, e1, e2, e3, e4, e5, e6, encA])
            | none =>
              refine ⟨(upd (encA z (upd fm 0 (nI 0)) 0 (mvS (kR f z) (vR f z) key val (pathS (uR f z) (kR f z) s0 6 0 (hm1 s0 key) []).2)) 0 (nI 0)), pk_us, ?_⟩
              refine CM.of (by decide) (Nat.le_of_ble_eq_true rfl) ?_
              intro p e s m below meth c ls H locs C hl hP hD hS
              refine lv_aload_n C.1 C.2.1 dX3_choose_0 rfl (lv_at hl 1 rfl) ?_
              refine lv_iload_n C.1 C.2.1 dX3_choose_1 rfl (lv_at hl 2 rfl) ?_
              refine lv_iload_n C.1 C.2.1 dX3_choose_2 rfl (lv_at hl 3 rfl) ?_
              refine cm_cS1 3 C (k_X3_find l D cI cZ cJ _ hI hA z hz0 hz s0 key) tw_111 tw_112 tw_1 tw_113 rfl rfl (by decide +kernel) ⟨Nat.le_of_ble_eq_true rfl, Nat.le_of_ble_eq_true rfl⟩ ⟨Nat.zero_le _, Nat.zero_le _⟩ hP hD hS hl.1 rfl rfl (Nat.le_of_ble_eq_true rfl) dX3_choose_3 (fun H locs hP hD hS => ?_)
              rw [e1, optA_none]
              refine lv_istore (lv' := [(5, _), (0, _), (1, _), (2, _), (3, _), (4, _)]) C.1 C.2.1 dX3_choose_6 hl (by decide) rfl (fun ls hl => ?_)
              refine lv_iload C.1 C.2.1 dX3_choose_8 (lv_at hl 0 rfl) ?_
              refine lv_iconst (v := (-1)) C.1 C.2.1 dX3_choose_10 (by decide +kernel) ?_
              refine lv_icmp_eq (tgt := 28) C.1 C.2.1 dX3_choose_11 (by decide) (fun _ => ?_) (fun h => absurd (rfl) h)
              refine lv_aload_n C.1 C.2.1 dX3_choose_28 rfl (lv_at hl 2 rfl) ?_
              refine lv_iload_n C.1 C.2.1 dX3_choose_29 rfl (lv_at hl 3 rfl) ?_
              refine lv_iload_n C.1 C.2.1 dX3_choose_30 rfl (lv_at hl 4 rfl) ?_
              refine lv_iconst (v := nI 0) C.1 C.2.1 dX3_choose_31 (by decide +kernel) ?_
              refine cm_cS1 3 C (c_homeBy1 l D cI cZ cJ _ s0 key) tw_114 tw_115 tw_1 tw_116 rfl rfl (by decide +kernel) ⟨Nat.le_of_ble_eq_true rfl, Nat.le_of_ble_eq_true rfl⟩ ⟨Nat.zero_le _, Nat.zero_le _⟩ hP hD hS hl.1 rfl rfl (Nat.le_of_ble_eq_true rfl) dX3_choose_32 (fun H locs hP hD hS => ?_)
              refine cm_cV1 (q0 := qI) 1 C (k_X0_rowInUse l D cI cZ cJ _ hI hA z (hm1 s0 key) hz) tw_120 tw_121 tw_122 tw_2 tw_123 rfl rfl (hI) rfl (by decide +kernel) ⟨Nat.le_of_ble_eq_true rfl, Nat.le_of_ble_eq_true rfl⟩ ⟨Nat.zero_le _, Nat.zero_le _⟩ hP hD hS hl.1 rfl rfl (Nat.le_of_ble_eq_true rfl) dX3_choose_35 (fun H locs hP hD hS => ?_)
              refine lv_istore (lv' := [(6, _), (5, _), (0, _), (1, _), (2, _), (3, _), (4, _)]) C.1 C.2.1 dX3_choose_38 hl (by decide) rfl (fun ls hl => ?_)
              refine lv_aload_n C.1 C.2.1 dX3_choose_40 rfl (lv_at hl 3 rfl) ?_
              refine lv_iload_n C.1 C.2.1 dX3_choose_41 rfl (lv_at hl 4 rfl) ?_
              refine lv_iload_n C.1 C.2.1 dX3_choose_42 rfl (lv_at hl 5 rfl) ?_
              refine lv_iconst (v := nI 1) C.1 C.2.1 dX3_choose_43 (by decide +kernel) ?_
              refine cm_cS1 3 C (c_homeBy2 l D cI cZ cJ _ s0 key) tw_114 tw_115 tw_1 tw_116 rfl rfl (by decide +kernel) ⟨Nat.le_of_ble_eq_true rfl, Nat.le_of_ble_eq_true rfl⟩ ⟨Nat.zero_le _, Nat.zero_le _⟩ hP hD hS hl.1 rfl rfl (Nat.le_of_ble_eq_true rfl) dX3_choose_44 (fun H locs hP hD hS => ?_)
              refine cm_cV1 (q0 := qI) 1 C (k_X0_rowInUse l D cI cZ cJ _ hI hA z (hm2 s0 key) hz) tw_120 tw_121 tw_122 tw_2 tw_123 rfl rfl (hI) rfl (by decide +kernel) ⟨Nat.le_of_ble_eq_true rfl, Nat.le_of_ble_eq_true rfl⟩ ⟨Nat.zero_le _, Nat.zero_le _⟩ hP hD hS hl.1 rfl rfl (Nat.le_of_ble_eq_true rfl) dX3_choose_47 (fun H locs hP hD hS => ?_)
              refine lv_istore (lv' := [(7, _), (6, _), (5, _), (0, _), (1, _), (2, _), (3, _), (4, _)]) C.1 C.2.1 dX3_choose_50 hl (by decide) rfl (fun ls hl => ?_)
              refine lv_aload_n C.1 C.2.1 dX3_choose_52 rfl (lv_at hl 4 rfl) ?_
              refine lv_iload C.1 C.2.1 dX3_choose_53 (lv_at hl 1 rfl) ?_
              refine cm_cV1 (q0 := qI) 1 C (k_X0_leastEmpty l D cI cZ cJ _ hI hA (z * 9 + hm1 s0 key) (by omega)) tw_155 tw_156 tw_157 tw_2 tw_158 rfl rfl (hI) rfl (by decide +kernel) ⟨Nat.le_of_ble_eq_true rfl, Nat.le_of_ble_eq_true rfl⟩ ⟨Nat.zero_le _, Nat.zero_le _⟩ hP hD hS hl.1 rfl rfl (Nat.le_of_ble_eq_true rfl) dX3_choose_55 (fun H locs hP hD hS => ?_)
              rw [em_abs, e2, optA_none]
              refine lv_istore (lv' := [(8, _), (7, _), (6, _), (5, _), (0, _), (1, _), (2, _), (3, _), (4, _)]) C.1 C.2.1 dX3_choose_58 hl (by decide) rfl (fun ls hl => ?_)
              refine lv_iload C.1 C.2.1 dX3_choose_60 (lv_at hl 0 rfl) ?_
              refine lv_iconst (v := (-1)) C.1 C.2.1 dX3_choose_62 (by decide +kernel) ?_
              refine lv_icmp_ne (tgt := 74) C.1 C.2.1 dX3_choose_63 (by decide) (fun h => absurd (rfl) h) (fun _ => ?_)
              refine lv_aload_n C.1 C.2.1 dX3_choose_66 rfl (lv_at hl 5 rfl) ?_
              refine lv_iload C.1 C.2.1 dX3_choose_67 (lv_at hl 1 rfl) ?_
              refine cm_cV1 (q0 := qI) 1 C (k_X0_leastEmpty l D cI cZ cJ _ hI hA (z * 9 + hm2 s0 key) (by omega)) tw_155 tw_156 tw_157 tw_2 tw_158 rfl rfl (hI) rfl (by decide +kernel) ⟨Nat.le_of_ble_eq_true rfl, Nat.le_of_ble_eq_true rfl⟩ ⟨Nat.zero_le _, Nat.zero_le _⟩ hP hD hS hl.1 rfl rfl (Nat.le_of_ble_eq_true rfl) dX3_choose_69 (fun H locs hP hD hS => ?_)
              rw [em_abs, e3, optA_none]
              refine lv_istore (lv' := [(8, _), (7, _), (6, _), (5, _), (0, _), (1, _), (2, _), (3, _), (4, _)]) C.1 C.2.1 dX3_choose_72 hl (by decide) rfl (fun ls hl => ?_)
              refine lv_iload C.1 C.2.1 dX3_choose_74 (lv_at hl 0 rfl) ?_
              refine lv_iconst (v := (-1)) C.1 C.2.1 dX3_choose_76 (by decide +kernel) ?_
              refine lv_icmp_eq (tgt := 94) C.1 C.2.1 dX3_choose_77 (by decide) (fun _ => ?_) (fun h => absurd (rfl) h)
              refine lv_aload_n C.1 C.2.1 dX3_choose_94 rfl (lv_at hl 4 rfl) ?_
              refine lv_aload_n C.1 C.2.1 dX3_choose_95 rfl (lv_at hl 5 rfl) ?_
              refine lv_iload_n C.1 C.2.1 dX3_choose_96 rfl (lv_at hl 6 rfl) ?_
              refine lv_iload C.1 C.2.1 dX3_choose_97 (lv_at hl 2 rfl) ?_
              refine lv_iload_n C.1 C.2.1 dX3_choose_99 rfl (lv_at hl 7 rfl) ?_
              refine lv_iload C.1 C.2.1 dX3_choose_100 (lv_at hl 8 rfl) ?_
              refine cm_cV1 (q0 := qO) 5 C (k_X3_layPath l D cI cZ cJ _ hO hM hN hI hA hon hmn hin han z (hm1 s0 key) hz0 (by omega) s0 key val) tw_159 tw_161 ts_2 tw_1 tw_162 rfl rfl (hO) rfl (by decide +kernel) ⟨Nat.le_of_ble_eq_true rfl, Nat.le_of_ble_eq_true rfl⟩ ⟨Nat.zero_le _, Nat.zero_le _⟩ hP hD hS hl.1 rfl rfl (Nat.le_of_ble_eq_true rfl) dX3_choose_102 (fun H locs hP hD hS => ?_)
              rw [e4]
              refine lv_if_ne (tgt := 122) C.1 C.2.1 dX3_choose_105 (by decide) (fun h => absurd (by decide) h) (fun _ => ?_)
              refine lv_aload_n C.1 C.2.1 dX3_choose_108 rfl (lv_at hl 4 rfl) ?_
              refine lv_aload_n C.1 C.2.1 dX3_choose_109 rfl (lv_at hl 5 rfl) ?_
              refine lv_iload_n C.1 C.2.1 dX3_choose_110 rfl (lv_at hl 6 rfl) ?_
              refine lv_iload C.1 C.2.1 dX3_choose_111 (lv_at hl 1 rfl) ?_
              refine lv_iload_n C.1 C.2.1 dX3_choose_113 rfl (lv_at hl 7 rfl) ?_
              refine lv_iload C.1 C.2.1 dX3_choose_114 (lv_at hl 8 rfl) ?_
              refine cm_cV1 (q0 := qO) 5 C (k_X3_layPath l D cI cZ cJ _ (ws_ne hon hO) (ws_ne hmn hM) (ws_self hN) (ws_ne hin hI) (ws_ne han hA) hon hmn hin han z (hm2 s0 key) hz0 (by omega) s0 key val) tw_159 tw_161 ts_2 tw_1 tw_162 rfl rfl ((ws_ne hon hO)) rfl (by decide +kernel) ⟨Nat.le_of_ble_eq_true rfl, Nat.le_of_ble_eq_true rfl⟩ ⟨Nat.zero_le _, Nat.zero_le _⟩ hP hD hS hl.1 rfl rfl (Nat.le_of_ble_eq_true rfl) dX3_choose_116 (fun H locs hP hD hS => ?_)
              rw [e5]
              rw [List.set_set] at hP hD
              refine lv_if_eq (tgt := 124) C.1 C.2.1 dX3_choose_119 (by decide) (fun _ => ?_) (fun h => absurd (by decide) h)
              refine lv_aload_n C.1 C.2.1 dX3_choose_124 rfl (lv_at hl 5 rfl) ?_
              refine lv_aload_n C.1 C.2.1 dX3_choose_125 rfl (lv_at hl 5 rfl) ?_
              refine lv_bipush (v := nI 8) C.1 C.2.1 dX3_choose_126 (by decide +kernel) ?_
              refine cm_cV1 (q0 := qI) 1 C (k_X0_rowInUse l D cI cZ cJ _ (ws_ne hin hI) (ws_ne han hA) z (8) hz) tw_120 tw_121 tw_122 tw_2 tw_123 rfl rfl ((ws_ne hin hI)) rfl (by decide +kernel) ⟨Nat.le_of_ble_eq_true rfl, Nat.le_of_ble_eq_true rfl⟩ ⟨Nat.zero_le _, Nat.zero_le _⟩ hP hD hS hl.1 rfl rfl (Nat.le_of_ble_eq_true rfl) dX3_choose_128 (fun H locs hP hD hS => ?_)
              refine cm_cV1 (q0 := qI) 1 C (k_X0_leastEmpty l D cI cZ cJ _ (ws_ne hin hI) (ws_ne han hA) (z * 9 + 8) (by omega)) tw_155 tw_156 tw_157 tw_2 tw_158 rfl rfl ((ws_ne hin hI)) rfl (by decide +kernel) ⟨Nat.le_of_ble_eq_true rfl, Nat.le_of_ble_eq_true rfl⟩ ⟨Nat.zero_le _, Nat.zero_le _⟩ hP hD hS hl.1 rfl rfl (Nat.le_of_ble_eq_true rfl) dX3_choose_131 (fun H locs hP hD hS => ?_)
              rw [em_abs, e6, optA_none]
              refine lv_istore (lv' := [(8, _), (7, _), (6, _), (5, _), (0, _), (1, _), (2, _), (3, _), (4, _)]) C.1 C.2.1 dX3_choose_134 hl (by decide) rfl (fun ls hl => ?_)
              refine lv_iload C.1 C.2.1 dX3_choose_136 (lv_at hl 0 rfl) ?_
              refine lv_iconst (v := (-1)) C.1 C.2.1 dX3_choose_138 (by decide +kernel) ?_
              refine lv_icmp_eq (tgt := 156) C.1 C.2.1 dX3_choose_139 (by decide) (fun _ => ?_) (fun h => absurd (rfl) h)
              refine lv_bipush (v := (-2)) C.1 C.2.1 dX3_choose_156 (by decide +kernel) ?_
              exact cm_iret C hP hD hS dX3_choose_158 (by simp [chS, e1, e2, e3, e4, e5, e6]) (by simp [chS, e1, e2, e3, e4, e5, e6, encA])
end
section
/-! ===== contracts whose end is one of many worlds ===== -/
def CRi (l : Launch) (D : va_G) (tys : List (ClassId × FieldType)) (y : MethodName) (cc : ByteArray) (nL : Nat) (ret : Option FieldType) (rm : Room) (av : List Value) (ws : va_W) (E : Int32 → va_W → Prop) : Prop :=
  Met l y (Cond.code y cc nL ret :: TB) rm (va_Pc av (fun U => va_P D vwCl ws U.heap ∧ cm_K D tys U ∧ va_D (fun _ => True) ws)) (fun _ st oc t => ∃ (r : Int32) (ws' : va_W), E r ws' ∧ oc = .returned (some (.int r)) ∧ va_P D vwCl ws' t.heap ∧ va_D (cm_A ws) ws' ∧ va_F (cm_A ws) st t) 0 0 (cm_A ws)
def cr_Q (below : List Frame) (D : va_G) (av : List Value) (s : State) (ws : va_W) (E : Int32 → va_W → Prop) : State → Prop :=
  MQ below (fun _ st oc t => ∃ (r : Int32) (ws' : va_W), E r ws' ∧ oc = .returned (some (.int r)) ∧ va_P D vwCl ws' t.heap ∧ va_D (cm_A ws) ws' ∧ va_F (cm_A ws) st t) av.toArray s 0 0 (cm_A ws)
theorem CRi.of {l : Launch} {D : va_G} {tys : List (ClassId × FieldType)} {y : MethodName} {rm : Room} {av : List Value} {ws : va_W} {E : Int32 → va_W → Prop} {cc : ByteArray} {nL : Nat} {ret : Option FieldType}
    (hy : plainName y.cls = true) (hn : (lg_sl av).length ≤ nL)
    (body : ∀ (p : Program) (e : Env) (s : State) (m : MethodId) (below : List Frame) (meth : Method) (c : Code) (ls : Array Slot) (H : Heap) (locs : List Loc), cm_C p s m av.toArray meth c cc nL ret y.cls D tys → lv_has ls nL (lv_args 0 av) → va_P D vwCl ws H → va_D (cm_A ws) ws → va_S (cm_A ws) s.heap H locs →
      W p l e rm s m av.toArray below meth c H locs 0 0 (cr_Q below D av s ws E) (F0 m 0 ls [])) : CRi l D tys y cc nL ret rm av ws E := by
  refine Met.ofW (cc := cc) (maxL := nL) (ret := ret) hy rfl ?_
  intro p e s m args below meth c s₁ B hml hv
  obtain ⟨rfl, hP, hK, hD⟩ := hv
  have hl := lv_entry av (n := nL) hn
  rw [lg_entry_eq]
  exact body p e s m below meth c _ s.heap [] ⟨B.exec, B.bytes, B.returns, hml, findClass_of_methodNamed B.named, fun w h => atoms_spec (ws := Cond.code y cc nL ret :: TB) B.pre w (List.mem_cons_of_mem _ h), B.notSynchronized, hK⟩ hl hP (cm_A.self hD) va_S.rf
section CRR
variable {p : Program} {l : Launch} {e : Env} {R : Room} {s : State} {m : MethodId} {args : Array Value} {below : List Frame} {meth : Method} {c : Code} {H : Heap} {locs : List Loc} {cells slots : Nat} {Q : State → Prop}
variable {cc : ByteArray} {nL : Nat} {ret : Option FieldType} {own : String} {D : va_G} {tys : List (ClassId × FieldType)} {pc : Nat} {ls : Array Slot} {av : List Value} {ws w1 : va_W} {E : Int32 → va_W → Prop}
theorem cr_iret {v : Int32} (C : cm_C p s m av.toArray meth c cc nL (some .int) own D tys) (hP : va_P D vwCl w1 H) (hD : va_D (cm_A ws) w1) (hS : va_S (cm_A ws) s.heap H locs) (hdg : decode cc pc = .ok (.ireturn, 1)) (hr : E v w1) :
    W p l e R s m av.toArray below meth c H locs 0 0 (cr_Q below D av s ws E) (F0 m pc ls [.int v]) :=
  W.iret C.1 C.2.1 C.2.2.1 (fun t ht _ => ⟨v, w1, hr, rfl, by rw [ht]; exact hP, hD, hS.F ht⟩) hS.2.2 hdg C.2.2.2.2.2.2.1
theorem cr_zret {v : Int32} (C : cm_C p s m av.toArray meth c cc nL (some .boolean) own D tys) (hP : va_P D vwCl w1 H) (hD : va_D (cm_A ws) w1) (hS : va_S (cm_A ws) s.heap H locs) (hdg : decode cc pc = .ok (.ireturn, 1)) (hn : narrow .boolean (.int v) = .int v) (hr : E v w1) :
    W p l e R s m av.toArray below meth c H locs 0 0 (cr_Q below D av s ws E) (F0 m pc ls [.int v]) :=
  W.zret C.1 C.2.1 C.2.2.1 hn (fun t ht _ => ⟨v, w1, hr, rfl, by rw [ht]; exact hP, hD, hS.F ht⟩) hS.2.2 hdg C.2.2.2.2.2.2.1
variable {A0 : Nat → Prop} {H0 : Heap} {y : MethodName} {rm : Room} {As rest st0 : List Value} {bytes : ByteArray} {maxL index : Nat} {ret' : Option FieldType}
/-- an instance method, by invokevirtual -/
theorem cr_cV {C0 : String} {b q0 ci : Nat} {fs : List Value} {T0 : u_T} {N0 : Nat} (n : Nat) (C : cm_C p s m args meth c cc nL ret own D tys) (hM : CRi l D tys y bytes maxL ret' rm (.ref b :: As) ws E) (hl1 : Cond.methodLink own index y ∈ TB) (hl2 : Cond.instanceMethod y ∈ TB) (hl3 : Cond.selects C0 y y ∈ TB) (hl5 : Cond.initialized C0 ∈ TB) (hl4 : Cond.code y bytes maxL ret' ∈ TB) (hrc : rm.cells = 0) (hrs : rm.slots = 0)
    (he : ws[q0]? = some (b, .inr (ci, fs))) (hci : vwCl[ci]? = some (C0, T0, N0))
    (hd : y.cls = C0 ∧ y.cls ≠ "java/lang/invoke/MethodHandle" ∧ y.cls ≠ "java/lang/invoke/VarHandle" ∧ (parseMethodDescriptor y.desc).map (fun d => d.parameters.length) = some n) (hR : rm.frames + 1 ≤ R.frames ∧ 8 + (maxL + 11) + rm.locals ≤ R.locals) (hf : cells ≤ R.cells ∧ slots ≤ R.slots)
    (hP : va_P D vwCl ws H) (hD : va_D A0 ws) (hS : va_S A0 H0 H locs) (hsz : ls.size = nL) (hn : As.length = n) (hst : st0 = As.reverse ++ .ref b :: rest) (hW : (rest.map fun v => v.category).sum ≤ 8) (hdg : decode cc pc = .ok (.invokevirtual index, 3))
    (kk : ∀ (r : Int32) (w1 : va_W) (H1 : Heap) (locs1 : List Loc), E r w1 → va_P D vwCl w1 H1 → va_D A0 w1 → va_S A0 H0 H1 locs1 → W p l e R s m args below meth c H1 locs1 cells slots Q (F0 m (pc + 3) ls (.int r :: rest))) : W p l e R s m args below meth c H locs cells slots Q (F0 m pc ls st0) := by
  obtain ⟨hx, hb, -, hml, hown, hts, -, hK⟩ := C
  have hr := va_runV (As := As) (rest := rest) (g := F0 m pc ls st0) (locs := locs) (cells := cells) (slots := slots) (below := below) (meth := meth) (e := e) (R := R) ⟨hx, hb, hml, hown, hts⟩ hM (cwV n hts (tb_cons hl1 (tb_cons hl2 (tb_cons hl3 (tb_cons hl5 (tb_cons hl4 tb_good))))) rfl hrc hrs hd hR) ⟨cm_blind, va_recv hK.1 hP hci he, fun U hU hW => ⟨rfl, by rw [hU]; exact hP, hK.warm hW, hD.1, fun _ _ _ => trivial⟩⟩ rfl hn hsz hst (by show 2 * 0 + _ ≤ 8; omega) hdg ⟨by omega, by omega⟩
  intro T hT X
  obtain ⟨v, st₀, t, T', L, h0, X', hL, e1, e2, ⟨r, w1, hE, hv, hP1, hD1, hz, hk⟩, st⟩ := hr T hT X
  cases hv
  rw [h0] at hz hk
  obtain ⟨t2, a1, b1⟩ := kk r w1 T'.heap (locs ++ L) hE (by rw [e1]; exact hP1) ⟨hD1.1, fun k q h => cm_A.in hD _ (hD1.2 k q h)⟩
    ⟨Nat.le_trans hS.1 (by rw [e1]; exact hz), fun q h1 h2 => by rw [e1, hk q (Nat.lt_of_lt_of_le h1 hS.1) (fun z => h2 (cm_A.in hD q z))]; exact hS.2.1 q h1 h2, fun q hq => by
      rcases List.mem_append.mp hq with h | h
      · exact hS.2.2 q h
      · exact cm_A.in hD _ (hL q h)⟩ T' rfl X'
  exact ⟨t2, st t2 a1, b1⟩
end CRR
/-! ===== the class's world, and its writes ===== -/
/-- THE DISK's cells, the rows and the cells of the WRITES that wait, how many wait, how many there were ever -/
abbrev WS : Type := (Nat → Int32) × (Nat → Int32) × (Nat → Int32) × Nat × Nat
abbrev cw (ad : Nat → Nat) (cI : ClassId) (X : va_W) (sd fn ft fm : Nat → Int32) (σ : WS) (ta lp lr : Int32) : va_W :=
  (ad 0, .inr (3, [.ref (ad 1), .ref (ad 2), .ref (ad 4), .ref (ad 6), .ref (ad 8), .ref (ad 11), .int (nI σ.2.2.2.2), .int ta, .int lp, .int lr])) ::
  (ad 1, .inl (cI, 4, .inl sd)) :: (ad 2, .inr (0, [.ref (ad 3)])) :: (ad 3, .inl (cI, 440, .inl fn)) :: (ad 4, .inr (0, [.ref (ad 5)])) :: (ad 5, .inl (cI, 440, .inl σ.1)) ::
  (ad 6, .inr (0, [.ref (ad 7)])) :: (ad 7, .inl (cI, 440, .inl ft)) :: (ad 8, .inr (2, [.ref (ad 9), .ref (ad 10), .int (nI σ.2.2.2.1)])) :: (ad 9, .inl (cI, 40, .inl σ.2.1)) :: (ad 10, .inl (cI, 880, .inl σ.2.2.1)) ::
  (ad 11, .inr (1, [.ref (ad 12)])) :: (ad 12, .inl (cI, 22, .inl fm)) :: X
def sOk (σ : WS) : Prop := σ.2.2.2.1 ≤ 40 ∧ ∀ j, j < σ.2.2.2.1 → σ.2.1 j = nI (σ.2.1 j).toNatClampNeg ∧ (σ.2.1 j).toNatClampNeg < 20
/-- a WRITE of the row r of fn -/
def wr (fn : Nat → Int32) (r : Nat) (σ : WS) : WS :=
  if σ.2.2.2.1 < 40 then (σ.1, upd σ.2.1 σ.2.2.2.1 (nI r), va_cpy fn σ.2.2.1 (r * 22) (σ.2.2.2.1 * 22) 22, σ.2.2.2.1 + 1, σ.2.2.2.2 + 1)
  else (doN σ.2.1 σ.2.2.1 0 40 σ.1, upd σ.2.1 0 (nI r), va_cpy fn σ.2.2.1 (r * 22) (0 * 22) 22, 0 + 1, σ.2.2.2.2 + 1)
theorem wr_ok {fn : Nat → Int32} {r : Nat} {σ : WS} (h : sOk σ) (hr : r < 20) : sOk (wr fn r σ) := by
  obtain ⟨fd, fr, fw, t, e⟩ := σ
  obtain ⟨h1, h2⟩ := h
  dsimp only at h1 h2
  have hc : (nI r).toNatClampNeg = r := nI_clamp (by omega)
  by_cases ht : t < 40
  · rw [show wr fn r (fd, fr, fw, t, e) = (fd, upd fr t (nI r), va_cpy fn fw (r * 22) (t * 22) 22, t + 1, e + 1) from if_pos ht]
    refine ⟨by dsimp only; omega, fun j hj => ?_⟩
    dsimp only at hj ⊢
    by_cases hjt : j = t
    · subst hjt; rw [pk_us, hc]; exact ⟨rfl, hr⟩
    · rw [pk_un hjt]; exact h2 j (by omega)
  · rw [show wr fn r (fd, fr, fw, t, e) = (doN fr fw 0 40 fd, upd fr 0 (nI r), va_cpy fn fw (r * 22) (0 * 22) 22, 0 + 1, e + 1) from if_neg ht]
    refine ⟨by dsimp only; omega, fun j hj => ?_⟩
    dsimp only at hj ⊢
    obtain rfl : j = 0 := by omega
    rw [pk_us, hc]; exact ⟨rfl, hr⟩
def mk1 (x : (Nat → Int32) × WS) (m : Nat × Int32 × Int32) : (Nat → Int32) × WS := (fillC x.1 m.1 m.2.1 m.2.2, wr (fillC x.1 m.1 m.2.1 m.2.2) (m.1 / 4) x.2)
/-- the moves made, from the end back -/
def mkR : List (Nat × Int32 × Int32) → (Nat → Int32) × WS → (Nat → Int32) × WS
  | [], x => x
  | m :: M, x => mk1 (mkR M x) m
theorem mkR_app : ∀ (A B : List (Nat × Int32 × Int32)) (x : (Nat → Int32) × WS), mkR (A ++ B) x = mkR A (mkR B x) := by
  intro A
  induction A with
  | nil => intro B x; rfl
  | cons m A ih => intro B x; simp only [List.cons_append, mkR, ih]
def mEnc (fm : Nat → Int32) (M : List (Nat × Int32 × Int32)) : Prop := M.length ≤ 7 ∧ fm 0 = nI M.length ∧ ∀ (j : Nat) (m : Nat × Int32 × Int32), M[j]? = some m → fm (1 + j * 3) = nI m.1 ∧ fm (2 + j * 3) = m.2.1 ∧ fm (3 + j * 3) = m.2.2 ∧ m.1 < 72
theorem mkR_ok {M : List (Nat × Int32 × Int32)} (hM : ∀ m ∈ M, m.1 < 72) : ∀ {x : (Nat → Int32) × WS}, sOk x.2 → sOk (mkR M x).2 := by
  induction M with
  | nil => intro x h; exact h
  | cons m M ih =>
    intro x h
    have := hM m List.mem_cons_self
    exact wr_ok (ih (fun q hq => hM q (List.mem_cons_of_mem _ hq)) h) (by omega)
theorem m1_sub (x : Int32) : x + Int32.ofInt (-1) = x - nI 1 := by
  rw [Int32.sub_eq_add_neg]; rfl
set_option maxHeartbeats 4000000 in
set_option maxRecDepth 100000 in
/-- write -/
theorem k_X3_write (l : Launch) (D : va_G) (cI cZ cJ : ClassId) (ad : Nat → Nat) (X : va_W) (sd fn ft fm : Nat → Int32) (σ : WS) (ta lp lr : Int32) (hσ : sOk σ) (r : Nat) (hr : r < 20) : CM l D (cm_T cI cZ cJ) yX3_write cX3_write 2 none (cm_rm 3 88) [.ref (ad 0), .int (nI r)] (cw ad cI X sd fn ft fm σ ta lp lr) none (cw ad cI X sd fn ft fm (wr fn r σ) ta lp lr) := by
  obtain ⟨fd, fr, fw, t, e9⟩ := σ
  obtain ⟨hσ1, hσ2⟩ := hσ
  dsimp only at hσ1 hσ2
  refine CM.of (by decide) (Nat.le_of_ble_eq_true rfl) ?_
  intro p e s m below meth c ls H locs C hl hP hD hS
  by_cases ht : t < 40
  · refine lv_aload_n C.1 C.2.1 dX3_write_0 rfl (lv_at hl 0 rfl) ?_
    refine va_get (ci := 3) (C := RX3) (T := TX3) (N := 10) C.1 C.2.1 C.2.2.2.2.2.1 ui_X3 C.2.2.2.2.1 C.2.2.2.2.2.2.2.1 hP 0 (rfl) rfl 4 (by decide) (C.2.2.2.2.2.1 _ tw_65) (fun _ h9 => h9) rfl dX3_write_1 ?_
    refine cm_cV1 (q0 := 8) 0 C (k_X2_size l D cI cZ cJ (cw ad cI X sd fn ft fm (fd, fr, fw, t, e9) ta lp lr) t (qW := 8) (qR := 9) (qC := 10) rfl rfl rfl) tw_248 tw_249 tw_250 tw_3 tw_251 rfl rfl (rfl) rfl (by decide +kernel) ⟨Nat.le_of_ble_eq_true rfl, Nat.le_of_ble_eq_true rfl⟩ ⟨Nat.zero_le _, Nat.zero_le _⟩ hP hD hS hl.1 rfl rfl (Nat.le_of_ble_eq_true rfl) dX3_write_4 (fun H locs hP hD hS => ?_)
    refine lv_bipush (v := nI 40) C.1 C.2.1 dX3_write_7 (by decide +kernel) ?_
    refine lv_icmp_lt (tgt := 25) C.1 C.2.1 dX3_write_9 (by decide) (fun _ => ?_) (fun h => absurd (nI_lt ht (by decide)) h)
    refine lv_aload_n C.1 C.2.1 dX3_write_25 rfl (lv_at hl 0 rfl) ?_
    refine va_get (ci := 3) (C := RX3) (T := TX3) (N := 10) C.1 C.2.1 C.2.2.2.2.2.1 ui_X3 C.2.2.2.2.1 C.2.2.2.2.2.2.2.1 hP 0 (rfl) rfl 4 (by decide) (C.2.2.2.2.2.1 _ tw_65) (fun _ h9 => h9) rfl dX3_write_26 ?_
    refine lv_aload_n C.1 C.2.1 dX3_write_29 rfl (lv_at hl 0 rfl) ?_
    refine va_get (ci := 3) (C := RX3) (T := TX3) (N := 10) C.1 C.2.1 C.2.2.2.2.2.1 ui_X3 C.2.2.2.2.1 C.2.2.2.2.2.2.2.1 hP 0 (rfl) rfl 1 (by decide) (C.2.2.2.2.2.1 _ tw_62) (fun _ h9 => h9) rfl dX3_write_30 ?_
    refine lv_iload_n C.1 C.2.1 dX3_write_33 rfl (lv_at hl 1 rfl) ?_
    refine cm_cV0 (q0 := 8) 2 C (k_X2_add l D cI cZ cJ (cw ad cI X sd fn ft fm (fd, fr, fw, t, e9) ta lp lr) t ht (qW := 8) (qR := 9) (qC := 10) rfl rfl rfl (qI := 2) (qA := 3) rfl rfl (by decide) (by decide) (by decide) (by decide) (by decide) r hr) tw_257 tw_258 tw_259 tw_3 tw_260 rfl rfl (rfl) rfl (by decide +kernel) ⟨Nat.le_of_ble_eq_true rfl, Nat.le_of_ble_eq_true rfl⟩ ⟨Nat.zero_le _, Nat.zero_le _⟩ hP hD hS hl.1 rfl rfl (Nat.le_of_ble_eq_true rfl) dX3_write_34 (fun H locs hP hD hS => ?_)
    have hP : va_P D vwCl (cw ad cI X sd fn ft fm (fd, upd fr t (nI r), va_cpy fn fw (r * 22) (t * 22) 22, t + 1, e9) ta lp lr) H := hP
    have hD : va_D (cm_A (cw ad cI X sd fn ft fm (fd, fr, fw, t, e9) ta lp lr)) (cw ad cI X sd fn ft fm (fd, upd fr t (nI r), va_cpy fn fw (r * 22) (t * 22) 22, t + 1, e9) ta lp lr) := hD
    refine lv_aload_n C.1 C.2.1 dX3_write_37 rfl (lv_at hl 0 rfl) ?_
    refine lv_dup C.1 C.2.1 dX3_write_38 rfl ?_
    refine va_get (ci := 3) (C := RX3) (T := TX3) (N := 10) C.1 C.2.1 C.2.2.2.2.2.1 ui_X3 C.2.2.2.2.1 C.2.2.2.2.2.2.2.1 hP 0 (rfl) rfl 6 (by decide) (C.2.2.2.2.2.1 _ tw_67) (fun _ h9 => h9) rfl dX3_write_39 ?_
    refine lv_iconst (v := nI 1) C.1 C.2.1 dX3_write_42 (by decide +kernel) ?_
    refine lv_iadd C.1 C.2.1 dX3_write_43 ?_
    rw [nI_add]
    refine va_put (ci := 3) (C := RX3) (T := TX3) (N := 10) (ty := .int) C.1 C.2.1 C.2.2.2.2.2.1 ui_X3 tyX3 tyX3_ok nmX3 C.2.2.2.2.1 C.2.2.2.2.2.2.2.1 hP hD hS 0 (rfl) rfl 6 (by decide) (C.2.2.2.2.2.1 _ tw_67) (fun _ h9 => h9) rfl (by decide +kernel) rfl rfl (Nat.le_of_ble_eq_true rfl) dX3_write_44 (fun H locs hP hD hS => ?_)
    exact cm_vret C hP hD hS dX3_write_47 (by rw [show wr fn r (fd, fr, fw, t, e9) = _ from if_pos ht]; rfl)
  · refine lv_aload_n C.1 C.2.1 dX3_write_0 rfl (lv_at hl 0 rfl) ?_
    refine va_get (ci := 3) (C := RX3) (T := TX3) (N := 10) C.1 C.2.1 C.2.2.2.2.2.1 ui_X3 C.2.2.2.2.1 C.2.2.2.2.2.2.2.1 hP 0 (rfl) rfl 4 (by decide) (C.2.2.2.2.2.1 _ tw_65) (fun _ h9 => h9) rfl dX3_write_1 ?_
    refine cm_cV1 (q0 := 8) 0 C (k_X2_size l D cI cZ cJ (cw ad cI X sd fn ft fm (fd, fr, fw, t, e9) ta lp lr) t (qW := 8) (qR := 9) (qC := 10) rfl rfl rfl) tw_248 tw_249 tw_250 tw_3 tw_251 rfl rfl (rfl) rfl (by decide +kernel) ⟨Nat.le_of_ble_eq_true rfl, Nat.le_of_ble_eq_true rfl⟩ ⟨Nat.zero_le _, Nat.zero_le _⟩ hP hD hS hl.1 rfl rfl (Nat.le_of_ble_eq_true rfl) dX3_write_4 (fun H locs hP hD hS => ?_)
    refine lv_bipush (v := nI 40) C.1 C.2.1 dX3_write_7 (by decide +kernel) ?_
    refine lv_icmp_lt (tgt := 25) C.1 C.2.1 dX3_write_9 (by decide) (fun h => absurd h (nI_nlt (by omega) (by omega))) (fun _ => ?_)
    refine lv_aload_n C.1 C.2.1 dX3_write_12 rfl (lv_at hl 0 rfl) ?_
    refine va_get (ci := 3) (C := RX3) (T := TX3) (N := 10) C.1 C.2.1 C.2.2.2.2.2.1 ui_X3 C.2.2.2.2.1 C.2.2.2.2.2.2.2.1 hP 0 (rfl) rfl 4 (by decide) (C.2.2.2.2.2.1 _ tw_65) (fun _ h9 => h9) rfl dX3_write_13 ?_
    refine lv_bipush (v := nI 40) C.1 C.2.1 dX3_write_16 (by decide +kernel) ?_
    refine lv_aload_n C.1 C.2.1 dX3_write_18 rfl (lv_at hl 0 rfl) ?_
    refine va_get (ci := 3) (C := RX3) (T := TX3) (N := 10) C.1 C.2.1 C.2.2.2.2.2.1 ui_X3 C.2.2.2.2.1 C.2.2.2.2.2.2.2.1 hP 0 (rfl) rfl 2 (by decide) (C.2.2.2.2.2.1 _ tw_63) (fun _ h9 => h9) rfl dX3_write_19 ?_
    refine cm_cV0 (q0 := 8) 2 C (k_X2_doFirst l D cI cZ cJ (cw ad cI X sd fn ft fm (fd, fr, fw, t, e9) ta lp lr) t (qW := 8) (qR := 9) (qC := 10) rfl rfl rfl (qI := 4) (qA := 5) rfl rfl (by decide) (by decide) (by decide) (by decide) 40 (by decide) (fun j hj => hσ2 j (by omega))) tw_252 tw_253 tw_254 tw_3 tw_255 rfl rfl (rfl) rfl (by decide +kernel) ⟨Nat.le_of_ble_eq_true rfl, Nat.le_of_ble_eq_true rfl⟩ ⟨Nat.zero_le _, Nat.zero_le _⟩ hP hD hS hl.1 rfl rfl (Nat.le_of_ble_eq_true rfl) dX3_write_22 (fun H locs hP hD hS => ?_)
    have hP : va_P D vwCl (cw ad cI X sd fn ft fm (doN fr fw 0 40 fd, fr, fw, 0, e9) ta lp lr) H := hP
    have hD : va_D (cm_A (cw ad cI X sd fn ft fm (fd, fr, fw, t, e9) ta lp lr)) (cw ad cI X sd fn ft fm (doN fr fw 0 40 fd, fr, fw, 0, e9) ta lp lr) := hD
    refine lv_aload_n C.1 C.2.1 dX3_write_25 rfl (lv_at hl 0 rfl) ?_
    refine va_get (ci := 3) (C := RX3) (T := TX3) (N := 10) C.1 C.2.1 C.2.2.2.2.2.1 ui_X3 C.2.2.2.2.1 C.2.2.2.2.2.2.2.1 hP 0 (rfl) rfl 4 (by decide) (C.2.2.2.2.2.1 _ tw_65) (fun _ h9 => h9) rfl dX3_write_26 ?_
    refine lv_aload_n C.1 C.2.1 dX3_write_29 rfl (lv_at hl 0 rfl) ?_
    refine va_get (ci := 3) (C := RX3) (T := TX3) (N := 10) C.1 C.2.1 C.2.2.2.2.2.1 ui_X3 C.2.2.2.2.1 C.2.2.2.2.2.2.2.1 hP 0 (rfl) rfl 1 (by decide) (C.2.2.2.2.2.1 _ tw_62) (fun _ h9 => h9) rfl dX3_write_30 ?_
    refine lv_iload_n C.1 C.2.1 dX3_write_33 rfl (lv_at hl 1 rfl) ?_
    refine cm_cV0 (q0 := 8) 2 C (k_X2_add l D cI cZ cJ (cw ad cI X sd fn ft fm (doN fr fw 0 40 fd, fr, fw, 0, e9) ta lp lr) 0 (by decide) (qW := 8) (qR := 9) (qC := 10) rfl rfl rfl (qI := 2) (qA := 3) rfl rfl (by decide) (by decide) (by decide) (by decide) (by decide) r hr) tw_257 tw_258 tw_259 tw_3 tw_260 rfl rfl (rfl) rfl (by decide +kernel) ⟨Nat.le_of_ble_eq_true rfl, Nat.le_of_ble_eq_true rfl⟩ ⟨Nat.zero_le _, Nat.zero_le _⟩ hP hD hS hl.1 rfl rfl (Nat.le_of_ble_eq_true rfl) dX3_write_34 (fun H locs hP hD hS => ?_)
    have hP : va_P D vwCl (cw ad cI X sd fn ft fm (doN fr fw 0 40 fd, upd fr 0 (nI r), va_cpy fn fw (r * 22) (0 * 22) 22, 0 + 1, e9) ta lp lr) H := hP
    have hD : va_D (cm_A (cw ad cI X sd fn ft fm (fd, fr, fw, t, e9) ta lp lr)) (cw ad cI X sd fn ft fm (doN fr fw 0 40 fd, upd fr 0 (nI r), va_cpy fn fw (r * 22) (0 * 22) 22, 0 + 1, e9) ta lp lr) := hD
    refine lv_aload_n C.1 C.2.1 dX3_write_37 rfl (lv_at hl 0 rfl) ?_
    refine lv_dup C.1 C.2.1 dX3_write_38 rfl ?_
    refine va_get (ci := 3) (C := RX3) (T := TX3) (N := 10) C.1 C.2.1 C.2.2.2.2.2.1 ui_X3 C.2.2.2.2.1 C.2.2.2.2.2.2.2.1 hP 0 (rfl) rfl 6 (by decide) (C.2.2.2.2.2.1 _ tw_67) (fun _ h9 => h9) rfl dX3_write_39 ?_
    refine lv_iconst (v := nI 1) C.1 C.2.1 dX3_write_42 (by decide +kernel) ?_
    refine lv_iadd C.1 C.2.1 dX3_write_43 ?_
    rw [nI_add]
    refine va_put (ci := 3) (C := RX3) (T := TX3) (N := 10) (ty := .int) C.1 C.2.1 C.2.2.2.2.2.1 ui_X3 tyX3 tyX3_ok nmX3 C.2.2.2.2.1 C.2.2.2.2.2.2.2.1 hP hD hS 0 (rfl) rfl 6 (by decide) (C.2.2.2.2.2.1 _ tw_67) (fun _ h9 => h9) rfl (by decide +kernel) rfl rfl (Nat.le_of_ble_eq_true rfl) dX3_write_44 (fun H locs hP hD hS => ?_)
    exact cm_vret C hP hD hS dX3_write_47 (by rw [show wr fn r (fd, fr, fw, t, e9) = _ from if_neg ht]; rfl)
set_option maxHeartbeats 4000000 in
set_option maxRecDepth 100000 in
/-- makeMoves -/
theorem k_X3_makeMoves (l : Launch) (D : va_G) (cI cZ cJ : ClassId) (ad : Nat → Nat) (X : va_W) (sd fn ft fm : Nat → Int32) (σ : WS) (ta lp lr : Int32) (hσ : sOk σ) (M : List (Nat × Int32 × Int32)) (hm : mEnc fm M) : CM l D (cm_T cI cZ cJ) yX3_makeMoves cX3_makeMoves 3 none (cm_rm 4 109) [.ref (ad 0)] (cw ad cI X sd fn ft fm σ ta lp lr) none (cw ad cI X sd (mkR M (fn, σ)).1 ft fm (mkR M (fn, σ)).2 ta lp lr) := by
  refine CM.of (by decide) (Nat.le_of_ble_eq_true rfl) ?_
  intro p e s m below meth c ls H locs C hl hP hD hS
  refine lv_aload_n C.1 C.2.1 dX3_makeMoves_0 rfl (lv_at hl 0 rfl) ?_
  refine va_get (ci := 3) (C := RX3) (T := TX3) (N := 10) C.1 C.2.1 C.2.2.2.2.2.1 ui_X3 C.2.2.2.2.1 C.2.2.2.2.2.2.2.1 hP 0 (rfl) rfl 5 (by decide) (C.2.2.2.2.2.1 _ tw_66) (fun _ h9 => h9) rfl dX3_makeMoves_1 ?_
  refine cm_cV1 (q0 := 11) 0 C (k_X1_size l D cI cZ cJ (cw ad cI X sd fn ft fm σ ta lp lr) (qM := 11) (qN := 12) rfl rfl) tw_273 tw_151 tw_152 tw_4 tw_153 rfl rfl (rfl) rfl (by decide +kernel) ⟨Nat.le_of_ble_eq_true rfl, Nat.le_of_ble_eq_true rfl⟩ ⟨Nat.zero_le _, Nat.zero_le _⟩ hP hD hS hl.1 rfl rfl (Nat.le_of_ble_eq_true rfl) dX3_makeMoves_4 (fun H locs hP hD hS => ?_)
  rw [hm.2.1]
  refine lv_iconst (v := nI 1) C.1 C.2.1 dX3_makeMoves_7 (by decide +kernel) ?_
  refine lv_isub C.1 C.2.1 dX3_makeMoves_8 ?_
  refine lv_istore_n (lv' := [(1, _), (0, _)]) C.1 C.2.1 dX3_makeMoves_9 rfl hl (by decide) rfl (fun ls hl => ?_)
  have hm1 := hm.1
  have loop : ∀ (k : Nat) (g : Nat → Int32) (τ : WS), k ≤ M.length → sOk τ → ∀ (ls : Array Slot) (H : Heap) (locs : List Loc), lv_has ls 3 [(1, .int (nI k - nI 1)), (0, .ref (ad 0))] → va_P D vwCl (cw ad cI X sd g ft fm τ ta lp lr) H → va_D (cm_A (cw ad cI X sd fn ft fm σ ta lp lr)) (cw ad cI X sd g ft fm τ ta lp lr) → va_S (cm_A (cw ad cI X sd fn ft fm σ ta lp lr)) s.heap H locs → W p l e (cm_rm 4 109) s m ([.ref (ad 0)] : List Value).toArray below meth c H locs 0 0 (cm_Q below D [.ref (ad 0)] s (cw ad cI X sd fn ft fm σ ta lp lr) none (cw ad cI X sd (mkR (M.take k) (g, τ)).1 ft fm (mkR (M.take k) (g, τ)).2 ta lp lr)) (F0 m 10 ls []) := by
    intro k
    induction k with
    | zero =>
      intro g τ hk hτ ls H locs hl hP hD hS
      refine lv_iload_n C.1 C.2.1 dX3_makeMoves_10 rfl (lv_at hl 0 rfl) ?_
      refine lv_if_lt (tgt := 61) C.1 C.2.1 dX3_makeMoves_11 (by decide) (fun _ => ?_) (fun h => absurd (by decide) h)
      exact cm_vret C hP hD hS dX3_makeMoves_61 rfl
    | succ k ih =>
      intro g τ hk hτ ls H locs hl hP hD hS
      have hmk : M[k]? = some (M[k]'(by omega)) := List.getElem?_eq_getElem (by omega)
      generalize M[k]'(by omega) = m9 at hmk
      obtain ⟨m1, m2, m3, m4⟩ := hm.2.2 k m9 hmk
      rw [pk_sub (by omega), Nat.add_sub_cancel] at hl
      refine lv_iload_n C.1 C.2.1 dX3_makeMoves_10 rfl (lv_at hl 0 rfl) ?_
      refine lv_if_lt (tgt := 61) C.1 C.2.1 dX3_makeMoves_11 (by decide) (fun h => absurd h (nI_pos (by omega))) (fun _ => ?_)
      refine lv_aload_n C.1 C.2.1 dX3_makeMoves_14 rfl (lv_at hl 1 rfl) ?_
      refine va_get (ci := 3) (C := RX3) (T := TX3) (N := 10) C.1 C.2.1 C.2.2.2.2.2.1 ui_X3 C.2.2.2.2.1 C.2.2.2.2.2.2.2.1 hP 0 (rfl) rfl 5 (by decide) (C.2.2.2.2.2.1 _ tw_66) (fun _ h9 => h9) rfl dX3_makeMoves_15 ?_
      refine lv_iload_n C.1 C.2.1 dX3_makeMoves_18 rfl (lv_at hl 0 rfl) ?_
      refine cm_cV1 (q0 := 11) 1 C (k_X1_placeAt l D cI cZ cJ (cw ad cI X sd g ft fm τ ta lp lr) (qM := 11) (qN := 12) rfl rfl k (by omega)) tw_274 tw_215 tw_216 tw_4 tw_217 rfl rfl (rfl) rfl (by decide +kernel) ⟨Nat.le_of_ble_eq_true rfl, Nat.le_of_ble_eq_true rfl⟩ ⟨Nat.zero_le _, Nat.zero_le _⟩ hP hD hS hl.1 rfl rfl (Nat.le_of_ble_eq_true rfl) dX3_makeMoves_19 (fun H locs hP hD hS => ?_)
      rw [m1]
      refine lv_istore_n (lv' := [(2, _), (1, _), (0, _)]) C.1 C.2.1 dX3_makeMoves_22 rfl hl (by decide) rfl (fun ls hl => ?_)
      refine lv_aload_n C.1 C.2.1 dX3_makeMoves_23 rfl (lv_at hl 2 rfl) ?_
      refine va_get (ci := 3) (C := RX3) (T := TX3) (N := 10) C.1 C.2.1 C.2.2.2.2.2.1 ui_X3 C.2.2.2.2.1 C.2.2.2.2.2.2.2.1 hP 0 (rfl) rfl 1 (by decide) (C.2.2.2.2.2.1 _ tw_62) (fun _ h9 => h9) rfl dX3_makeMoves_24 ?_
      refine lv_iload_n C.1 C.2.1 dX3_makeMoves_27 rfl (lv_at hl 0 rfl) ?_
      refine lv_aload_n C.1 C.2.1 dX3_makeMoves_28 rfl (lv_at hl 2 rfl) ?_
      refine va_get (ci := 3) (C := RX3) (T := TX3) (N := 10) C.1 C.2.1 C.2.2.2.2.2.1 ui_X3 C.2.2.2.2.1 C.2.2.2.2.2.2.2.1 hP 0 (rfl) rfl 5 (by decide) (C.2.2.2.2.2.1 _ tw_66) (fun _ h9 => h9) rfl dX3_makeMoves_29 ?_
      refine lv_iload_n C.1 C.2.1 dX3_makeMoves_32 rfl (lv_at hl 1 rfl) ?_
      refine cm_cV1 (q0 := 11) 1 C (k_X1_keyAt l D cI cZ cJ (cw ad cI X sd g ft fm τ ta lp lr) (qM := 11) (qN := 12) rfl rfl k (by omega)) tw_275 tw_219 tw_220 tw_4 tw_221 rfl rfl (rfl) rfl (by decide +kernel) ⟨Nat.le_of_ble_eq_true rfl, Nat.le_of_ble_eq_true rfl⟩ ⟨Nat.zero_le _, Nat.zero_le _⟩ hP hD hS hl.1 rfl rfl (Nat.le_of_ble_eq_true rfl) dX3_makeMoves_33 (fun H locs hP hD hS => ?_)
      rw [m2]
      refine lv_aload_n C.1 C.2.1 dX3_makeMoves_36 rfl (lv_at hl 2 rfl) ?_
      refine va_get (ci := 3) (C := RX3) (T := TX3) (N := 10) C.1 C.2.1 C.2.2.2.2.2.1 ui_X3 C.2.2.2.2.1 C.2.2.2.2.2.2.2.1 hP 0 (rfl) rfl 5 (by decide) (C.2.2.2.2.2.1 _ tw_66) (fun _ h9 => h9) rfl dX3_makeMoves_37 ?_
      refine lv_iload_n C.1 C.2.1 dX3_makeMoves_40 rfl (lv_at hl 1 rfl) ?_
      refine cm_cV1 (q0 := 11) 1 C (k_X1_valueAt l D cI cZ cJ (cw ad cI X sd g ft fm τ ta lp lr) (qM := 11) (qN := 12) rfl rfl k (by omega)) tw_276 tw_223 tw_224 tw_4 tw_225 rfl rfl (rfl) rfl (by decide +kernel) ⟨Nat.le_of_ble_eq_true rfl, Nat.le_of_ble_eq_true rfl⟩ ⟨Nat.zero_le _, Nat.zero_le _⟩ hP hD hS hl.1 rfl rfl (Nat.le_of_ble_eq_true rfl) dX3_makeMoves_41 (fun H locs hP hD hS => ?_)
      rw [m3]
      refine cm_cV0 (q0 := 2) 3 C (k_X0_fill l D cI cZ cJ (cw ad cI X sd g ft fm τ ta lp lr) (qI := 2) (qA := 3) rfl rfl (by decide) m9.1 m4 m9.2.1 m9.2.2) tw_277 tw_227 tw_228 tw_2 tw_229 rfl rfl (rfl) rfl (by decide +kernel) ⟨Nat.le_of_ble_eq_true rfl, Nat.le_of_ble_eq_true rfl⟩ ⟨Nat.zero_le _, Nat.zero_le _⟩ hP hD hS hl.1 rfl rfl (Nat.le_of_ble_eq_true rfl) dX3_makeMoves_44 (fun H locs hP hD hS => ?_)
      have hP : va_P D vwCl (cw ad cI X sd (fillC g m9.1 m9.2.1 m9.2.2) ft fm τ ta lp lr) H := hP
      have hD : va_D (cm_A (cw ad cI X sd fn ft fm σ ta lp lr)) (cw ad cI X sd (fillC g m9.1 m9.2.1 m9.2.2) ft fm τ ta lp lr) := hD
      refine lv_aload_n C.1 C.2.1 dX3_makeMoves_47 rfl (lv_at hl 2 rfl) ?_
      refine lv_iload_n C.1 C.2.1 dX3_makeMoves_48 rfl (lv_at hl 0 rfl) ?_
      refine cm_cS1 1 C (c_rowOf l D cI cZ cJ (cw ad cI X sd (fillC g m9.1 m9.2.1 m9.2.2) ft fm τ ta lp lr) m9.1 (by omega)) tw_278 tw_179 tw_1 tw_180 rfl rfl (by decide +kernel) ⟨Nat.le_of_ble_eq_true rfl, Nat.le_of_ble_eq_true rfl⟩ ⟨Nat.zero_le _, Nat.zero_le _⟩ hP hD hS hl.1 rfl rfl (Nat.le_of_ble_eq_true rfl) dX3_makeMoves_49 (fun H locs hP hD hS => ?_)
      refine cm_cV0 (q0 := 0) 1 C (k_X3_write l D cI cZ cJ ad X sd (fillC g m9.1 m9.2.1 m9.2.2) ft fm τ ta lp lr hτ (m9.1 / 4) (by omega)) tw_244 tw_246 ts_6 tw_1 tw_247 rfl rfl (rfl) rfl (by decide +kernel) ⟨Nat.le_of_ble_eq_true rfl, Nat.le_of_ble_eq_true rfl⟩ ⟨Nat.zero_le _, Nat.zero_le _⟩ hP hD hS hl.1 rfl rfl (Nat.le_of_ble_eq_true rfl) dX3_makeMoves_52 (fun H locs hP hD hS => ?_)
      refine lv_iinc (v := (nI k - nI 1)) (lv' := [(1, _), (2, _), (0, _)]) C.1 C.2.1 dX3_makeMoves_55 hl (k := 1) rfl (m1_sub (nI k)) (by decide) rfl (fun ls hl => ?_)
      refine lv_goto (tgt := 10) C.1 C.2.1 dX3_makeMoves_58 (by decide) ?_
      rw [show M.take (k + 1) = M.take k ++ [m9] by rw [List.take_add_one, hmk]; rfl, mkR_app]
      exact ih (fillC g m9.1 m9.2.1 m9.2.2) (wr (fillC g m9.1 m9.2.1 m9.2.2) (m9.1 / 4) τ) (by omega) (wr_ok hτ (by omega)) ls H locs (lv_sub hl [0, 2] rfl) hP hD hS
  have hfin := loop M.length fn σ (Nat.le_refl _) hσ ls H locs hl hP hD hS
  rw [List.take_length] at hfin
  exact hfin
end
section
/-! ===== followPath, takeTrial, recover, and what only reads ===== -/
def folP (fm : Nat → Int32) (M : List (Nat × Int32 × Int32)) (fn : Nat → Int32) (σ : WS) : (Nat → Int32) × WS :=
  (upd (mkR M (va_cpy fm fn 0 418 22, wr (va_cpy fm fn 0 418 22) 19 σ)).1 418 (nI 0), wr (upd (mkR M (va_cpy fm fn 0 418 22, wr (va_cpy fm fn 0 418 22) 19 σ)).1 418 (nI 0)) 19 (mkR M (va_cpy fm fn 0 418 22, wr (va_cpy fm fn 0 418 22) 19 σ)).2)
/-- a row of ft taken into fn, and written -/
def tk1 (ft : Nat → Int32) (r : Nat) (x : (Nat → Int32) × WS) : (Nat → Int32) × WS := (va_cpy ft x.1 (r * 22) (r * 22) 22, wr (va_cpy ft x.1 (r * 22) (r * 22) 22) r x.2)
def tkP (ft : Nat → Int32) (z : Nat) : Nat → Nat → (Nat → Int32) × WS → (Nat → Int32) × WS
  | _, 0, x => x
  | j, k + 1, x => tkP ft z (j + 1) k (tk1 ft (z * 9 + j) x)
def cpN (fd : Nat → Int32) : Nat → Nat → (Nat → Int32) → (Nat → Int32)
  | _, 0, f => f
  | j, k + 1, f => cpN fd (j + 1) k (va_cpy fd f (j * 22) (j * 22) 22)
theorem tk1_ok {ft : Nat → Int32} {r : Nat} {x : (Nat → Int32) × WS} (h : sOk x.2) (hr : r < 20) : sOk (tk1 ft r x).2 := wr_ok h hr
theorem tkP_ok {ft : Nat → Int32} {z : Nat} (hz : z < 2) : ∀ (k j : Nat) (x : (Nat → Int32) × WS), j + k ≤ 9 → sOk x.2 → sOk (tkP ft z j k x).2 := by
  intro k
  induction k with
  | zero => intro j x _ h; exact h
  | succ k ih => intro j x hj h; exact ih (j + 1) _ (by omega) (tk1_ok h (by omega))
set_option maxHeartbeats 4000000 in
set_option maxRecDepth 100000 in
/-- followPath -/
theorem k_X3_followPath (l : Launch) (D : va_G) (cI cZ cJ : ClassId) (ad : Nat → Nat) (X : va_W) (sd fn ft fm : Nat → Int32) (σ : WS) (ta lp lr : Int32) (hσ : sOk σ) (M : List (Nat × Int32 × Int32)) (hm : mEnc fm M) (hM : ∀ m ∈ M, m.1 < 72) : CM l D (cm_T cI cZ cJ) yX3_followPath cX3_followPath 1 none (cm_rm 5 131) [.ref (ad 0)] (cw ad cI X sd fn ft fm σ ta lp lr) none (cw ad cI X sd (folP fm M fn σ).1 ft fm (folP fm M fn σ).2 ta (nI M.length) lr) := by
  refine CM.of (by decide) (Nat.le_of_ble_eq_true rfl) ?_
  intro p e s m below meth c ls H locs C hl hP hD hS
  refine lv_aload_n C.1 C.2.1 dX3_followPath_0 rfl (lv_at hl 0 rfl) ?_
  refine va_get (ci := 3) (C := RX3) (T := TX3) (N := 10) C.1 C.2.1 C.2.2.2.2.2.1 ui_X3 C.2.2.2.2.1 C.2.2.2.2.2.2.2.1 hP 0 (rfl) rfl 1 (by decide) (C.2.2.2.2.2.1 _ tw_62) (fun _ h9 => h9) rfl dX3_followPath_1 ?_
  refine lv_aload_n C.1 C.2.1 dX3_followPath_4 rfl (lv_at hl 0 rfl) ?_
  refine va_get (ci := 3) (C := RX3) (T := TX3) (N := 10) C.1 C.2.1 C.2.2.2.2.2.1 ui_X3 C.2.2.2.2.1 C.2.2.2.2.2.2.2.1 hP 0 (rfl) rfl 5 (by decide) (C.2.2.2.2.2.1 _ tw_66) (fun _ h9 => h9) rfl dX3_followPath_5 ?_
  refine cm_cV0 (q0 := 2) 1 C (k_X0_tellJournal l D cI cZ cJ (cw ad cI X sd fn ft fm σ ta lp lr) (qI := 2) (qA := 3) rfl rfl (qM := 11) (qN := 12) rfl rfl) tw_265 tw_266 tw_267 tw_2 tw_268 rfl rfl (rfl) rfl (by decide +kernel) ⟨Nat.le_of_ble_eq_true rfl, Nat.le_of_ble_eq_true rfl⟩ ⟨Nat.zero_le _, Nat.zero_le _⟩ hP hD hS hl.1 rfl rfl (Nat.le_of_ble_eq_true rfl) dX3_followPath_8 (fun H locs hP hD hS => ?_)
  have hP : va_P D vwCl (cw ad cI X sd (va_cpy fm fn 0 418 22) ft fm σ ta lp lr) H := hP
  have hD : va_D (cm_A (cw ad cI X sd fn ft fm σ ta lp lr)) (cw ad cI X sd (va_cpy fm fn 0 418 22) ft fm σ ta lp lr) := hD
  refine lv_aload_n C.1 C.2.1 dX3_followPath_11 rfl (lv_at hl 0 rfl) ?_
  refine lv_bipush (v := nI 19) C.1 C.2.1 dX3_followPath_12 (by decide +kernel) ?_
  refine cm_cV0 (q0 := 0) 1 C (k_X3_write l D cI cZ cJ ad X sd (va_cpy fm fn 0 418 22) ft fm σ ta lp lr (hσ) (19) (by decide)) tw_244 tw_246 ts_6 tw_1 tw_247 rfl rfl (rfl) rfl (by decide +kernel) ⟨Nat.le_of_ble_eq_true rfl, Nat.le_of_ble_eq_true rfl⟩ ⟨Nat.zero_le _, Nat.zero_le _⟩ hP hD hS hl.1 rfl rfl (Nat.le_of_ble_eq_true rfl) dX3_followPath_14 (fun H locs hP hD hS => ?_)
  refine lv_aload_n C.1 C.2.1 dX3_followPath_17 rfl (lv_at hl 0 rfl) ?_
  refine cm_cV0 (q0 := 0) 0 C (k_X3_makeMoves l D cI cZ cJ ad X sd (va_cpy fm fn 0 418 22) ft fm (wr (va_cpy fm fn 0 418 22) 19 σ) ta lp lr (wr_ok hσ (by decide)) M hm) tw_269 tw_271 ts_8 tw_1 tw_272 rfl rfl (rfl) rfl (by decide +kernel) ⟨Nat.le_of_ble_eq_true rfl, Nat.le_of_ble_eq_true rfl⟩ ⟨Nat.zero_le _, Nat.zero_le _⟩ hP hD hS hl.1 rfl rfl (Nat.le_of_ble_eq_true rfl) dX3_followPath_18 (fun H locs hP hD hS => ?_)
  refine lv_aload_n C.1 C.2.1 dX3_followPath_21 rfl (lv_at hl 0 rfl) ?_
  refine va_get (ci := 3) (C := RX3) (T := TX3) (N := 10) C.1 C.2.1 C.2.2.2.2.2.1 ui_X3 C.2.2.2.2.1 C.2.2.2.2.2.2.2.1 hP 0 (rfl) rfl 1 (by decide) (C.2.2.2.2.2.1 _ tw_62) (fun _ h9 => h9) rfl dX3_followPath_22 ?_
  refine cm_cV0 (q0 := 2) 0 C (k_X0_emptyJournal l D cI cZ cJ (cw ad cI X sd (mkR M ((va_cpy fm fn 0 418 22), (wr (va_cpy fm fn 0 418 22) 19 σ))).1 ft fm (mkR M ((va_cpy fm fn 0 418 22), (wr (va_cpy fm fn 0 418 22) 19 σ))).2 ta lp lr) (qI := 2) (qA := 3) rfl rfl) tw_279 tw_280 tw_281 tw_2 tw_282 rfl rfl (rfl) rfl (by decide +kernel) ⟨Nat.le_of_ble_eq_true rfl, Nat.le_of_ble_eq_true rfl⟩ ⟨Nat.zero_le _, Nat.zero_le _⟩ hP hD hS hl.1 rfl rfl (Nat.le_of_ble_eq_true rfl) dX3_followPath_25 (fun H locs hP hD hS => ?_)
  have hP : va_P D vwCl (cw ad cI X sd (upd (mkR M ((va_cpy fm fn 0 418 22), (wr (va_cpy fm fn 0 418 22) 19 σ))).1 418 (nI 0)) ft fm (mkR M ((va_cpy fm fn 0 418 22), (wr (va_cpy fm fn 0 418 22) 19 σ))).2 ta lp lr) H := hP
  have hD : va_D (cm_A (cw ad cI X sd fn ft fm σ ta lp lr)) (cw ad cI X sd (upd (mkR M ((va_cpy fm fn 0 418 22), (wr (va_cpy fm fn 0 418 22) 19 σ))).1 418 (nI 0)) ft fm (mkR M ((va_cpy fm fn 0 418 22), (wr (va_cpy fm fn 0 418 22) 19 σ))).2 ta lp lr) := hD
  refine lv_aload_n C.1 C.2.1 dX3_followPath_28 rfl (lv_at hl 0 rfl) ?_
  refine lv_bipush (v := nI 19) C.1 C.2.1 dX3_followPath_29 (by decide +kernel) ?_
  refine cm_cV0 (q0 := 0) 1 C (k_X3_write l D cI cZ cJ ad X sd (upd (mkR M ((va_cpy fm fn 0 418 22), (wr (va_cpy fm fn 0 418 22) 19 σ))).1 418 (nI 0)) ft fm (mkR M ((va_cpy fm fn 0 418 22), (wr (va_cpy fm fn 0 418 22) 19 σ))).2 ta lp lr (mkR_ok hM (wr_ok hσ (by decide))) (19) (by decide)) tw_244 tw_246 ts_6 tw_1 tw_247 rfl rfl (rfl) rfl (by decide +kernel) ⟨Nat.le_of_ble_eq_true rfl, Nat.le_of_ble_eq_true rfl⟩ ⟨Nat.zero_le _, Nat.zero_le _⟩ hP hD hS hl.1 rfl rfl (Nat.le_of_ble_eq_true rfl) dX3_followPath_31 (fun H locs hP hD hS => ?_)
  refine lv_aload_n C.1 C.2.1 dX3_followPath_34 rfl (lv_at hl 0 rfl) ?_
  refine lv_aload_n C.1 C.2.1 dX3_followPath_35 rfl (lv_at hl 0 rfl) ?_
  refine va_get (ci := 3) (C := RX3) (T := TX3) (N := 10) C.1 C.2.1 C.2.2.2.2.2.1 ui_X3 C.2.2.2.2.1 C.2.2.2.2.2.2.2.1 hP 0 (rfl) rfl 5 (by decide) (C.2.2.2.2.2.1 _ tw_66) (fun _ h9 => h9) rfl dX3_followPath_36 ?_
  refine cm_cV1 (q0 := 11) 0 C (k_X1_size l D cI cZ cJ (cw ad cI X sd (upd (mkR M ((va_cpy fm fn 0 418 22), (wr (va_cpy fm fn 0 418 22) 19 σ))).1 418 (nI 0)) ft fm (wr (upd (mkR M ((va_cpy fm fn 0 418 22), (wr (va_cpy fm fn 0 418 22) 19 σ))).1 418 (nI 0)) 19 (mkR M ((va_cpy fm fn 0 418 22), (wr (va_cpy fm fn 0 418 22) 19 σ))).2) ta lp lr) (qM := 11) (qN := 12) rfl rfl) tw_273 tw_151 tw_152 tw_4 tw_153 rfl rfl (rfl) rfl (by decide +kernel) ⟨Nat.le_of_ble_eq_true rfl, Nat.le_of_ble_eq_true rfl⟩ ⟨Nat.zero_le _, Nat.zero_le _⟩ hP hD hS hl.1 rfl rfl (Nat.le_of_ble_eq_true rfl) dX3_followPath_39 (fun H locs hP hD hS => ?_)
  rw [hm.2.1]
  refine va_put (ci := 3) (C := RX3) (T := TX3) (N := 10) (ty := .int) C.1 C.2.1 C.2.2.2.2.2.1 ui_X3 tyX3 tyX3_ok nmX3 C.2.2.2.2.1 C.2.2.2.2.2.2.2.1 hP hD hS 0 (rfl) rfl 8 (by decide) (C.2.2.2.2.2.1 _ tw_69) (fun _ h9 => h9) rfl (by decide +kernel) rfl rfl (Nat.le_of_ble_eq_true rfl) dX3_followPath_42 (fun H locs hP hD hS => ?_)
  exact cm_vret C hP hD hS dX3_followPath_45 rfl
set_option maxHeartbeats 4000000 in
set_option maxRecDepth 100000 in
/-- takeTrial -/
theorem k_X3_takeTrial (l : Launch) (D : va_G) (cI cZ cJ : ClassId) (ad : Nat → Nat) (X : va_W) (sd fn ft fm : Nat → Int32) (σ : WS) (ta lp lr : Int32) (hσ : sOk σ) (z : Nat) (hz0 : z < 2) (hz : ft 396 = nI z) : CM l D (cm_T cI cZ cJ) yX3_takeTrial cX3_takeTrial 3 none (cm_rm 4 109) [.ref (ad 0)] (cw ad cI X sd fn ft fm σ ta lp lr) none (cw ad cI X sd (tk1 ft 18 (tkP ft z 0 9 (fn, σ))).1 ft fm (tk1 ft 18 (tkP ft z 0 9 (fn, σ))).2 (ta + nI 1) lp lr) := by
  refine CM.of (by decide) (Nat.le_of_ble_eq_true rfl) ?_
  intro p e s m below meth c ls H locs C hl hP hD hS
  refine lv_iconst (v := nI 0) C.1 C.2.1 dX3_takeTrial_0 (by decide +kernel) ?_
  refine lv_istore_n (lv' := [(1, _), (0, _)]) C.1 C.2.1 dX3_takeTrial_1 rfl hl (by decide) rfl (fun ls hl => ?_)
  have loop : ∀ (k j : Nat) (g : Nat → Int32) (τ : WS), j + k = 9 → sOk τ → ∀ (ls : Array Slot) (H : Heap) (locs : List Loc), lv_has ls 3 [(1, .int (nI j)), (0, .ref (ad 0))] → va_P D vwCl (cw ad cI X sd g ft fm τ ta lp lr) H → va_D (cm_A (cw ad cI X sd fn ft fm σ ta lp lr)) (cw ad cI X sd g ft fm τ ta lp lr) → va_S (cm_A (cw ad cI X sd fn ft fm σ ta lp lr)) s.heap H locs → W p l e (cm_rm 4 109) s m ([.ref (ad 0)] : List Value).toArray below meth c H locs 0 0 (cm_Q below D [.ref (ad 0)] s (cw ad cI X sd fn ft fm σ ta lp lr) none (cw ad cI X sd (tk1 ft 18 (tkP ft z j k (g, τ))).1 ft fm (tk1 ft 18 (tkP ft z j k (g, τ))).2 (ta + nI 1) lp lr)) (F0 m 2 ls []) := by
    intro k
    induction k with
    | zero =>
      intro j g τ hj hτ ls H locs hl hP hD hS
      refine lv_iload_n C.1 C.2.1 dX3_takeTrial_2 rfl (lv_at hl 0 rfl) ?_
      refine lv_bipush (v := nI 9) C.1 C.2.1 dX3_takeTrial_3 (by decide +kernel) ?_
      refine lv_icmp_ge (tgt := 40) C.1 C.2.1 dX3_takeTrial_5 (by decide) (fun _ => ?_) (fun h => absurd (nI_le (by omega) (by omega)) h)
      refine lv_aload_n C.1 C.2.1 dX3_takeTrial_40 rfl (lv_at hl 1 rfl) ?_
      refine va_get (ci := 3) (C := RX3) (T := TX3) (N := 10) C.1 C.2.1 C.2.2.2.2.2.1 ui_X3 C.2.2.2.2.1 C.2.2.2.2.2.2.2.1 hP 0 (rfl) rfl 1 (by decide) (C.2.2.2.2.2.1 _ tw_62) (fun _ h9 => h9) rfl dX3_takeTrial_41 ?_
      refine lv_aload_n C.1 C.2.1 dX3_takeTrial_44 rfl (lv_at hl 1 rfl) ?_
      refine va_get (ci := 3) (C := RX3) (T := TX3) (N := 10) C.1 C.2.1 C.2.2.2.2.2.1 ui_X3 C.2.2.2.2.1 C.2.2.2.2.2.2.2.1 hP 0 (rfl) rfl 3 (by decide) (C.2.2.2.2.2.1 _ tw_64) (fun _ h9 => h9) rfl dX3_takeTrial_45 ?_
      refine lv_bipush (v := nI 18) C.1 C.2.1 dX3_takeTrial_48 (by decide +kernel) ?_
      refine cm_cV0 (q0 := 2) 2 C (k_X0_takeRow l D cI cZ cJ (cw ad cI X sd g ft fm τ ta lp lr) (qI := 2) (qA := 3) rfl rfl (qJ := 6) (qB := 7) rfl rfl 18 (by decide)) tw_234 tw_235 tw_236 tw_2 tw_237 rfl rfl (rfl) rfl (by decide +kernel) ⟨Nat.le_of_ble_eq_true rfl, Nat.le_of_ble_eq_true rfl⟩ ⟨Nat.zero_le _, Nat.zero_le _⟩ hP hD hS hl.1 rfl rfl (Nat.le_of_ble_eq_true rfl) dX3_takeTrial_50 (fun H locs hP hD hS => ?_)
      have hP : va_P D vwCl (cw ad cI X sd (va_cpy ft g (18 * 22) (18 * 22) 22) ft fm τ ta lp lr) H := hP
      have hD : va_D (cm_A (cw ad cI X sd fn ft fm σ ta lp lr)) (cw ad cI X sd (va_cpy ft g (18 * 22) (18 * 22) 22) ft fm τ ta lp lr) := hD
      refine lv_aload_n C.1 C.2.1 dX3_takeTrial_53 rfl (lv_at hl 1 rfl) ?_
      refine lv_bipush (v := nI 18) C.1 C.2.1 dX3_takeTrial_54 (by decide +kernel) ?_
      refine cm_cV0 (q0 := 0) 1 C (k_X3_write l D cI cZ cJ ad X sd (va_cpy ft g (18 * 22) (18 * 22) 22) ft fm τ ta lp lr (hτ) (18) (by decide)) tw_244 tw_246 ts_6 tw_1 tw_247 rfl rfl (rfl) rfl (by decide +kernel) ⟨Nat.le_of_ble_eq_true rfl, Nat.le_of_ble_eq_true rfl⟩ ⟨Nat.zero_le _, Nat.zero_le _⟩ hP hD hS hl.1 rfl rfl (Nat.le_of_ble_eq_true rfl) dX3_takeTrial_56 (fun H locs hP hD hS => ?_)
      refine lv_aload_n C.1 C.2.1 dX3_takeTrial_59 rfl (lv_at hl 1 rfl) ?_
      refine lv_dup C.1 C.2.1 dX3_takeTrial_60 rfl ?_
      refine va_get (ci := 3) (C := RX3) (T := TX3) (N := 10) C.1 C.2.1 C.2.2.2.2.2.1 ui_X3 C.2.2.2.2.1 C.2.2.2.2.2.2.2.1 hP 0 (rfl) rfl 7 (by decide) (C.2.2.2.2.2.1 _ tw_68) (fun _ h9 => h9) rfl dX3_takeTrial_61 ?_
      refine lv_iconst (v := nI 1) C.1 C.2.1 dX3_takeTrial_64 (by decide +kernel) ?_
      refine lv_iadd C.1 C.2.1 dX3_takeTrial_65 ?_
      refine va_put (ci := 3) (C := RX3) (T := TX3) (N := 10) (ty := .int) C.1 C.2.1 C.2.2.2.2.2.1 ui_X3 tyX3 tyX3_ok nmX3 C.2.2.2.2.1 C.2.2.2.2.2.2.2.1 hP hD hS 0 (rfl) rfl 7 (by decide) (C.2.2.2.2.2.1 _ tw_68) (fun _ h9 => h9) rfl (by decide +kernel) rfl rfl (Nat.le_of_ble_eq_true rfl) dX3_takeTrial_66 (fun H locs hP hD hS => ?_)
      exact cm_vret C hP hD hS dX3_takeTrial_69 rfl
    | succ k ih =>
      intro j g τ hj hτ ls H locs hl hP hD hS
      refine lv_iload_n C.1 C.2.1 dX3_takeTrial_2 rfl (lv_at hl 0 rfl) ?_
      refine lv_bipush (v := nI 9) C.1 C.2.1 dX3_takeTrial_3 (by decide +kernel) ?_
      refine lv_icmp_ge (tgt := 40) C.1 C.2.1 dX3_takeTrial_5 (by decide) (fun h => absurd h (nI_ge (by omega) (by decide))) (fun _ => ?_)
      refine lv_aload_n C.1 C.2.1 dX3_takeTrial_8 rfl (lv_at hl 1 rfl) ?_
      refine va_get (ci := 3) (C := RX3) (T := TX3) (N := 10) C.1 C.2.1 C.2.2.2.2.2.1 ui_X3 C.2.2.2.2.1 C.2.2.2.2.2.2.2.1 hP 0 (rfl) rfl 3 (by decide) (C.2.2.2.2.2.1 _ tw_64) (fun _ h9 => h9) rfl dX3_takeTrial_9 ?_
      refine lv_iload_n C.1 C.2.1 dX3_takeTrial_12 rfl (lv_at hl 0 rfl) ?_
      refine cm_cV1 (q0 := 6) 1 C (k_X0_rowInUse l D cI cZ cJ (cw ad cI X sd g ft fm τ ta lp lr) (qI := 6) (qA := 7) rfl rfl z j hz) tw_120 tw_121 tw_122 tw_2 tw_123 rfl rfl (rfl) rfl (by decide +kernel) ⟨Nat.le_of_ble_eq_true rfl, Nat.le_of_ble_eq_true rfl⟩ ⟨Nat.zero_le _, Nat.zero_le _⟩ hP hD hS hl.1 rfl rfl (Nat.le_of_ble_eq_true rfl) dX3_takeTrial_13 (fun H locs hP hD hS => ?_)
      refine lv_istore_n (lv' := [(2, _), (1, _), (0, _)]) C.1 C.2.1 dX3_takeTrial_16 rfl hl (by decide) rfl (fun ls hl => ?_)
      refine lv_aload_n C.1 C.2.1 dX3_takeTrial_17 rfl (lv_at hl 2 rfl) ?_
      refine va_get (ci := 3) (C := RX3) (T := TX3) (N := 10) C.1 C.2.1 C.2.2.2.2.2.1 ui_X3 C.2.2.2.2.1 C.2.2.2.2.2.2.2.1 hP 0 (rfl) rfl 1 (by decide) (C.2.2.2.2.2.1 _ tw_62) (fun _ h9 => h9) rfl dX3_takeTrial_18 ?_
      refine lv_aload_n C.1 C.2.1 dX3_takeTrial_21 rfl (lv_at hl 2 rfl) ?_
      refine va_get (ci := 3) (C := RX3) (T := TX3) (N := 10) C.1 C.2.1 C.2.2.2.2.2.1 ui_X3 C.2.2.2.2.1 C.2.2.2.2.2.2.2.1 hP 0 (rfl) rfl 3 (by decide) (C.2.2.2.2.2.1 _ tw_64) (fun _ h9 => h9) rfl dX3_takeTrial_22 ?_
      refine lv_iload_n C.1 C.2.1 dX3_takeTrial_25 rfl (lv_at hl 0 rfl) ?_
      refine cm_cV0 (q0 := 2) 2 C (k_X0_takeRow l D cI cZ cJ (cw ad cI X sd g ft fm τ ta lp lr) (qI := 2) (qA := 3) rfl rfl (qJ := 6) (qB := 7) rfl rfl (z * 9 + j) (by omega)) tw_234 tw_235 tw_236 tw_2 tw_237 rfl rfl (rfl) rfl (by decide +kernel) ⟨Nat.le_of_ble_eq_true rfl, Nat.le_of_ble_eq_true rfl⟩ ⟨Nat.zero_le _, Nat.zero_le _⟩ hP hD hS hl.1 rfl rfl (Nat.le_of_ble_eq_true rfl) dX3_takeTrial_26 (fun H locs hP hD hS => ?_)
      have hP : va_P D vwCl (cw ad cI X sd (va_cpy ft g ((z * 9 + j) * 22) ((z * 9 + j) * 22) 22) ft fm τ ta lp lr) H := hP
      have hD : va_D (cm_A (cw ad cI X sd fn ft fm σ ta lp lr)) (cw ad cI X sd (va_cpy ft g ((z * 9 + j) * 22) ((z * 9 + j) * 22) 22) ft fm τ ta lp lr) := hD
      refine lv_aload_n C.1 C.2.1 dX3_takeTrial_29 rfl (lv_at hl 2 rfl) ?_
      refine lv_iload_n C.1 C.2.1 dX3_takeTrial_30 rfl (lv_at hl 0 rfl) ?_
      refine cm_cV0 (q0 := 0) 1 C (k_X3_write l D cI cZ cJ ad X sd (va_cpy ft g ((z * 9 + j) * 22) ((z * 9 + j) * 22) 22) ft fm τ ta lp lr (hτ) ((z * 9 + j)) (by omega)) tw_244 tw_246 ts_6 tw_1 tw_247 rfl rfl (rfl) rfl (by decide +kernel) ⟨Nat.le_of_ble_eq_true rfl, Nat.le_of_ble_eq_true rfl⟩ ⟨Nat.zero_le _, Nat.zero_le _⟩ hP hD hS hl.1 rfl rfl (Nat.le_of_ble_eq_true rfl) dX3_takeTrial_31 (fun H locs hP hD hS => ?_)
      refine lv_iinc (v := nI (j + 1)) (lv' := [(1, _), (2, _), (0, _)]) C.1 C.2.1 dX3_takeTrial_34 hl (k := 1) rfl (nI_1 j) (by decide) rfl (fun ls hl => ?_)
      refine lv_goto (tgt := 2) C.1 C.2.1 dX3_takeTrial_37 (by decide) ?_
      exact ih (j + 1) (va_cpy ft g ((z * 9 + j) * 22) ((z * 9 + j) * 22) 22) (wr (va_cpy ft g ((z * 9 + j) * 22) ((z * 9 + j) * 22) 22) (z * 9 + j) τ) (by omega) (wr_ok hτ (by omega)) ls H locs (lv_sub hl [0, 2] rfl) hP hD hS
  exact loop 9 0 fn σ rfl hσ ls H locs hl hP hD hS
set_option maxHeartbeats 4000000 in
set_option maxRecDepth 100000 in
/-- recover -/
theorem k_X3_recover (l : Launch) (D : va_G) (cI cZ cJ : ClassId) (ad : Nat → Nat) (X : va_W) (sd fn ft fm : Nat → Int32) (σ : WS) (ta lp lr : Int32) (t9 : Nat) (hm : mOk (va_cpy σ.1 fm 418 0 22) t9) : CM l D (cm_T cI cZ cJ) yX3_recover cX3_recover 2 none (cm_rm 3 87) [.ref (ad 0)] (cw ad cI X sd fn ft fm σ ta lp lr) none (cw ad cI X sd (cpN (upd (fillN (va_cpy σ.1 fm 418 0 22) 0 t9 σ.1) 418 (nI 0)) 0 20 fn) ft (va_cpy σ.1 fm 418 0 22) ((upd (fillN (va_cpy σ.1 fm 418 0 22) 0 t9 σ.1) 418 (nI 0)), σ.2.1, σ.2.2.1, σ.2.2.2.1, σ.2.2.2.2) ta lp (nI t9)) := by
  refine CM.of (by decide) (Nat.le_of_ble_eq_true rfl) ?_
  intro p e s m below meth c ls H locs C hl hP hD hS
  refine lv_aload_n C.1 C.2.1 dX3_recover_0 rfl (lv_at hl 0 rfl) ?_
  refine va_get (ci := 3) (C := RX3) (T := TX3) (N := 10) C.1 C.2.1 C.2.2.2.2.2.1 ui_X3 C.2.2.2.2.1 C.2.2.2.2.2.2.2.1 hP 0 (rfl) rfl 5 (by decide) (C.2.2.2.2.2.1 _ tw_66) (fun _ h9 => h9) rfl dX3_recover_1 ?_
  refine lv_aload_n C.1 C.2.1 dX3_recover_4 rfl (lv_at hl 0 rfl) ?_
  refine va_get (ci := 3) (C := RX3) (T := TX3) (N := 10) C.1 C.2.1 C.2.2.2.2.2.1 ui_X3 C.2.2.2.2.1 C.2.2.2.2.2.2.2.1 hP 0 (rfl) rfl 2 (by decide) (C.2.2.2.2.2.1 _ tw_63) (fun _ h9 => h9) rfl dX3_recover_5 ?_
  refine cm_cV0 (q0 := 11) 1 C (k_X1_takeJournal l D cI cZ cJ (cw ad cI X sd fn ft fm σ ta lp lr) (qM := 11) (qN := 12) rfl rfl (qI := 4) (qA := 5) rfl rfl) tw_419 tw_420 tw_421 tw_4 tw_422 rfl rfl (rfl) rfl (by decide +kernel) ⟨Nat.le_of_ble_eq_true rfl, Nat.le_of_ble_eq_true rfl⟩ ⟨Nat.zero_le _, Nat.zero_le _⟩ hP hD hS hl.1 rfl rfl (Nat.le_of_ble_eq_true rfl) dX3_recover_8 (fun H locs hP hD hS => ?_)
  have hP : va_P D vwCl (cw ad cI X sd fn ft (va_cpy σ.1 fm 418 0 22) σ ta lp lr) H := hP
  have hD : va_D (cm_A (cw ad cI X sd fn ft fm σ ta lp lr)) (cw ad cI X sd fn ft (va_cpy σ.1 fm 418 0 22) σ ta lp lr) := hD
  refine lv_aload_n C.1 C.2.1 dX3_recover_11 rfl (lv_at hl 0 rfl) ?_
  refine va_get (ci := 3) (C := RX3) (T := TX3) (N := 10) C.1 C.2.1 C.2.2.2.2.2.1 ui_X3 C.2.2.2.2.1 C.2.2.2.2.2.2.2.1 hP 0 (rfl) rfl 2 (by decide) (C.2.2.2.2.2.1 _ tw_63) (fun _ h9 => h9) rfl dX3_recover_12 ?_
  refine lv_aload_n C.1 C.2.1 dX3_recover_15 rfl (lv_at hl 0 rfl) ?_
  refine va_get (ci := 3) (C := RX3) (T := TX3) (N := 10) C.1 C.2.1 C.2.2.2.2.2.1 ui_X3 C.2.2.2.2.1 C.2.2.2.2.2.2.2.1 hP 0 (rfl) rfl 5 (by decide) (C.2.2.2.2.2.1 _ tw_66) (fun _ h9 => h9) rfl dX3_recover_16 ?_
  refine cm_cV0 (q0 := 4) 1 C (k_X0_fillAll l D cI cZ cJ (cw ad cI X sd fn ft (va_cpy σ.1 fm 418 0 22) σ ta lp lr) (qI := 4) (qA := 5) rfl rfl (by decide) (qM := 11) (qN := 12) rfl rfl (by decide) (by decide) t9 hm) tw_209 tw_210 tw_211 tw_2 tw_212 rfl rfl (rfl) rfl (by decide +kernel) ⟨Nat.le_of_ble_eq_true rfl, Nat.le_of_ble_eq_true rfl⟩ ⟨Nat.zero_le _, Nat.zero_le _⟩ hP hD hS hl.1 rfl rfl (Nat.le_of_ble_eq_true rfl) dX3_recover_19 (fun H locs hP hD hS => ?_)
  have hP : va_P D vwCl (cw ad cI X sd fn ft (va_cpy σ.1 fm 418 0 22) ((fillN (va_cpy σ.1 fm 418 0 22) 0 t9 σ.1), σ.2.1, σ.2.2.1, σ.2.2.2.1, σ.2.2.2.2) ta lp lr) H := hP
  have hD : va_D (cm_A (cw ad cI X sd fn ft fm σ ta lp lr)) (cw ad cI X sd fn ft (va_cpy σ.1 fm 418 0 22) ((fillN (va_cpy σ.1 fm 418 0 22) 0 t9 σ.1), σ.2.1, σ.2.2.1, σ.2.2.2.1, σ.2.2.2.2) ta lp lr) := hD
  refine lv_aload_n C.1 C.2.1 dX3_recover_22 rfl (lv_at hl 0 rfl) ?_
  refine va_get (ci := 3) (C := RX3) (T := TX3) (N := 10) C.1 C.2.1 C.2.2.2.2.2.1 ui_X3 C.2.2.2.2.1 C.2.2.2.2.2.2.2.1 hP 0 (rfl) rfl 2 (by decide) (C.2.2.2.2.2.1 _ tw_63) (fun _ h9 => h9) rfl dX3_recover_23 ?_
  refine cm_cV0 (q0 := 4) 0 C (k_X0_emptyJournal l D cI cZ cJ (cw ad cI X sd fn ft (va_cpy σ.1 fm 418 0 22) ((fillN (va_cpy σ.1 fm 418 0 22) 0 t9 σ.1), σ.2.1, σ.2.2.1, σ.2.2.2.1, σ.2.2.2.2) ta lp lr) (qI := 4) (qA := 5) rfl rfl) tw_279 tw_280 tw_281 tw_2 tw_282 rfl rfl (rfl) rfl (by decide +kernel) ⟨Nat.le_of_ble_eq_true rfl, Nat.le_of_ble_eq_true rfl⟩ ⟨Nat.zero_le _, Nat.zero_le _⟩ hP hD hS hl.1 rfl rfl (Nat.le_of_ble_eq_true rfl) dX3_recover_26 (fun H locs hP hD hS => ?_)
  have hP : va_P D vwCl (cw ad cI X sd fn ft (va_cpy σ.1 fm 418 0 22) ((upd (fillN (va_cpy σ.1 fm 418 0 22) 0 t9 σ.1) 418 (nI 0)), σ.2.1, σ.2.2.1, σ.2.2.2.1, σ.2.2.2.2) ta lp lr) H := hP
  have hD : va_D (cm_A (cw ad cI X sd fn ft fm σ ta lp lr)) (cw ad cI X sd fn ft (va_cpy σ.1 fm 418 0 22) ((upd (fillN (va_cpy σ.1 fm 418 0 22) 0 t9 σ.1) 418 (nI 0)), σ.2.1, σ.2.2.1, σ.2.2.2.1, σ.2.2.2.2) ta lp lr) := hD
  refine lv_aload_n C.1 C.2.1 dX3_recover_29 rfl (lv_at hl 0 rfl) ?_
  refine lv_aload_n C.1 C.2.1 dX3_recover_30 rfl (lv_at hl 0 rfl) ?_
  refine va_get (ci := 3) (C := RX3) (T := TX3) (N := 10) C.1 C.2.1 C.2.2.2.2.2.1 ui_X3 C.2.2.2.2.1 C.2.2.2.2.2.2.2.1 hP 0 (rfl) rfl 5 (by decide) (C.2.2.2.2.2.1 _ tw_66) (fun _ h9 => h9) rfl dX3_recover_31 ?_
  refine cm_cV1 (q0 := 11) 0 C (k_X1_size l D cI cZ cJ (cw ad cI X sd fn ft (va_cpy σ.1 fm 418 0 22) ((upd (fillN (va_cpy σ.1 fm 418 0 22) 0 t9 σ.1) 418 (nI 0)), σ.2.1, σ.2.2.1, σ.2.2.2.1, σ.2.2.2.2) ta lp lr) (qM := 11) (qN := 12) rfl rfl) tw_273 tw_151 tw_152 tw_4 tw_153 rfl rfl (rfl) rfl (by decide +kernel) ⟨Nat.le_of_ble_eq_true rfl, Nat.le_of_ble_eq_true rfl⟩ ⟨Nat.zero_le _, Nat.zero_le _⟩ hP hD hS hl.1 rfl rfl (Nat.le_of_ble_eq_true rfl) dX3_recover_34 (fun H locs hP hD hS => ?_)
  rw [hm.2.1]
  refine va_put (ci := 3) (C := RX3) (T := TX3) (N := 10) (ty := .int) C.1 C.2.1 C.2.2.2.2.2.1 ui_X3 tyX3 tyX3_ok nmX3 C.2.2.2.2.1 C.2.2.2.2.2.2.2.1 hP hD hS 0 (rfl) rfl 9 (by decide) (C.2.2.2.2.2.1 _ tw_70) (fun _ h9 => h9) rfl (by decide +kernel) rfl rfl (Nat.le_of_ble_eq_true rfl) dX3_recover_37 (fun H locs hP hD hS => ?_)
  refine lv_iconst (v := nI 0) C.1 C.2.1 dX3_recover_40 (by decide +kernel) ?_
  refine lv_istore_n (lv' := [(1, _), (0, _)]) C.1 C.2.1 dX3_recover_41 rfl hl (by decide) rfl (fun ls hl => ?_)
  have hP : va_P D vwCl (cw ad cI X sd fn ft (va_cpy σ.1 fm 418 0 22) ((upd (fillN (va_cpy σ.1 fm 418 0 22) 0 t9 σ.1) 418 (nI 0)), σ.2.1, σ.2.2.1, σ.2.2.2.1, σ.2.2.2.2) ta lp (nI t9)) H := hP
  have hD : va_D (cm_A (cw ad cI X sd fn ft fm σ ta lp lr)) (cw ad cI X sd fn ft (va_cpy σ.1 fm 418 0 22) ((upd (fillN (va_cpy σ.1 fm 418 0 22) 0 t9 σ.1) 418 (nI 0)), σ.2.1, σ.2.2.1, σ.2.2.2.1, σ.2.2.2.2) ta lp (nI t9)) := hD
  have loop : ∀ (k j : Nat) (g : Nat → Int32), j + k = 20 → ∀ (ls : Array Slot) (H : Heap) (locs : List Loc), lv_has ls 2 [(1, .int (nI j)), (0, .ref (ad 0))] → va_P D vwCl (cw ad cI X sd g ft (va_cpy σ.1 fm 418 0 22) ((upd (fillN (va_cpy σ.1 fm 418 0 22) 0 t9 σ.1) 418 (nI 0)), σ.2.1, σ.2.2.1, σ.2.2.2.1, σ.2.2.2.2) ta lp (nI t9)) H → va_D (cm_A (cw ad cI X sd fn ft fm σ ta lp lr)) (cw ad cI X sd g ft (va_cpy σ.1 fm 418 0 22) ((upd (fillN (va_cpy σ.1 fm 418 0 22) 0 t9 σ.1) 418 (nI 0)), σ.2.1, σ.2.2.1, σ.2.2.2.1, σ.2.2.2.2) ta lp (nI t9)) → va_S (cm_A (cw ad cI X sd fn ft fm σ ta lp lr)) s.heap H locs → W p l e (cm_rm 3 87) s m ([.ref (ad 0)] : List Value).toArray below meth c H locs 0 0 (cm_Q below D [.ref (ad 0)] s (cw ad cI X sd fn ft fm σ ta lp lr) none (cw ad cI X sd (cpN (upd (fillN (va_cpy σ.1 fm 418 0 22) 0 t9 σ.1) 418 (nI 0)) j k g) ft (va_cpy σ.1 fm 418 0 22) ((upd (fillN (va_cpy σ.1 fm 418 0 22) 0 t9 σ.1) 418 (nI 0)), σ.2.1, σ.2.2.1, σ.2.2.2.1, σ.2.2.2.2) ta lp (nI t9))) (F0 m 42 ls []) := by
    intro k
    induction k with
    | zero =>
      intro j g hj ls H locs hl hP hD hS
      refine lv_iload_n C.1 C.2.1 dX3_recover_42 rfl (lv_at hl 0 rfl) ?_
      refine lv_bipush (v := nI 20) C.1 C.2.1 dX3_recover_43 (by decide +kernel) ?_
      refine lv_icmp_ge (tgt := 66) C.1 C.2.1 dX3_recover_45 (by decide) (fun _ => ?_) (fun h => absurd (nI_le (by omega) (by omega)) h)
      exact cm_vret C hP hD hS dX3_recover_66 rfl
    | succ k ih =>
      intro j g hj ls H locs hl hP hD hS
      refine lv_iload_n C.1 C.2.1 dX3_recover_42 rfl (lv_at hl 0 rfl) ?_
      refine lv_bipush (v := nI 20) C.1 C.2.1 dX3_recover_43 (by decide +kernel) ?_
      refine lv_icmp_ge (tgt := 66) C.1 C.2.1 dX3_recover_45 (by decide) (fun h => absurd h (nI_ge (by omega) (by decide))) (fun _ => ?_)
      refine lv_aload_n C.1 C.2.1 dX3_recover_48 rfl (lv_at hl 1 rfl) ?_
      refine va_get (ci := 3) (C := RX3) (T := TX3) (N := 10) C.1 C.2.1 C.2.2.2.2.2.1 ui_X3 C.2.2.2.2.1 C.2.2.2.2.2.2.2.1 hP 0 (rfl) rfl 1 (by decide) (C.2.2.2.2.2.1 _ tw_62) (fun _ h9 => h9) rfl dX3_recover_49 ?_
      refine lv_aload_n C.1 C.2.1 dX3_recover_52 rfl (lv_at hl 1 rfl) ?_
      refine va_get (ci := 3) (C := RX3) (T := TX3) (N := 10) C.1 C.2.1 C.2.2.2.2.2.1 ui_X3 C.2.2.2.2.1 C.2.2.2.2.2.2.2.1 hP 0 (rfl) rfl 2 (by decide) (C.2.2.2.2.2.1 _ tw_63) (fun _ h9 => h9) rfl dX3_recover_53 ?_
      refine lv_iload_n C.1 C.2.1 dX3_recover_56 rfl (lv_at hl 0 rfl) ?_
      refine cm_cV0 (q0 := 2) 2 C (k_X0_takeRow l D cI cZ cJ (cw ad cI X sd g ft (va_cpy σ.1 fm 418 0 22) ((upd (fillN (va_cpy σ.1 fm 418 0 22) 0 t9 σ.1) 418 (nI 0)), σ.2.1, σ.2.2.1, σ.2.2.2.1, σ.2.2.2.2) ta lp (nI t9)) (qI := 2) (qA := 3) rfl rfl (qJ := 4) (qB := 5) rfl rfl j (by omega)) tw_234 tw_235 tw_236 tw_2 tw_237 rfl rfl (rfl) rfl (by decide +kernel) ⟨Nat.le_of_ble_eq_true rfl, Nat.le_of_ble_eq_true rfl⟩ ⟨Nat.zero_le _, Nat.zero_le _⟩ hP hD hS hl.1 rfl rfl (Nat.le_of_ble_eq_true rfl) dX3_recover_57 (fun H locs hP hD hS => ?_)
      have hP : va_P D vwCl (cw ad cI X sd (va_cpy (upd (fillN (va_cpy σ.1 fm 418 0 22) 0 t9 σ.1) 418 (nI 0)) g (j * 22) (j * 22) 22) ft (va_cpy σ.1 fm 418 0 22) ((upd (fillN (va_cpy σ.1 fm 418 0 22) 0 t9 σ.1) 418 (nI 0)), σ.2.1, σ.2.2.1, σ.2.2.2.1, σ.2.2.2.2) ta lp (nI t9)) H := hP
      have hD : va_D (cm_A (cw ad cI X sd fn ft fm σ ta lp lr)) (cw ad cI X sd (va_cpy (upd (fillN (va_cpy σ.1 fm 418 0 22) 0 t9 σ.1) 418 (nI 0)) g (j * 22) (j * 22) 22) ft (va_cpy σ.1 fm 418 0 22) ((upd (fillN (va_cpy σ.1 fm 418 0 22) 0 t9 σ.1) 418 (nI 0)), σ.2.1, σ.2.2.1, σ.2.2.2.1, σ.2.2.2.2) ta lp (nI t9)) := hD
      refine lv_iinc (v := nI (j + 1)) (lv' := [(1, _), (0, _)]) C.1 C.2.1 dX3_recover_60 hl (k := 0) rfl (nI_1 j) (by decide) rfl (fun ls hl => ?_)
      refine lv_goto (tgt := 42) C.1 C.2.1 dX3_recover_63 (by decide) ?_
      exact ih (j + 1) (va_cpy (upd (fillN (va_cpy σ.1 fm 418 0 22) 0 t9 σ.1) 418 (nI 0)) g (j * 22) (j * 22) 22) (by omega) ls H locs hl hP hD hS
  exact loop 20 0 fn rfl ls H locs hl hP hD hS
end
section
/-! ===== what is asked: has, get, home, reads, allKeys; remove, sync ===== -/
def rdS (u : Nat → Bool) (k : Nat → Int32) (s key : Int32) : Int32 := match findS u k s key with
  | none => nI 3
  | some i => if i / 4 = 8 then nI 3 else if i / 4 = hm1 s key then nI 1 else nI 2
def allN (f : Nat → Int32) (z : Nat) : Nat → Nat → Nat
  | _, 0 => 0
  | j, k + 1 => cnt (fun i => !emP f (z * 9 + j) i) 0 4 + allN f z (j + 1) k
set_option maxHeartbeats 4000000 in
set_option maxRecDepth 100000 in
/-- has -/
theorem k_X3_has (l : Launch) (D : va_G) (cI cZ cJ : ClassId) (ad : Nat → Nat) (X : va_W) (sd fn ft fm : Nat → Int32) (σ : WS) (ta lp lr : Int32) (z y9 : Nat) (hz0 : z < 2) (hy0 : y9 < 4) (hz : fn 396 = nI z) (hy : fn 397 = nI y9)  (key : Int32) : CM l D (cm_T cI cZ cJ) yX3_has cX3_has 2 (some .boolean) (cm_rm 4 87) [.ref (ad 0), .int key] (cw ad cI X sd fn ft fm σ ta lp lr) (some (.int (bI (findS (uR fn z) (kR fn z) (sd y9) key).isSome))) (cw ad cI X sd fn ft fm σ ta lp lr) := by
  refine CM.of (by decide) (Nat.le_of_ble_eq_true rfl) ?_
  intro p e s m below meth c ls H locs C hl hP hD hS
  cases ef : findS (uR fn z) (kR fn z) (sd y9) key with
  | none =>
    refine lv_aload_n C.1 C.2.1 dX3_has_0 rfl (lv_at hl 0 rfl) ?_
    refine va_get (ci := 3) (C := RX3) (T := TX3) (N := 10) C.1 C.2.1 C.2.2.2.2.2.1 ui_X3 C.2.2.2.2.1 C.2.2.2.2.2.2.2.1 hP 0 (rfl) rfl 1 (by decide) (C.2.2.2.2.2.1 _ tw_62) (fun _ h9 => h9) rfl dX3_has_1 ?_
    refine lv_aload_n C.1 C.2.1 dX3_has_4 rfl (lv_at hl 0 rfl) ?_
    refine lv_aload_n C.1 C.2.1 dX3_has_5 rfl (lv_at hl 0 rfl) ?_
    refine va_get (ci := 3) (C := RX3) (T := TX3) (N := 10) C.1 C.2.1 C.2.2.2.2.2.1 ui_X3 C.2.2.2.2.1 C.2.2.2.2.2.2.2.1 hP 0 (rfl) rfl 1 (by decide) (C.2.2.2.2.2.1 _ tw_62) (fun _ h9 => h9) rfl dX3_has_6 ?_
    refine cm_cV1 (q0 := 0) 1 C (k_X3_seedInUse l D cI cZ cJ (cw ad cI X sd fn ft fm σ ta lp lr) (qO := 0) rfl (qS := 1) rfl (qI := 2) (qA := 3) rfl rfl y9 hy0 hy) tw_96 tw_98 ts_0 tw_1 tw_99 rfl rfl (rfl) rfl (by decide +kernel) ⟨Nat.le_of_ble_eq_true rfl, Nat.le_of_ble_eq_true rfl⟩ ⟨Nat.zero_le _, Nat.zero_le _⟩ hP hD hS hl.1 rfl rfl (Nat.le_of_ble_eq_true rfl) dX3_has_9 (fun H locs hP hD hS => ?_)
    refine lv_iload_n C.1 C.2.1 dX3_has_12 rfl (lv_at hl 1 rfl) ?_
    refine cm_cS1 3 C (k_X3_find l D cI cZ cJ (cw ad cI X sd fn ft fm σ ta lp lr) (qI := 2) (qA := 3) rfl rfl z hz0 hz (sd y9) key) tw_111 tw_112 tw_1 tw_113 rfl rfl (by decide +kernel) ⟨Nat.le_of_ble_eq_true rfl, Nat.le_of_ble_eq_true rfl⟩ ⟨Nat.zero_le _, Nat.zero_le _⟩ hP hD hS hl.1 rfl rfl (Nat.le_of_ble_eq_true rfl) dX3_has_13 (fun H locs hP hD hS => ?_)
    rw [ef, optA_none]
    refine lv_iconst (v := (-1)) C.1 C.2.1 dX3_has_16 (by decide +kernel) ?_
    refine lv_icmp_eq (tgt := 24) C.1 C.2.1 dX3_has_17 (by decide) (fun _ => ?_) (fun h => absurd (rfl) h)
    refine lv_iconst (v := nI 0) C.1 C.2.1 dX3_has_24 (by decide +kernel) ?_
    exact cm_zret C hP hD hS dX3_has_25 (by decide +kernel) (rfl) (rfl)
  | some i9 =>
    have q3 := (findS_lt ef).1
    refine lv_aload_n C.1 C.2.1 dX3_has_0 rfl (lv_at hl 0 rfl) ?_
    refine va_get (ci := 3) (C := RX3) (T := TX3) (N := 10) C.1 C.2.1 C.2.2.2.2.2.1 ui_X3 C.2.2.2.2.1 C.2.2.2.2.2.2.2.1 hP 0 (rfl) rfl 1 (by decide) (C.2.2.2.2.2.1 _ tw_62) (fun _ h9 => h9) rfl dX3_has_1 ?_
    refine lv_aload_n C.1 C.2.1 dX3_has_4 rfl (lv_at hl 0 rfl) ?_
    refine lv_aload_n C.1 C.2.1 dX3_has_5 rfl (lv_at hl 0 rfl) ?_
    refine va_get (ci := 3) (C := RX3) (T := TX3) (N := 10) C.1 C.2.1 C.2.2.2.2.2.1 ui_X3 C.2.2.2.2.1 C.2.2.2.2.2.2.2.1 hP 0 (rfl) rfl 1 (by decide) (C.2.2.2.2.2.1 _ tw_62) (fun _ h9 => h9) rfl dX3_has_6 ?_
    refine cm_cV1 (q0 := 0) 1 C (k_X3_seedInUse l D cI cZ cJ (cw ad cI X sd fn ft fm σ ta lp lr) (qO := 0) rfl (qS := 1) rfl (qI := 2) (qA := 3) rfl rfl y9 hy0 hy) tw_96 tw_98 ts_0 tw_1 tw_99 rfl rfl (rfl) rfl (by decide +kernel) ⟨Nat.le_of_ble_eq_true rfl, Nat.le_of_ble_eq_true rfl⟩ ⟨Nat.zero_le _, Nat.zero_le _⟩ hP hD hS hl.1 rfl rfl (Nat.le_of_ble_eq_true rfl) dX3_has_9 (fun H locs hP hD hS => ?_)
    refine lv_iload_n C.1 C.2.1 dX3_has_12 rfl (lv_at hl 1 rfl) ?_
    refine cm_cS1 3 C (k_X3_find l D cI cZ cJ (cw ad cI X sd fn ft fm σ ta lp lr) (qI := 2) (qA := 3) rfl rfl z hz0 hz (sd y9) key) tw_111 tw_112 tw_1 tw_113 rfl rfl (by decide +kernel) ⟨Nat.le_of_ble_eq_true rfl, Nat.le_of_ble_eq_true rfl⟩ ⟨Nat.zero_le _, Nat.zero_le _⟩ hP hD hS hl.1 rfl rfl (Nat.le_of_ble_eq_true rfl) dX3_has_13 (fun H locs hP hD hS => ?_)
    rw [ef, optA_some]
    refine lv_iconst (v := (-1)) C.1 C.2.1 dX3_has_16 (by decide +kernel) ?_
    refine lv_icmp_eq (tgt := 24) C.1 C.2.1 dX3_has_17 (by decide) (fun h => absurd h (nI_m1 (by omega))) (fun _ => ?_)
    refine lv_iconst (v := nI 1) C.1 C.2.1 dX3_has_20 (by decide +kernel) ?_
    refine lv_goto (tgt := 25) C.1 C.2.1 dX3_has_21 (by decide) ?_
    exact cm_zret C hP hD hS dX3_has_25 (by decide +kernel) (rfl) (rfl)
set_option maxHeartbeats 4000000 in
set_option maxRecDepth 100000 in
/-- get -/
theorem k_X3_get (l : Launch) (D : va_G) (cI cZ cJ : ClassId) (ad : Nat → Nat) (X : va_W) (sd fn ft fm : Nat → Int32) (σ : WS) (ta lp lr : Int32) (z y9 : Nat) (hz0 : z < 2) (hy0 : y9 < 4) (hz : fn 396 = nI z) (hy : fn 397 = nI y9)  (key : Int32) : CM l D (cm_T cI cZ cJ) yX3_get cX3_get 3 (some .int) (cm_rm 4 87) [.ref (ad 0), .int key] (cw ad cI X sd fn ft fm σ ta lp lr) (some (.int (match findS (uR fn z) (kR fn z) (sd y9) key with | none => nI 0 | some i => vR fn z i))) (cw ad cI X sd fn ft fm σ ta lp lr) := by
  refine CM.of (by decide) (Nat.le_of_ble_eq_true rfl) ?_
  intro p e s m below meth c ls H locs C hl hP hD hS
  cases ef : findS (uR fn z) (kR fn z) (sd y9) key with
  | none =>
    refine lv_aload_n C.1 C.2.1 dX3_get_0 rfl (lv_at hl 0 rfl) ?_
    refine va_get (ci := 3) (C := RX3) (T := TX3) (N := 10) C.1 C.2.1 C.2.2.2.2.2.1 ui_X3 C.2.2.2.2.1 C.2.2.2.2.2.2.2.1 hP 0 (rfl) rfl 1 (by decide) (C.2.2.2.2.2.1 _ tw_62) (fun _ h9 => h9) rfl dX3_get_1 ?_
    refine lv_aload_n C.1 C.2.1 dX3_get_4 rfl (lv_at hl 0 rfl) ?_
    refine lv_aload_n C.1 C.2.1 dX3_get_5 rfl (lv_at hl 0 rfl) ?_
    refine va_get (ci := 3) (C := RX3) (T := TX3) (N := 10) C.1 C.2.1 C.2.2.2.2.2.1 ui_X3 C.2.2.2.2.1 C.2.2.2.2.2.2.2.1 hP 0 (rfl) rfl 1 (by decide) (C.2.2.2.2.2.1 _ tw_62) (fun _ h9 => h9) rfl dX3_get_6 ?_
    refine cm_cV1 (q0 := 0) 1 C (k_X3_seedInUse l D cI cZ cJ (cw ad cI X sd fn ft fm σ ta lp lr) (qO := 0) rfl (qS := 1) rfl (qI := 2) (qA := 3) rfl rfl y9 hy0 hy) tw_96 tw_98 ts_0 tw_1 tw_99 rfl rfl (rfl) rfl (by decide +kernel) ⟨Nat.le_of_ble_eq_true rfl, Nat.le_of_ble_eq_true rfl⟩ ⟨Nat.zero_le _, Nat.zero_le _⟩ hP hD hS hl.1 rfl rfl (Nat.le_of_ble_eq_true rfl) dX3_get_9 (fun H locs hP hD hS => ?_)
    refine lv_iload_n C.1 C.2.1 dX3_get_12 rfl (lv_at hl 1 rfl) ?_
    refine cm_cS1 3 C (k_X3_find l D cI cZ cJ (cw ad cI X sd fn ft fm σ ta lp lr) (qI := 2) (qA := 3) rfl rfl z hz0 hz (sd y9) key) tw_111 tw_112 tw_1 tw_113 rfl rfl (by decide +kernel) ⟨Nat.le_of_ble_eq_true rfl, Nat.le_of_ble_eq_true rfl⟩ ⟨Nat.zero_le _, Nat.zero_le _⟩ hP hD hS hl.1 rfl rfl (Nat.le_of_ble_eq_true rfl) dX3_get_13 (fun H locs hP hD hS => ?_)
    rw [ef, optA_none]
    refine lv_istore_n (lv' := [(2, _), (0, _), (1, _)]) C.1 C.2.1 dX3_get_16 rfl hl (by decide) rfl (fun ls hl => ?_)
    refine lv_iload_n C.1 C.2.1 dX3_get_17 rfl (lv_at hl 0 rfl) ?_
    refine lv_iconst (v := (-1)) C.1 C.2.1 dX3_get_18 (by decide +kernel) ?_
    refine lv_icmp_ne (tgt := 26) C.1 C.2.1 dX3_get_19 (by decide) (fun h => absurd (rfl) h) (fun _ => ?_)
    refine lv_iconst (v := nI 0) C.1 C.2.1 dX3_get_22 (by decide +kernel) ?_
    refine lv_goto (tgt := 34) C.1 C.2.1 dX3_get_23 (by decide) ?_
    exact cm_iret C hP hD hS dX3_get_34 (rfl) (rfl)
  | some i9 =>
    have q3 := (findS_lt ef).1
    refine lv_aload_n C.1 C.2.1 dX3_get_0 rfl (lv_at hl 0 rfl) ?_
    refine va_get (ci := 3) (C := RX3) (T := TX3) (N := 10) C.1 C.2.1 C.2.2.2.2.2.1 ui_X3 C.2.2.2.2.1 C.2.2.2.2.2.2.2.1 hP 0 (rfl) rfl 1 (by decide) (C.2.2.2.2.2.1 _ tw_62) (fun _ h9 => h9) rfl dX3_get_1 ?_
    refine lv_aload_n C.1 C.2.1 dX3_get_4 rfl (lv_at hl 0 rfl) ?_
    refine lv_aload_n C.1 C.2.1 dX3_get_5 rfl (lv_at hl 0 rfl) ?_
    refine va_get (ci := 3) (C := RX3) (T := TX3) (N := 10) C.1 C.2.1 C.2.2.2.2.2.1 ui_X3 C.2.2.2.2.1 C.2.2.2.2.2.2.2.1 hP 0 (rfl) rfl 1 (by decide) (C.2.2.2.2.2.1 _ tw_62) (fun _ h9 => h9) rfl dX3_get_6 ?_
    refine cm_cV1 (q0 := 0) 1 C (k_X3_seedInUse l D cI cZ cJ (cw ad cI X sd fn ft fm σ ta lp lr) (qO := 0) rfl (qS := 1) rfl (qI := 2) (qA := 3) rfl rfl y9 hy0 hy) tw_96 tw_98 ts_0 tw_1 tw_99 rfl rfl (rfl) rfl (by decide +kernel) ⟨Nat.le_of_ble_eq_true rfl, Nat.le_of_ble_eq_true rfl⟩ ⟨Nat.zero_le _, Nat.zero_le _⟩ hP hD hS hl.1 rfl rfl (Nat.le_of_ble_eq_true rfl) dX3_get_9 (fun H locs hP hD hS => ?_)
    refine lv_iload_n C.1 C.2.1 dX3_get_12 rfl (lv_at hl 1 rfl) ?_
    refine cm_cS1 3 C (k_X3_find l D cI cZ cJ (cw ad cI X sd fn ft fm σ ta lp lr) (qI := 2) (qA := 3) rfl rfl z hz0 hz (sd y9) key) tw_111 tw_112 tw_1 tw_113 rfl rfl (by decide +kernel) ⟨Nat.le_of_ble_eq_true rfl, Nat.le_of_ble_eq_true rfl⟩ ⟨Nat.zero_le _, Nat.zero_le _⟩ hP hD hS hl.1 rfl rfl (Nat.le_of_ble_eq_true rfl) dX3_get_13 (fun H locs hP hD hS => ?_)
    rw [ef, optA_some]
    refine lv_istore_n (lv' := [(2, _), (0, _), (1, _)]) C.1 C.2.1 dX3_get_16 rfl hl (by decide) rfl (fun ls hl => ?_)
    refine lv_iload_n C.1 C.2.1 dX3_get_17 rfl (lv_at hl 0 rfl) ?_
    refine lv_iconst (v := (-1)) C.1 C.2.1 dX3_get_18 (by decide +kernel) ?_
    refine lv_icmp_ne (tgt := 26) C.1 C.2.1 dX3_get_19 (by decide) (fun _ => ?_) (fun h => absurd h (nI_m1 (by omega)))
    refine lv_aload_n C.1 C.2.1 dX3_get_26 rfl (lv_at hl 1 rfl) ?_
    refine va_get (ci := 3) (C := RX3) (T := TX3) (N := 10) C.1 C.2.1 C.2.2.2.2.2.1 ui_X3 C.2.2.2.2.1 C.2.2.2.2.2.2.2.1 hP 0 (rfl) rfl 1 (by decide) (C.2.2.2.2.2.1 _ tw_62) (fun _ h9 => h9) rfl dX3_get_27 ?_
    refine lv_iload_n C.1 C.2.1 dX3_get_30 rfl (lv_at hl 0 rfl) ?_
    refine cm_cV1 (q0 := 2) 1 C (k_X0_valueAt l D cI cZ cJ (cw ad cI X sd fn ft fm σ ta lp lr) (qI := 2) (qA := 3) rfl rfl (36 * z + i9) (by omega)) tw_184 tw_185 tw_186 tw_2 tw_187 rfl rfl (rfl) rfl (by decide +kernel) ⟨Nat.le_of_ble_eq_true rfl, Nat.le_of_ble_eq_true rfl⟩ ⟨Nat.zero_le _, Nat.zero_le _⟩ hP hD hS hl.1 rfl rfl (Nat.le_of_ble_eq_true rfl) dX3_get_31 (fun H locs hP hD hS => ?_)
    exact cm_iret C hP hD hS dX3_get_34 (rfl) (rfl)
set_option maxHeartbeats 4000000 in
set_option maxRecDepth 100000 in
/-- remove -/
theorem k_X3_remove (l : Launch) (D : va_G) (cI cZ cJ : ClassId) (ad : Nat → Nat) (X : va_W) (sd fn ft fm : Nat → Int32) (σ : WS) (ta lp lr : Int32) (z y9 : Nat) (hz0 : z < 2) (hy0 : y9 < 4) (hz : fn 396 = nI z) (hy : fn 397 = nI y9) (hσ : sOk σ) (key : Int32) : CM l D (cm_T cI cZ cJ) yX3_remove cX3_remove 3 (some .boolean) (cm_rm 4 109) [.ref (ad 0), .int key] (cw ad cI X sd fn ft fm σ ta lp lr) (some (.int (bI (findS (uR fn z) (kR fn z) (sd y9) key).isSome))) (match findS (uR fn z) (kR fn z) (sd y9) key with | none => cw ad cI X sd fn ft fm σ ta lp lr | some i9 => cw ad cI X sd (emptyC fn (36 * z + i9)) ft fm (wr (emptyC fn (36 * z + i9)) (9 * z + i9 / 4) σ) ta lp lr) := by
  refine CM.of (by decide) (Nat.le_of_ble_eq_true rfl) ?_
  intro p e s m below meth c ls H locs C hl hP hD hS
  cases ef : findS (uR fn z) (kR fn z) (sd y9) key with
  | none =>
    refine lv_aload_n C.1 C.2.1 dX3_remove_0 rfl (lv_at hl 0 rfl) ?_
    refine va_get (ci := 3) (C := RX3) (T := TX3) (N := 10) C.1 C.2.1 C.2.2.2.2.2.1 ui_X3 C.2.2.2.2.1 C.2.2.2.2.2.2.2.1 hP 0 (rfl) rfl 1 (by decide) (C.2.2.2.2.2.1 _ tw_62) (fun _ h9 => h9) rfl dX3_remove_1 ?_
    refine lv_aload_n C.1 C.2.1 dX3_remove_4 rfl (lv_at hl 0 rfl) ?_
    refine lv_aload_n C.1 C.2.1 dX3_remove_5 rfl (lv_at hl 0 rfl) ?_
    refine va_get (ci := 3) (C := RX3) (T := TX3) (N := 10) C.1 C.2.1 C.2.2.2.2.2.1 ui_X3 C.2.2.2.2.1 C.2.2.2.2.2.2.2.1 hP 0 (rfl) rfl 1 (by decide) (C.2.2.2.2.2.1 _ tw_62) (fun _ h9 => h9) rfl dX3_remove_6 ?_
    refine cm_cV1 (q0 := 0) 1 C (k_X3_seedInUse l D cI cZ cJ (cw ad cI X sd fn ft fm σ ta lp lr) (qO := 0) rfl (qS := 1) rfl (qI := 2) (qA := 3) rfl rfl y9 hy0 hy) tw_96 tw_98 ts_0 tw_1 tw_99 rfl rfl (rfl) rfl (by decide +kernel) ⟨Nat.le_of_ble_eq_true rfl, Nat.le_of_ble_eq_true rfl⟩ ⟨Nat.zero_le _, Nat.zero_le _⟩ hP hD hS hl.1 rfl rfl (Nat.le_of_ble_eq_true rfl) dX3_remove_9 (fun H locs hP hD hS => ?_)
    refine lv_iload_n C.1 C.2.1 dX3_remove_12 rfl (lv_at hl 1 rfl) ?_
    refine cm_cS1 3 C (k_X3_find l D cI cZ cJ (cw ad cI X sd fn ft fm σ ta lp lr) (qI := 2) (qA := 3) rfl rfl z hz0 hz (sd y9) key) tw_111 tw_112 tw_1 tw_113 rfl rfl (by decide +kernel) ⟨Nat.le_of_ble_eq_true rfl, Nat.le_of_ble_eq_true rfl⟩ ⟨Nat.zero_le _, Nat.zero_le _⟩ hP hD hS hl.1 rfl rfl (Nat.le_of_ble_eq_true rfl) dX3_remove_13 (fun H locs hP hD hS => ?_)
    rw [ef, optA_none]
    refine lv_istore_n (lv' := [(2, _), (0, _), (1, _)]) C.1 C.2.1 dX3_remove_16 rfl hl (by decide) rfl (fun ls hl => ?_)
    refine lv_iload_n C.1 C.2.1 dX3_remove_17 rfl (lv_at hl 0 rfl) ?_
    refine lv_iconst (v := (-1)) C.1 C.2.1 dX3_remove_18 (by decide +kernel) ?_
    refine lv_icmp_ne (tgt := 24) C.1 C.2.1 dX3_remove_19 (by decide) (fun h => absurd (rfl) h) (fun _ => ?_)
    refine lv_iconst (v := nI 0) C.1 C.2.1 dX3_remove_22 (by decide +kernel) ?_
    exact cm_zret C hP hD hS dX3_remove_23 (by decide +kernel) (rfl) (rfl)
  | some i9 =>
    have q3 := (findS_lt ef).1
    refine lv_aload_n C.1 C.2.1 dX3_remove_0 rfl (lv_at hl 0 rfl) ?_
    refine va_get (ci := 3) (C := RX3) (T := TX3) (N := 10) C.1 C.2.1 C.2.2.2.2.2.1 ui_X3 C.2.2.2.2.1 C.2.2.2.2.2.2.2.1 hP 0 (rfl) rfl 1 (by decide) (C.2.2.2.2.2.1 _ tw_62) (fun _ h9 => h9) rfl dX3_remove_1 ?_
    refine lv_aload_n C.1 C.2.1 dX3_remove_4 rfl (lv_at hl 0 rfl) ?_
    refine lv_aload_n C.1 C.2.1 dX3_remove_5 rfl (lv_at hl 0 rfl) ?_
    refine va_get (ci := 3) (C := RX3) (T := TX3) (N := 10) C.1 C.2.1 C.2.2.2.2.2.1 ui_X3 C.2.2.2.2.1 C.2.2.2.2.2.2.2.1 hP 0 (rfl) rfl 1 (by decide) (C.2.2.2.2.2.1 _ tw_62) (fun _ h9 => h9) rfl dX3_remove_6 ?_
    refine cm_cV1 (q0 := 0) 1 C (k_X3_seedInUse l D cI cZ cJ (cw ad cI X sd fn ft fm σ ta lp lr) (qO := 0) rfl (qS := 1) rfl (qI := 2) (qA := 3) rfl rfl y9 hy0 hy) tw_96 tw_98 ts_0 tw_1 tw_99 rfl rfl (rfl) rfl (by decide +kernel) ⟨Nat.le_of_ble_eq_true rfl, Nat.le_of_ble_eq_true rfl⟩ ⟨Nat.zero_le _, Nat.zero_le _⟩ hP hD hS hl.1 rfl rfl (Nat.le_of_ble_eq_true rfl) dX3_remove_9 (fun H locs hP hD hS => ?_)
    refine lv_iload_n C.1 C.2.1 dX3_remove_12 rfl (lv_at hl 1 rfl) ?_
    refine cm_cS1 3 C (k_X3_find l D cI cZ cJ (cw ad cI X sd fn ft fm σ ta lp lr) (qI := 2) (qA := 3) rfl rfl z hz0 hz (sd y9) key) tw_111 tw_112 tw_1 tw_113 rfl rfl (by decide +kernel) ⟨Nat.le_of_ble_eq_true rfl, Nat.le_of_ble_eq_true rfl⟩ ⟨Nat.zero_le _, Nat.zero_le _⟩ hP hD hS hl.1 rfl rfl (Nat.le_of_ble_eq_true rfl) dX3_remove_13 (fun H locs hP hD hS => ?_)
    rw [ef, optA_some]
    refine lv_istore_n (lv' := [(2, _), (0, _), (1, _)]) C.1 C.2.1 dX3_remove_16 rfl hl (by decide) rfl (fun ls hl => ?_)
    refine lv_iload_n C.1 C.2.1 dX3_remove_17 rfl (lv_at hl 0 rfl) ?_
    refine lv_iconst (v := (-1)) C.1 C.2.1 dX3_remove_18 (by decide +kernel) ?_
    refine lv_icmp_ne (tgt := 24) C.1 C.2.1 dX3_remove_19 (by decide) (fun _ => ?_) (fun h => absurd h (nI_m1 (by omega)))
    refine lv_aload_n C.1 C.2.1 dX3_remove_24 rfl (lv_at hl 1 rfl) ?_
    refine va_get (ci := 3) (C := RX3) (T := TX3) (N := 10) C.1 C.2.1 C.2.2.2.2.2.1 ui_X3 C.2.2.2.2.1 C.2.2.2.2.2.2.2.1 hP 0 (rfl) rfl 1 (by decide) (C.2.2.2.2.2.1 _ tw_62) (fun _ h9 => h9) rfl dX3_remove_25 ?_
    refine lv_iload_n C.1 C.2.1 dX3_remove_28 rfl (lv_at hl 0 rfl) ?_
    refine cm_cV0 (q0 := 2) 1 C (k_X0_empty l D cI cZ cJ (cw ad cI X sd fn ft fm σ ta lp lr) (qI := 2) (qA := 3) rfl rfl (36 * z + i9) (by omega)) tw_295 tw_296 tw_297 tw_2 tw_298 rfl rfl (rfl) rfl (by decide +kernel) ⟨Nat.le_of_ble_eq_true rfl, Nat.le_of_ble_eq_true rfl⟩ ⟨Nat.zero_le _, Nat.zero_le _⟩ hP hD hS hl.1 rfl rfl (Nat.le_of_ble_eq_true rfl) dX3_remove_29 (fun H locs hP hD hS => ?_)
    have hP : va_P D vwCl (cw ad cI X sd (emptyC fn (36 * z + i9)) ft fm σ ta lp lr) H := hP
    have hD : va_D (cm_A (cw ad cI X sd fn ft fm σ ta lp lr)) (cw ad cI X sd (emptyC fn (36 * z + i9)) ft fm σ ta lp lr) := hD
    refine lv_aload_n C.1 C.2.1 dX3_remove_32 rfl (lv_at hl 1 rfl) ?_
    refine lv_iload_n C.1 C.2.1 dX3_remove_33 rfl (lv_at hl 0 rfl) ?_
    refine cm_cS1 1 C (c_rowOf l D cI cZ cJ (cw ad cI X sd (emptyC fn (36 * z + i9)) ft fm σ ta lp lr) (36 * z + i9) (by omega)) tw_278 tw_179 tw_1 tw_180 rfl rfl (by decide +kernel) ⟨Nat.le_of_ble_eq_true rfl, Nat.le_of_ble_eq_true rfl⟩ ⟨Nat.zero_le _, Nat.zero_le _⟩ hP hD hS hl.1 rfl rfl (Nat.le_of_ble_eq_true rfl) dX3_remove_34 (fun H locs hP hD hS => ?_)
    rw [show (36 * z + i9) / 4 = 9 * z + i9 / 4 by omega]
    refine cm_cV0 (q0 := 0) 1 C (k_X3_write l D cI cZ cJ ad X sd (emptyC fn (36 * z + i9)) ft fm σ ta lp lr (hσ) (9 * z + i9 / 4) (by omega)) tw_244 tw_246 ts_6 tw_1 tw_247 rfl rfl (rfl) rfl (by decide +kernel) ⟨Nat.le_of_ble_eq_true rfl, Nat.le_of_ble_eq_true rfl⟩ ⟨Nat.zero_le _, Nat.zero_le _⟩ hP hD hS hl.1 rfl rfl (Nat.le_of_ble_eq_true rfl) dX3_remove_37 (fun H locs hP hD hS => ?_)
    refine lv_iconst (v := nI 1) C.1 C.2.1 dX3_remove_40 (by decide +kernel) ?_
    exact cm_zret C hP hD hS dX3_remove_41 (by decide +kernel) (rfl) (rfl)
set_option maxHeartbeats 4000000 in
set_option maxRecDepth 100000 in
/-- home -/
theorem k_X3_home1 (l : Launch) (D : va_G) (cI cZ cJ : ClassId) (ad : Nat → Nat) (X : va_W) (sd fn ft fm : Nat → Int32) (σ : WS) (ta lp lr : Int32) (z y9 : Nat) (hz0 : z < 2) (hy0 : y9 < 4) (hz : fn 396 = nI z) (hy : fn 397 = nI y9) (key : Int32) : CM l D (cm_T cI cZ cJ) yX3_home cX3_home 3 (some .int) (cm_rm 3 65) [.ref (ad 0), .int key, .int (nI 0)] (cw ad cI X sd fn ft fm σ ta lp lr) (some (.int (nI (hm1 (sd y9) key)))) (cw ad cI X sd fn ft fm σ ta lp lr) := by
  refine CM.of (by decide) (Nat.le_of_ble_eq_true rfl) ?_
  intro p e s m below meth c ls H locs C hl hP hD hS
  refine lv_aload_n C.1 C.2.1 dX3_home_0 rfl (lv_at hl 0 rfl) ?_
  refine lv_aload_n C.1 C.2.1 dX3_home_1 rfl (lv_at hl 0 rfl) ?_
  refine va_get (ci := 3) (C := RX3) (T := TX3) (N := 10) C.1 C.2.1 C.2.2.2.2.2.1 ui_X3 C.2.2.2.2.1 C.2.2.2.2.2.2.2.1 hP 0 (rfl) rfl 1 (by decide) (C.2.2.2.2.2.1 _ tw_62) (fun _ h9 => h9) rfl dX3_home_2 ?_
  refine cm_cV1 (q0 := 0) 1 C (k_X3_seedInUse l D cI cZ cJ (cw ad cI X sd fn ft fm σ ta lp lr) (qO := 0) rfl (qS := 1) rfl (qI := 2) (qA := 3) rfl rfl y9 hy0 hy) tw_96 tw_98 ts_0 tw_1 tw_99 rfl rfl (rfl) rfl (by decide +kernel) ⟨Nat.le_of_ble_eq_true rfl, Nat.le_of_ble_eq_true rfl⟩ ⟨Nat.zero_le _, Nat.zero_le _⟩ hP hD hS hl.1 rfl rfl (Nat.le_of_ble_eq_true rfl) dX3_home_5 (fun H locs hP hD hS => ?_)
  refine lv_iload_n C.1 C.2.1 dX3_home_8 rfl (lv_at hl 1 rfl) ?_
  refine lv_iload_n C.1 C.2.1 dX3_home_9 rfl (lv_at hl 2 rfl) ?_
  refine cm_cS1 3 C (c_homeBy1 l D cI cZ cJ (cw ad cI X sd fn ft fm σ ta lp lr) (sd y9) key) tw_114 tw_115 tw_1 tw_116 rfl rfl (by decide +kernel) ⟨Nat.le_of_ble_eq_true rfl, Nat.le_of_ble_eq_true rfl⟩ ⟨Nat.zero_le _, Nat.zero_le _⟩ hP hD hS hl.1 rfl rfl (Nat.le_of_ble_eq_true rfl) dX3_home_10 (fun H locs hP hD hS => ?_)
  exact cm_iret C hP hD hS dX3_home_13 rfl rfl
set_option maxHeartbeats 4000000 in
set_option maxRecDepth 100000 in
/-- home -/
theorem k_X3_home2 (l : Launch) (D : va_G) (cI cZ cJ : ClassId) (ad : Nat → Nat) (X : va_W) (sd fn ft fm : Nat → Int32) (σ : WS) (ta lp lr : Int32) (z y9 : Nat) (hz0 : z < 2) (hy0 : y9 < 4) (hz : fn 396 = nI z) (hy : fn 397 = nI y9) (key : Int32) : CM l D (cm_T cI cZ cJ) yX3_home cX3_home 3 (some .int) (cm_rm 3 65) [.ref (ad 0), .int key, .int (nI 1)] (cw ad cI X sd fn ft fm σ ta lp lr) (some (.int (nI (hm2 (sd y9) key)))) (cw ad cI X sd fn ft fm σ ta lp lr) := by
  refine CM.of (by decide) (Nat.le_of_ble_eq_true rfl) ?_
  intro p e s m below meth c ls H locs C hl hP hD hS
  refine lv_aload_n C.1 C.2.1 dX3_home_0 rfl (lv_at hl 0 rfl) ?_
  refine lv_aload_n C.1 C.2.1 dX3_home_1 rfl (lv_at hl 0 rfl) ?_
  refine va_get (ci := 3) (C := RX3) (T := TX3) (N := 10) C.1 C.2.1 C.2.2.2.2.2.1 ui_X3 C.2.2.2.2.1 C.2.2.2.2.2.2.2.1 hP 0 (rfl) rfl 1 (by decide) (C.2.2.2.2.2.1 _ tw_62) (fun _ h9 => h9) rfl dX3_home_2 ?_
  refine cm_cV1 (q0 := 0) 1 C (k_X3_seedInUse l D cI cZ cJ (cw ad cI X sd fn ft fm σ ta lp lr) (qO := 0) rfl (qS := 1) rfl (qI := 2) (qA := 3) rfl rfl y9 hy0 hy) tw_96 tw_98 ts_0 tw_1 tw_99 rfl rfl (rfl) rfl (by decide +kernel) ⟨Nat.le_of_ble_eq_true rfl, Nat.le_of_ble_eq_true rfl⟩ ⟨Nat.zero_le _, Nat.zero_le _⟩ hP hD hS hl.1 rfl rfl (Nat.le_of_ble_eq_true rfl) dX3_home_5 (fun H locs hP hD hS => ?_)
  refine lv_iload_n C.1 C.2.1 dX3_home_8 rfl (lv_at hl 1 rfl) ?_
  refine lv_iload_n C.1 C.2.1 dX3_home_9 rfl (lv_at hl 2 rfl) ?_
  refine cm_cS1 3 C (c_homeBy2 l D cI cZ cJ (cw ad cI X sd fn ft fm σ ta lp lr) (sd y9) key) tw_114 tw_115 tw_1 tw_116 rfl rfl (by decide +kernel) ⟨Nat.le_of_ble_eq_true rfl, Nat.le_of_ble_eq_true rfl⟩ ⟨Nat.zero_le _, Nat.zero_le _⟩ hP hD hS hl.1 rfl rfl (Nat.le_of_ble_eq_true rfl) dX3_home_10 (fun H locs hP hD hS => ?_)
  exact cm_iret C hP hD hS dX3_home_13 rfl rfl
set_option maxHeartbeats 4000000 in
set_option maxRecDepth 100000 in
/-- reads -/
theorem k_X3_reads (l : Launch) (D : va_G) (cI cZ cJ : ClassId) (ad : Nat → Nat) (X : va_W) (sd fn ft fm : Nat → Int32) (σ : WS) (ta lp lr : Int32) (z y9 : Nat) (hz0 : z < 2) (hy0 : y9 < 4) (hz : fn 396 = nI z) (hy : fn 397 = nI y9) (key : Int32) : CM l D (cm_T cI cZ cJ) yX3_reads cX3_reads 3 (some .int) (cm_rm 4 87) [.ref (ad 0), .int key] (cw ad cI X sd fn ft fm σ ta lp lr) (some (.int (rdS (uR fn z) (kR fn z) (sd y9) key))) (cw ad cI X sd fn ft fm σ ta lp lr) := by
  refine CM.of (by decide) (Nat.le_of_ble_eq_true rfl) ?_
  intro p e s m below meth c ls H locs C hl hP hD hS
  have q1 := hm1_lt (sd y9) key
  cases ef : findS (uR fn z) (kR fn z) (sd y9) key with
  | none =>
    refine lv_aload_n C.1 C.2.1 dX3_reads_0 rfl (lv_at hl 0 rfl) ?_
    refine va_get (ci := 3) (C := RX3) (T := TX3) (N := 10) C.1 C.2.1 C.2.2.2.2.2.1 ui_X3 C.2.2.2.2.1 C.2.2.2.2.2.2.2.1 hP 0 (rfl) rfl 1 (by decide) (C.2.2.2.2.2.1 _ tw_62) (fun _ h9 => h9) rfl dX3_reads_1 ?_
    refine lv_aload_n C.1 C.2.1 dX3_reads_4 rfl (lv_at hl 0 rfl) ?_
    refine lv_aload_n C.1 C.2.1 dX3_reads_5 rfl (lv_at hl 0 rfl) ?_
    refine va_get (ci := 3) (C := RX3) (T := TX3) (N := 10) C.1 C.2.1 C.2.2.2.2.2.1 ui_X3 C.2.2.2.2.1 C.2.2.2.2.2.2.2.1 hP 0 (rfl) rfl 1 (by decide) (C.2.2.2.2.2.1 _ tw_62) (fun _ h9 => h9) rfl dX3_reads_6 ?_
    refine cm_cV1 (q0 := 0) 1 C (k_X3_seedInUse l D cI cZ cJ (cw ad cI X sd fn ft fm σ ta lp lr) (qO := 0) rfl (qS := 1) rfl (qI := 2) (qA := 3) rfl rfl y9 hy0 hy) tw_96 tw_98 ts_0 tw_1 tw_99 rfl rfl (rfl) rfl (by decide +kernel) ⟨Nat.le_of_ble_eq_true rfl, Nat.le_of_ble_eq_true rfl⟩ ⟨Nat.zero_le _, Nat.zero_le _⟩ hP hD hS hl.1 rfl rfl (Nat.le_of_ble_eq_true rfl) dX3_reads_9 (fun H locs hP hD hS => ?_)
    refine lv_iload_n C.1 C.2.1 dX3_reads_12 rfl (lv_at hl 1 rfl) ?_
    refine cm_cS1 3 C (k_X3_find l D cI cZ cJ (cw ad cI X sd fn ft fm σ ta lp lr) (qI := 2) (qA := 3) rfl rfl z hz0 hz (sd y9) key) tw_111 tw_112 tw_1 tw_113 rfl rfl (by decide +kernel) ⟨Nat.le_of_ble_eq_true rfl, Nat.le_of_ble_eq_true rfl⟩ ⟨Nat.zero_le _, Nat.zero_le _⟩ hP hD hS hl.1 rfl rfl (Nat.le_of_ble_eq_true rfl) dX3_reads_13 (fun H locs hP hD hS => ?_)
    rw [ef, optA_none]
    refine lv_istore_n (lv' := [(2, _), (0, _), (1, _)]) C.1 C.2.1 dX3_reads_16 rfl hl (by decide) rfl (fun ls hl => ?_)
    refine lv_iload_n C.1 C.2.1 dX3_reads_17 rfl (lv_at hl 0 rfl) ?_
    refine lv_iconst (v := (-1)) C.1 C.2.1 dX3_reads_18 (by decide +kernel) ?_
    refine lv_icmp_eq (tgt := 38) C.1 C.2.1 dX3_reads_19 (by decide) (fun _ => ?_) (fun h => absurd (rfl) h)
    refine lv_iconst (v := nI 3) C.1 C.2.1 dX3_reads_38 (by decide +kernel) ?_
    exact cm_iret C hP hD hS dX3_reads_39 (by unfold rdS; rw [ef]) rfl
  | some i9 =>
    have q3 := (findS_lt ef).1
    by_cases h8 : i9 / 4 = 8
    · refine lv_aload_n C.1 C.2.1 dX3_reads_0 rfl (lv_at hl 0 rfl) ?_
      refine va_get (ci := 3) (C := RX3) (T := TX3) (N := 10) C.1 C.2.1 C.2.2.2.2.2.1 ui_X3 C.2.2.2.2.1 C.2.2.2.2.2.2.2.1 hP 0 (rfl) rfl 1 (by decide) (C.2.2.2.2.2.1 _ tw_62) (fun _ h9 => h9) rfl dX3_reads_1 ?_
      refine lv_aload_n C.1 C.2.1 dX3_reads_4 rfl (lv_at hl 0 rfl) ?_
      refine lv_aload_n C.1 C.2.1 dX3_reads_5 rfl (lv_at hl 0 rfl) ?_
      refine va_get (ci := 3) (C := RX3) (T := TX3) (N := 10) C.1 C.2.1 C.2.2.2.2.2.1 ui_X3 C.2.2.2.2.1 C.2.2.2.2.2.2.2.1 hP 0 (rfl) rfl 1 (by decide) (C.2.2.2.2.2.1 _ tw_62) (fun _ h9 => h9) rfl dX3_reads_6 ?_
      refine cm_cV1 (q0 := 0) 1 C (k_X3_seedInUse l D cI cZ cJ (cw ad cI X sd fn ft fm σ ta lp lr) (qO := 0) rfl (qS := 1) rfl (qI := 2) (qA := 3) rfl rfl y9 hy0 hy) tw_96 tw_98 ts_0 tw_1 tw_99 rfl rfl (rfl) rfl (by decide +kernel) ⟨Nat.le_of_ble_eq_true rfl, Nat.le_of_ble_eq_true rfl⟩ ⟨Nat.zero_le _, Nat.zero_le _⟩ hP hD hS hl.1 rfl rfl (Nat.le_of_ble_eq_true rfl) dX3_reads_9 (fun H locs hP hD hS => ?_)
      refine lv_iload_n C.1 C.2.1 dX3_reads_12 rfl (lv_at hl 1 rfl) ?_
      refine cm_cS1 3 C (k_X3_find l D cI cZ cJ (cw ad cI X sd fn ft fm σ ta lp lr) (qI := 2) (qA := 3) rfl rfl z hz0 hz (sd y9) key) tw_111 tw_112 tw_1 tw_113 rfl rfl (by decide +kernel) ⟨Nat.le_of_ble_eq_true rfl, Nat.le_of_ble_eq_true rfl⟩ ⟨Nat.zero_le _, Nat.zero_le _⟩ hP hD hS hl.1 rfl rfl (Nat.le_of_ble_eq_true rfl) dX3_reads_13 (fun H locs hP hD hS => ?_)
      rw [ef, optA_some]
      refine lv_istore_n (lv' := [(2, _), (0, _), (1, _)]) C.1 C.2.1 dX3_reads_16 rfl hl (by decide) rfl (fun ls hl => ?_)
      refine lv_iload_n C.1 C.2.1 dX3_reads_17 rfl (lv_at hl 0 rfl) ?_
      refine lv_iconst (v := (-1)) C.1 C.2.1 dX3_reads_18 (by decide +kernel) ?_
      refine lv_icmp_eq (tgt := 38) C.1 C.2.1 dX3_reads_19 (by decide) (fun h => absurd h (nI_m1 (by omega))) (fun _ => ?_)
      refine lv_iload_n C.1 C.2.1 dX3_reads_22 rfl (lv_at hl 0 rfl) ?_
      refine cm_cS1 1 C (c_rowOf l D cI cZ cJ (cw ad cI X sd fn ft fm σ ta lp lr) (36 * z + i9) (by omega)) tw_278 tw_179 tw_1 tw_180 rfl rfl (by decide +kernel) ⟨Nat.le_of_ble_eq_true rfl, Nat.le_of_ble_eq_true rfl⟩ ⟨Nat.zero_le _, Nat.zero_le _⟩ hP hD hS hl.1 rfl rfl (Nat.le_of_ble_eq_true rfl) dX3_reads_23 (fun H locs hP hD hS => ?_)
      refine lv_aload_n C.1 C.2.1 dX3_reads_26 rfl (lv_at hl 1 rfl) ?_
      refine va_get (ci := 3) (C := RX3) (T := TX3) (N := 10) C.1 C.2.1 C.2.2.2.2.2.1 ui_X3 C.2.2.2.2.1 C.2.2.2.2.2.2.2.1 hP 0 (rfl) rfl 1 (by decide) (C.2.2.2.2.2.1 _ tw_62) (fun _ h9 => h9) rfl dX3_reads_27 ?_
      refine lv_bipush (v := nI 8) C.1 C.2.1 dX3_reads_30 (by decide +kernel) ?_
      refine cm_cV1 (q0 := 2) 1 C (k_X0_rowInUse l D cI cZ cJ (cw ad cI X sd fn ft fm σ ta lp lr) (qI := 2) (qA := 3) rfl rfl z (8) hz) tw_120 tw_121 tw_122 tw_2 tw_123 rfl rfl (rfl) rfl (by decide +kernel) ⟨Nat.le_of_ble_eq_true rfl, Nat.le_of_ble_eq_true rfl⟩ ⟨Nat.zero_le _, Nat.zero_le _⟩ hP hD hS hl.1 rfl rfl (Nat.le_of_ble_eq_true rfl) dX3_reads_32 (fun H locs hP hD hS => ?_)
      refine lv_icmp_ne (tgt := 40) C.1 C.2.1 dX3_reads_35 (by decide) (fun h => absurd (by rw [show (36 * z + i9) / 4 = z * 9 + 8 by omega]) h) (fun _ => ?_)
      refine lv_iconst (v := nI 3) C.1 C.2.1 dX3_reads_38 (by decide +kernel) ?_
      exact cm_iret C hP hD hS dX3_reads_39 (by unfold rdS; rw [ef]; exact (if_pos h8).symm) rfl
    · by_cases h1 : i9 / 4 = hm1 (sd y9) key
      · refine lv_aload_n C.1 C.2.1 dX3_reads_0 rfl (lv_at hl 0 rfl) ?_
        refine va_get (ci := 3) (C := RX3) (T := TX3) (N := 10) C.1 C.2.1 C.2.2.2.2.2.1 ui_X3 C.2.2.2.2.1 C.2.2.2.2.2.2.2.1 hP 0 (rfl) rfl 1 (by decide) (C.2.2.2.2.2.1 _ tw_62) (fun _ h9 => h9) rfl dX3_reads_1 ?_
        refine lv_aload_n C.1 C.2.1 dX3_reads_4 rfl (lv_at hl 0 rfl) ?_
        refine lv_aload_n C.1 C.2.1 dX3_reads_5 rfl (lv_at hl 0 rfl) ?_
        refine va_get (ci := 3) (C := RX3) (T := TX3) (N := 10) C.1 C.2.1 C.2.2.2.2.2.1 ui_X3 C.2.2.2.2.1 C.2.2.2.2.2.2.2.1 hP 0 (rfl) rfl 1 (by decide) (C.2.2.2.2.2.1 _ tw_62) (fun _ h9 => h9) rfl dX3_reads_6 ?_
        refine cm_cV1 (q0 := 0) 1 C (k_X3_seedInUse l D cI cZ cJ (cw ad cI X sd fn ft fm σ ta lp lr) (qO := 0) rfl (qS := 1) rfl (qI := 2) (qA := 3) rfl rfl y9 hy0 hy) tw_96 tw_98 ts_0 tw_1 tw_99 rfl rfl (rfl) rfl (by decide +kernel) ⟨Nat.le_of_ble_eq_true rfl, Nat.le_of_ble_eq_true rfl⟩ ⟨Nat.zero_le _, Nat.zero_le _⟩ hP hD hS hl.1 rfl rfl (Nat.le_of_ble_eq_true rfl) dX3_reads_9 (fun H locs hP hD hS => ?_)
        refine lv_iload_n C.1 C.2.1 dX3_reads_12 rfl (lv_at hl 1 rfl) ?_
        refine cm_cS1 3 C (k_X3_find l D cI cZ cJ (cw ad cI X sd fn ft fm σ ta lp lr) (qI := 2) (qA := 3) rfl rfl z hz0 hz (sd y9) key) tw_111 tw_112 tw_1 tw_113 rfl rfl (by decide +kernel) ⟨Nat.le_of_ble_eq_true rfl, Nat.le_of_ble_eq_true rfl⟩ ⟨Nat.zero_le _, Nat.zero_le _⟩ hP hD hS hl.1 rfl rfl (Nat.le_of_ble_eq_true rfl) dX3_reads_13 (fun H locs hP hD hS => ?_)
        rw [ef, optA_some]
        refine lv_istore_n (lv' := [(2, _), (0, _), (1, _)]) C.1 C.2.1 dX3_reads_16 rfl hl (by decide) rfl (fun ls hl => ?_)
        refine lv_iload_n C.1 C.2.1 dX3_reads_17 rfl (lv_at hl 0 rfl) ?_
        refine lv_iconst (v := (-1)) C.1 C.2.1 dX3_reads_18 (by decide +kernel) ?_
        refine lv_icmp_eq (tgt := 38) C.1 C.2.1 dX3_reads_19 (by decide) (fun h => absurd h (nI_m1 (by omega))) (fun _ => ?_)
        refine lv_iload_n C.1 C.2.1 dX3_reads_22 rfl (lv_at hl 0 rfl) ?_
        refine cm_cS1 1 C (c_rowOf l D cI cZ cJ (cw ad cI X sd fn ft fm σ ta lp lr) (36 * z + i9) (by omega)) tw_278 tw_179 tw_1 tw_180 rfl rfl (by decide +kernel) ⟨Nat.le_of_ble_eq_true rfl, Nat.le_of_ble_eq_true rfl⟩ ⟨Nat.zero_le _, Nat.zero_le _⟩ hP hD hS hl.1 rfl rfl (Nat.le_of_ble_eq_true rfl) dX3_reads_23 (fun H locs hP hD hS => ?_)
        refine lv_aload_n C.1 C.2.1 dX3_reads_26 rfl (lv_at hl 1 rfl) ?_
        refine va_get (ci := 3) (C := RX3) (T := TX3) (N := 10) C.1 C.2.1 C.2.2.2.2.2.1 ui_X3 C.2.2.2.2.1 C.2.2.2.2.2.2.2.1 hP 0 (rfl) rfl 1 (by decide) (C.2.2.2.2.2.1 _ tw_62) (fun _ h9 => h9) rfl dX3_reads_27 ?_
        refine lv_bipush (v := nI 8) C.1 C.2.1 dX3_reads_30 (by decide +kernel) ?_
        refine cm_cV1 (q0 := 2) 1 C (k_X0_rowInUse l D cI cZ cJ (cw ad cI X sd fn ft fm σ ta lp lr) (qI := 2) (qA := 3) rfl rfl z (8) hz) tw_120 tw_121 tw_122 tw_2 tw_123 rfl rfl (rfl) rfl (by decide +kernel) ⟨Nat.le_of_ble_eq_true rfl, Nat.le_of_ble_eq_true rfl⟩ ⟨Nat.zero_le _, Nat.zero_le _⟩ hP hD hS hl.1 rfl rfl (Nat.le_of_ble_eq_true rfl) dX3_reads_32 (fun H locs hP hD hS => ?_)
        refine lv_icmp_ne (tgt := 40) C.1 C.2.1 dX3_reads_35 (by decide) (fun _ => ?_) (fun h => absurd h (fun q => by have := (nI_eq (by omega) (by omega)).mp q; omega))
        refine lv_iload_n C.1 C.2.1 dX3_reads_40 rfl (lv_at hl 0 rfl) ?_
        refine cm_cS1 1 C (c_rowOf l D cI cZ cJ (cw ad cI X sd fn ft fm σ ta lp lr) (36 * z + i9) (by omega)) tw_278 tw_179 tw_1 tw_180 rfl rfl (by decide +kernel) ⟨Nat.le_of_ble_eq_true rfl, Nat.le_of_ble_eq_true rfl⟩ ⟨Nat.zero_le _, Nat.zero_le _⟩ hP hD hS hl.1 rfl rfl (Nat.le_of_ble_eq_true rfl) dX3_reads_41 (fun H locs hP hD hS => ?_)
        refine lv_aload_n C.1 C.2.1 dX3_reads_44 rfl (lv_at hl 1 rfl) ?_
        refine va_get (ci := 3) (C := RX3) (T := TX3) (N := 10) C.1 C.2.1 C.2.2.2.2.2.1 ui_X3 C.2.2.2.2.1 C.2.2.2.2.2.2.2.1 hP 0 (rfl) rfl 1 (by decide) (C.2.2.2.2.2.1 _ tw_62) (fun _ h9 => h9) rfl dX3_reads_45 ?_
        refine lv_aload_n C.1 C.2.1 dX3_reads_48 rfl (lv_at hl 1 rfl) ?_
        refine lv_iload_n C.1 C.2.1 dX3_reads_49 rfl (lv_at hl 2 rfl) ?_
        refine lv_iconst (v := nI 0) C.1 C.2.1 dX3_reads_50 (by decide +kernel) ?_
        refine cm_cV1 (q0 := 0) 2 C (k_X3_home1 l D cI cZ cJ ad X sd fn ft fm σ ta lp lr z y9 hz0 hy0 hz hy key) tw_311 tw_304 tw_305 tw_1 tw_306 rfl rfl (rfl) rfl (by decide +kernel) ⟨Nat.le_of_ble_eq_true rfl, Nat.le_of_ble_eq_true rfl⟩ ⟨Nat.zero_le _, Nat.zero_le _⟩ hP hD hS hl.1 rfl rfl (Nat.le_of_ble_eq_true rfl) dX3_reads_51 (fun H locs hP hD hS => ?_)
        refine cm_cV1 (q0 := 2) 1 C (k_X0_rowInUse l D cI cZ cJ (cw ad cI X sd fn ft fm σ ta lp lr) (qI := 2) (qA := 3) rfl rfl z (hm1 (sd y9) key) hz) tw_120 tw_121 tw_122 tw_2 tw_123 rfl rfl (rfl) rfl (by decide +kernel) ⟨Nat.le_of_ble_eq_true rfl, Nat.le_of_ble_eq_true rfl⟩ ⟨Nat.zero_le _, Nat.zero_le _⟩ hP hD hS hl.1 rfl rfl (Nat.le_of_ble_eq_true rfl) dX3_reads_54 (fun H locs hP hD hS => ?_)
        refine lv_icmp_ne (tgt := 64) C.1 C.2.1 dX3_reads_57 (by decide) (fun h => absurd (by rw [show (36 * z + i9) / 4 = z * 9 + hm1 (sd y9) key by omega]) h) (fun _ => ?_)
        refine lv_iconst (v := nI 1) C.1 C.2.1 dX3_reads_60 (by decide +kernel) ?_
        refine lv_goto (tgt := 65) C.1 C.2.1 dX3_reads_61 (by decide) ?_
        exact cm_iret C hP hD hS dX3_reads_65 (by unfold rdS; rw [ef]; simp only [if_neg h8, if_pos h1]) rfl
      · refine lv_aload_n C.1 C.2.1 dX3_reads_0 rfl (lv_at hl 0 rfl) ?_
        refine va_get (ci := 3) (C := RX3) (T := TX3) (N := 10) C.1 C.2.1 C.2.2.2.2.2.1 ui_X3 C.2.2.2.2.1 C.2.2.2.2.2.2.2.1 hP 0 (rfl) rfl 1 (by decide) (C.2.2.2.2.2.1 _ tw_62) (fun _ h9 => h9) rfl dX3_reads_1 ?_
        refine lv_aload_n C.1 C.2.1 dX3_reads_4 rfl (lv_at hl 0 rfl) ?_
        refine lv_aload_n C.1 C.2.1 dX3_reads_5 rfl (lv_at hl 0 rfl) ?_
        refine va_get (ci := 3) (C := RX3) (T := TX3) (N := 10) C.1 C.2.1 C.2.2.2.2.2.1 ui_X3 C.2.2.2.2.1 C.2.2.2.2.2.2.2.1 hP 0 (rfl) rfl 1 (by decide) (C.2.2.2.2.2.1 _ tw_62) (fun _ h9 => h9) rfl dX3_reads_6 ?_
        refine cm_cV1 (q0 := 0) 1 C (k_X3_seedInUse l D cI cZ cJ (cw ad cI X sd fn ft fm σ ta lp lr) (qO := 0) rfl (qS := 1) rfl (qI := 2) (qA := 3) rfl rfl y9 hy0 hy) tw_96 tw_98 ts_0 tw_1 tw_99 rfl rfl (rfl) rfl (by decide +kernel) ⟨Nat.le_of_ble_eq_true rfl, Nat.le_of_ble_eq_true rfl⟩ ⟨Nat.zero_le _, Nat.zero_le _⟩ hP hD hS hl.1 rfl rfl (Nat.le_of_ble_eq_true rfl) dX3_reads_9 (fun H locs hP hD hS => ?_)
        refine lv_iload_n C.1 C.2.1 dX3_reads_12 rfl (lv_at hl 1 rfl) ?_
        refine cm_cS1 3 C (k_X3_find l D cI cZ cJ (cw ad cI X sd fn ft fm σ ta lp lr) (qI := 2) (qA := 3) rfl rfl z hz0 hz (sd y9) key) tw_111 tw_112 tw_1 tw_113 rfl rfl (by decide +kernel) ⟨Nat.le_of_ble_eq_true rfl, Nat.le_of_ble_eq_true rfl⟩ ⟨Nat.zero_le _, Nat.zero_le _⟩ hP hD hS hl.1 rfl rfl (Nat.le_of_ble_eq_true rfl) dX3_reads_13 (fun H locs hP hD hS => ?_)
        rw [ef, optA_some]
        refine lv_istore_n (lv' := [(2, _), (0, _), (1, _)]) C.1 C.2.1 dX3_reads_16 rfl hl (by decide) rfl (fun ls hl => ?_)
        refine lv_iload_n C.1 C.2.1 dX3_reads_17 rfl (lv_at hl 0 rfl) ?_
        refine lv_iconst (v := (-1)) C.1 C.2.1 dX3_reads_18 (by decide +kernel) ?_
        refine lv_icmp_eq (tgt := 38) C.1 C.2.1 dX3_reads_19 (by decide) (fun h => absurd h (nI_m1 (by omega))) (fun _ => ?_)
        refine lv_iload_n C.1 C.2.1 dX3_reads_22 rfl (lv_at hl 0 rfl) ?_
        refine cm_cS1 1 C (c_rowOf l D cI cZ cJ (cw ad cI X sd fn ft fm σ ta lp lr) (36 * z + i9) (by omega)) tw_278 tw_179 tw_1 tw_180 rfl rfl (by decide +kernel) ⟨Nat.le_of_ble_eq_true rfl, Nat.le_of_ble_eq_true rfl⟩ ⟨Nat.zero_le _, Nat.zero_le _⟩ hP hD hS hl.1 rfl rfl (Nat.le_of_ble_eq_true rfl) dX3_reads_23 (fun H locs hP hD hS => ?_)
        refine lv_aload_n C.1 C.2.1 dX3_reads_26 rfl (lv_at hl 1 rfl) ?_
        refine va_get (ci := 3) (C := RX3) (T := TX3) (N := 10) C.1 C.2.1 C.2.2.2.2.2.1 ui_X3 C.2.2.2.2.1 C.2.2.2.2.2.2.2.1 hP 0 (rfl) rfl 1 (by decide) (C.2.2.2.2.2.1 _ tw_62) (fun _ h9 => h9) rfl dX3_reads_27 ?_
        refine lv_bipush (v := nI 8) C.1 C.2.1 dX3_reads_30 (by decide +kernel) ?_
        refine cm_cV1 (q0 := 2) 1 C (k_X0_rowInUse l D cI cZ cJ (cw ad cI X sd fn ft fm σ ta lp lr) (qI := 2) (qA := 3) rfl rfl z (8) hz) tw_120 tw_121 tw_122 tw_2 tw_123 rfl rfl (rfl) rfl (by decide +kernel) ⟨Nat.le_of_ble_eq_true rfl, Nat.le_of_ble_eq_true rfl⟩ ⟨Nat.zero_le _, Nat.zero_le _⟩ hP hD hS hl.1 rfl rfl (Nat.le_of_ble_eq_true rfl) dX3_reads_32 (fun H locs hP hD hS => ?_)
        refine lv_icmp_ne (tgt := 40) C.1 C.2.1 dX3_reads_35 (by decide) (fun _ => ?_) (fun h => absurd h (fun q => by have := (nI_eq (by omega) (by omega)).mp q; omega))
        refine lv_iload_n C.1 C.2.1 dX3_reads_40 rfl (lv_at hl 0 rfl) ?_
        refine cm_cS1 1 C (c_rowOf l D cI cZ cJ (cw ad cI X sd fn ft fm σ ta lp lr) (36 * z + i9) (by omega)) tw_278 tw_179 tw_1 tw_180 rfl rfl (by decide +kernel) ⟨Nat.le_of_ble_eq_true rfl, Nat.le_of_ble_eq_true rfl⟩ ⟨Nat.zero_le _, Nat.zero_le _⟩ hP hD hS hl.1 rfl rfl (Nat.le_of_ble_eq_true rfl) dX3_reads_41 (fun H locs hP hD hS => ?_)
        refine lv_aload_n C.1 C.2.1 dX3_reads_44 rfl (lv_at hl 1 rfl) ?_
        refine va_get (ci := 3) (C := RX3) (T := TX3) (N := 10) C.1 C.2.1 C.2.2.2.2.2.1 ui_X3 C.2.2.2.2.1 C.2.2.2.2.2.2.2.1 hP 0 (rfl) rfl 1 (by decide) (C.2.2.2.2.2.1 _ tw_62) (fun _ h9 => h9) rfl dX3_reads_45 ?_
        refine lv_aload_n C.1 C.2.1 dX3_reads_48 rfl (lv_at hl 1 rfl) ?_
        refine lv_iload_n C.1 C.2.1 dX3_reads_49 rfl (lv_at hl 2 rfl) ?_
        refine lv_iconst (v := nI 0) C.1 C.2.1 dX3_reads_50 (by decide +kernel) ?_
        refine cm_cV1 (q0 := 0) 2 C (k_X3_home1 l D cI cZ cJ ad X sd fn ft fm σ ta lp lr z y9 hz0 hy0 hz hy key) tw_311 tw_304 tw_305 tw_1 tw_306 rfl rfl (rfl) rfl (by decide +kernel) ⟨Nat.le_of_ble_eq_true rfl, Nat.le_of_ble_eq_true rfl⟩ ⟨Nat.zero_le _, Nat.zero_le _⟩ hP hD hS hl.1 rfl rfl (Nat.le_of_ble_eq_true rfl) dX3_reads_51 (fun H locs hP hD hS => ?_)
        refine cm_cV1 (q0 := 2) 1 C (k_X0_rowInUse l D cI cZ cJ (cw ad cI X sd fn ft fm σ ta lp lr) (qI := 2) (qA := 3) rfl rfl z (hm1 (sd y9) key) hz) tw_120 tw_121 tw_122 tw_2 tw_123 rfl rfl (rfl) rfl (by decide +kernel) ⟨Nat.le_of_ble_eq_true rfl, Nat.le_of_ble_eq_true rfl⟩ ⟨Nat.zero_le _, Nat.zero_le _⟩ hP hD hS hl.1 rfl rfl (Nat.le_of_ble_eq_true rfl) dX3_reads_54 (fun H locs hP hD hS => ?_)
        refine lv_icmp_ne (tgt := 64) C.1 C.2.1 dX3_reads_57 (by decide) (fun _ => ?_) (fun h => absurd h (fun q => by have := (nI_eq (by omega) (by omega)).mp q; omega))
        refine lv_iconst (v := nI 2) C.1 C.2.1 dX3_reads_64 (by decide +kernel) ?_
        exact cm_iret C hP hD hS dX3_reads_65 (by unfold rdS; rw [ef]; simp only [if_neg h8, if_neg h1]) rfl
set_option maxHeartbeats 4000000 in
set_option maxRecDepth 100000 in
/-- allKeys -/
theorem k_X3_allKeys (l : Launch) (D : va_G) (cI cZ cJ : ClassId) (ad : Nat → Nat) (X : va_W) (sd fn ft fm : Nat → Int32) (σ : WS) (ta lp lr : Int32) (z y9 : Nat) (hz0 : z < 2) (hy0 : y9 < 4) (hz : fn 396 = nI z) (hy : fn 397 = nI y9) : CM l D (cm_T cI cZ cJ) yX3_allKeys cX3_allKeys 3 (some .int) (cm_rm 3 64) [.ref (ad 0)] (cw ad cI X sd fn ft fm σ ta lp lr) (some (.int (nI (allN fn z 0 9)))) (cw ad cI X sd fn ft fm σ ta lp lr) := by
  refine CM.of (by decide) (Nat.le_of_ble_eq_true rfl) ?_
  intro p e s m below meth c ls H locs C hl hP hD hS
  refine lv_iconst (v := nI 0) C.1 C.2.1 dX3_allKeys_0 (by decide +kernel) ?_
  refine lv_istore_n (lv' := [(1, _), (0, _)]) C.1 C.2.1 dX3_allKeys_1 rfl hl (by decide) rfl (fun ls hl => ?_)
  refine lv_iconst (v := nI 0) C.1 C.2.1 dX3_allKeys_2 (by decide +kernel) ?_
  refine lv_istore_n (lv' := [(2, _), (1, _), (0, _)]) C.1 C.2.1 dX3_allKeys_3 rfl hl (by decide) rfl (fun ls hl => ?_)
  have loop : ∀ (k j n : Nat), j + k = 9 → ∀ (ls : Array Slot) (H : Heap) (locs : List Loc), lv_has ls 3 [(2, .int (nI j)), (1, .int (nI n)), (0, .ref (ad 0))] → va_P D vwCl (cw ad cI X sd fn ft fm σ ta lp lr) H → va_D (cm_A (cw ad cI X sd fn ft fm σ ta lp lr)) (cw ad cI X sd fn ft fm σ ta lp lr) → va_S (cm_A (cw ad cI X sd fn ft fm σ ta lp lr)) s.heap H locs → W p l e (cm_rm 3 64) s m ([.ref (ad 0)] : List Value).toArray below meth c H locs 0 0 (cm_Q below D [.ref (ad 0)] s (cw ad cI X sd fn ft fm σ ta lp lr) (some (.int (nI (n + allN fn z j k)))) (cw ad cI X sd fn ft fm σ ta lp lr)) (F0 m 4 ls []) := by
    intro k
    induction k with
    | zero =>
      intro j n hj ls H locs hl hP hD hS
      refine lv_iload_n C.1 C.2.1 dX3_allKeys_4 rfl (lv_at hl 0 rfl) ?_
      refine lv_bipush (v := nI 9) C.1 C.2.1 dX3_allKeys_5 (by decide +kernel) ?_
      refine lv_icmp_ge (tgt := 34) C.1 C.2.1 dX3_allKeys_7 (by decide) (fun _ => ?_) (fun h => absurd (nI_le (by omega) (by omega)) h)
      refine lv_iload_n C.1 C.2.1 dX3_allKeys_34 rfl (lv_at hl 1 rfl) ?_
      exact cm_iret C hP hD hS dX3_allKeys_35 rfl rfl
    | succ k ih =>
      intro j n hj ls H locs hl hP hD hS
      refine lv_iload_n C.1 C.2.1 dX3_allKeys_4 rfl (lv_at hl 0 rfl) ?_
      refine lv_bipush (v := nI 9) C.1 C.2.1 dX3_allKeys_5 (by decide +kernel) ?_
      refine lv_icmp_ge (tgt := 34) C.1 C.2.1 dX3_allKeys_7 (by decide) (fun h => absurd h (nI_ge (by omega) (by decide))) (fun _ => ?_)
      refine lv_iload_n C.1 C.2.1 dX3_allKeys_10 rfl (lv_at hl 1 rfl) ?_
      refine lv_aload_n C.1 C.2.1 dX3_allKeys_11 rfl (lv_at hl 2 rfl) ?_
      refine va_get (ci := 3) (C := RX3) (T := TX3) (N := 10) C.1 C.2.1 C.2.2.2.2.2.1 ui_X3 C.2.2.2.2.1 C.2.2.2.2.2.2.2.1 hP 0 (rfl) rfl 1 (by decide) (C.2.2.2.2.2.1 _ tw_62) (fun _ h9 => h9) rfl dX3_allKeys_12 ?_
      refine lv_aload_n C.1 C.2.1 dX3_allKeys_15 rfl (lv_at hl 2 rfl) ?_
      refine va_get (ci := 3) (C := RX3) (T := TX3) (N := 10) C.1 C.2.1 C.2.2.2.2.2.1 ui_X3 C.2.2.2.2.1 C.2.2.2.2.2.2.2.1 hP 0 (rfl) rfl 1 (by decide) (C.2.2.2.2.2.1 _ tw_62) (fun _ h9 => h9) rfl dX3_allKeys_16 ?_
      refine lv_iload_n C.1 C.2.1 dX3_allKeys_19 rfl (lv_at hl 0 rfl) ?_
      refine cm_cV1 (q0 := 2) 1 C (k_X0_rowInUse l D cI cZ cJ (cw ad cI X sd fn ft fm σ ta lp lr) (qI := 2) (qA := 3) rfl rfl z (j) hz) tw_120 tw_121 tw_122 tw_2 tw_123 rfl rfl (rfl) rfl (by decide +kernel) ⟨Nat.le_of_ble_eq_true rfl, Nat.le_of_ble_eq_true rfl⟩ ⟨Nat.zero_le _, Nat.zero_le _⟩ hP hD hS hl.1 rfl rfl (Nat.le_of_ble_eq_true rfl) dX3_allKeys_20 (fun H locs hP hD hS => ?_)
      refine cm_cV1 (q0 := 2) 1 C (k_X0_keysIn l D cI cZ cJ (cw ad cI X sd fn ft fm σ ta lp lr) (qI := 2) (qA := 3) rfl rfl (z * 9 + j) (by omega)) tw_445 tw_446 tw_447 tw_2 tw_448 rfl rfl (rfl) rfl (by decide +kernel) ⟨Nat.le_of_ble_eq_true rfl, Nat.le_of_ble_eq_true rfl⟩ ⟨Nat.zero_le _, Nat.zero_le _⟩ hP hD hS hl.1 rfl rfl (Nat.le_of_ble_eq_true rfl) dX3_allKeys_23 (fun H locs hP hD hS => ?_)
      refine lv_iadd C.1 C.2.1 dX3_allKeys_26 ?_
      rw [nI_add]
      refine lv_istore_n (lv' := [(1, _), (2, _), (0, _)]) C.1 C.2.1 dX3_allKeys_27 rfl hl (by decide) rfl (fun ls hl => ?_)
      refine lv_iinc (v := nI (j + 1)) (lv' := [(2, _), (1, _), (0, _)]) C.1 C.2.1 dX3_allKeys_28 hl (k := 1) rfl (nI_1 j) (by decide) rfl (fun ls hl => ?_)
      refine lv_goto (tgt := 4) C.1 C.2.1 dX3_allKeys_31 (by decide) ?_
      rw [show n + allN fn z j (k + 1) = (n + cnt (fun i => !emP fn (z * 9 + j) i) 0 4) + allN fn z (j + 1) k by simp only [allN]; omega]
      exact ih (j + 1) _ (by omega) ls H locs hl hP hD hS
  have hfin := loop 9 0 0 rfl ls H locs hl hP hD hS
  rw [Nat.zero_add] at hfin
  exact hfin
set_option maxHeartbeats 4000000 in
set_option maxRecDepth 100000 in
/-- sync -/
theorem k_X3_sync (l : Launch) (D : va_G) (cI cZ cJ : ClassId) (ad : Nat → Nat) (X : va_W) (sd fn ft fm : Nat → Int32) (σ : WS) (ta lp lr : Int32) (hσ : sOk σ) : CM l D (cm_T cI cZ cJ) yX3_sync cX3_sync 2 (some .int) (cm_rm 3 88) [.ref (ad 0)] (cw ad cI X sd fn ft fm σ ta lp lr) (some (.int (nI σ.2.2.2.1))) (cw ad cI X sd fn ft fm (doN σ.2.1 σ.2.2.1 0 σ.2.2.2.1 σ.1, σ.2.1, σ.2.2.1, 0, σ.2.2.2.2) ta lp lr) := by
  refine CM.of (by decide) (Nat.le_of_ble_eq_true rfl) ?_
  intro p e s m below meth c ls H locs C hl hP hD hS
  refine lv_aload_n C.1 C.2.1 dX3_sync_0 rfl (lv_at hl 0 rfl) ?_
  refine va_get (ci := 3) (C := RX3) (T := TX3) (N := 10) C.1 C.2.1 C.2.2.2.2.2.1 ui_X3 C.2.2.2.2.1 C.2.2.2.2.2.2.2.1 hP 0 (rfl) rfl 4 (by decide) (C.2.2.2.2.2.1 _ tw_65) (fun _ h9 => h9) rfl dX3_sync_1 ?_
  refine cm_cV1 (q0 := 8) 0 C (k_X2_size l D cI cZ cJ (cw ad cI X sd fn ft fm σ ta lp lr) σ.2.2.2.1 (qW := 8) (qR := 9) (qC := 10) rfl rfl rfl) tw_248 tw_249 tw_250 tw_3 tw_251 rfl rfl (rfl) rfl (by decide +kernel) ⟨Nat.le_of_ble_eq_true rfl, Nat.le_of_ble_eq_true rfl⟩ ⟨Nat.zero_le _, Nat.zero_le _⟩ hP hD hS hl.1 rfl rfl (Nat.le_of_ble_eq_true rfl) dX3_sync_4 (fun H locs hP hD hS => ?_)
  refine lv_istore_n (lv' := [(1, _), (0, _)]) C.1 C.2.1 dX3_sync_7 rfl hl (by decide) rfl (fun ls hl => ?_)
  refine lv_aload_n C.1 C.2.1 dX3_sync_8 rfl (lv_at hl 1 rfl) ?_
  refine va_get (ci := 3) (C := RX3) (T := TX3) (N := 10) C.1 C.2.1 C.2.2.2.2.2.1 ui_X3 C.2.2.2.2.1 C.2.2.2.2.2.2.2.1 hP 0 (rfl) rfl 4 (by decide) (C.2.2.2.2.2.1 _ tw_65) (fun _ h9 => h9) rfl dX3_sync_9 ?_
  refine lv_iload_n C.1 C.2.1 dX3_sync_12 rfl (lv_at hl 0 rfl) ?_
  refine lv_aload_n C.1 C.2.1 dX3_sync_13 rfl (lv_at hl 1 rfl) ?_
  refine va_get (ci := 3) (C := RX3) (T := TX3) (N := 10) C.1 C.2.1 C.2.2.2.2.2.1 ui_X3 C.2.2.2.2.1 C.2.2.2.2.2.2.2.1 hP 0 (rfl) rfl 2 (by decide) (C.2.2.2.2.2.1 _ tw_63) (fun _ h9 => h9) rfl dX3_sync_14 ?_
  refine cm_cV0 (q0 := 8) 2 C (k_X2_doFirst l D cI cZ cJ (cw ad cI X sd fn ft fm σ ta lp lr) σ.2.2.2.1 (qW := 8) (qR := 9) (qC := 10) rfl rfl rfl (qI := 4) (qA := 5) rfl rfl (by decide) (by decide) (by decide) (by decide) σ.2.2.2.1 hσ.1 hσ.2) tw_252 tw_253 tw_254 tw_3 tw_255 rfl rfl (rfl) rfl (by decide +kernel) ⟨Nat.le_of_ble_eq_true rfl, Nat.le_of_ble_eq_true rfl⟩ ⟨Nat.zero_le _, Nat.zero_le _⟩ hP hD hS hl.1 rfl rfl (Nat.le_of_ble_eq_true rfl) dX3_sync_17 (fun H locs hP hD hS => ?_)
  have hP : va_P D vwCl (cw ad cI X sd fn ft fm (doN σ.2.1 σ.2.2.1 0 σ.2.2.2.1 σ.1, σ.2.1, σ.2.2.1, 0, σ.2.2.2.2) ta lp lr) H := hP
  have hD : va_D (cm_A (cw ad cI X sd fn ft fm σ ta lp lr)) (cw ad cI X sd fn ft fm (doN σ.2.1 σ.2.2.1 0 σ.2.2.2.1 σ.1, σ.2.1, σ.2.2.1, 0, σ.2.2.2.2) ta lp lr) := hD
  refine lv_iload_n C.1 C.2.1 dX3_sync_20 rfl (lv_at hl 0 rfl) ?_
  exact cm_iret C hP hD hS dX3_sync_21 rfl rfl
end
section
/-! ===== MAKING ANEW on trial: fillTrial ===== -/
theorem pathS_ok (u : Nat → Bool) (k : Nat → Int32) (s : Int32) : ∀ (n t b : Nat) (L : List Nat), b < 8 → (∀ q ∈ L, q < 36) → (pathS u k s n t b L).2.length ≤ L.length + n + 1 ∧ ∀ q ∈ (pathS u k s n t b L).2, q < 36 := by
  intro n
  induction n with
  | zero => intro t b L _ hL; exact ⟨by simp [pathS], hL⟩
  | succ n ih =>
    intro t b L hb hL
    cases hnx : nx L b t 0 4 with
    | none => simp only [pathS, hnx]; exact ⟨by omega, hL⟩
    | some p =>
      have hp := nx_some _ _ hnx
      have ho := otherS_lt s (k p) b
      have hL' : ∀ q ∈ L ++ [p], q < 36 := fun q hq => (List.mem_append.mp hq).elim (hL q) (fun h9 => by rw [List.mem_singleton.mp h9]; omega)
      cases hem : emS u (otherS s (k p) b) with
      | some e =>
        have he := emS_lt hem (by omega)
        simp only [pathS, hnx, hem]
        refine ⟨by simp only [List.length_append, List.length_cons, List.length_nil]; omega, fun q hq => (List.mem_append.mp hq).elim (hL' q) (fun h9 => by rw [List.mem_singleton.mp h9]; omega)⟩
      | none =>
        simp only [pathS, hnx, hem]
        obtain ⟨h1, h2⟩ := ih (t + 1) (otherS s (k p) b) (L ++ [p]) ho hL'
        rw [List.length_append, List.length_cons, List.length_nil] at h1
        exact ⟨by omega, h2⟩
theorem mvS_mem (k v : Nat → Int32) : ∀ (L : List Nat) (a b : Int32) (m : Nat × Int32 × Int32), m ∈ mvS k v a b L → m.1 ∈ L := by
  intro L
  induction L with
  | nil => intro a b m h; cases h
  | cons q L ih =>
    intro a b m h
    rcases List.mem_cons.mp h with rfl | h
    · exact List.mem_cons_self
    · exact List.mem_cons_of_mem _ (ih _ _ m h)
theorem chS_ok (u : Nat → Bool) (k v : Nat → Int32) (s key val : Int32) : (chS u k v s key val).2.length ≤ 7 ∧ (∀ m ∈ (chS u k v s key val).2, m.1 < 36) ∧ ((chS u k v s key val).1 = nI 0 ∨ (chS u k v s key val).1 = nI 1 ∨ (chS u k v s key val).1 = nI 2 ∨ (chS u k v s key val).1 = nI 3 ∨ (chS u k v s key val).1 = -2) := by
  have q1 := hm1_lt s key
  have q2 := hm2_lt s key
  have one : ∀ p, p < 36 → ([(p, key, val)] : List (Nat × Int32 × Int32)).length ≤ 7 ∧ ∀ m ∈ ([(p, key, val)] : List (Nat × Int32 × Int32)), m.1 < 36 := fun p hp => ⟨by simp, fun m hm => by rw [List.mem_singleton.mp hm]; exact hp⟩
  have path : ∀ b, b < 8 → (mvS k v key val (pathS u k s 6 0 b []).2).length ≤ 7 ∧ ∀ m ∈ mvS k v key val (pathS u k s 6 0 b []).2, m.1 < 36 := fun b hb => by
    have h := pathS_ok u k s 6 0 b [] hb (fun q hq => by cases hq)
    exact ⟨by rw [mvS_len]; simpa using h.1, fun m hm => h.2 _ (mvS_mem _ _ _ _ _ m hm)⟩
  unfold chS
  cases e1 : findS u k s key with
  | some p => exact ⟨(one p (findS_lt e1).1).1, (one p (findS_lt e1).1).2, Or.inl rfl⟩
  | none =>
    cases e2 : emS u (hm1 s key) with
    | some p => exact ⟨(one p (emS_lt e2 (by omega)).1).1, (one p (emS_lt e2 (by omega)).1).2, Or.inr (Or.inl rfl)⟩
    | none =>
      cases e3 : emS u (hm2 s key) with
      | some p => exact ⟨(one p (emS_lt e3 (by omega)).1).1, (one p (emS_lt e3 (by omega)).1).2, Or.inr (Or.inl rfl)⟩
      | none =>
        dsimp only
        split
        · exact ⟨(path _ q1).1, (path _ q1).2, Or.inr (Or.inr (Or.inl rfl))⟩
        · split
          · exact ⟨(path _ q2).1, (path _ q2).2, Or.inr (Or.inr (Or.inl rfl))⟩
          · cases e6 : emS u 8 with
            | some p => exact ⟨(one p (emS_lt e6 (by omega)).1).1, (one p (emS_lt e6 (by omega)).1).2, Or.inr (Or.inr (Or.inr (Or.inl rfl)))⟩
            | none => exact ⟨(path _ q2).1, (path _ q2).2, Or.inr (Or.inr (Or.inr (Or.inr rfl)))⟩
def absM (z : Nat) (M : List (Nat × Int32 × Int32)) : List (Nat × Int32 × Int32) := M.map (fun m => (36 * z + m.1, m.2.1, m.2.2))
theorem absM_lt {z : Nat} (hz : z < 2) {M : List (Nat × Int32 × Int32)} (hM : ∀ m ∈ M, m.1 < 36) : ∀ m ∈ absM z M, m.1 < 72 := by
  intro m hm
  obtain ⟨m0, h0, rfl⟩ := List.mem_map.mp hm
  have := hM m0 h0
  dsimp only
  omega
theorem encA_enc {z : Nat} (hz : z < 2) {fm0 : Nat → Int32} (h0 : fm0 0 = nI 0) {M : List (Nat × Int32 × Int32)} (hl : M.length ≤ 7) (hM : ∀ m ∈ M, m.1 < 36) : mEnc (encA z fm0 0 M) (absM z M) := by
  refine ⟨by rw [absM, List.length_map]; exact hl, by rw [encA_0 z M fm0 0 h0, absM, List.length_map, Nat.zero_add], fun j m hj => ?_⟩
  rw [absM, List.getElem?_map] at hj
  cases hm : M[j]? with
  | none => rw [hm] at hj; cases hj
  | some m0 =>
    rw [hm] at hj
    cases hj
    obtain ⟨h1, h2, h3⟩ := encA_get z M fm0 0 j m0 hm
    rw [Nat.zero_add] at h1 h2 h3
    have := hM m0 (List.mem_of_getElem? hm)
    exact ⟨h1, h2, h3, by dsimp only; omega⟩
theorem mEnc.ok {fm : Nat → Int32} {M : List (Nat × Int32 × Int32)} (h : mEnc fm M) : mOk fm M.length := by
  refine ⟨h.1, h.2.1, fun j hj => ?_⟩
  obtain ⟨h1, -, -, h4⟩ := h.2.2 j _ (List.getElem?_eq_getElem hj)
  unfold mP
  rw [h1, nI_clamp (by omega)]
  exact ⟨rfl, h4⟩
def fillM (M : List (Nat × Int32 × Int32)) (f : Nat → Int32) : Nat → Int32 := M.foldl (fun f m => fillC f m.1 m.2.1 m.2.2) f
theorem fillN_drop {fm : Nat → Int32} {M : List (Nat × Int32 × Int32)} (h : mEnc fm M) : ∀ (k j : Nat) (f : Nat → Int32), j + k = M.length → fillN fm j k f = fillM (M.drop j) f := by
  intro k
  induction k with
  | zero => intro j f hj; rw [List.drop_of_length_le (by omega)]; rfl
  | succ k ih =>
    intro j f hj
    obtain ⟨h1, h2, h3, h4⟩ := h.2.2 j _ (List.getElem?_eq_getElem (by omega))
    rw [List.drop_eq_getElem_cons (by omega)]
    unfold fillN
    rw [ih (j + 1) _ (by omega)]
    unfold mP
    rw [h1, h2, h3, nI_clamp (by omega)]
    rfl
theorem fillN_enc {fm : Nat → Int32} {M : List (Nat × Int32 × Int32)} (h : mEnc fm M) (f : Nat → Int32) : fillN fm 0 M.length f = fillM M f := fillN_drop h M.length 0 f (Nat.zero_add _)
theorem ix_lt {p : Nat} (h : p < 72) : ix p + 2 < 396 := by unfold ix; omega
theorem fillC_hi {f : Nat → Int32} {p i : Nat} {k v : Int32} (h : p < 72) (hi : 396 ≤ i) : fillC f p k v i = f i := by
  have := ix_lt h
  unfold fillC
  rw [pk_un (by omega), pk_un (by omega), pk_un (by omega)]
theorem fillM_hi {i : Nat} (hi : 396 ≤ i) : ∀ (M : List (Nat × Int32 × Int32)) (f : Nat → Int32), (∀ m ∈ M, m.1 < 72) → fillM M f i = f i := by
  intro M
  induction M with
  | nil => intro f _; rfl
  | cons m M ih =>
    intro f h
    show fillM M (fillC f m.1 m.2.1 m.2.2) i = f i
    rw [ih _ (fun q hq => h q (List.mem_cons_of_mem _ hq)), fillC_hi (h m List.mem_cons_self) hi]
/-- a row's places beyond its end don't matter -/
theorem vaP_ext {D : va_G} {cl : List vw_C} {ws : va_W} {H : Heap} {q a n : Nat} {cA : ClassId} {f g : Nat → Int32} (h : ws[q]? = some (a, .inl (cA, n, .inl f))) (hfg : ∀ i, i < n → f i = g i) (hP : va_P D cl ws H) : va_P D cl (ws.set q (a, .inl (cA, n, .inl g))) H := by
  intro k x hx
  by_cases hk : k = q
  · subst hk
    rw [ws_self h] at hx
    cases hx
    have h1 := hP k _ h
    have e : vp_cell cA (n, .inl f) = vp_cell cA (n, .inl g) := by
      rw [vp_cell_i, vp_cell_i]
      unfold arrV
      congr 1
      apply congrArg
      funext j
      show Value.int (f j.val) = Value.int (g j.val)
      rw [hfg j.val j.isLt]
    show H[a]? = some (vp_cell cA (n, .inl g))
    rw [← e]
    exact h1
  · rw [List.getElem?_set_ne (Ne.symm hk)] at hx
    exact hP k x hx
/-- one KEY put on trial in the SET zz; all of a SET and then one more -/
def trS (zz : Nat) (s : Int32) (f : Nat → Int32) (key val : Int32) : Option (Nat → Int32) := if (chS (uR f zz) (kR f zz) (vR f zz) s key val).1 = -2 then none else some (fillM (absM zz (chS (uR f zz) (kR f zz) (vR f zz) s key val).2) f)
def trL (fn : Nat → Int32) (z zz : Nat) (s : Int32) : Nat → Nat → (Nat → Int32) → Option (Nat → Int32)
  | _, 0, f => some f
  | j, k + 1, f => if uR fn z j = true then (trS zz s f (kR fn z j) (vR fn z j)).bind (trL fn z zz s (j + 1) k) else trL fn z zz s (j + 1) k f
def tr0 (z w : Nat) : Nat → Int32 := upd (upd (fun _ => nI 0) 396 (nI (1 - z))) 397 (nI w)
def trA (fn : Nat → Int32) (z : Nat) (s : Int32) (w : Nat) (key val : Int32) : Option (Nat → Int32) := (trL fn z (1 - z) s 0 36 (tr0 z w)).bind (fun f => trS (1 - z) s f key val)
def trR (T : Option (Nat → Int32)) (r : Int32) (ft : Nat → Int32) : Prop := match T with
  | none => r = nI 0
  | some f => r = nI 1 ∧ ft = f
set_option maxHeartbeats 4000000 in
set_option maxRecDepth 100000 in
/-- fillTrial -/
theorem k_X3_fillTrial (l : Launch) (D : va_G) (cI cZ cJ : ClassId) (ad : Nat → Nat) (X : va_W) (sd fn ft fm : Nat → Int32) (σ : WS) (ta lp lr : Int32) (z w9 : Nat) (hz0 : z < 2) (hw0 : w9 < 4) (hz : fn 396 = nI z) (key val : Int32) : CRi l D (cm_T cI cZ cJ) yX3_fillTrial cX3_fillTrial 8 (some .boolean) (cm_rm 5 129) [.ref (ad 0), .int (nI w9), .int key, .int val] (cw ad cI X sd fn ft fm σ ta lp lr) (fun r w1 => ∃ ft1 fm1 : Nat → Int32, w1 = cw ad cI X sd fn ft1 fm1 σ ta lp lr ∧ trR (trA fn z (sd w9) w9 key val) r ft1) := by
  refine CRi.of (by decide) (Nat.le_of_ble_eq_true rfl) ?_
  intro p e s m below meth c ls H locs C hl hP hD hS
  refine lv_aload_n C.1 C.2.1 dX3_fillTrial_0 rfl (lv_at hl 0 rfl) ?_
  refine va_get (ci := 3) (C := RX3) (T := TX3) (N := 10) C.1 C.2.1 C.2.2.2.2.2.1 ui_X3 C.2.2.2.2.1 C.2.2.2.2.2.2.2.1 hP 0 (rfl) rfl 3 (by decide) (C.2.2.2.2.2.1 _ tw_64) (fun _ h9 => h9) rfl dX3_fillTrial_1 ?_
  refine cm_cV0 (q0 := 6) 0 C (k_X0_emptyAll l D cI cZ cJ (cw ad cI X sd fn ft fm σ ta lp lr) (qI := 6) (qA := 7) rfl rfl (by decide)) tw_195 tw_196 tw_197 tw_2 tw_198 rfl rfl (rfl) rfl (by decide +kernel) ⟨Nat.le_of_ble_eq_true rfl, Nat.le_of_ble_eq_true rfl⟩ ⟨Nat.zero_le _, Nat.zero_le _⟩ hP hD hS hl.1 rfl rfl (Nat.le_of_ble_eq_true rfl) dX3_fillTrial_4 (fun H locs hP hD hS => ?_)
  have hP : va_P D vwCl (cw ad cI X sd fn (zeroTo ft 440) fm σ ta lp lr) H := hP
  have hD : va_D (cm_A (cw ad cI X sd fn ft fm σ ta lp lr)) (cw ad cI X sd fn (zeroTo ft 440) fm σ ta lp lr) := hD
  have hP : va_P D vwCl (cw ad cI X sd fn (fun _ => nI 0) fm σ ta lp lr) H := vaP_ext (q := 7) rfl (fun i hi => if_pos hi) hP
  have hD : va_D (cm_A (cw ad cI X sd fn ft fm σ ta lp lr)) (cw ad cI X sd fn (fun _ => nI 0) fm σ ta lp lr) := hD.set (p := 7) rfl
  refine lv_aload_n C.1 C.2.1 dX3_fillTrial_7 rfl (lv_at hl 0 rfl) ?_
  refine va_get (ci := 3) (C := RX3) (T := TX3) (N := 10) C.1 C.2.1 C.2.2.2.2.2.1 ui_X3 C.2.2.2.2.1 C.2.2.2.2.2.2.2.1 hP 0 (rfl) rfl 3 (by decide) (C.2.2.2.2.2.1 _ tw_64) (fun _ h9 => h9) rfl dX3_fillTrial_8 ?_
  refine lv_iconst (v := nI 1) C.1 C.2.1 dX3_fillTrial_11 (by decide +kernel) ?_
  refine lv_aload_n C.1 C.2.1 dX3_fillTrial_12 rfl (lv_at hl 0 rfl) ?_
  refine va_get (ci := 3) (C := RX3) (T := TX3) (N := 10) C.1 C.2.1 C.2.2.2.2.2.1 ui_X3 C.2.2.2.2.1 C.2.2.2.2.2.2.2.1 hP 0 (rfl) rfl 1 (by decide) (C.2.2.2.2.2.1 _ tw_62) (fun _ h9 => h9) rfl dX3_fillTrial_13 ?_
  refine cm_cV1 (q0 := 2) 0 C (k_X0_setTold l D cI cZ cJ (cw ad cI X sd fn (fun _ => nI 0) fm σ ta lp lr) (qI := 2) (qA := 3) rfl rfl) tw_199 tw_125 tw_126 tw_2 tw_127 rfl rfl (rfl) rfl (by decide +kernel) ⟨Nat.le_of_ble_eq_true rfl, Nat.le_of_ble_eq_true rfl⟩ ⟨Nat.zero_le _, Nat.zero_le _⟩ hP hD hS hl.1 rfl rfl (Nat.le_of_ble_eq_true rfl) dX3_fillTrial_16 (fun H locs hP hD hS => ?_)
  rw [hz]
  refine lv_isub C.1 C.2.1 dX3_fillTrial_19 ?_
  rw [pk_sub (by omega)]
  refine lv_iload_n C.1 C.2.1 dX3_fillTrial_20 rfl (lv_at hl 1 rfl) ?_
  refine cm_cV0 (q0 := 6) 2 C (k_X0_tellRoot l D cI cZ cJ (cw ad cI X sd fn (fun _ => nI 0) fm σ ta lp lr) (qI := 6) (qA := 7) rfl rfl (by decide) (nI (1 - z)) (nI w9)) tw_200 tw_201 tw_202 tw_2 tw_203 rfl rfl (rfl) rfl (by decide +kernel) ⟨Nat.le_of_ble_eq_true rfl, Nat.le_of_ble_eq_true rfl⟩ ⟨Nat.zero_le _, Nat.zero_le _⟩ hP hD hS hl.1 rfl rfl (Nat.le_of_ble_eq_true rfl) dX3_fillTrial_21 (fun H locs hP hD hS => ?_)
  have hP : va_P D vwCl (cw ad cI X sd fn (tr0 z w9) fm σ ta lp lr) H := hP
  have hD : va_D (cm_A (cw ad cI X sd fn ft fm σ ta lp lr)) (cw ad cI X sd fn (tr0 z w9) fm σ ta lp lr) := hD
  refine lv_aload_n C.1 C.2.1 dX3_fillTrial_24 rfl (lv_at hl 0 rfl) ?_
  refine lv_aload_n C.1 C.2.1 dX3_fillTrial_25 rfl (lv_at hl 0 rfl) ?_
  refine va_get (ci := 3) (C := RX3) (T := TX3) (N := 10) C.1 C.2.1 C.2.2.2.2.2.1 ui_X3 C.2.2.2.2.1 C.2.2.2.2.2.2.2.1 hP 0 (rfl) rfl 3 (by decide) (C.2.2.2.2.2.1 _ tw_64) (fun _ h9 => h9) rfl dX3_fillTrial_26 ?_
  refine cm_cV1 (q0 := 0) 1 C (k_X3_seedInUse l D cI cZ cJ (cw ad cI X sd fn (tr0 z w9) fm σ ta lp lr) (qO := 0) rfl (qS := 1) rfl (qI := 6) (qA := 7) rfl rfl w9 hw0 pk_us) tw_96 tw_98 ts_0 tw_1 tw_99 rfl rfl (rfl) rfl (by decide +kernel) ⟨Nat.le_of_ble_eq_true rfl, Nat.le_of_ble_eq_true rfl⟩ ⟨Nat.zero_le _, Nat.zero_le _⟩ hP hD hS hl.1 rfl rfl (Nat.le_of_ble_eq_true rfl) dX3_fillTrial_29 (fun H locs hP hD hS => ?_)
  refine lv_istore (lv' := [(4, _), (0, _), (1, _), (2, _), (3, _)]) C.1 C.2.1 dX3_fillTrial_32 hl (by decide) rfl (fun ls hl => ?_)
  refine lv_aload_n C.1 C.2.1 dX3_fillTrial_34 rfl (lv_at hl 1 rfl) ?_
  refine va_get (ci := 3) (C := RX3) (T := TX3) (N := 10) C.1 C.2.1 C.2.2.2.2.2.1 ui_X3 C.2.2.2.2.1 C.2.2.2.2.2.2.2.1 hP 0 (rfl) rfl 1 (by decide) (C.2.2.2.2.2.1 _ tw_62) (fun _ h9 => h9) rfl dX3_fillTrial_35 ?_
  refine lv_iconst (v := nI 0) C.1 C.2.1 dX3_fillTrial_38 (by decide +kernel) ?_
  refine cm_cV1 (q0 := 2) 1 C (k_X0_rowInUse l D cI cZ cJ (cw ad cI X sd fn (tr0 z w9) fm σ ta lp lr) (qI := 2) (qA := 3) rfl rfl z 0 hz) tw_120 tw_121 tw_122 tw_2 tw_123 rfl rfl (rfl) rfl (by decide +kernel) ⟨Nat.le_of_ble_eq_true rfl, Nat.le_of_ble_eq_true rfl⟩ ⟨Nat.zero_le _, Nat.zero_le _⟩ hP hD hS hl.1 rfl rfl (Nat.le_of_ble_eq_true rfl) dX3_fillTrial_39 (fun H locs hP hD hS => ?_)
  refine lv_iconst (v := nI 0) C.1 C.2.1 dX3_fillTrial_42 (by decide +kernel) ?_
  refine cm_cS1 2 C (c_placeOf l D cI cZ cJ (cw ad cI X sd fn (tr0 z w9) fm σ ta lp lr) (z * 9 + 0) 0) tw_168 tw_133 tw_1 tw_134 rfl rfl (by decide +kernel) ⟨Nat.le_of_ble_eq_true rfl, Nat.le_of_ble_eq_true rfl⟩ ⟨Nat.zero_le _, Nat.zero_le _⟩ hP hD hS hl.1 rfl rfl (Nat.le_of_ble_eq_true rfl) dX3_fillTrial_43 (fun H locs hP hD hS => ?_)
  rw [show (z * 9 + 0) * 4 + 0 = 36 * z by omega]
  refine lv_istore (lv' := [(5, _), (4, _), (0, _), (1, _), (2, _), (3, _)]) C.1 C.2.1 dX3_fillTrial_46 hl (by decide) rfl (fun ls hl => ?_)
  refine lv_iconst (v := nI 0) C.1 C.2.1 dX3_fillTrial_48 (by decide +kernel) ?_
  refine lv_istore (lv' := [(6, _), (5, _), (4, _), (0, _), (1, _), (2, _), (3, _)]) C.1 C.2.1 dX3_fillTrial_49 hl (by decide) rfl (fun ls hl => ?_)
  generalize hT9 : trA fn z (sd w9) w9 key val = T9
  have loop : ∀ (k j : Nat) (g h : Nat → Int32), j + k = 36 → g 396 = nI (1 - z) → (trL fn z (1 - z) (sd w9) j k g).bind (fun f => trS (1 - z) (sd w9) f key val) = T9 → ∀ (ls : Array Slot) (H : Heap) (locs : List Loc), lv_has ls 8 [(6, .int (nI j)), (5, .int (nI (36 * z))), (4, .int (sd w9)), (0, .ref (ad 0)), (1, .int (nI w9)), (2, .int key), (3, .int val)] → va_P D vwCl (cw ad cI X sd fn g h σ ta lp lr) H → va_D (cm_A (cw ad cI X sd fn ft fm σ ta lp lr)) (cw ad cI X sd fn g h σ ta lp lr) → va_S (cm_A (cw ad cI X sd fn ft fm σ ta lp lr)) s.heap H locs → W p l e (cm_rm 5 129) s m ([.ref (ad 0), .int (nI w9), .int key, .int val] : List Value).toArray below meth c H locs 0 0 (cr_Q below D [.ref (ad 0), .int (nI w9), .int key, .int val] s (cw ad cI X sd fn ft fm σ ta lp lr) (fun r w1 => ∃ ft1 fm1 : Nat → Int32, w1 = cw ad cI X sd fn ft1 fm1 σ ta lp lr ∧ trR T9 r ft1)) (F0 m 51 ls []) := by
    intro k
    induction k with
    | zero =>
      intro j g h hj hg hT ls H locs hl hP hD hS
      obtain ⟨fm0, hf0, hch⟩ := k_X3_choose l D cI cZ cJ (cw ad cI X sd fn g h σ ta lp lr) (qO := 0) rfl (qM := 11) (qN := 12) rfl rfl (qI := 6) (qA := 7) rfl rfl (by decide) (by decide) (by decide) (by decide) (1 - z) (by omega) hg (sd w9) (key) (val)
      obtain ⟨o1, o2, -⟩ := chS_ok (uR g (1 - z)) (kR g (1 - z)) (vR g (1 - z)) (sd w9) (key) (val)
      have hen := encA_enc (z := 1 - z) (by omega) hf0 o1 o2
      by_cases hfull : (chS (uR g (1 - z)) (kR g (1 - z)) (vR g (1 - z)) (sd w9) (key) (val)).1 = -2
      · refine lv_iload C.1 C.2.1 dX3_fillTrial_51 (lv_at hl 0 rfl) ?_
        refine lv_bipush (v := nI 36) C.1 C.2.1 dX3_fillTrial_53 (by decide +kernel) ?_
        refine lv_icmp_ge (tgt := 129) C.1 C.2.1 dX3_fillTrial_55 (by decide) (fun _ => ?_) (fun h => absurd (nI_le (by omega) (by omega)) h)
        refine lv_aload_n C.1 C.2.1 dX3_fillTrial_129 rfl (lv_at hl 3 rfl) ?_
        refine lv_aload_n C.1 C.2.1 dX3_fillTrial_130 rfl (lv_at hl 3 rfl) ?_
        refine va_get (ci := 3) (C := RX3) (T := TX3) (N := 10) C.1 C.2.1 C.2.2.2.2.2.1 ui_X3 C.2.2.2.2.1 C.2.2.2.2.2.2.2.1 hP 0 (rfl) rfl 3 (by decide) (C.2.2.2.2.2.1 _ tw_64) (fun _ h9 => h9) rfl dX3_fillTrial_131 ?_
        refine lv_iload C.1 C.2.1 dX3_fillTrial_134 (lv_at hl 2 rfl) ?_
        refine lv_iload_n C.1 C.2.1 dX3_fillTrial_136 rfl (lv_at hl 5 rfl) ?_
        refine lv_iload_n C.1 C.2.1 dX3_fillTrial_137 rfl (lv_at hl 6 rfl) ?_
        refine cm_cV1 (q0 := 0) 4 C (hch) tw_107 tw_109 ts_1 tw_1 tw_110 rfl rfl (rfl) rfl (by decide +kernel) ⟨Nat.le_of_ble_eq_true rfl, Nat.le_of_ble_eq_true rfl⟩ ⟨Nat.zero_le _, Nat.zero_le _⟩ hP hD hS hl.1 rfl rfl (Nat.le_of_ble_eq_true rfl) dX3_fillTrial_138 (fun H locs hP hD hS => ?_)
        have hP : va_P D vwCl (cw ad cI X sd fn g (encA (1 - z) fm0 0 (chS (uR g (1 - z)) (kR g (1 - z)) (vR g (1 - z)) (sd w9) (key) (val)).2) σ ta lp lr) H := hP
        have hD : va_D (cm_A (cw ad cI X sd fn ft fm σ ta lp lr)) (cw ad cI X sd fn g (encA (1 - z) fm0 0 (chS (uR g (1 - z)) (kR g (1 - z)) (vR g (1 - z)) (sd w9) (key) (val)).2) σ ta lp lr) := hD
        refine lv_bipush (v := (-2)) C.1 C.2.1 dX3_fillTrial_141 (by decide +kernel) ?_
        refine lv_icmp_ne (tgt := 148) C.1 C.2.1 dX3_fillTrial_143 (by decide) (fun h => absurd (hfull) h) (fun _ => ?_)
        refine lv_iconst (v := nI 0) C.1 C.2.1 dX3_fillTrial_146 (by decide +kernel) ?_
        exact cr_zret C hP hD hS dX3_fillTrial_147 (by decide +kernel) ⟨_, _, rfl, by rw [← hT]; simp [trL, trS, hfull, trR]⟩
      · refine lv_iload C.1 C.2.1 dX3_fillTrial_51 (lv_at hl 0 rfl) ?_
        refine lv_bipush (v := nI 36) C.1 C.2.1 dX3_fillTrial_53 (by decide +kernel) ?_
        refine lv_icmp_ge (tgt := 129) C.1 C.2.1 dX3_fillTrial_55 (by decide) (fun _ => ?_) (fun h => absurd (nI_le (by omega) (by omega)) h)
        refine lv_aload_n C.1 C.2.1 dX3_fillTrial_129 rfl (lv_at hl 3 rfl) ?_
        refine lv_aload_n C.1 C.2.1 dX3_fillTrial_130 rfl (lv_at hl 3 rfl) ?_
        refine va_get (ci := 3) (C := RX3) (T := TX3) (N := 10) C.1 C.2.1 C.2.2.2.2.2.1 ui_X3 C.2.2.2.2.1 C.2.2.2.2.2.2.2.1 hP 0 (rfl) rfl 3 (by decide) (C.2.2.2.2.2.1 _ tw_64) (fun _ h9 => h9) rfl dX3_fillTrial_131 ?_
        refine lv_iload C.1 C.2.1 dX3_fillTrial_134 (lv_at hl 2 rfl) ?_
        refine lv_iload_n C.1 C.2.1 dX3_fillTrial_136 rfl (lv_at hl 5 rfl) ?_
        refine lv_iload_n C.1 C.2.1 dX3_fillTrial_137 rfl (lv_at hl 6 rfl) ?_
        refine cm_cV1 (q0 := 0) 4 C (hch) tw_107 tw_109 ts_1 tw_1 tw_110 rfl rfl (rfl) rfl (by decide +kernel) ⟨Nat.le_of_ble_eq_true rfl, Nat.le_of_ble_eq_true rfl⟩ ⟨Nat.zero_le _, Nat.zero_le _⟩ hP hD hS hl.1 rfl rfl (Nat.le_of_ble_eq_true rfl) dX3_fillTrial_138 (fun H locs hP hD hS => ?_)
        have hP : va_P D vwCl (cw ad cI X sd fn g (encA (1 - z) fm0 0 (chS (uR g (1 - z)) (kR g (1 - z)) (vR g (1 - z)) (sd w9) (key) (val)).2) σ ta lp lr) H := hP
        have hD : va_D (cm_A (cw ad cI X sd fn ft fm σ ta lp lr)) (cw ad cI X sd fn g (encA (1 - z) fm0 0 (chS (uR g (1 - z)) (kR g (1 - z)) (vR g (1 - z)) (sd w9) (key) (val)).2) σ ta lp lr) := hD
        refine lv_bipush (v := (-2)) C.1 C.2.1 dX3_fillTrial_141 (by decide +kernel) ?_
        refine lv_icmp_ne (tgt := 148) C.1 C.2.1 dX3_fillTrial_143 (by decide) (fun _ => ?_) (fun h => absurd h (hfull))
        refine lv_aload_n C.1 C.2.1 dX3_fillTrial_148 rfl (lv_at hl 3 rfl) ?_
        refine va_get (ci := 3) (C := RX3) (T := TX3) (N := 10) C.1 C.2.1 C.2.2.2.2.2.1 ui_X3 C.2.2.2.2.1 C.2.2.2.2.2.2.2.1 hP 0 (rfl) rfl 3 (by decide) (C.2.2.2.2.2.1 _ tw_64) (fun _ h9 => h9) rfl dX3_fillTrial_149 ?_
        refine lv_aload_n C.1 C.2.1 dX3_fillTrial_152 rfl (lv_at hl 3 rfl) ?_
        refine va_get (ci := 3) (C := RX3) (T := TX3) (N := 10) C.1 C.2.1 C.2.2.2.2.2.1 ui_X3 C.2.2.2.2.1 C.2.2.2.2.2.2.2.1 hP 0 (rfl) rfl 5 (by decide) (C.2.2.2.2.2.1 _ tw_66) (fun _ h9 => h9) rfl dX3_fillTrial_153 ?_
        refine cm_cV0 (q0 := 6) 1 C (k_X0_fillAll l D cI cZ cJ (cw ad cI X sd fn g (encA (1 - z) fm0 0 (chS (uR g (1 - z)) (kR g (1 - z)) (vR g (1 - z)) (sd w9) (key) (val)).2) σ ta lp lr) (qI := 6) (qA := 7) rfl rfl (by decide) (qM := 11) (qN := 12) rfl rfl (by decide) (by decide) _ hen.ok) tw_209 tw_210 tw_211 tw_2 tw_212 rfl rfl (rfl) rfl (by decide +kernel) ⟨Nat.le_of_ble_eq_true rfl, Nat.le_of_ble_eq_true rfl⟩ ⟨Nat.zero_le _, Nat.zero_le _⟩ hP hD hS hl.1 rfl rfl (Nat.le_of_ble_eq_true rfl) dX3_fillTrial_156 (fun H locs hP hD hS => ?_)
        rw [fillN_enc hen] at hP hD
        have hP : va_P D vwCl (cw ad cI X sd fn (fillM (absM (1 - z) (chS (uR g (1 - z)) (kR g (1 - z)) (vR g (1 - z)) (sd w9) (key) (val)).2) g) (encA (1 - z) fm0 0 (chS (uR g (1 - z)) (kR g (1 - z)) (vR g (1 - z)) (sd w9) (key) (val)).2) σ ta lp lr) H := hP
        have hD : va_D (cm_A (cw ad cI X sd fn ft fm σ ta lp lr)) (cw ad cI X sd fn (fillM (absM (1 - z) (chS (uR g (1 - z)) (kR g (1 - z)) (vR g (1 - z)) (sd w9) (key) (val)).2) g) (encA (1 - z) fm0 0 (chS (uR g (1 - z)) (kR g (1 - z)) (vR g (1 - z)) (sd w9) (key) (val)).2) σ ta lp lr) := hD
        refine lv_iconst (v := nI 1) C.1 C.2.1 dX3_fillTrial_159 (by decide +kernel) ?_
        exact cr_zret C hP hD hS dX3_fillTrial_160 (by decide +kernel) ⟨_, _, rfl, by rw [← hT]; simp [trL, trS, hfull, trR]⟩
    | succ k ih =>
      intro j g h hj hg hT ls H locs hl hP hD hS
      by_cases hu : uR fn z j = true
      · obtain ⟨fm0, hf0, hch⟩ := k_X3_choose l D cI cZ cJ (cw ad cI X sd fn g h σ ta lp lr) (qO := 0) rfl (qM := 11) (qN := 12) rfl rfl (qI := 6) (qA := 7) rfl rfl (by decide) (by decide) (by decide) (by decide) (1 - z) (by omega) hg (sd w9) (kR fn z j) (vR fn z j)
        obtain ⟨o1, o2, -⟩ := chS_ok (uR g (1 - z)) (kR g (1 - z)) (vR g (1 - z)) (sd w9) (kR fn z j) (vR fn z j)
        have hen := encA_enc (z := 1 - z) (by omega) hf0 o1 o2
        by_cases hfull : (chS (uR g (1 - z)) (kR g (1 - z)) (vR g (1 - z)) (sd w9) (kR fn z j) (vR fn z j)).1 = -2
        · refine lv_iload C.1 C.2.1 dX3_fillTrial_51 (lv_at hl 0 rfl) ?_
          refine lv_bipush (v := nI 36) C.1 C.2.1 dX3_fillTrial_53 (by decide +kernel) ?_
          refine lv_icmp_ge (tgt := 129) C.1 C.2.1 dX3_fillTrial_55 (by decide) (fun h => absurd h (nI_ge (by omega) (by decide))) (fun _ => ?_)
          refine lv_iload C.1 C.2.1 dX3_fillTrial_58 (lv_at hl 1 rfl) ?_
          refine lv_iload C.1 C.2.1 dX3_fillTrial_60 (lv_at hl 0 rfl) ?_
          refine lv_iadd C.1 C.2.1 dX3_fillTrial_62 ?_
          rw [nI_add]
          refine lv_istore (lv' := [(7, _), (6, _), (5, _), (4, _), (0, _), (1, _), (2, _), (3, _)]) C.1 C.2.1 dX3_fillTrial_63 hl (by decide) rfl (fun ls hl => ?_)
          refine lv_aload_n C.1 C.2.1 dX3_fillTrial_65 rfl (lv_at hl 4 rfl) ?_
          refine va_get (ci := 3) (C := RX3) (T := TX3) (N := 10) C.1 C.2.1 C.2.2.2.2.2.1 ui_X3 C.2.2.2.2.1 C.2.2.2.2.2.2.2.1 hP 0 (rfl) rfl 1 (by decide) (C.2.2.2.2.2.1 _ tw_62) (fun _ h9 => h9) rfl dX3_fillTrial_66 ?_
          refine lv_iload C.1 C.2.1 dX3_fillTrial_69 (lv_at hl 0 rfl) ?_
          refine cm_cV1 (q0 := 2) 1 C (k_X0_holds l D cI cZ cJ (cw ad cI X sd fn g h σ ta lp lr) (qI := 2) (qA := 3) rfl rfl (36 * z + j) (by omega)) tw_205 tw_206 tw_207 tw_2 tw_208 rfl rfl (rfl) rfl (by decide +kernel) ⟨Nat.le_of_ble_eq_true rfl, Nat.le_of_ble_eq_true rfl⟩ ⟨Nat.zero_le _, Nat.zero_le _⟩ hP hD hS hl.1 rfl rfl (Nat.le_of_ble_eq_true rfl) dX3_fillTrial_71 (fun H locs hP hD hS => ?_)
          rw [show decide (¬ uC fn (36 * z + j) = 0) = uR fn z j from rfl, hu]
          refine lv_if_eq (tgt := 123) C.1 C.2.1 dX3_fillTrial_74 (by decide) (fun h => absurd h (by decide)) (fun _ => ?_)
          refine lv_aload_n C.1 C.2.1 dX3_fillTrial_77 rfl (lv_at hl 4 rfl) ?_
          refine lv_aload_n C.1 C.2.1 dX3_fillTrial_78 rfl (lv_at hl 4 rfl) ?_
          refine va_get (ci := 3) (C := RX3) (T := TX3) (N := 10) C.1 C.2.1 C.2.2.2.2.2.1 ui_X3 C.2.2.2.2.1 C.2.2.2.2.2.2.2.1 hP 0 (rfl) rfl 3 (by decide) (C.2.2.2.2.2.1 _ tw_64) (fun _ h9 => h9) rfl dX3_fillTrial_79 ?_
          refine lv_iload C.1 C.2.1 dX3_fillTrial_82 (lv_at hl 3 rfl) ?_
          refine lv_aload_n C.1 C.2.1 dX3_fillTrial_84 rfl (lv_at hl 4 rfl) ?_
          refine va_get (ci := 3) (C := RX3) (T := TX3) (N := 10) C.1 C.2.1 C.2.2.2.2.2.1 ui_X3 C.2.2.2.2.1 C.2.2.2.2.2.2.2.1 hP 0 (rfl) rfl 1 (by decide) (C.2.2.2.2.2.1 _ tw_62) (fun _ h9 => h9) rfl dX3_fillTrial_85 ?_
          refine lv_iload C.1 C.2.1 dX3_fillTrial_88 (lv_at hl 0 rfl) ?_
          refine cm_cV1 (q0 := 2) 1 C (k_X0_keyAt l D cI cZ cJ (cw ad cI X sd fn g h σ ta lp lr) (qI := 2) (qA := 3) rfl rfl (36 * z + j) (by omega)) tw_174 tw_175 tw_176 tw_2 tw_177 rfl rfl (rfl) rfl (by decide +kernel) ⟨Nat.le_of_ble_eq_true rfl, Nat.le_of_ble_eq_true rfl⟩ ⟨Nat.zero_le _, Nat.zero_le _⟩ hP hD hS hl.1 rfl rfl (Nat.le_of_ble_eq_true rfl) dX3_fillTrial_90 (fun H locs hP hD hS => ?_)
          refine lv_aload_n C.1 C.2.1 dX3_fillTrial_93 rfl (lv_at hl 4 rfl) ?_
          refine va_get (ci := 3) (C := RX3) (T := TX3) (N := 10) C.1 C.2.1 C.2.2.2.2.2.1 ui_X3 C.2.2.2.2.1 C.2.2.2.2.2.2.2.1 hP 0 (rfl) rfl 1 (by decide) (C.2.2.2.2.2.1 _ tw_62) (fun _ h9 => h9) rfl dX3_fillTrial_94 ?_
          refine lv_iload C.1 C.2.1 dX3_fillTrial_97 (lv_at hl 0 rfl) ?_
          refine cm_cV1 (q0 := 2) 1 C (k_X0_valueAt l D cI cZ cJ (cw ad cI X sd fn g h σ ta lp lr) (qI := 2) (qA := 3) rfl rfl (36 * z + j) (by omega)) tw_184 tw_185 tw_186 tw_2 tw_187 rfl rfl (rfl) rfl (by decide +kernel) ⟨Nat.le_of_ble_eq_true rfl, Nat.le_of_ble_eq_true rfl⟩ ⟨Nat.zero_le _, Nat.zero_le _⟩ hP hD hS hl.1 rfl rfl (Nat.le_of_ble_eq_true rfl) dX3_fillTrial_99 (fun H locs hP hD hS => ?_)
          refine cm_cV1 (q0 := 0) 4 C (hch) tw_107 tw_109 ts_1 tw_1 tw_110 rfl rfl (rfl) rfl (by decide +kernel) ⟨Nat.le_of_ble_eq_true rfl, Nat.le_of_ble_eq_true rfl⟩ ⟨Nat.zero_le _, Nat.zero_le _⟩ hP hD hS hl.1 rfl rfl (Nat.le_of_ble_eq_true rfl) dX3_fillTrial_102 (fun H locs hP hD hS => ?_)
          have hP : va_P D vwCl (cw ad cI X sd fn g (encA (1 - z) fm0 0 (chS (uR g (1 - z)) (kR g (1 - z)) (vR g (1 - z)) (sd w9) (kR fn z j) (vR fn z j)).2) σ ta lp lr) H := hP
          have hD : va_D (cm_A (cw ad cI X sd fn ft fm σ ta lp lr)) (cw ad cI X sd fn g (encA (1 - z) fm0 0 (chS (uR g (1 - z)) (kR g (1 - z)) (vR g (1 - z)) (sd w9) (kR fn z j) (vR fn z j)).2) σ ta lp lr) := hD
          refine lv_bipush (v := (-2)) C.1 C.2.1 dX3_fillTrial_105 (by decide +kernel) ?_
          refine lv_icmp_ne (tgt := 112) C.1 C.2.1 dX3_fillTrial_107 (by decide) (fun h => absurd (hfull) h) (fun _ => ?_)
          refine lv_iconst (v := nI 0) C.1 C.2.1 dX3_fillTrial_110 (by decide +kernel) ?_
          exact cr_zret C hP hD hS dX3_fillTrial_111 (by decide +kernel) ⟨_, _, rfl, by rw [← hT]; simp [trL, hu, trS, hfull, trR]⟩
        · refine lv_iload C.1 C.2.1 dX3_fillTrial_51 (lv_at hl 0 rfl) ?_
          refine lv_bipush (v := nI 36) C.1 C.2.1 dX3_fillTrial_53 (by decide +kernel) ?_
          refine lv_icmp_ge (tgt := 129) C.1 C.2.1 dX3_fillTrial_55 (by decide) (fun h => absurd h (nI_ge (by omega) (by decide))) (fun _ => ?_)
          refine lv_iload C.1 C.2.1 dX3_fillTrial_58 (lv_at hl 1 rfl) ?_
          refine lv_iload C.1 C.2.1 dX3_fillTrial_60 (lv_at hl 0 rfl) ?_
          refine lv_iadd C.1 C.2.1 dX3_fillTrial_62 ?_
          rw [nI_add]
          refine lv_istore (lv' := [(7, _), (6, _), (5, _), (4, _), (0, _), (1, _), (2, _), (3, _)]) C.1 C.2.1 dX3_fillTrial_63 hl (by decide) rfl (fun ls hl => ?_)
          refine lv_aload_n C.1 C.2.1 dX3_fillTrial_65 rfl (lv_at hl 4 rfl) ?_
          refine va_get (ci := 3) (C := RX3) (T := TX3) (N := 10) C.1 C.2.1 C.2.2.2.2.2.1 ui_X3 C.2.2.2.2.1 C.2.2.2.2.2.2.2.1 hP 0 (rfl) rfl 1 (by decide) (C.2.2.2.2.2.1 _ tw_62) (fun _ h9 => h9) rfl dX3_fillTrial_66 ?_
          refine lv_iload C.1 C.2.1 dX3_fillTrial_69 (lv_at hl 0 rfl) ?_
          refine cm_cV1 (q0 := 2) 1 C (k_X0_holds l D cI cZ cJ (cw ad cI X sd fn g h σ ta lp lr) (qI := 2) (qA := 3) rfl rfl (36 * z + j) (by omega)) tw_205 tw_206 tw_207 tw_2 tw_208 rfl rfl (rfl) rfl (by decide +kernel) ⟨Nat.le_of_ble_eq_true rfl, Nat.le_of_ble_eq_true rfl⟩ ⟨Nat.zero_le _, Nat.zero_le _⟩ hP hD hS hl.1 rfl rfl (Nat.le_of_ble_eq_true rfl) dX3_fillTrial_71 (fun H locs hP hD hS => ?_)
          rw [show decide (¬ uC fn (36 * z + j) = 0) = uR fn z j from rfl, hu]
          refine lv_if_eq (tgt := 123) C.1 C.2.1 dX3_fillTrial_74 (by decide) (fun h => absurd h (by decide)) (fun _ => ?_)
          refine lv_aload_n C.1 C.2.1 dX3_fillTrial_77 rfl (lv_at hl 4 rfl) ?_
          refine lv_aload_n C.1 C.2.1 dX3_fillTrial_78 rfl (lv_at hl 4 rfl) ?_
          refine va_get (ci := 3) (C := RX3) (T := TX3) (N := 10) C.1 C.2.1 C.2.2.2.2.2.1 ui_X3 C.2.2.2.2.1 C.2.2.2.2.2.2.2.1 hP 0 (rfl) rfl 3 (by decide) (C.2.2.2.2.2.1 _ tw_64) (fun _ h9 => h9) rfl dX3_fillTrial_79 ?_
          refine lv_iload C.1 C.2.1 dX3_fillTrial_82 (lv_at hl 3 rfl) ?_
          refine lv_aload_n C.1 C.2.1 dX3_fillTrial_84 rfl (lv_at hl 4 rfl) ?_
          refine va_get (ci := 3) (C := RX3) (T := TX3) (N := 10) C.1 C.2.1 C.2.2.2.2.2.1 ui_X3 C.2.2.2.2.1 C.2.2.2.2.2.2.2.1 hP 0 (rfl) rfl 1 (by decide) (C.2.2.2.2.2.1 _ tw_62) (fun _ h9 => h9) rfl dX3_fillTrial_85 ?_
          refine lv_iload C.1 C.2.1 dX3_fillTrial_88 (lv_at hl 0 rfl) ?_
          refine cm_cV1 (q0 := 2) 1 C (k_X0_keyAt l D cI cZ cJ (cw ad cI X sd fn g h σ ta lp lr) (qI := 2) (qA := 3) rfl rfl (36 * z + j) (by omega)) tw_174 tw_175 tw_176 tw_2 tw_177 rfl rfl (rfl) rfl (by decide +kernel) ⟨Nat.le_of_ble_eq_true rfl, Nat.le_of_ble_eq_true rfl⟩ ⟨Nat.zero_le _, Nat.zero_le _⟩ hP hD hS hl.1 rfl rfl (Nat.le_of_ble_eq_true rfl) dX3_fillTrial_90 (fun H locs hP hD hS => ?_)
          refine lv_aload_n C.1 C.2.1 dX3_fillTrial_93 rfl (lv_at hl 4 rfl) ?_
          refine va_get (ci := 3) (C := RX3) (T := TX3) (N := 10) C.1 C.2.1 C.2.2.2.2.2.1 ui_X3 C.2.2.2.2.1 C.2.2.2.2.2.2.2.1 hP 0 (rfl) rfl 1 (by decide) (C.2.2.2.2.2.1 _ tw_62) (fun _ h9 => h9) rfl dX3_fillTrial_94 ?_
          refine lv_iload C.1 C.2.1 dX3_fillTrial_97 (lv_at hl 0 rfl) ?_
          refine cm_cV1 (q0 := 2) 1 C (k_X0_valueAt l D cI cZ cJ (cw ad cI X sd fn g h σ ta lp lr) (qI := 2) (qA := 3) rfl rfl (36 * z + j) (by omega)) tw_184 tw_185 tw_186 tw_2 tw_187 rfl rfl (rfl) rfl (by decide +kernel) ⟨Nat.le_of_ble_eq_true rfl, Nat.le_of_ble_eq_true rfl⟩ ⟨Nat.zero_le _, Nat.zero_le _⟩ hP hD hS hl.1 rfl rfl (Nat.le_of_ble_eq_true rfl) dX3_fillTrial_99 (fun H locs hP hD hS => ?_)
          refine cm_cV1 (q0 := 0) 4 C (hch) tw_107 tw_109 ts_1 tw_1 tw_110 rfl rfl (rfl) rfl (by decide +kernel) ⟨Nat.le_of_ble_eq_true rfl, Nat.le_of_ble_eq_true rfl⟩ ⟨Nat.zero_le _, Nat.zero_le _⟩ hP hD hS hl.1 rfl rfl (Nat.le_of_ble_eq_true rfl) dX3_fillTrial_102 (fun H locs hP hD hS => ?_)
          have hP : va_P D vwCl (cw ad cI X sd fn g (encA (1 - z) fm0 0 (chS (uR g (1 - z)) (kR g (1 - z)) (vR g (1 - z)) (sd w9) (kR fn z j) (vR fn z j)).2) σ ta lp lr) H := hP
          have hD : va_D (cm_A (cw ad cI X sd fn ft fm σ ta lp lr)) (cw ad cI X sd fn g (encA (1 - z) fm0 0 (chS (uR g (1 - z)) (kR g (1 - z)) (vR g (1 - z)) (sd w9) (kR fn z j) (vR fn z j)).2) σ ta lp lr) := hD
          refine lv_bipush (v := (-2)) C.1 C.2.1 dX3_fillTrial_105 (by decide +kernel) ?_
          refine lv_icmp_ne (tgt := 112) C.1 C.2.1 dX3_fillTrial_107 (by decide) (fun _ => ?_) (fun h => absurd h (hfull))
          refine lv_aload_n C.1 C.2.1 dX3_fillTrial_112 rfl (lv_at hl 4 rfl) ?_
          refine va_get (ci := 3) (C := RX3) (T := TX3) (N := 10) C.1 C.2.1 C.2.2.2.2.2.1 ui_X3 C.2.2.2.2.1 C.2.2.2.2.2.2.2.1 hP 0 (rfl) rfl 3 (by decide) (C.2.2.2.2.2.1 _ tw_64) (fun _ h9 => h9) rfl dX3_fillTrial_113 ?_
          refine lv_aload_n C.1 C.2.1 dX3_fillTrial_116 rfl (lv_at hl 4 rfl) ?_
          refine va_get (ci := 3) (C := RX3) (T := TX3) (N := 10) C.1 C.2.1 C.2.2.2.2.2.1 ui_X3 C.2.2.2.2.1 C.2.2.2.2.2.2.2.1 hP 0 (rfl) rfl 5 (by decide) (C.2.2.2.2.2.1 _ tw_66) (fun _ h9 => h9) rfl dX3_fillTrial_117 ?_
          refine cm_cV0 (q0 := 6) 1 C (k_X0_fillAll l D cI cZ cJ (cw ad cI X sd fn g (encA (1 - z) fm0 0 (chS (uR g (1 - z)) (kR g (1 - z)) (vR g (1 - z)) (sd w9) (kR fn z j) (vR fn z j)).2) σ ta lp lr) (qI := 6) (qA := 7) rfl rfl (by decide) (qM := 11) (qN := 12) rfl rfl (by decide) (by decide) _ hen.ok) tw_209 tw_210 tw_211 tw_2 tw_212 rfl rfl (rfl) rfl (by decide +kernel) ⟨Nat.le_of_ble_eq_true rfl, Nat.le_of_ble_eq_true rfl⟩ ⟨Nat.zero_le _, Nat.zero_le _⟩ hP hD hS hl.1 rfl rfl (Nat.le_of_ble_eq_true rfl) dX3_fillTrial_120 (fun H locs hP hD hS => ?_)
          rw [fillN_enc hen] at hP hD
          have hP : va_P D vwCl (cw ad cI X sd fn (fillM (absM (1 - z) (chS (uR g (1 - z)) (kR g (1 - z)) (vR g (1 - z)) (sd w9) (kR fn z j) (vR fn z j)).2) g) (encA (1 - z) fm0 0 (chS (uR g (1 - z)) (kR g (1 - z)) (vR g (1 - z)) (sd w9) (kR fn z j) (vR fn z j)).2) σ ta lp lr) H := hP
          have hD : va_D (cm_A (cw ad cI X sd fn ft fm σ ta lp lr)) (cw ad cI X sd fn (fillM (absM (1 - z) (chS (uR g (1 - z)) (kR g (1 - z)) (vR g (1 - z)) (sd w9) (kR fn z j) (vR fn z j)).2) g) (encA (1 - z) fm0 0 (chS (uR g (1 - z)) (kR g (1 - z)) (vR g (1 - z)) (sd w9) (kR fn z j) (vR fn z j)).2) σ ta lp lr) := hD
          refine lv_iinc (v := nI (j + 1)) (lv' := [(6, _), (7, _), (5, _), (4, _), (0, _), (1, _), (2, _), (3, _)]) C.1 C.2.1 dX3_fillTrial_123 hl (k := 1) rfl (nI_1 j) (by decide) rfl (fun ls hl => ?_)
          refine lv_goto (tgt := 51) C.1 C.2.1 dX3_fillTrial_126 (by decide) ?_
          exact ih (j + 1) (fillM (absM (1 - z) (chS (uR g (1 - z)) (kR g (1 - z)) (vR g (1 - z)) (sd w9) (kR fn z j) (vR fn z j)).2) g) (encA (1 - z) fm0 0 (chS (uR g (1 - z)) (kR g (1 - z)) (vR g (1 - z)) (sd w9) (kR fn z j) (vR fn z j)).2) (by omega) (by rw [fillM_hi (by decide) _ _ (absM_lt (by omega) o2)]; exact hg) (by rw [← hT]; simp [trL, hu, trS, hfull]) ls H locs (lv_sub hl [0, 2, 3, 4, 5, 6, 7] rfl) hP hD hS
      · refine lv_iload C.1 C.2.1 dX3_fillTrial_51 (lv_at hl 0 rfl) ?_
        refine lv_bipush (v := nI 36) C.1 C.2.1 dX3_fillTrial_53 (by decide +kernel) ?_
        refine lv_icmp_ge (tgt := 129) C.1 C.2.1 dX3_fillTrial_55 (by decide) (fun h => absurd h (nI_ge (by omega) (by decide))) (fun _ => ?_)
        refine lv_iload C.1 C.2.1 dX3_fillTrial_58 (lv_at hl 1 rfl) ?_
        refine lv_iload C.1 C.2.1 dX3_fillTrial_60 (lv_at hl 0 rfl) ?_
        refine lv_iadd C.1 C.2.1 dX3_fillTrial_62 ?_
        rw [nI_add]
        refine lv_istore (lv' := [(7, _), (6, _), (5, _), (4, _), (0, _), (1, _), (2, _), (3, _)]) C.1 C.2.1 dX3_fillTrial_63 hl (by decide) rfl (fun ls hl => ?_)
        refine lv_aload_n C.1 C.2.1 dX3_fillTrial_65 rfl (lv_at hl 4 rfl) ?_
        refine va_get (ci := 3) (C := RX3) (T := TX3) (N := 10) C.1 C.2.1 C.2.2.2.2.2.1 ui_X3 C.2.2.2.2.1 C.2.2.2.2.2.2.2.1 hP 0 (rfl) rfl 1 (by decide) (C.2.2.2.2.2.1 _ tw_62) (fun _ h9 => h9) rfl dX3_fillTrial_66 ?_
        refine lv_iload C.1 C.2.1 dX3_fillTrial_69 (lv_at hl 0 rfl) ?_
        refine cm_cV1 (q0 := 2) 1 C (k_X0_holds l D cI cZ cJ (cw ad cI X sd fn g h σ ta lp lr) (qI := 2) (qA := 3) rfl rfl (36 * z + j) (by omega)) tw_205 tw_206 tw_207 tw_2 tw_208 rfl rfl (rfl) rfl (by decide +kernel) ⟨Nat.le_of_ble_eq_true rfl, Nat.le_of_ble_eq_true rfl⟩ ⟨Nat.zero_le _, Nat.zero_le _⟩ hP hD hS hl.1 rfl rfl (Nat.le_of_ble_eq_true rfl) dX3_fillTrial_71 (fun H locs hP hD hS => ?_)
        rw [show decide (¬ uC fn (36 * z + j) = 0) = uR fn z j from rfl, Bool.eq_false_iff.mpr hu]
        refine lv_if_eq (tgt := 123) C.1 C.2.1 dX3_fillTrial_74 (by decide) (fun _ => ?_) (fun h => absurd (by decide) h)
        refine lv_iinc (v := nI (j + 1)) (lv' := [(6, _), (7, _), (5, _), (4, _), (0, _), (1, _), (2, _), (3, _)]) C.1 C.2.1 dX3_fillTrial_123 hl (k := 1) rfl (nI_1 j) (by decide) rfl (fun ls hl => ?_)
        refine lv_goto (tgt := 51) C.1 C.2.1 dX3_fillTrial_126 (by decide) ?_
        exact ih (j + 1) g h (by omega) hg (by rw [← hT]; simp [trL, hu]) ls H locs (lv_sub hl [0, 2, 3, 4, 5, 6, 7] rfl) hP hD hS
  exact loop 36 0 (tr0 z w9) fm rfl (by unfold tr0; rw [pk_un (by decide), pk_us]) hT9 ls H locs hl hP hD hS
end
section
/-! ===== put ===== -/
theorem trS_396 {zz : Nat} {s : Int32} {f f' : Nat → Int32} {key val : Int32} (hz : zz < 2) (h : trS zz s f key val = some f') : f' 396 = f 396 ∧ f' 397 = f 397 := by
  unfold trS at h
  split at h
  · cases h
  · cases h
    have o2 := (chS_ok (uR f zz) (kR f zz) (vR f zz) s key val).2.1
    exact ⟨fillM_hi (by decide) _ _ (absM_lt hz o2), fillM_hi (by decide) _ _ (absM_lt hz o2)⟩
theorem trL_396 {fn : Nat → Int32} {z zz : Nat} {s : Int32} (hz : zz < 2) : ∀ (k j : Nat) {f f' : Nat → Int32}, trL fn z zz s j k f = some f' → f' 396 = f 396 ∧ f' 397 = f 397 := by
  intro k
  induction k with
  | zero => intro j f f' h; cases h; exact ⟨rfl, rfl⟩
  | succ k ih =>
    intro j f f' h
    unfold trL at h
    split at h
    · cases ht : trS zz s f (kR fn z j) (vR fn z j) with
      | none => rw [ht] at h; cases h
      | some f1 =>
        rw [ht] at h
        have h1 := ih (j + 1) (show trL fn z zz s (j + 1) k f1 = some f' from h)
        have h2 := trS_396 hz ht
        exact ⟨h1.1.trans h2.1, h1.2.trans h2.2⟩
    · exact ih (j + 1) h
theorem trA_396 {fn : Nat → Int32} {z : Nat} {s : Int32} {w : Nat} {key val : Int32} {f : Nat → Int32} (hz : z < 2) (h : trA fn z s w key val = some f) : f 396 = nI (1 - z) ∧ f 397 = nI w := by
  unfold trA at h
  cases ht : trL fn z (1 - z) s 0 36 (tr0 z w) with
  | none => rw [ht] at h; cases h
  | some f1 =>
    rw [ht] at h
    have h1 := trS_396 (by omega) (show trS (1 - z) s f1 key val = some f from h)
    have h2 := trL_396 (by omega) 36 0 ht
    refine ⟨h1.1.trans (h2.1.trans ?_), h1.2.trans (h2.2.trans pk_us)⟩
    unfold tr0
    rw [pk_un (by decide), pk_us]
def anS (fn : Nat → Int32) (z : Nat) (sd : Nat → Int32) (y : Nat) (key val : Int32) : Nat → Nat → Option (Nat → Int32)
  | _, 0 => none
  | st, k + 1 => match trA fn z (sd ((y + st) % 4)) ((y + st) % 4) key val with
    | some f => some f
    | none => anS fn z sd y key val (st + 1) k
def putE (ad : Nat → Nat) (cI : ClassId) (X : va_W) (sd fn : Nat → Int32) (σ : WS) (ta lp lr : Int32) (z y9 : Nat) (key val : Int32) (r : Int32) (w1 : va_W) : Prop := ∃ ft1 fm1 : Nat → Int32,
  (¬ (chS (uR fn z) (kR fn z) (vR fn z) (sd y9) key val).1 = -2 ∧ r = (chS (uR fn z) (kR fn z) (vR fn z) (sd y9) key val).1 ∧ (chS (uR fn z) (kR fn z) (vR fn z) (sd y9) key val).1 = nI 2 ∧ mEnc fm1 (absM z (chS (uR fn z) (kR fn z) (vR fn z) (sd y9) key val).2) ∧ w1 = cw ad cI X sd (folP fm1 (absM z (chS (uR fn z) (kR fn z) (vR fn z) (sd y9) key val).2) fn σ).1 ft1 fm1 (folP fm1 (absM z (chS (uR fn z) (kR fn z) (vR fn z) (sd y9) key val).2) fn σ).2 ta (nI (absM z (chS (uR fn z) (kR fn z) (vR fn z) (sd y9) key val).2).length) lr) ∨
  (¬ (chS (uR fn z) (kR fn z) (vR fn z) (sd y9) key val).1 = -2 ∧ r = (chS (uR fn z) (kR fn z) (vR fn z) (sd y9) key val).1 ∧ ¬ (chS (uR fn z) (kR fn z) (vR fn z) (sd y9) key val).1 = nI 2 ∧ w1 = cw ad cI X sd (mkR (absM z (chS (uR fn z) (kR fn z) (vR fn z) (sd y9) key val).2) (fn, σ)).1 ft1 fm1 (mkR (absM z (chS (uR fn z) (kR fn z) (vR fn z) (sd y9) key val).2) (fn, σ)).2 ta lp lr) ∨
  ((chS (uR fn z) (kR fn z) (vR fn z) (sd y9) key val).1 = -2 ∧ (∃ f, anS fn z sd y9 key val 1 3 = some f ∧ r = nI 4 ∧ w1 = cw ad cI X sd (tk1 f 18 (tkP f (1 - z) 0 9 (fn, σ))).1 ft1 fm1 (tk1 f 18 (tkP f (1 - z) 0 9 (fn, σ))).2 (ta + nI 1) lp lr)) ∨
  ((chS (uR fn z) (kR fn z) (vR fn z) (sd y9) key val).1 = -2 ∧ anS fn z sd y9 key val 1 3 = none ∧ r = -2 ∧ w1 = cw ad cI X sd fn ft1 fm1 σ ta lp lr)
set_option maxHeartbeats 4000000 in
set_option maxRecDepth 100000 in
/-- put -/
theorem k_X3_put (l : Launch) (D : va_G) (cI cZ cJ : ClassId) (ad : Nat → Nat) (X : va_W) (sd fn ft fm : Nat → Int32) (σ : WS) (ta lp lr : Int32) (z y9 : Nat) (hz0 : z < 2) (hy0 : y9 < 4) (hz : fn 396 = nI z) (hy : fn 397 = nI y9) (hσ : sOk σ) (key val : Int32) : CRi l D (cm_T cI cZ cJ) yX3_put cX3_put 5 (some .int) (cm_rm 6 156) [.ref (ad 0), .int key, .int val] (cw ad cI X sd fn ft fm σ ta lp lr) (putE ad cI X sd fn σ ta lp lr z y9 key val) := by
  refine CRi.of (by decide) (Nat.le_of_ble_eq_true rfl) ?_
  intro p e s m below meth c ls H locs C hl hP hD hS
  obtain ⟨fm0, hf0, hch⟩ := k_X3_choose l D cI cZ cJ (cw ad cI X sd fn ft fm σ ta lp lr) (qO := 0) rfl (qM := 11) (qN := 12) rfl rfl (qI := 2) (qA := 3) rfl rfl (by decide) (by decide) (by decide) (by decide) z hz0 hz (sd y9) key val
  obtain ⟨o1, o2, o3⟩ := chS_ok (uR fn z) (kR fn z) (vR fn z) (sd y9) key val
  have hen := encA_enc (z := z) hz0 hf0 o1 o2
  by_cases hfull : (chS (uR fn z) (kR fn z) (vR fn z) (sd y9) key val).1 = -2
  · refine lv_aload_n C.1 C.2.1 dX3_put_0 rfl (lv_at hl 0 rfl) ?_
    refine lv_aload_n C.1 C.2.1 dX3_put_1 rfl (lv_at hl 0 rfl) ?_
    refine va_get (ci := 3) (C := RX3) (T := TX3) (N := 10) C.1 C.2.1 C.2.2.2.2.2.1 ui_X3 C.2.2.2.2.1 C.2.2.2.2.2.2.2.1 hP 0 (rfl) rfl 1 (by decide) (C.2.2.2.2.2.1 _ tw_62) (fun _ h9 => h9) rfl dX3_put_2 ?_
    refine lv_aload_n C.1 C.2.1 dX3_put_5 rfl (lv_at hl 0 rfl) ?_
    refine lv_aload_n C.1 C.2.1 dX3_put_6 rfl (lv_at hl 0 rfl) ?_
    refine va_get (ci := 3) (C := RX3) (T := TX3) (N := 10) C.1 C.2.1 C.2.2.2.2.2.1 ui_X3 C.2.2.2.2.1 C.2.2.2.2.2.2.2.1 hP 0 (rfl) rfl 1 (by decide) (C.2.2.2.2.2.1 _ tw_62) (fun _ h9 => h9) rfl dX3_put_7 ?_
    refine cm_cV1 (q0 := 0) 1 C (k_X3_seedInUse l D cI cZ cJ (cw ad cI X sd fn ft fm σ ta lp lr) (qO := 0) rfl (qS := 1) rfl (qI := 2) (qA := 3) rfl rfl y9 hy0 hy) tw_96 tw_98 ts_0 tw_1 tw_99 rfl rfl (rfl) rfl (by decide +kernel) ⟨Nat.le_of_ble_eq_true rfl, Nat.le_of_ble_eq_true rfl⟩ ⟨Nat.zero_le _, Nat.zero_le _⟩ hP hD hS hl.1 rfl rfl (Nat.le_of_ble_eq_true rfl) dX3_put_10 (fun H locs hP hD hS => ?_)
    refine lv_iload_n C.1 C.2.1 dX3_put_13 rfl (lv_at hl 1 rfl) ?_
    refine lv_iload_n C.1 C.2.1 dX3_put_14 rfl (lv_at hl 2 rfl) ?_
    refine cm_cV1 (q0 := 0) 4 C (hch) tw_107 tw_109 ts_1 tw_1 tw_110 rfl rfl (rfl) rfl (by decide +kernel) ⟨Nat.le_of_ble_eq_true rfl, Nat.le_of_ble_eq_true rfl⟩ ⟨Nat.zero_le _, Nat.zero_le _⟩ hP hD hS hl.1 rfl rfl (Nat.le_of_ble_eq_true rfl) dX3_put_15 (fun H locs hP hD hS => ?_)
    have hP : va_P D vwCl (cw ad cI X sd fn ft (encA z fm0 0 (chS (uR fn z) (kR fn z) (vR fn z) (sd y9) key val).2) σ ta lp lr) H := hP
    have hD : va_D (cm_A (cw ad cI X sd fn ft fm σ ta lp lr)) (cw ad cI X sd fn ft (encA z fm0 0 (chS (uR fn z) (kR fn z) (vR fn z) (sd y9) key val).2) σ ta lp lr) := hD
    refine lv_istore_n (lv' := [(3, _), (0, _), (1, _), (2, _)]) C.1 C.2.1 dX3_put_18 rfl hl (by decide) rfl (fun ls hl => ?_)
    refine lv_iconst (v := nI 1) C.1 C.2.1 dX3_put_19 (by decide +kernel) ?_
    refine lv_istore (lv' := [(4, _), (3, _), (0, _), (1, _), (2, _)]) C.1 C.2.1 dX3_put_20 hl (by decide) rfl (fun ls hl => ?_)
    rw [hfull] at hl
    have loop : ∀ (k st : Nat) (g h : Nat → Int32), st + k = 4 → anS fn z sd y9 key val st k = anS fn z sd y9 key val 1 3 → ∀ (ls : Array Slot) (H : Heap) (locs : List Loc), lv_has ls 5 [(4, .int (nI st)), (3, .int (-2)), (0, .ref (ad 0)), (1, .int key), (2, .int val)] → va_P D vwCl (cw ad cI X sd fn g h σ ta lp lr) H → va_D (cm_A (cw ad cI X sd fn ft fm σ ta lp lr)) (cw ad cI X sd fn g h σ ta lp lr) → va_S (cm_A (cw ad cI X sd fn ft fm σ ta lp lr)) s.heap H locs → W p l e (cm_rm 6 156) s m ([.ref (ad 0), .int key, .int val] : List Value).toArray below meth c H locs 0 0 (cr_Q below D [.ref (ad 0), .int key, .int val] s (cw ad cI X sd fn ft fm σ ta lp lr) (putE ad cI X sd fn σ ta lp lr z y9 key val)) (F0 m 22 ls []) := by
      intro k
      induction k with
      | zero =>
        intro st g h hj hA ls H locs hl hP hD hS
        refine lv_iload C.1 C.2.1 dX3_put_22 (lv_at hl 0 rfl) ?_
        refine lv_iconst (v := nI 4) C.1 C.2.1 dX3_put_24 (by decide +kernel) ?_
        refine lv_icmp_ge (tgt := 63) C.1 C.2.1 dX3_put_25 (by decide) (fun _ => ?_) (fun h => absurd (nI_le (by omega) (by omega)) h)
        refine lv_iload_n C.1 C.2.1 dX3_put_63 rfl (lv_at hl 1 rfl) ?_
        refine lv_iconst (v := nI 4) C.1 C.2.1 dX3_put_64 (by decide +kernel) ?_
        refine lv_icmp_ne (tgt := 75) C.1 C.2.1 dX3_put_65 (by decide) (fun _ => ?_) (fun h => absurd h (by decide))
        refine lv_iload_n C.1 C.2.1 dX3_put_75 rfl (lv_at hl 1 rfl) ?_
        refine lv_iconst (v := nI 2) C.1 C.2.1 dX3_put_76 (by decide +kernel) ?_
        refine lv_icmp_ne (tgt := 87) C.1 C.2.1 dX3_put_77 (by decide) (fun _ => ?_) (fun h => absurd h (by decide))
        refine lv_iload_n C.1 C.2.1 dX3_put_87 rfl (lv_at hl 1 rfl) ?_
        refine lv_bipush (v := (-2)) C.1 C.2.1 dX3_put_88 (by decide +kernel) ?_
        refine lv_icmp_eq (tgt := 97) C.1 C.2.1 dX3_put_90 (by decide) (fun _ => ?_) (fun h => absurd (rfl) h)
        refine lv_iload_n C.1 C.2.1 dX3_put_97 rfl (lv_at hl 1 rfl) ?_
        exact cr_iret C hP hD hS dX3_put_98 ⟨_, _, Or.inr (Or.inr (Or.inr ⟨hfull, hA.symm, rfl, rfl⟩))⟩
      | succ k ih =>
        intro st g h hj hA ls H locs hl hP hD hS
        refine lv_iload C.1 C.2.1 dX3_put_22 (lv_at hl 0 rfl) ?_
        refine lv_iconst (v := nI 4) C.1 C.2.1 dX3_put_24 (by decide +kernel) ?_
        refine lv_icmp_ge (tgt := 63) C.1 C.2.1 dX3_put_25 (by decide) (fun h => absurd h (nI_ge (by omega) (by decide))) (fun _ => ?_)
        refine lv_iload_n C.1 C.2.1 dX3_put_28 rfl (lv_at hl 1 rfl) ?_
        refine lv_bipush (v := (-2)) C.1 C.2.1 dX3_put_29 (by decide +kernel) ?_
        refine lv_icmp_ne (tgt := 63) C.1 C.2.1 dX3_put_31 (by decide) (fun h => absurd (rfl) h) (fun _ => ?_)
        refine lv_aload_n C.1 C.2.1 dX3_put_34 rfl (lv_at hl 2 rfl) ?_
        refine lv_aload_n C.1 C.2.1 dX3_put_35 rfl (lv_at hl 2 rfl) ?_
        refine va_get (ci := 3) (C := RX3) (T := TX3) (N := 10) C.1 C.2.1 C.2.2.2.2.2.1 ui_X3 C.2.2.2.2.1 C.2.2.2.2.2.2.2.1 hP 0 (rfl) rfl 1 (by decide) (C.2.2.2.2.2.1 _ tw_62) (fun _ h9 => h9) rfl dX3_put_36 ?_
        refine cm_cV1 (q0 := 2) 0 C (k_X0_seedTold l D cI cZ cJ (cw ad cI X sd fn g h σ ta lp lr) (qI := 2) (qA := 3) rfl rfl) tw_100 tw_101 tw_102 tw_2 tw_103 rfl rfl (rfl) rfl (by decide +kernel) ⟨Nat.le_of_ble_eq_true rfl, Nat.le_of_ble_eq_true rfl⟩ ⟨Nat.zero_le _, Nat.zero_le _⟩ hP hD hS hl.1 rfl rfl (Nat.le_of_ble_eq_true rfl) dX3_put_39 (fun H locs hP hD hS => ?_)
        rw [hy]
        refine lv_iload C.1 C.2.1 dX3_put_42 (lv_at hl 0 rfl) ?_
        refine lv_iadd C.1 C.2.1 dX3_put_44 ?_
        rw [nI_add]
        refine lv_iconst (v := nI 4) C.1 C.2.1 dX3_put_45 (by decide +kernel) ?_
        refine lv_irem C.1 C.2.1 dX3_put_46 (by decide) ?_
        rw [pk_rem (by omega) (by decide) (by decide)]
        refine lv_iload_n C.1 C.2.1 dX3_put_47 rfl (lv_at hl 3 rfl) ?_
        refine lv_iload_n C.1 C.2.1 dX3_put_48 rfl (lv_at hl 4 rfl) ?_
        refine cr_cV (q0 := 0) 3 C (k_X3_fillTrial l D cI cZ cJ ad X sd fn g h σ ta lp lr z ((y9 + st) % 4) hz0 (by omega) hz key val) tw_191 tw_193 ts_4 tw_1 tw_194 rfl rfl rfl rfl (by decide +kernel) ⟨Nat.le_of_ble_eq_true rfl, Nat.le_of_ble_eq_true rfl⟩ ⟨Nat.zero_le _, Nat.zero_le _⟩ hP hD hS hl.1 rfl rfl (Nat.le_of_ble_eq_true rfl) dX3_put_49 (fun r9 w1 H locs hE hP hD hS => ?_)
        obtain ⟨ft1, fm1, rfl, hR⟩ := hE
        cases hT : trA fn z (sd ((y9 + st) % 4)) ((y9 + st) % 4) key val with
        | none =>
          rw [hT] at hR
          obtain rfl : r9 = nI 0 := hR
          refine lv_if_eq (tgt := 57) C.1 C.2.1 dX3_put_52 (by decide) (fun _ => ?_) (fun h => absurd (by decide) h)
          refine lv_iinc (v := nI (st + 1)) (lv' := [(4, _), (3, _), (0, _), (1, _), (2, _)]) C.1 C.2.1 dX3_put_57 hl (k := 0) rfl (nI_1 st) (by decide) rfl (fun ls hl => ?_)
          refine lv_goto (tgt := 22) C.1 C.2.1 dX3_put_60 (by decide) ?_
          exact ih (st + 1) ft1 fm1 (by omega) (by rw [← hA]; simp only [anS, hT]) ls H locs hl hP hD hS
        | some f9 =>
          rw [hT] at hR
          obtain ⟨rfl, rfl⟩ : r9 = nI 1 ∧ ft1 = f9 := hR
          have h396 := (trA_396 hz0 hT).1
          have hA : anS fn z sd y9 key val 1 3 = some ft1 := by rw [← hA]; simp only [anS, hT]
          refine lv_if_eq (tgt := 57) C.1 C.2.1 dX3_put_52 (by decide) (fun h => absurd h (by decide)) (fun _ => ?_)
          refine lv_iconst (v := nI 4) C.1 C.2.1 dX3_put_55 (by decide +kernel) ?_
          refine lv_istore_n (lv' := [(3, _), (4, _), (0, _), (1, _), (2, _)]) C.1 C.2.1 dX3_put_56 rfl hl (by decide) rfl (fun ls hl => ?_)
          refine lv_iinc (v := nI (st + 1)) (lv' := [(4, _), (3, _), (0, _), (1, _), (2, _)]) C.1 C.2.1 dX3_put_57 hl (k := 1) rfl (nI_1 st) (by decide) rfl (fun ls hl => ?_)
          refine lv_goto (tgt := 22) C.1 C.2.1 dX3_put_60 (by decide) ?_
          refine lv_iload C.1 C.2.1 dX3_put_22 (lv_at hl 0 rfl) ?_
          refine lv_iconst (v := nI 4) C.1 C.2.1 dX3_put_24 (by decide +kernel) ?_
          refine lv_icmp_ge (tgt := 63) C.1 C.2.1 dX3_put_25 (by decide) (fun h25 => ?_) (fun h25 => ?_)
          · refine lv_iload_n C.1 C.2.1 dX3_put_63 rfl (lv_at hl 1 rfl) ?_
            refine lv_iconst (v := nI 4) C.1 C.2.1 dX3_put_64 (by decide +kernel) ?_
            refine lv_icmp_ne (tgt := 75) C.1 C.2.1 dX3_put_65 (by decide) (fun h => absurd (rfl) h) (fun _ => ?_)
            refine lv_aload_n C.1 C.2.1 dX3_put_68 rfl (lv_at hl 2 rfl) ?_
            refine cm_cV0 (q0 := 0) 0 C (k_X3_takeTrial l D cI cZ cJ ad X sd fn ft1 fm1 σ ta lp lr hσ (1 - z) (by omega) h396) tw_230 tw_232 ts_5 tw_1 tw_233 rfl rfl (rfl) rfl (by decide +kernel) ⟨Nat.le_of_ble_eq_true rfl, Nat.le_of_ble_eq_true rfl⟩ ⟨Nat.zero_le _, Nat.zero_le _⟩ hP hD hS hl.1 rfl rfl (Nat.le_of_ble_eq_true rfl) dX3_put_69 (fun H locs hP hD hS => ?_)
            refine lv_goto (tgt := 97) C.1 C.2.1 dX3_put_72 (by decide) ?_
            refine lv_iload_n C.1 C.2.1 dX3_put_97 rfl (lv_at hl 1 rfl) ?_
            exact cr_iret C hP hD hS dX3_put_98 ⟨_, _, Or.inr (Or.inr (Or.inl ⟨hfull, ft1, hA, rfl, rfl⟩))⟩
          · refine lv_iload_n C.1 C.2.1 dX3_put_28 rfl (lv_at hl 1 rfl) ?_
            refine lv_bipush (v := (-2)) C.1 C.2.1 dX3_put_29 (by decide +kernel) ?_
            refine lv_icmp_ne (tgt := 63) C.1 C.2.1 dX3_put_31 (by decide) (fun _ => ?_) (fun h => absurd h (by decide))
            refine lv_iload_n C.1 C.2.1 dX3_put_63 rfl (lv_at hl 1 rfl) ?_
            refine lv_iconst (v := nI 4) C.1 C.2.1 dX3_put_64 (by decide +kernel) ?_
            refine lv_icmp_ne (tgt := 75) C.1 C.2.1 dX3_put_65 (by decide) (fun h => absurd (rfl) h) (fun _ => ?_)
            refine lv_aload_n C.1 C.2.1 dX3_put_68 rfl (lv_at hl 2 rfl) ?_
            refine cm_cV0 (q0 := 0) 0 C (k_X3_takeTrial l D cI cZ cJ ad X sd fn ft1 fm1 σ ta lp lr hσ (1 - z) (by omega) h396) tw_230 tw_232 ts_5 tw_1 tw_233 rfl rfl (rfl) rfl (by decide +kernel) ⟨Nat.le_of_ble_eq_true rfl, Nat.le_of_ble_eq_true rfl⟩ ⟨Nat.zero_le _, Nat.zero_le _⟩ hP hD hS hl.1 rfl rfl (Nat.le_of_ble_eq_true rfl) dX3_put_69 (fun H locs hP hD hS => ?_)
            refine lv_goto (tgt := 97) C.1 C.2.1 dX3_put_72 (by decide) ?_
            refine lv_iload_n C.1 C.2.1 dX3_put_97 rfl (lv_at hl 1 rfl) ?_
            exact cr_iret C hP hD hS dX3_put_98 ⟨_, _, Or.inr (Or.inr (Or.inl ⟨hfull, ft1, hA, rfl, rfl⟩))⟩
    exact loop 3 1 ft (encA z fm0 0 (chS (uR fn z) (kR fn z) (vR fn z) (sd y9) key val).2) rfl rfl ls H locs hl hP hD hS
  · have h4 : ¬ (chS (uR fn z) (kR fn z) (vR fn z) (sd y9) key val).1 = nI 4 := by
      rcases o3 with q | q | q | q | q <;> rw [q] <;> decide
    by_cases h2 : (chS (uR fn z) (kR fn z) (vR fn z) (sd y9) key val).1 = nI 2
    · refine lv_aload_n C.1 C.2.1 dX3_put_0 rfl (lv_at hl 0 rfl) ?_
      refine lv_aload_n C.1 C.2.1 dX3_put_1 rfl (lv_at hl 0 rfl) ?_
      refine va_get (ci := 3) (C := RX3) (T := TX3) (N := 10) C.1 C.2.1 C.2.2.2.2.2.1 ui_X3 C.2.2.2.2.1 C.2.2.2.2.2.2.2.1 hP 0 (rfl) rfl 1 (by decide) (C.2.2.2.2.2.1 _ tw_62) (fun _ h9 => h9) rfl dX3_put_2 ?_
      refine lv_aload_n C.1 C.2.1 dX3_put_5 rfl (lv_at hl 0 rfl) ?_
      refine lv_aload_n C.1 C.2.1 dX3_put_6 rfl (lv_at hl 0 rfl) ?_
      refine va_get (ci := 3) (C := RX3) (T := TX3) (N := 10) C.1 C.2.1 C.2.2.2.2.2.1 ui_X3 C.2.2.2.2.1 C.2.2.2.2.2.2.2.1 hP 0 (rfl) rfl 1 (by decide) (C.2.2.2.2.2.1 _ tw_62) (fun _ h9 => h9) rfl dX3_put_7 ?_
      refine cm_cV1 (q0 := 0) 1 C (k_X3_seedInUse l D cI cZ cJ (cw ad cI X sd fn ft fm σ ta lp lr) (qO := 0) rfl (qS := 1) rfl (qI := 2) (qA := 3) rfl rfl y9 hy0 hy) tw_96 tw_98 ts_0 tw_1 tw_99 rfl rfl (rfl) rfl (by decide +kernel) ⟨Nat.le_of_ble_eq_true rfl, Nat.le_of_ble_eq_true rfl⟩ ⟨Nat.zero_le _, Nat.zero_le _⟩ hP hD hS hl.1 rfl rfl (Nat.le_of_ble_eq_true rfl) dX3_put_10 (fun H locs hP hD hS => ?_)
      refine lv_iload_n C.1 C.2.1 dX3_put_13 rfl (lv_at hl 1 rfl) ?_
      refine lv_iload_n C.1 C.2.1 dX3_put_14 rfl (lv_at hl 2 rfl) ?_
      refine cm_cV1 (q0 := 0) 4 C (hch) tw_107 tw_109 ts_1 tw_1 tw_110 rfl rfl (rfl) rfl (by decide +kernel) ⟨Nat.le_of_ble_eq_true rfl, Nat.le_of_ble_eq_true rfl⟩ ⟨Nat.zero_le _, Nat.zero_le _⟩ hP hD hS hl.1 rfl rfl (Nat.le_of_ble_eq_true rfl) dX3_put_15 (fun H locs hP hD hS => ?_)
      have hP : va_P D vwCl (cw ad cI X sd fn ft (encA z fm0 0 (chS (uR fn z) (kR fn z) (vR fn z) (sd y9) key val).2) σ ta lp lr) H := hP
      have hD : va_D (cm_A (cw ad cI X sd fn ft fm σ ta lp lr)) (cw ad cI X sd fn ft (encA z fm0 0 (chS (uR fn z) (kR fn z) (vR fn z) (sd y9) key val).2) σ ta lp lr) := hD
      refine lv_istore_n (lv' := [(3, _), (0, _), (1, _), (2, _)]) C.1 C.2.1 dX3_put_18 rfl hl (by decide) rfl (fun ls hl => ?_)
      refine lv_iconst (v := nI 1) C.1 C.2.1 dX3_put_19 (by decide +kernel) ?_
      refine lv_istore (lv' := [(4, _), (3, _), (0, _), (1, _), (2, _)]) C.1 C.2.1 dX3_put_20 hl (by decide) rfl (fun ls hl => ?_)
      refine lv_iload C.1 C.2.1 dX3_put_22 (lv_at hl 0 rfl) ?_
      refine lv_iconst (v := nI 4) C.1 C.2.1 dX3_put_24 (by decide +kernel) ?_
      refine lv_icmp_ge (tgt := 63) C.1 C.2.1 dX3_put_25 (by decide) (fun h => absurd h (by decide)) (fun _ => ?_)
      refine lv_iload_n C.1 C.2.1 dX3_put_28 rfl (lv_at hl 1 rfl) ?_
      refine lv_bipush (v := (-2)) C.1 C.2.1 dX3_put_29 (by decide +kernel) ?_
      refine lv_icmp_ne (tgt := 63) C.1 C.2.1 dX3_put_31 (by decide) (fun _ => ?_) (fun h => absurd h (hfull))
      refine lv_iload_n C.1 C.2.1 dX3_put_63 rfl (lv_at hl 1 rfl) ?_
      refine lv_iconst (v := nI 4) C.1 C.2.1 dX3_put_64 (by decide +kernel) ?_
      refine lv_icmp_ne (tgt := 75) C.1 C.2.1 dX3_put_65 (by decide) (fun _ => ?_) (fun h => absurd h (h4))
      refine lv_iload_n C.1 C.2.1 dX3_put_75 rfl (lv_at hl 1 rfl) ?_
      refine lv_iconst (v := nI 2) C.1 C.2.1 dX3_put_76 (by decide +kernel) ?_
      refine lv_icmp_ne (tgt := 87) C.1 C.2.1 dX3_put_77 (by decide) (fun h => absurd (h2) h) (fun _ => ?_)
      refine lv_aload_n C.1 C.2.1 dX3_put_80 rfl (lv_at hl 2 rfl) ?_
      refine cm_cV0 (q0 := 0) 0 C (k_X3_followPath l D cI cZ cJ ad X sd fn ft (encA z fm0 0 (chS (uR fn z) (kR fn z) (vR fn z) (sd y9) key val).2) σ ta lp lr hσ (absM z (chS (uR fn z) (kR fn z) (vR fn z) (sd y9) key val).2) hen (absM_lt hz0 o2)) tw_261 tw_263 ts_7 tw_1 tw_264 rfl rfl (rfl) rfl (by decide +kernel) ⟨Nat.le_of_ble_eq_true rfl, Nat.le_of_ble_eq_true rfl⟩ ⟨Nat.zero_le _, Nat.zero_le _⟩ hP hD hS hl.1 rfl rfl (Nat.le_of_ble_eq_true rfl) dX3_put_81 (fun H locs hP hD hS => ?_)
      refine lv_goto (tgt := 97) C.1 C.2.1 dX3_put_84 (by decide) ?_
      refine lv_iload_n C.1 C.2.1 dX3_put_97 rfl (lv_at hl 1 rfl) ?_
      exact cr_iret C hP hD hS dX3_put_98 ⟨_, _, Or.inl ⟨hfull, rfl, h2, hen, rfl⟩⟩
    · refine lv_aload_n C.1 C.2.1 dX3_put_0 rfl (lv_at hl 0 rfl) ?_
      refine lv_aload_n C.1 C.2.1 dX3_put_1 rfl (lv_at hl 0 rfl) ?_
      refine va_get (ci := 3) (C := RX3) (T := TX3) (N := 10) C.1 C.2.1 C.2.2.2.2.2.1 ui_X3 C.2.2.2.2.1 C.2.2.2.2.2.2.2.1 hP 0 (rfl) rfl 1 (by decide) (C.2.2.2.2.2.1 _ tw_62) (fun _ h9 => h9) rfl dX3_put_2 ?_
      refine lv_aload_n C.1 C.2.1 dX3_put_5 rfl (lv_at hl 0 rfl) ?_
      refine lv_aload_n C.1 C.2.1 dX3_put_6 rfl (lv_at hl 0 rfl) ?_
      refine va_get (ci := 3) (C := RX3) (T := TX3) (N := 10) C.1 C.2.1 C.2.2.2.2.2.1 ui_X3 C.2.2.2.2.1 C.2.2.2.2.2.2.2.1 hP 0 (rfl) rfl 1 (by decide) (C.2.2.2.2.2.1 _ tw_62) (fun _ h9 => h9) rfl dX3_put_7 ?_
      refine cm_cV1 (q0 := 0) 1 C (k_X3_seedInUse l D cI cZ cJ (cw ad cI X sd fn ft fm σ ta lp lr) (qO := 0) rfl (qS := 1) rfl (qI := 2) (qA := 3) rfl rfl y9 hy0 hy) tw_96 tw_98 ts_0 tw_1 tw_99 rfl rfl (rfl) rfl (by decide +kernel) ⟨Nat.le_of_ble_eq_true rfl, Nat.le_of_ble_eq_true rfl⟩ ⟨Nat.zero_le _, Nat.zero_le _⟩ hP hD hS hl.1 rfl rfl (Nat.le_of_ble_eq_true rfl) dX3_put_10 (fun H locs hP hD hS => ?_)
      refine lv_iload_n C.1 C.2.1 dX3_put_13 rfl (lv_at hl 1 rfl) ?_
      refine lv_iload_n C.1 C.2.1 dX3_put_14 rfl (lv_at hl 2 rfl) ?_
      refine cm_cV1 (q0 := 0) 4 C (hch) tw_107 tw_109 ts_1 tw_1 tw_110 rfl rfl (rfl) rfl (by decide +kernel) ⟨Nat.le_of_ble_eq_true rfl, Nat.le_of_ble_eq_true rfl⟩ ⟨Nat.zero_le _, Nat.zero_le _⟩ hP hD hS hl.1 rfl rfl (Nat.le_of_ble_eq_true rfl) dX3_put_15 (fun H locs hP hD hS => ?_)
      have hP : va_P D vwCl (cw ad cI X sd fn ft (encA z fm0 0 (chS (uR fn z) (kR fn z) (vR fn z) (sd y9) key val).2) σ ta lp lr) H := hP
      have hD : va_D (cm_A (cw ad cI X sd fn ft fm σ ta lp lr)) (cw ad cI X sd fn ft (encA z fm0 0 (chS (uR fn z) (kR fn z) (vR fn z) (sd y9) key val).2) σ ta lp lr) := hD
      refine lv_istore_n (lv' := [(3, _), (0, _), (1, _), (2, _)]) C.1 C.2.1 dX3_put_18 rfl hl (by decide) rfl (fun ls hl => ?_)
      refine lv_iconst (v := nI 1) C.1 C.2.1 dX3_put_19 (by decide +kernel) ?_
      refine lv_istore (lv' := [(4, _), (3, _), (0, _), (1, _), (2, _)]) C.1 C.2.1 dX3_put_20 hl (by decide) rfl (fun ls hl => ?_)
      refine lv_iload C.1 C.2.1 dX3_put_22 (lv_at hl 0 rfl) ?_
      refine lv_iconst (v := nI 4) C.1 C.2.1 dX3_put_24 (by decide +kernel) ?_
      refine lv_icmp_ge (tgt := 63) C.1 C.2.1 dX3_put_25 (by decide) (fun h => absurd h (by decide)) (fun _ => ?_)
      refine lv_iload_n C.1 C.2.1 dX3_put_28 rfl (lv_at hl 1 rfl) ?_
      refine lv_bipush (v := (-2)) C.1 C.2.1 dX3_put_29 (by decide +kernel) ?_
      refine lv_icmp_ne (tgt := 63) C.1 C.2.1 dX3_put_31 (by decide) (fun _ => ?_) (fun h => absurd h (hfull))
      refine lv_iload_n C.1 C.2.1 dX3_put_63 rfl (lv_at hl 1 rfl) ?_
      refine lv_iconst (v := nI 4) C.1 C.2.1 dX3_put_64 (by decide +kernel) ?_
      refine lv_icmp_ne (tgt := 75) C.1 C.2.1 dX3_put_65 (by decide) (fun _ => ?_) (fun h => absurd h (h4))
      refine lv_iload_n C.1 C.2.1 dX3_put_75 rfl (lv_at hl 1 rfl) ?_
      refine lv_iconst (v := nI 2) C.1 C.2.1 dX3_put_76 (by decide +kernel) ?_
      refine lv_icmp_ne (tgt := 87) C.1 C.2.1 dX3_put_77 (by decide) (fun _ => ?_) (fun h => absurd h (h2))
      refine lv_iload_n C.1 C.2.1 dX3_put_87 rfl (lv_at hl 1 rfl) ?_
      refine lv_bipush (v := (-2)) C.1 C.2.1 dX3_put_88 (by decide +kernel) ?_
      refine lv_icmp_eq (tgt := 97) C.1 C.2.1 dX3_put_90 (by decide) (fun h => absurd h (hfull)) (fun _ => ?_)
      refine lv_aload_n C.1 C.2.1 dX3_put_93 rfl (lv_at hl 2 rfl) ?_
      refine cm_cV0 (q0 := 0) 0 C (k_X3_makeMoves l D cI cZ cJ ad X sd fn ft (encA z fm0 0 (chS (uR fn z) (kR fn z) (vR fn z) (sd y9) key val).2) σ ta lp lr hσ (absM z (chS (uR fn z) (kR fn z) (vR fn z) (sd y9) key val).2) hen) tw_269 tw_271 ts_8 tw_1 tw_272 rfl rfl (rfl) rfl (by decide +kernel) ⟨Nat.le_of_ble_eq_true rfl, Nat.le_of_ble_eq_true rfl⟩ ⟨Nat.zero_le _, Nat.zero_le _⟩ hP hD hS hl.1 rfl rfl (Nat.le_of_ble_eq_true rfl) dX3_put_94 (fun H locs hP hD hS => ?_)
      refine lv_iload_n C.1 C.2.1 dX3_put_97 rfl (lv_at hl 1 rfl) ?_
      exact cr_iret C hP hD hS dX3_put_98 ⟨_, _, Or.inr (Or.inl ⟨hfull, rfl, h2, rfl⟩)⟩
end
section
/-! ===== the reference: its world, and what only reads ===== -/
abbrev mw (ad : Nat → Nat) (cI cZ : ClassId) (X : va_W) (I : Nat → Int32) (A : Nat → Nat → Int32) : va_W :=
  (ad 0, .inr (4, [.int (I 0), .ref (ad 1), .ref (ad 2), .ref (ad 3), .ref (ad 4), .int (I 5), .int (I 6), .int (I 7), .ref (ad 8), .ref (ad 9), .ref (ad 10), .ref (ad 11), .ref (ad 12), .ref (ad 13), .int (I 14), .int (I 15), .int (I 16), .ref (ad 17), .ref (ad 18), .ref (ad 19), .int (I 20), .int (I 21), .ref (ad 22), .ref (ad 23), .ref (ad 24), .ref (ad 25), .ref (ad 26), .ref (ad 27), .ref (ad 28), .int (I 29), .ref (ad 30), .int (I 31), .int (I 32), .int (I 33)])) ::
  (ad 1, .inl (cZ, 108, .inl (A 1))) :: (ad 2, .inl (cI, 108, .inl (A 2))) :: (ad 3, .inl (cI, 108, .inl (A 3))) :: (ad 4, .inl (cI, 4, .inl (A 4))) :: (ad 8, .inl (cI, 8, .inl (A 8))) :: (ad 9, .inl (cI, 8, .inl (A 9))) :: (ad 10, .inl (cI, 8, .inl (A 10))) :: (ad 11, .inl (cZ, 72, .inl (A 11))) :: (ad 12, .inl (cI, 72, .inl (A 12))) :: (ad 13, .inl (cI, 72, .inl (A 13))) :: (ad 17, .inl (cI, 8, .inl (A 17))) :: (ad 18, .inl (cI, 8, .inl (A 18))) :: (ad 19, .inl (cI, 8, .inl (A 19))) :: (ad 22, .inl (cI, 40, .inl (A 22))) :: (ad 23, .inl (cI, 40, .inl (A 23))) :: (ad 24, .inl (cI, 40, .inl (A 24))) :: (ad 25, .inl (cZ, 320, .inl (A 25))) :: (ad 26, .inl (cI, 320, .inl (A 26))) :: (ad 27, .inl (cI, 320, .inl (A 27))) :: (ad 28, .inl (cI, 320, .inl (A 28))) :: (ad 30, .inl (cI, 8, .inl (A 30))) :: X
def uM (A : Nat → Nat → Int32) (w i : Nat) : Bool := decide (¬ A 1 (36 * w + i) = 0)
def kM (A : Nat → Nat → Int32) (w i : Nat) : Int32 := A 2 (36 * w + i)
def vM (A : Nat → Nat → Int32) (w i : Nat) : Int32 := A 3 (36 * w + i)
theorem optA_ge (w i : Nat) (h : 36 * w + i < 2 ^ 31) : 0 ≤ optA w (some i) := nI_pos' h
theorem cntG (P : Nat → Bool) : ∀ (k j : Nat), cnt P j (k + 1) = (if P j = true then 1 else 0) + cnt P (j + 1) k := fun _ _ => rfl
set_option maxHeartbeats 4000000 in
set_option maxRecDepth 100000 in
/-- slotOf -/
theorem k_X4_slotOf (l : Launch) (D : va_G) (cI cZ cJ : ClassId) (ws : va_W) (w b j : Nat) : CM l D (cm_T cI cZ cJ) yX4_slotOf cX4_slotOf 3 (some .int) (cm_rm 0 0) [.int (nI w), .int (nI b), .int (nI j)] ws (some (.int (nI (36 * w + (4 * b + j))))) ws := by
  refine CM.of (by decide) (Nat.le_of_ble_eq_true rfl) ?_
  intro p e s m below meth c ls H locs C hl hP hD hS
  refine lv_iconst (v := nI 4) C.1 C.2.1 dX4_slotOf_0 (by decide +kernel) ?_
  refine lv_bipush (v := nI 9) C.1 C.2.1 dX4_slotOf_1 (by decide +kernel) ?_
  refine lv_iload_n C.1 C.2.1 dX4_slotOf_3 rfl (lv_at hl 0 rfl) ?_
  refine lv_imul C.1 C.2.1 dX4_slotOf_4 ?_
  rw [pk_mul]
  refine lv_iload_n C.1 C.2.1 dX4_slotOf_5 rfl (lv_at hl 1 rfl) ?_
  refine lv_iadd C.1 C.2.1 dX4_slotOf_6 ?_
  rw [nI_add]
  refine lv_imul C.1 C.2.1 dX4_slotOf_7 ?_
  rw [pk_mul]
  refine lv_iload_n C.1 C.2.1 dX4_slotOf_8 rfl (lv_at hl 2 rfl) ?_
  refine lv_iadd C.1 C.2.1 dX4_slotOf_9 ?_
  rw [nI_add]
  exact cm_iret C hP hD hS dX4_slotOf_10 (by rw [show 4 * (9 * w + b) + j = 36 * w + (4 * b + j) by omega]) rfl
set_option maxHeartbeats 4000000 in
set_option maxRecDepth 100000 in
/-- homeOf -/
theorem k_X4_homeOf0 (l : Launch) (D : va_G) (cI cZ cJ : ClassId) (ws : va_W) (k0 s0 : Int32) : CM l D (cm_T cI cZ cJ) yX4_homeOf cX4_homeOf 4 (some .int) (cm_rm 0 0) [.int k0, .int s0, .int (nI 0)] ws (some (.int (nI (hm s0 k0 (-2048144789))))) ws := by
  refine CM.of (by decide) (Nat.le_of_ble_eq_true rfl) ?_
  intro p e s m below meth c ls H locs C hl hP hD hS
  refine lv_ldc C.1 C.2.1 C.2.2.2.2.1 (C.2.2.2.2.2.1 _ tw_578) dX4_homeOf_0 ?_
  refine lv_iload_n C.1 C.2.1 dX4_homeOf_2 rfl (lv_at hl 0 rfl) ?_
  refine lv_imul C.1 C.2.1 dX4_homeOf_3 ?_
  refine lv_iload_n C.1 C.2.1 dX4_homeOf_4 rfl (lv_at hl 1 rfl) ?_
  refine lv_iadd C.1 C.2.1 dX4_homeOf_5 ?_
  refine lv_istore_n (lv' := [(3, _), (0, _), (1, _), (2, _)]) C.1 C.2.1 dX4_homeOf_6 rfl hl (by decide) rfl (fun ls hl => ?_)
  refine lv_iload_n C.1 C.2.1 dX4_homeOf_7 rfl (lv_at hl 0 rfl) ?_
  refine lv_iload_n C.1 C.2.1 dX4_homeOf_8 rfl (lv_at hl 0 rfl) ?_
  refine lv_bipush (v := nI 15) C.1 C.2.1 dX4_homeOf_9 (by decide +kernel) ?_
  refine lv_iushr (v := us _ 15) C.1 C.2.1 dX4_homeOf_11 rfl ?_
  refine lv_ixor C.1 C.2.1 dX4_homeOf_12 ?_
  refine lv_istore_n (lv' := [(3, _), (0, _), (1, _), (2, _)]) C.1 C.2.1 dX4_homeOf_13 rfl hl (by decide) rfl (fun ls hl => ?_)
  refine lv_iload_n C.1 C.2.1 dX4_homeOf_14 rfl (lv_at hl 3 rfl) ?_
  refine lv_if_eq (tgt := 25) C.1 C.2.1 dX4_homeOf_15 (by decide) (fun _ => ?_) (fun h => absurd (by decide) h)
  refine lv_iload_n C.1 C.2.1 dX4_homeOf_25 rfl (lv_at hl 0 rfl) ?_
  refine lv_ldc C.1 C.2.1 C.2.2.2.2.1 (C.2.2.2.2.2.1 _ tw_580) dX4_homeOf_26 ?_
  refine lv_imul C.1 C.2.1 dX4_homeOf_28 ?_
  refine lv_istore_n (lv' := [(3, _), (0, _), (1, _), (2, _)]) C.1 C.2.1 dX4_homeOf_29 rfl hl (by decide) rfl (fun ls hl => ?_)
  refine lv_iload_n C.1 C.2.1 dX4_homeOf_30 rfl (lv_at hl 0 rfl) ?_
  refine lv_iload_n C.1 C.2.1 dX4_homeOf_31 rfl (lv_at hl 0 rfl) ?_
  refine lv_bipush (v := nI 13) C.1 C.2.1 dX4_homeOf_32 (by decide +kernel) ?_
  refine lv_iushr (v := us _ 13) C.1 C.2.1 dX4_homeOf_34 rfl ?_
  refine lv_ixor C.1 C.2.1 dX4_homeOf_35 ?_
  refine lv_bipush (v := nI 7) C.1 C.2.1 dX4_homeOf_36 (by decide +kernel) ?_
  refine lv_iand C.1 C.2.1 dX4_homeOf_38 ?_
  rw [hm_and]
  exact cm_iret C hP hD hS dX4_homeOf_39 rfl rfl
set_option maxHeartbeats 4000000 in
set_option maxRecDepth 100000 in
/-- homeOf -/
theorem k_X4_homeOf1 (l : Launch) (D : va_G) (cI cZ cJ : ClassId) (ws : va_W) (k0 s0 : Int32) : CM l D (cm_T cI cZ cJ) yX4_homeOf cX4_homeOf 4 (some .int) (cm_rm 0 0) [.int k0, .int s0, .int (nI 1)] ws (some (.int (nI (hm s0 k0 (-1028477387))))) ws := by
  refine CM.of (by decide) (Nat.le_of_ble_eq_true rfl) ?_
  intro p e s m below meth c ls H locs C hl hP hD hS
  refine lv_ldc C.1 C.2.1 C.2.2.2.2.1 (C.2.2.2.2.2.1 _ tw_578) dX4_homeOf_0 ?_
  refine lv_iload_n C.1 C.2.1 dX4_homeOf_2 rfl (lv_at hl 0 rfl) ?_
  refine lv_imul C.1 C.2.1 dX4_homeOf_3 ?_
  refine lv_iload_n C.1 C.2.1 dX4_homeOf_4 rfl (lv_at hl 1 rfl) ?_
  refine lv_iadd C.1 C.2.1 dX4_homeOf_5 ?_
  refine lv_istore_n (lv' := [(3, _), (0, _), (1, _), (2, _)]) C.1 C.2.1 dX4_homeOf_6 rfl hl (by decide) rfl (fun ls hl => ?_)
  refine lv_iload_n C.1 C.2.1 dX4_homeOf_7 rfl (lv_at hl 0 rfl) ?_
  refine lv_iload_n C.1 C.2.1 dX4_homeOf_8 rfl (lv_at hl 0 rfl) ?_
  refine lv_bipush (v := nI 15) C.1 C.2.1 dX4_homeOf_9 (by decide +kernel) ?_
  refine lv_iushr (v := us _ 15) C.1 C.2.1 dX4_homeOf_11 rfl ?_
  refine lv_ixor C.1 C.2.1 dX4_homeOf_12 ?_
  refine lv_istore_n (lv' := [(3, _), (0, _), (1, _), (2, _)]) C.1 C.2.1 dX4_homeOf_13 rfl hl (by decide) rfl (fun ls hl => ?_)
  refine lv_iload_n C.1 C.2.1 dX4_homeOf_14 rfl (lv_at hl 3 rfl) ?_
  refine lv_if_eq (tgt := 25) C.1 C.2.1 dX4_homeOf_15 (by decide) (fun h => absurd h (by decide)) (fun _ => ?_)
  refine lv_iload_n C.1 C.2.1 dX4_homeOf_18 rfl (lv_at hl 0 rfl) ?_
  refine lv_ldc C.1 C.2.1 C.2.2.2.2.1 (C.2.2.2.2.2.1 _ tw_579) dX4_homeOf_19 ?_
  refine lv_imul C.1 C.2.1 dX4_homeOf_21 ?_
  refine lv_goto (tgt := 29) C.1 C.2.1 dX4_homeOf_22 (by decide) ?_
  refine lv_istore_n (lv' := [(3, _), (0, _), (1, _), (2, _)]) C.1 C.2.1 dX4_homeOf_29 rfl hl (by decide) rfl (fun ls hl => ?_)
  refine lv_iload_n C.1 C.2.1 dX4_homeOf_30 rfl (lv_at hl 0 rfl) ?_
  refine lv_iload_n C.1 C.2.1 dX4_homeOf_31 rfl (lv_at hl 0 rfl) ?_
  refine lv_bipush (v := nI 13) C.1 C.2.1 dX4_homeOf_32 (by decide +kernel) ?_
  refine lv_iushr (v := us _ 13) C.1 C.2.1 dX4_homeOf_34 rfl ?_
  refine lv_ixor C.1 C.2.1 dX4_homeOf_35 ?_
  refine lv_bipush (v := nI 7) C.1 C.2.1 dX4_homeOf_36 (by decide +kernel) ?_
  refine lv_iand C.1 C.2.1 dX4_homeOf_38 ?_
  rw [hm_and]
  exact cm_iret C hP hD hS dX4_homeOf_39 rfl rfl
set_option maxHeartbeats 4000000 in
set_option maxRecDepth 100000 in
/-- homeBy -/
theorem k_X4_homeBy1 (l : Launch) (D : va_G) (cI cZ cJ : ClassId) (ws : va_W) (k0 s0 : Int32) : CM l D (cm_T cI cZ cJ) yX4_homeBy cX4_homeBy 5 (some .int) (cm_rm 1 23) [.int k0, .int s0, .int (nI 0)] ws (some (.int (nI (hm1 s0 k0)))) ws := by
  refine CM.of (by decide) (Nat.le_of_ble_eq_true rfl) ?_
  intro p e s m below meth c ls H locs C hl hP hD hS
  refine lv_iload_n C.1 C.2.1 dX4_homeBy_0 rfl (lv_at hl 0 rfl) ?_
  refine lv_iload_n C.1 C.2.1 dX4_homeBy_1 rfl (lv_at hl 1 rfl) ?_
  refine lv_iconst (v := nI 0) C.1 C.2.1 dX4_homeBy_2 (by decide +kernel) ?_
  refine cm_cS1 3 C (k_X4_homeOf0 l D cI cZ cJ _ k0 s0) tw_575 tw_576 tw_5 tw_577 rfl rfl (by decide +kernel) ⟨Nat.le_of_ble_eq_true rfl, Nat.le_of_ble_eq_true rfl⟩ ⟨Nat.zero_le _, Nat.zero_le _⟩ hP hD hS hl.1 rfl rfl (Nat.le_of_ble_eq_true rfl) dX4_homeBy_3 (fun H locs hP hD hS => ?_)
  refine lv_istore_n (lv' := [(3, _), (0, _), (1, _), (2, _)]) C.1 C.2.1 dX4_homeBy_6 rfl hl (by decide) rfl (fun ls hl => ?_)
  refine lv_iload_n C.1 C.2.1 dX4_homeBy_7 rfl (lv_at hl 3 rfl) ?_
  refine lv_if_ne (tgt := 13) C.1 C.2.1 dX4_homeBy_8 (by decide) (fun h => absurd (by decide) h) (fun _ => ?_)
  refine lv_iload_n C.1 C.2.1 dX4_homeBy_11 rfl (lv_at hl 0 rfl) ?_
  exact cm_iret C hP hD hS dX4_homeBy_12 rfl rfl
set_option maxHeartbeats 4000000 in
set_option maxRecDepth 100000 in
/-- homeBy -/
theorem k_X4_homeBy2 (l : Launch) (D : va_G) (cI cZ cJ : ClassId) (ws : va_W) (k0 s0 : Int32) : CM l D (cm_T cI cZ cJ) yX4_homeBy cX4_homeBy 5 (some .int) (cm_rm 1 23) [.int k0, .int s0, .int (nI 1)] ws (some (.int (nI (hm2 s0 k0)))) ws := by
  refine CM.of (by decide) (Nat.le_of_ble_eq_true rfl) ?_
  intro p e s m below meth c ls H locs C hl hP hD hS
  have q1 := hm_lt s0 k0 (-2048144789)
  have q2 := hm_lt s0 k0 (-1028477387)
  refine lv_iload_n C.1 C.2.1 dX4_homeBy_0 rfl (lv_at hl 0 rfl) ?_
  refine lv_iload_n C.1 C.2.1 dX4_homeBy_1 rfl (lv_at hl 1 rfl) ?_
  refine lv_iconst (v := nI 0) C.1 C.2.1 dX4_homeBy_2 (by decide +kernel) ?_
  refine cm_cS1 3 C (k_X4_homeOf0 l D cI cZ cJ _ k0 s0) tw_575 tw_576 tw_5 tw_577 rfl rfl (by decide +kernel) ⟨Nat.le_of_ble_eq_true rfl, Nat.le_of_ble_eq_true rfl⟩ ⟨Nat.zero_le _, Nat.zero_le _⟩ hP hD hS hl.1 rfl rfl (Nat.le_of_ble_eq_true rfl) dX4_homeBy_3 (fun H locs hP hD hS => ?_)
  refine lv_istore_n (lv' := [(3, _), (0, _), (1, _), (2, _)]) C.1 C.2.1 dX4_homeBy_6 rfl hl (by decide) rfl (fun ls hl => ?_)
  refine lv_iload_n C.1 C.2.1 dX4_homeBy_7 rfl (lv_at hl 3 rfl) ?_
  refine lv_if_ne (tgt := 13) C.1 C.2.1 dX4_homeBy_8 (by decide) (fun _ => ?_) (fun h => absurd h (by decide))
  refine lv_iload_n C.1 C.2.1 dX4_homeBy_13 rfl (lv_at hl 1 rfl) ?_
  refine lv_iload_n C.1 C.2.1 dX4_homeBy_14 rfl (lv_at hl 2 rfl) ?_
  refine lv_iconst (v := nI 1) C.1 C.2.1 dX4_homeBy_15 (by decide +kernel) ?_
  refine cm_cS1 3 C (k_X4_homeOf1 l D cI cZ cJ _ k0 s0) tw_575 tw_576 tw_5 tw_577 rfl rfl (by decide +kernel) ⟨Nat.le_of_ble_eq_true rfl, Nat.le_of_ble_eq_true rfl⟩ ⟨Nat.zero_le _, Nat.zero_le _⟩ hP hD hS hl.1 rfl rfl (Nat.le_of_ble_eq_true rfl) dX4_homeBy_16 (fun H locs hP hD hS => ?_)
  refine lv_istore (lv' := [(4, _), (3, _), (0, _), (1, _), (2, _)]) C.1 C.2.1 dX4_homeBy_19 hl (by decide) rfl (fun ls hl => ?_)
  refine lv_iload C.1 C.2.1 dX4_homeBy_21 (lv_at hl 0 rfl) ?_
  refine lv_iload_n C.1 C.2.1 dX4_homeBy_23 rfl (lv_at hl 1 rfl) ?_
  refine lv_icmp_ne (tgt := 37) C.1 C.2.1 dX4_homeBy_24 (by decide) (fun h24 => ?_) (fun h24 => ?_)
  · refine lv_iload C.1 C.2.1 dX4_homeBy_37 (lv_at hl 0 rfl) ?_
    exact cm_iret C hP hD hS dX4_homeBy_39 (by unfold hm2 hm1; rw [if_neg (fun q => h24 (by rw [q]))]) rfl
  · refine lv_iload C.1 C.2.1 dX4_homeBy_27 (lv_at hl 0 rfl) ?_
    refine lv_iconst (v := nI 1) C.1 C.2.1 dX4_homeBy_29 (by decide +kernel) ?_
    refine lv_iadd C.1 C.2.1 dX4_homeBy_30 ?_
    rw [nI_add]
    refine lv_bipush (v := nI 8) C.1 C.2.1 dX4_homeBy_31 (by decide +kernel) ?_
    refine lv_irem C.1 C.2.1 dX4_homeBy_33 (by decide) ?_
    rw [pk_rem (by omega) (by decide) (by decide)]
    refine lv_goto (tgt := 39) C.1 C.2.1 dX4_homeBy_34 (by decide) ?_
    have h24 : hm s0 k0 (-1028477387) = hm s0 k0 (-2048144789) := (nI_eq (by omega) (by omega)).mp h24
    exact cm_iret C hP hD hS dX4_homeBy_39 (by unfold hm2 hm1; rw [if_pos h24, h24]) rfl
set_option maxHeartbeats 4000000 in
set_option maxRecDepth 100000 in
/-- find -/
theorem k_X4_find (l : Launch) (D : va_G) (cI cZ cJ : ClassId) (ad : Nat → Nat) (X : va_W) (I : Nat → Int32) (A : Nat → Nat → Int32) (w b : Nat) (hw0 : w < 3) (hb0 : b < 9) (key : Int32) : CM l D (cm_T cI cZ cJ) yX4_find cX4_find 6 (some .int) (cm_rm 1 22) [.ref (ad 0), .int (nI w), .int (nI b), .int key] (mw ad cI cZ X I A) (some (.int (optA w (atS (uM A w) (kM A w) key b)))) (mw ad cI cZ X I A) := by
  refine CM.of (by decide) (Nat.le_of_ble_eq_true rfl) ?_
  intro p e s m below meth c ls H locs C hl hP hD hS
  refine lv_iconst (v := nI 0) C.1 C.2.1 dX4_find_0 (by decide +kernel) ?_
  refine lv_istore (lv' := [(4, _), (0, _), (1, _), (2, _), (3, _)]) C.1 C.2.1 dX4_find_1 hl (by decide) rfl (fun ls hl => ?_)
  have loop : ∀ (k j : Nat), j + k = 4 → ∀ (ls : Array Slot) (H : Heap) (locs : List Loc), lv_has ls 6 [(4, .int (nI j)), (0, .ref (ad 0)), (1, .int (nI w)), (2, .int (nI b)), (3, .int key)] → va_P D vwCl (mw ad cI cZ X I A) H → va_D (cm_A (mw ad cI cZ X I A)) (mw ad cI cZ X I A) → va_S (cm_A (mw ad cI cZ X I A)) s.heap H locs → W p l e (cm_rm 1 22) s m ([.ref (ad 0), .int (nI w), .int (nI b), .int key] : List Value).toArray below meth c H locs 0 0 (cm_Q below D [.ref (ad 0), .int (nI w), .int (nI b), .int key] s (mw ad cI cZ X I A) (some (.int (optA w (scan (fun i => uM A w (4 * b + i) && decide (kM A w (4 * b + i) = key)) (4 * b) j k)))) (mw ad cI cZ X I A)) (F0 m 3 ls []) := by
    intro k
    induction k with
    | zero =>
      intro j hj ls H locs hl hP hD hS
      refine lv_iload C.1 C.2.1 dX4_find_3 (lv_at hl 0 rfl) ?_
      refine lv_iconst (v := nI 4) C.1 C.2.1 dX4_find_5 (by decide +kernel) ?_
      refine lv_icmp_ge (tgt := 48) C.1 C.2.1 dX4_find_6 (by decide) (fun _ => ?_) (fun h => absurd (nI_le (by omega) (by omega)) h)
      refine lv_iconst (v := (-1)) C.1 C.2.1 dX4_find_48 (by decide +kernel) ?_
      exact cm_iret C hP hD hS dX4_find_49 rfl rfl
    | succ k ih =>
      intro j hj ls H locs hl hP hD hS
      refine lv_iload C.1 C.2.1 dX4_find_3 (lv_at hl 0 rfl) ?_
      refine lv_iconst (v := nI 4) C.1 C.2.1 dX4_find_5 (by decide +kernel) ?_
      refine lv_icmp_ge (tgt := 48) C.1 C.2.1 dX4_find_6 (by decide) (fun h => absurd h (nI_ge (by omega) (by decide))) (fun _ => ?_)
      refine lv_iload_n C.1 C.2.1 dX4_find_9 rfl (lv_at hl 2 rfl) ?_
      refine lv_iload_n C.1 C.2.1 dX4_find_10 rfl (lv_at hl 3 rfl) ?_
      refine lv_iload C.1 C.2.1 dX4_find_11 (lv_at hl 0 rfl) ?_
      refine cm_cS1 3 C (k_X4_slotOf l D cI cZ cJ (mw ad cI cZ X I A) w b j) tw_585 tw_586 tw_5 tw_587 rfl rfl (by decide +kernel) ⟨Nat.le_of_ble_eq_true rfl, Nat.le_of_ble_eq_true rfl⟩ ⟨Nat.zero_le _, Nat.zero_le _⟩ hP hD hS hl.1 rfl rfl (Nat.le_of_ble_eq_true rfl) dX4_find_13 (fun H locs hP hD hS => ?_)
      refine lv_istore (lv' := [(5, _), (4, _), (0, _), (1, _), (2, _), (3, _)]) C.1 C.2.1 dX4_find_16 hl (by decide) rfl (fun ls hl => ?_)
      refine lv_aload_n C.1 C.2.1 dX4_find_18 rfl (lv_at hl 2 rfl) ?_
      refine va_get (ci := 4) (C := RX4) (T := TX4) (N := 34) C.1 C.2.1 C.2.2.2.2.2.1 ui_X4 C.2.2.2.2.1 C.2.2.2.2.2.2.2.1 hP 0 (rfl) rfl 1 (by decide) (C.2.2.2.2.2.1 _ tw_457) (fun _ h9 => h9) rfl dX4_find_19 ?_
      refine lv_iload C.1 C.2.1 dX4_find_22 (lv_at hl 0 rfl) ?_
      refine va_zald C.1 C.2.1 C.2.2.2.2.2.2.2.1 hP 1 1 (rfl) rfl (vp_in_nI (by omega) (by decide)) dX4_find_24 ?_
      rw [nI_clamp (by omega)]
      refine lv_if_eq (tgt := 42) C.1 C.2.1 dX4_find_25 (by decide) (fun h25 => ?_) (fun h25 => ?_)
      · refine lv_iinc (v := nI (j + 1)) (lv' := [(4, _), (5, _), (0, _), (1, _), (2, _), (3, _)]) C.1 C.2.1 dX4_find_42 hl (k := 1) rfl (nI_1 j) (by decide) rfl (fun ls hl => ?_)
        refine lv_goto (tgt := 3) C.1 C.2.1 dX4_find_45 (by decide) ?_
        rw [show scan (fun i => uM A w (4 * b + i) && decide (kM A w (4 * b + i) = key)) (4 * b) j (k + 1) = scan (fun i => uM A w (4 * b + i) && decide (kM A w (4 * b + i) = key)) (4 * b) (j + 1) k from if_neg (by simp [uM, kM, h25])]
        exact ih (j + 1) (by omega) ls H locs (lv_sub hl [0, 2, 3, 4, 5] rfl) hP hD hS
      · refine lv_aload_n C.1 C.2.1 dX4_find_28 rfl (lv_at hl 2 rfl) ?_
        refine va_get (ci := 4) (C := RX4) (T := TX4) (N := 34) C.1 C.2.1 C.2.2.2.2.2.1 ui_X4 C.2.2.2.2.1 C.2.2.2.2.2.2.2.1 hP 0 (rfl) rfl 2 (by decide) (C.2.2.2.2.2.1 _ tw_458) (fun _ h9 => h9) rfl dX4_find_29 ?_
        refine lv_iload C.1 C.2.1 dX4_find_32 (lv_at hl 0 rfl) ?_
        refine va_iald C.1 C.2.1 C.2.2.2.2.2.2.2.1 hP 2 0 (rfl) rfl (vp_in_nI (by omega) (by decide)) dX4_find_34 ?_
        rw [nI_clamp (by omega)]
        refine lv_iload_n C.1 C.2.1 dX4_find_35 rfl (lv_at hl 5 rfl) ?_
        refine lv_icmp_ne (tgt := 42) C.1 C.2.1 dX4_find_36 (by decide) (fun h36 => ?_) (fun h36 => ?_)
        · refine lv_iinc (v := nI (j + 1)) (lv' := [(4, _), (5, _), (0, _), (1, _), (2, _), (3, _)]) C.1 C.2.1 dX4_find_42 hl (k := 1) rfl (nI_1 j) (by decide) rfl (fun ls hl => ?_)
          refine lv_goto (tgt := 3) C.1 C.2.1 dX4_find_45 (by decide) ?_
          rw [show scan (fun i => uM A w (4 * b + i) && decide (kM A w (4 * b + i) = key)) (4 * b) j (k + 1) = scan (fun i => uM A w (4 * b + i) && decide (kM A w (4 * b + i) = key)) (4 * b) (j + 1) k from if_neg (by simp [uM, kM, h25, h36])]
          exact ih (j + 1) (by omega) ls H locs (lv_sub hl [0, 2, 3, 4, 5] rfl) hP hD hS
        · refine lv_iload C.1 C.2.1 dX4_find_39 (lv_at hl 0 rfl) ?_
          exact cm_iret C hP hD hS dX4_find_41 (by rw [show scan (fun i => uM A w (4 * b + i) && decide (kM A w (4 * b + i) = key)) (4 * b) j (k + 1) = some (4 * b + j) from if_pos (by simp [uM, kM, h25, h36])]; rfl) rfl
  exact loop 4 0 rfl ls H locs hl hP hD hS
set_option maxHeartbeats 4000000 in
set_option maxRecDepth 100000 in
/-- empty -/
theorem k_X4_empty (l : Launch) (D : va_G) (cI cZ cJ : ClassId) (ad : Nat → Nat) (X : va_W) (I : Nat → Int32) (A : Nat → Nat → Int32) (w b : Nat) (hw0 : w < 3) (hb0 : b < 9) : CM l D (cm_T cI cZ cJ) yX4_empty cX4_empty 4 (some .int) (cm_rm 1 22) [.ref (ad 0), .int (nI w), .int (nI b)] (mw ad cI cZ X I A) (some (.int (optA w (emS (uM A w) b)))) (mw ad cI cZ X I A) := by
  refine CM.of (by decide) (Nat.le_of_ble_eq_true rfl) ?_
  intro p e s m below meth c ls H locs C hl hP hD hS
  refine lv_iconst (v := nI 0) C.1 C.2.1 dX4_empty_0 (by decide +kernel) ?_
  refine lv_istore_n (lv' := [(3, _), (0, _), (1, _), (2, _)]) C.1 C.2.1 dX4_empty_1 rfl hl (by decide) rfl (fun ls hl => ?_)
  have loop : ∀ (k j : Nat), j + k = 4 → ∀ (ls : Array Slot) (H : Heap) (locs : List Loc), lv_has ls 4 [(3, .int (nI j)), (0, .ref (ad 0)), (1, .int (nI w)), (2, .int (nI b))] → va_P D vwCl (mw ad cI cZ X I A) H → va_D (cm_A (mw ad cI cZ X I A)) (mw ad cI cZ X I A) → va_S (cm_A (mw ad cI cZ X I A)) s.heap H locs → W p l e (cm_rm 1 22) s m ([.ref (ad 0), .int (nI w), .int (nI b)] : List Value).toArray below meth c H locs 0 0 (cm_Q below D [.ref (ad 0), .int (nI w), .int (nI b)] s (mw ad cI cZ X I A) (some (.int (optA w (scan (fun i => !uM A w (4 * b + i)) (4 * b) j k)))) (mw ad cI cZ X I A)) (F0 m 2 ls []) := by
    intro k
    induction k with
    | zero =>
      intro j hj ls H locs hl hP hD hS
      refine lv_iload_n C.1 C.2.1 dX4_empty_2 rfl (lv_at hl 0 rfl) ?_
      refine lv_iconst (v := nI 4) C.1 C.2.1 dX4_empty_3 (by decide +kernel) ?_
      refine lv_icmp_ge (tgt := 34) C.1 C.2.1 dX4_empty_4 (by decide) (fun _ => ?_) (fun h => absurd (nI_le (by omega) (by omega)) h)
      refine lv_iconst (v := (-1)) C.1 C.2.1 dX4_empty_34 (by decide +kernel) ?_
      exact cm_iret C hP hD hS dX4_empty_35 rfl rfl
    | succ k ih =>
      intro j hj ls H locs hl hP hD hS
      refine lv_iload_n C.1 C.2.1 dX4_empty_2 rfl (lv_at hl 0 rfl) ?_
      refine lv_iconst (v := nI 4) C.1 C.2.1 dX4_empty_3 (by decide +kernel) ?_
      refine lv_icmp_ge (tgt := 34) C.1 C.2.1 dX4_empty_4 (by decide) (fun h => absurd h (nI_ge (by omega) (by decide))) (fun _ => ?_)
      refine lv_aload_n C.1 C.2.1 dX4_empty_7 rfl (lv_at hl 1 rfl) ?_
      refine va_get (ci := 4) (C := RX4) (T := TX4) (N := 34) C.1 C.2.1 C.2.2.2.2.2.1 ui_X4 C.2.2.2.2.1 C.2.2.2.2.2.2.2.1 hP 0 (rfl) rfl 1 (by decide) (C.2.2.2.2.2.1 _ tw_457) (fun _ h9 => h9) rfl dX4_empty_8 ?_
      refine lv_iload_n C.1 C.2.1 dX4_empty_11 rfl (lv_at hl 2 rfl) ?_
      refine lv_iload_n C.1 C.2.1 dX4_empty_12 rfl (lv_at hl 3 rfl) ?_
      refine lv_iload_n C.1 C.2.1 dX4_empty_13 rfl (lv_at hl 0 rfl) ?_
      refine cm_cS1 3 C (k_X4_slotOf l D cI cZ cJ (mw ad cI cZ X I A) w b j) tw_585 tw_586 tw_5 tw_587 rfl rfl (by decide +kernel) ⟨Nat.le_of_ble_eq_true rfl, Nat.le_of_ble_eq_true rfl⟩ ⟨Nat.zero_le _, Nat.zero_le _⟩ hP hD hS hl.1 rfl rfl (Nat.le_of_ble_eq_true rfl) dX4_empty_14 (fun H locs hP hD hS => ?_)
      refine va_zald C.1 C.2.1 C.2.2.2.2.2.2.2.1 hP 1 1 (rfl) rfl (vp_in_nI (by omega) (by decide)) dX4_empty_17 ?_
      rw [nI_clamp (by omega)]
      refine lv_if_ne (tgt := 28) C.1 C.2.1 dX4_empty_18 (by decide) (fun h18 => ?_) (fun h18 => ?_)
      · refine lv_iinc (v := nI (j + 1)) (lv' := [(3, _), (0, _), (1, _), (2, _)]) C.1 C.2.1 dX4_empty_28 hl (k := 0) rfl (nI_1 j) (by decide) rfl (fun ls hl => ?_)
        refine lv_goto (tgt := 2) C.1 C.2.1 dX4_empty_31 (by decide) ?_
        rw [show scan (fun i => !uM A w (4 * b + i)) (4 * b) j (k + 1) = scan (fun i => !uM A w (4 * b + i)) (4 * b) (j + 1) k from if_neg (by simp [uM, h18])]
        exact ih (j + 1) (by omega) ls H locs hl hP hD hS
      · refine lv_iload_n C.1 C.2.1 dX4_empty_21 rfl (lv_at hl 2 rfl) ?_
        refine lv_iload_n C.1 C.2.1 dX4_empty_22 rfl (lv_at hl 3 rfl) ?_
        refine lv_iload_n C.1 C.2.1 dX4_empty_23 rfl (lv_at hl 0 rfl) ?_
        refine cm_cS1 3 C (k_X4_slotOf l D cI cZ cJ (mw ad cI cZ X I A) w b j) tw_585 tw_586 tw_5 tw_587 rfl rfl (by decide +kernel) ⟨Nat.le_of_ble_eq_true rfl, Nat.le_of_ble_eq_true rfl⟩ ⟨Nat.zero_le _, Nat.zero_le _⟩ hP hD hS hl.1 rfl rfl (Nat.le_of_ble_eq_true rfl) dX4_empty_24 (fun H locs hP hD hS => ?_)
        exact cm_iret C hP hD hS dX4_empty_27 (by rw [show scan (fun i => !uM A w (4 * b + i)) (4 * b) j (k + 1) = some (4 * b + j) from if_pos (by simp [uM, h18])]; rfl) rfl
  exact loop 4 0 rfl ls H locs hl hP hD hS
set_option maxHeartbeats 4000000 in
set_option maxRecDepth 100000 in
/-- place -/
theorem k_X4_place (l : Launch) (D : va_G) (cI cZ cJ : ClassId) (ad : Nat → Nat) (X : va_W) (I : Nat → Int32) (A : Nat → Nat → Int32) (w : Nat) (hw0 : w < 3) (s0 key : Int32) : CM l D (cm_T cI cZ cJ) yX4_place cX4_place 5 (some .int) (cm_rm 2 47) [.ref (ad 0), .int (nI w), .int s0, .int key] (mw ad cI cZ X I A) (some (.int (optA w (findS (uM A w) (kM A w) s0 key)))) (mw ad cI cZ X I A) := by
  refine CM.of (by decide) (Nat.le_of_ble_eq_true rfl) ?_
  intro p e s m below meth c ls H locs C hl hP hD hS
  have q1 := hm1_lt s0 key
  have q2 := hm2_lt s0 key
  cases e1 : atS (uM A w) (kM A w) key (hm1 s0 key) with
  | some i =>
    have q3 := (atS_lt e1 (by omega)).1
    refine lv_aload_n C.1 C.2.1 dX4_place_0 rfl (lv_at hl 0 rfl) ?_
    refine lv_iload_n C.1 C.2.1 dX4_place_1 rfl (lv_at hl 1 rfl) ?_
    refine lv_iload_n C.1 C.2.1 dX4_place_2 rfl (lv_at hl 3 rfl) ?_
    refine lv_iload_n C.1 C.2.1 dX4_place_3 rfl (lv_at hl 2 rfl) ?_
    refine lv_iconst (v := nI 0) C.1 C.2.1 dX4_place_4 (by decide +kernel) ?_
    refine cm_cS1 3 C (k_X4_homeBy1 l D cI cZ cJ (mw ad cI cZ X I A) key s0) tw_572 tw_573 tw_5 tw_574 rfl rfl (by decide +kernel) ⟨Nat.le_of_ble_eq_true rfl, Nat.le_of_ble_eq_true rfl⟩ ⟨Nat.zero_le _, Nat.zero_le _⟩ hP hD hS hl.1 rfl rfl (Nat.le_of_ble_eq_true rfl) dX4_place_5 (fun H locs hP hD hS => ?_)
    refine lv_iload_n C.1 C.2.1 dX4_place_8 rfl (lv_at hl 3 rfl) ?_
    refine cm_cV1 (q0 := 0) 3 C (k_X4_find l D cI cZ cJ ad X I A w (hm1 s0 key) hw0 (by omega) key) tw_581 tw_583 ts_13 tw_5 tw_584 rfl rfl (rfl) rfl (by decide +kernel) ⟨Nat.le_of_ble_eq_true rfl, Nat.le_of_ble_eq_true rfl⟩ ⟨Nat.zero_le _, Nat.zero_le _⟩ hP hD hS hl.1 rfl rfl (Nat.le_of_ble_eq_true rfl) dX4_place_9 (fun H locs hP hD hS => ?_)
    rw [e1, optA_some]
    refine lv_istore (lv' := [(4, _), (0, _), (1, _), (2, _), (3, _)]) C.1 C.2.1 dX4_place_12 hl (by decide) rfl (fun ls hl => ?_)
    refine lv_iload C.1 C.2.1 dX4_place_14 (lv_at hl 0 rfl) ?_
    refine lv_if_ge (tgt := 34) C.1 C.2.1 dX4_place_16 (by decide) (fun _ => ?_) (fun h => absurd (nI_pos' (by omega)) h)
    refine lv_iload C.1 C.2.1 dX4_place_34 (lv_at hl 0 rfl) ?_
    refine lv_istore (lv' := [(4, _), (0, _), (1, _), (2, _), (3, _)]) C.1 C.2.1 dX4_place_36 hl (by decide) rfl (fun ls hl => ?_)
    refine lv_iload C.1 C.2.1 dX4_place_38 (lv_at hl 0 rfl) ?_
    refine lv_if_ge (tgt := 54) C.1 C.2.1 dX4_place_40 (by decide) (fun _ => ?_) (fun h => absurd (nI_pos' (by omega)) h)
    refine lv_iload C.1 C.2.1 dX4_place_54 (lv_at hl 0 rfl) ?_
    exact cm_iret C hP hD hS dX4_place_56 (by unfold findS; rw [e1]; rfl) rfl
  | none =>
    cases e2 : atS (uM A w) (kM A w) key (hm2 s0 key) with
    | some i =>
      have q3 := (atS_lt e2 (by omega)).1
      refine lv_aload_n C.1 C.2.1 dX4_place_0 rfl (lv_at hl 0 rfl) ?_
      refine lv_iload_n C.1 C.2.1 dX4_place_1 rfl (lv_at hl 1 rfl) ?_
      refine lv_iload_n C.1 C.2.1 dX4_place_2 rfl (lv_at hl 3 rfl) ?_
      refine lv_iload_n C.1 C.2.1 dX4_place_3 rfl (lv_at hl 2 rfl) ?_
      refine lv_iconst (v := nI 0) C.1 C.2.1 dX4_place_4 (by decide +kernel) ?_
      refine cm_cS1 3 C (k_X4_homeBy1 l D cI cZ cJ (mw ad cI cZ X I A) key s0) tw_572 tw_573 tw_5 tw_574 rfl rfl (by decide +kernel) ⟨Nat.le_of_ble_eq_true rfl, Nat.le_of_ble_eq_true rfl⟩ ⟨Nat.zero_le _, Nat.zero_le _⟩ hP hD hS hl.1 rfl rfl (Nat.le_of_ble_eq_true rfl) dX4_place_5 (fun H locs hP hD hS => ?_)
      refine lv_iload_n C.1 C.2.1 dX4_place_8 rfl (lv_at hl 3 rfl) ?_
      refine cm_cV1 (q0 := 0) 3 C (k_X4_find l D cI cZ cJ ad X I A w (hm1 s0 key) hw0 (by omega) key) tw_581 tw_583 ts_13 tw_5 tw_584 rfl rfl (rfl) rfl (by decide +kernel) ⟨Nat.le_of_ble_eq_true rfl, Nat.le_of_ble_eq_true rfl⟩ ⟨Nat.zero_le _, Nat.zero_le _⟩ hP hD hS hl.1 rfl rfl (Nat.le_of_ble_eq_true rfl) dX4_place_9 (fun H locs hP hD hS => ?_)
      rw [e1, optA_none]
      refine lv_istore (lv' := [(4, _), (0, _), (1, _), (2, _), (3, _)]) C.1 C.2.1 dX4_place_12 hl (by decide) rfl (fun ls hl => ?_)
      refine lv_iload C.1 C.2.1 dX4_place_14 (lv_at hl 0 rfl) ?_
      refine lv_if_ge (tgt := 34) C.1 C.2.1 dX4_place_16 (by decide) (fun h => absurd h (by decide)) (fun _ => ?_)
      refine lv_aload_n C.1 C.2.1 dX4_place_19 rfl (lv_at hl 1 rfl) ?_
      refine lv_iload_n C.1 C.2.1 dX4_place_20 rfl (lv_at hl 2 rfl) ?_
      refine lv_iload_n C.1 C.2.1 dX4_place_21 rfl (lv_at hl 4 rfl) ?_
      refine lv_iload_n C.1 C.2.1 dX4_place_22 rfl (lv_at hl 3 rfl) ?_
      refine lv_iconst (v := nI 1) C.1 C.2.1 dX4_place_23 (by decide +kernel) ?_
      refine cm_cS1 3 C (k_X4_homeBy2 l D cI cZ cJ (mw ad cI cZ X I A) key s0) tw_572 tw_573 tw_5 tw_574 rfl rfl (by decide +kernel) ⟨Nat.le_of_ble_eq_true rfl, Nat.le_of_ble_eq_true rfl⟩ ⟨Nat.zero_le _, Nat.zero_le _⟩ hP hD hS hl.1 rfl rfl (Nat.le_of_ble_eq_true rfl) dX4_place_24 (fun H locs hP hD hS => ?_)
      refine lv_iload_n C.1 C.2.1 dX4_place_27 rfl (lv_at hl 4 rfl) ?_
      refine cm_cV1 (q0 := 0) 3 C (k_X4_find l D cI cZ cJ ad X I A w (hm2 s0 key) hw0 (by omega) key) tw_581 tw_583 ts_13 tw_5 tw_584 rfl rfl (rfl) rfl (by decide +kernel) ⟨Nat.le_of_ble_eq_true rfl, Nat.le_of_ble_eq_true rfl⟩ ⟨Nat.zero_le _, Nat.zero_le _⟩ hP hD hS hl.1 rfl rfl (Nat.le_of_ble_eq_true rfl) dX4_place_28 (fun H locs hP hD hS => ?_)
      rw [e2, optA_some]
      refine lv_goto (tgt := 36) C.1 C.2.1 dX4_place_31 (by decide) ?_
      refine lv_istore (lv' := [(4, _), (0, _), (1, _), (2, _), (3, _)]) C.1 C.2.1 dX4_place_36 hl (by decide) rfl (fun ls hl => ?_)
      refine lv_iload C.1 C.2.1 dX4_place_38 (lv_at hl 0 rfl) ?_
      refine lv_if_ge (tgt := 54) C.1 C.2.1 dX4_place_40 (by decide) (fun _ => ?_) (fun h => absurd (nI_pos' (by omega)) h)
      refine lv_iload C.1 C.2.1 dX4_place_54 (lv_at hl 0 rfl) ?_
      exact cm_iret C hP hD hS dX4_place_56 (by unfold findS; rw [e1, e2]; rfl) rfl
    | none =>
      refine lv_aload_n C.1 C.2.1 dX4_place_0 rfl (lv_at hl 0 rfl) ?_
      refine lv_iload_n C.1 C.2.1 dX4_place_1 rfl (lv_at hl 1 rfl) ?_
      refine lv_iload_n C.1 C.2.1 dX4_place_2 rfl (lv_at hl 3 rfl) ?_
      refine lv_iload_n C.1 C.2.1 dX4_place_3 rfl (lv_at hl 2 rfl) ?_
      refine lv_iconst (v := nI 0) C.1 C.2.1 dX4_place_4 (by decide +kernel) ?_
      refine cm_cS1 3 C (k_X4_homeBy1 l D cI cZ cJ (mw ad cI cZ X I A) key s0) tw_572 tw_573 tw_5 tw_574 rfl rfl (by decide +kernel) ⟨Nat.le_of_ble_eq_true rfl, Nat.le_of_ble_eq_true rfl⟩ ⟨Nat.zero_le _, Nat.zero_le _⟩ hP hD hS hl.1 rfl rfl (Nat.le_of_ble_eq_true rfl) dX4_place_5 (fun H locs hP hD hS => ?_)
      refine lv_iload_n C.1 C.2.1 dX4_place_8 rfl (lv_at hl 3 rfl) ?_
      refine cm_cV1 (q0 := 0) 3 C (k_X4_find l D cI cZ cJ ad X I A w (hm1 s0 key) hw0 (by omega) key) tw_581 tw_583 ts_13 tw_5 tw_584 rfl rfl (rfl) rfl (by decide +kernel) ⟨Nat.le_of_ble_eq_true rfl, Nat.le_of_ble_eq_true rfl⟩ ⟨Nat.zero_le _, Nat.zero_le _⟩ hP hD hS hl.1 rfl rfl (Nat.le_of_ble_eq_true rfl) dX4_place_9 (fun H locs hP hD hS => ?_)
      rw [e1, optA_none]
      refine lv_istore (lv' := [(4, _), (0, _), (1, _), (2, _), (3, _)]) C.1 C.2.1 dX4_place_12 hl (by decide) rfl (fun ls hl => ?_)
      refine lv_iload C.1 C.2.1 dX4_place_14 (lv_at hl 0 rfl) ?_
      refine lv_if_ge (tgt := 34) C.1 C.2.1 dX4_place_16 (by decide) (fun h => absurd h (by decide)) (fun _ => ?_)
      refine lv_aload_n C.1 C.2.1 dX4_place_19 rfl (lv_at hl 1 rfl) ?_
      refine lv_iload_n C.1 C.2.1 dX4_place_20 rfl (lv_at hl 2 rfl) ?_
      refine lv_iload_n C.1 C.2.1 dX4_place_21 rfl (lv_at hl 4 rfl) ?_
      refine lv_iload_n C.1 C.2.1 dX4_place_22 rfl (lv_at hl 3 rfl) ?_
      refine lv_iconst (v := nI 1) C.1 C.2.1 dX4_place_23 (by decide +kernel) ?_
      refine cm_cS1 3 C (k_X4_homeBy2 l D cI cZ cJ (mw ad cI cZ X I A) key s0) tw_572 tw_573 tw_5 tw_574 rfl rfl (by decide +kernel) ⟨Nat.le_of_ble_eq_true rfl, Nat.le_of_ble_eq_true rfl⟩ ⟨Nat.zero_le _, Nat.zero_le _⟩ hP hD hS hl.1 rfl rfl (Nat.le_of_ble_eq_true rfl) dX4_place_24 (fun H locs hP hD hS => ?_)
      refine lv_iload_n C.1 C.2.1 dX4_place_27 rfl (lv_at hl 4 rfl) ?_
      refine cm_cV1 (q0 := 0) 3 C (k_X4_find l D cI cZ cJ ad X I A w (hm2 s0 key) hw0 (by omega) key) tw_581 tw_583 ts_13 tw_5 tw_584 rfl rfl (rfl) rfl (by decide +kernel) ⟨Nat.le_of_ble_eq_true rfl, Nat.le_of_ble_eq_true rfl⟩ ⟨Nat.zero_le _, Nat.zero_le _⟩ hP hD hS hl.1 rfl rfl (Nat.le_of_ble_eq_true rfl) dX4_place_28 (fun H locs hP hD hS => ?_)
      rw [e2, optA_none]
      refine lv_goto (tgt := 36) C.1 C.2.1 dX4_place_31 (by decide) ?_
      refine lv_istore (lv' := [(4, _), (0, _), (1, _), (2, _), (3, _)]) C.1 C.2.1 dX4_place_36 hl (by decide) rfl (fun ls hl => ?_)
      refine lv_iload C.1 C.2.1 dX4_place_38 (lv_at hl 0 rfl) ?_
      refine lv_if_ge (tgt := 54) C.1 C.2.1 dX4_place_40 (by decide) (fun h => absurd h (by decide)) (fun _ => ?_)
      refine lv_aload_n C.1 C.2.1 dX4_place_43 rfl (lv_at hl 1 rfl) ?_
      refine lv_iload_n C.1 C.2.1 dX4_place_44 rfl (lv_at hl 2 rfl) ?_
      refine lv_bipush (v := nI 8) C.1 C.2.1 dX4_place_45 (by decide +kernel) ?_
      refine lv_iload_n C.1 C.2.1 dX4_place_47 rfl (lv_at hl 4 rfl) ?_
      refine cm_cV1 (q0 := 0) 3 C (k_X4_find l D cI cZ cJ ad X I A w (8) hw0 (by omega) key) tw_581 tw_583 ts_13 tw_5 tw_584 rfl rfl (rfl) rfl (by decide +kernel) ⟨Nat.le_of_ble_eq_true rfl, Nat.le_of_ble_eq_true rfl⟩ ⟨Nat.zero_le _, Nat.zero_le _⟩ hP hD hS hl.1 rfl rfl (Nat.le_of_ble_eq_true rfl) dX4_place_48 (fun H locs hP hD hS => ?_)
      skip
      refine lv_goto (tgt := 56) C.1 C.2.1 dX4_place_51 (by decide) ?_
      exact cm_iret C hP hD hS dX4_place_56 (by unfold findS; rw [e1, e2]) rfl
set_option maxHeartbeats 4000000 in
set_option maxRecDepth 100000 in
/-- thrown -/
theorem k_X4_thrown (l : Launch) (D : va_G) (cI cZ cJ : ClassId) (ad : Nat → Nat) (X : va_W) (I : Nat → Int32) (A : Nat → Nat → Int32) : CM l D (cm_T cI cZ cJ) yX4_thrown cX4_thrown 1 (some .int) (cm_rm 0 0) [.ref (ad 0)] (mw ad cI cZ X I A) (some (.int (I 0))) (mw ad cI cZ X I A) := by
  refine CM.of (by decide) (Nat.le_of_ble_eq_true rfl) ?_
  intro p e s m below meth c ls H locs C hl hP hD hS
  refine lv_aload_n C.1 C.2.1 dX4_thrown_0 rfl (lv_at hl 0 rfl) ?_
  refine va_get (ci := 4) (C := RX4) (T := TX4) (N := 34) C.1 C.2.1 C.2.2.2.2.2.1 ui_X4 C.2.2.2.2.1 C.2.2.2.2.2.2.2.1 hP 0 (rfl) rfl 0 (by decide) (C.2.2.2.2.2.1 _ tw_456) (fun _ h9 => h9) rfl dX4_thrown_1 ?_
  exact cm_iret C hP hD hS dX4_thrown_4 rfl rfl
set_option maxHeartbeats 4000000 in
set_option maxRecDepth 100000 in
/-- refused -/
theorem k_X4_refused (l : Launch) (D : va_G) (cI cZ cJ : ClassId) (ad : Nat → Nat) (X : va_W) (I : Nat → Int32) (A : Nat → Nat → Int32) (x : Int32) : CM l D (cm_T cI cZ cJ) yX4_refused cX4_refused 2 (some .boolean) (cm_rm 0 0) [.ref (ad 0), .int x] (mw ad cI cZ X I A) (some (.int (bI (decide (¬ x ≤ 0))))) (mw ad cI cZ X (va_up I 0 x) A) := by
  refine CM.of (by decide) (Nat.le_of_ble_eq_true rfl) ?_
  intro p e s m below meth c ls H locs C hl hP hD hS
  refine lv_aload_n C.1 C.2.1 dX4_refused_0 rfl (lv_at hl 0 rfl) ?_
  refine lv_iload_n C.1 C.2.1 dX4_refused_1 rfl (lv_at hl 1 rfl) ?_
  refine va_put (ci := 4) (C := RX4) (T := TX4) (N := 34) (ty := .int) C.1 C.2.1 C.2.2.2.2.2.1 ui_X4 tyX4 tyX4_ok nmX4 C.2.2.2.2.1 C.2.2.2.2.2.2.2.1 hP hD hS 0 (rfl) rfl 0 (by decide) (C.2.2.2.2.2.1 _ tw_456) (fun _ h9 => h9) rfl (by decide +kernel) rfl rfl (Nat.le_of_ble_eq_true rfl) dX4_refused_2 (fun H locs hP hD hS => ?_)
  refine lv_iload_n C.1 C.2.1 dX4_refused_5 rfl (lv_at hl 1 rfl) ?_
  refine lv_if_le (tgt := 13) C.1 C.2.1 dX4_refused_6 (by decide) (fun h6 => ?_) (fun h6 => ?_)
  · refine lv_iconst (v := nI 0) C.1 C.2.1 dX4_refused_13 (by decide +kernel) ?_
    exact cm_zret C hP hD hS dX4_refused_14 (by decide +kernel) (by simp only [bI]; simp [h6]) rfl
  · refine lv_iconst (v := nI 1) C.1 C.2.1 dX4_refused_9 (by decide +kernel) ?_
    refine lv_goto (tgt := 14) C.1 C.2.1 dX4_refused_10 (by decide) ?_
    exact cm_zret C hP hD hS dX4_refused_14 (by decide +kernel) (by simp only [bI]; simp [h6]) rfl
set_option maxHeartbeats 4000000 in
set_option maxRecDepth 100000 in
/-- usedFrom -/
theorem k_X4_usedFrom (l : Launch) (D : va_G) (cI cZ cJ : ClassId) (ad : Nat → Nat) (X : va_W) (I : Nat → Int32) (A : Nat → Nat → Int32) (a b : Nat) (hab : a ≤ b) (hb0 : b ≤ 108) : CM l D (cm_T cI cZ cJ) yX4_usedFrom cX4_usedFrom 5 (some .int) (cm_rm 0 0) [.ref (ad 0), .int (nI a), .int (nI b)] (mw ad cI cZ X I A) (some (.int (nI (cnt (fun i => decide (¬ A 1 i = 0)) a (b - a))))) (mw ad cI cZ X I A) := by
  refine CM.of (by decide) (Nat.le_of_ble_eq_true rfl) ?_
  intro p e s m below meth c ls H locs C hl hP hD hS
  refine lv_iconst (v := nI 0) C.1 C.2.1 dX4_usedFrom_0 (by decide +kernel) ?_
  refine lv_istore_n (lv' := [(3, _), (0, _), (1, _), (2, _)]) C.1 C.2.1 dX4_usedFrom_1 rfl hl (by decide) rfl (fun ls hl => ?_)
  refine lv_iload_n C.1 C.2.1 dX4_usedFrom_2 rfl (lv_at hl 2 rfl) ?_
  refine lv_istore (lv' := [(4, _), (3, _), (0, _), (1, _), (2, _)]) C.1 C.2.1 dX4_usedFrom_3 hl (by decide) rfl (fun ls hl => ?_)
  have loop : ∀ (k j : Nat) (n : Nat), j + k = b → ∀ (ls : Array Slot) (H : Heap) (locs : List Loc), lv_has ls 5 [(4, .int (nI j)), (3, .int (nI n)), (0, .ref (ad 0)), (1, .int (nI a)), (2, .int (nI b))] → va_P D vwCl (mw ad cI cZ X I A) H → va_D (cm_A (mw ad cI cZ X I A)) (mw ad cI cZ X I A) → va_S (cm_A (mw ad cI cZ X I A)) s.heap H locs → W p l e (cm_rm 0 0) s m ([.ref (ad 0), .int (nI a), .int (nI b)] : List Value).toArray below meth c H locs 0 0 (cm_Q below D [.ref (ad 0), .int (nI a), .int (nI b)] s (mw ad cI cZ X I A) (some (.int (nI (n + cnt (fun i => decide (¬ A 1 i = 0)) j k)))) (mw ad cI cZ X I A)) (F0 m 5 ls []) := by
    intro k
    induction k with
    | zero =>
      intro j n hj ls H locs hl hP hD hS
      refine lv_iload C.1 C.2.1 dX4_usedFrom_5 (lv_at hl 0 rfl) ?_
      refine lv_iload_n C.1 C.2.1 dX4_usedFrom_7 rfl (lv_at hl 4 rfl) ?_
      refine lv_icmp_ge (tgt := 35) C.1 C.2.1 dX4_usedFrom_8 (by decide) (fun _ => ?_) (fun h => absurd (nI_le (by omega) (by omega)) h)
      refine lv_iload_n C.1 C.2.1 dX4_usedFrom_35 rfl (lv_at hl 1 rfl) ?_
      exact cm_iret C hP hD hS dX4_usedFrom_36 rfl rfl
    | succ k ih =>
      intro j n hj ls H locs hl hP hD hS
      refine lv_iload C.1 C.2.1 dX4_usedFrom_5 (lv_at hl 0 rfl) ?_
      refine lv_iload_n C.1 C.2.1 dX4_usedFrom_7 rfl (lv_at hl 4 rfl) ?_
      refine lv_icmp_ge (tgt := 35) C.1 C.2.1 dX4_usedFrom_8 (by decide) (fun h => absurd h (nI_ge (by omega) (by omega))) (fun _ => ?_)
      refine lv_aload_n C.1 C.2.1 dX4_usedFrom_11 rfl (lv_at hl 2 rfl) ?_
      refine va_get (ci := 4) (C := RX4) (T := TX4) (N := 34) C.1 C.2.1 C.2.2.2.2.2.1 ui_X4 C.2.2.2.2.1 C.2.2.2.2.2.2.2.1 hP 0 (rfl) rfl 1 (by decide) (C.2.2.2.2.2.1 _ tw_457) (fun _ h9 => h9) rfl dX4_usedFrom_12 ?_
      refine lv_iload C.1 C.2.1 dX4_usedFrom_15 (lv_at hl 0 rfl) ?_
      refine va_zald C.1 C.2.1 C.2.2.2.2.2.2.2.1 hP 1 1 (rfl) rfl (vp_in_nI (by omega) (by decide)) dX4_usedFrom_17 ?_
      rw [nI_clamp (by omega)]
      refine lv_if_eq (tgt := 27) C.1 C.2.1 dX4_usedFrom_18 (by decide) (fun h18 => ?_) (fun h18 => ?_)
      · refine lv_iload_n C.1 C.2.1 dX4_usedFrom_27 rfl (lv_at hl 1 rfl) ?_
        refine lv_istore_n (lv' := [(3, _), (4, _), (0, _), (1, _), (2, _)]) C.1 C.2.1 dX4_usedFrom_28 rfl hl (by decide) rfl (fun ls hl => ?_)
        refine lv_iinc (v := nI (j + 1)) (lv' := [(4, _), (3, _), (0, _), (1, _), (2, _)]) C.1 C.2.1 dX4_usedFrom_29 hl (k := 1) rfl (nI_1 j) (by decide) rfl (fun ls hl => ?_)
        refine lv_goto (tgt := 5) C.1 C.2.1 dX4_usedFrom_32 (by decide) ?_
        rw [show n + cnt (fun i => decide (¬ A 1 i = 0)) j (k + 1) = n + cnt (fun i => decide (¬ A 1 i = 0)) (j + 1) k by rw [cntG]; simp [h18]]
        exact ih (j + 1) n (by omega) ls H locs hl hP hD hS
      · refine lv_iload_n C.1 C.2.1 dX4_usedFrom_21 rfl (lv_at hl 1 rfl) ?_
        refine lv_iconst (v := nI 1) C.1 C.2.1 dX4_usedFrom_22 (by decide +kernel) ?_
        refine lv_iadd C.1 C.2.1 dX4_usedFrom_23 ?_
        rw [nI_add]
        refine lv_goto (tgt := 28) C.1 C.2.1 dX4_usedFrom_24 (by decide) ?_
        refine lv_istore_n (lv' := [(3, _), (4, _), (0, _), (1, _), (2, _)]) C.1 C.2.1 dX4_usedFrom_28 rfl hl (by decide) rfl (fun ls hl => ?_)
        refine lv_iinc (v := nI (j + 1)) (lv' := [(4, _), (3, _), (0, _), (1, _), (2, _)]) C.1 C.2.1 dX4_usedFrom_29 hl (k := 1) rfl (nI_1 j) (by decide) rfl (fun ls hl => ?_)
        refine lv_goto (tgt := 5) C.1 C.2.1 dX4_usedFrom_32 (by decide) ?_
        rw [show n + cnt (fun i => decide (¬ A 1 i = 0)) j (k + 1) = (n + 1) + cnt (fun i => decide (¬ A 1 i = 0)) (j + 1) k by rw [cntG]; simp [h18]; omega]
        exact ih (j + 1) (n + 1) (by omega) ls H locs hl hP hD hS
  have hfin := loop (b - a) a 0 (by omega) ls H locs hl hP hD hS
  rw [Nat.zero_add] at hfin
  exact hfin
end
section
/-! ===== the reference's PATH ===== -/
def plA (w : Nat) : (Nat → Int32) → Nat → List Nat → (Nat → Int32)
  | ps, _, [] => ps
  | ps, t, q :: L => plA w (upd ps t (nI (36 * w + q))) (t + 1) L
theorem plA_app (w q : Nat) : ∀ (L : List Nat) (ps : Nat → Int32) (t : Nat), plA w ps t (L ++ [q]) = upd (plA w ps t L) (t + L.length) (nI (36 * w + q)) := by
  intro L
  induction L with
  | nil => intro ps t; rfl
  | cons a L ih =>
    intro ps t
    simp only [List.cons_append, plA, List.length_cons]
    rw [ih, show t + 1 + L.length = t + (L.length + 1) by omega]
theorem plA_old (w : Nat) : ∀ (L : List Nat) (ps : Nat → Int32) (t j : Nat), j < t → plA w ps t L j = ps j := by
  intro L
  induction L with
  | nil => intro ps t j _; rfl
  | cons a L ih => intro ps t j h; simp only [plA]; rw [ih _ _ _ (by omega), pk_un (by omega)]
theorem plA_get (w : Nat) : ∀ (L : List Nat) (ps : Nat → Int32) (t j q : Nat), L[j]? = some q → plA w ps t L (t + j) = nI (36 * w + q) := by
  intro L
  induction L with
  | nil => intro ps t j q h; simp at h
  | cons a L ih =>
    intro ps t j q h
    simp only [plA]
    cases j with
    | zero =>
      have h : a = q := by simpa using h
      subst h
      rw [plA_old _ _ _ _ _ (by omega)]
      exact pk_us
    | succ j =>
      have h : L[j]? = some q := by simpa using h
      rw [show t + (j + 1) = t + 1 + j by omega]
      exact ih _ _ j q h
theorem onP_iff (w : Nat) (hw : w < 3) (ps : Nat → Int32) (L : List Nat) (hL : ∀ q ∈ L, q < 36) (q : Nat) (hq : q < 36) : anyB (fun i => decide (plA w ps 0 L i = nI (36 * w + q))) 0 L.length = decide (q ∈ L) := by
  rw [Bool.eq_iff_iff, anyB_iff, decide_eq_true_eq]
  have key : ∀ i p, L[i]? = some p → plA w ps 0 L i = nI (36 * w + p) := by
    intro i p h
    have h2 := plA_get w L ps 0 i p h
    rwa [Nat.zero_add] at h2
  constructor
  · rintro ⟨i, -, h2, h3⟩
    have h4 := key i _ (List.getElem?_eq_getElem (l := L) (i := i) (by omega))
    simp only [decide_eq_true_eq] at h3
    rw [h4] at h3
    have hlt := hL _ (List.getElem_mem (l := L) (n := i) (by omega))
    have h5 := (nI_eq (by omega) (by omega)).mp h3
    have h6 : L[i]'(by omega) = q := by omega
    rw [← h6]; exact List.getElem_mem _
  · intro h
    obtain ⟨i, hi, rfl⟩ := List.getElem_of_mem h
    refine ⟨i, Nat.zero_le _, by omega, ?_⟩
    simp only [decide_eq_true_eq]
    exact key i _ (List.getElem?_eq_getElem hi)
theorem anyB_s (P : Nat → Bool) (j k : Nat) : anyB P j (k + 1) = (P j || anyB P (j + 1) k) := rfl
set_option maxHeartbeats 4000000 in
set_option maxRecDepth 100000 in
/-- isOnPath -/
theorem k_X4_isOnPath (l : Launch) (D : va_G) (cI cZ cJ : ClassId) (ad : Nat → Nat) (X : va_W) (I : Nat → Int32) (A : Nat → Nat → Int32) (n : Nat) (hn0 : n ≤ 8) (hn : I 29 = nI n) (x : Int32) : CM l D (cm_T cI cZ cJ) yX4_isOnPath cX4_isOnPath 4 (some .boolean) (cm_rm 0 0) [.ref (ad 0), .int x] (mw ad cI cZ X I A) (some (.int (bI (anyB (fun i => decide (A 30 i = x)) 0 n)))) (mw ad cI cZ X I A) := by
  refine CM.of (by decide) (Nat.le_of_ble_eq_true rfl) ?_
  intro p e s m below meth c ls H locs C hl hP hD hS
  refine lv_iconst (v := nI 0) C.1 C.2.1 dX4_isOnPath_0 (by decide +kernel) ?_
  refine lv_istore_n (lv' := [(2, _), (0, _), (1, _)]) C.1 C.2.1 dX4_isOnPath_1 rfl hl (by decide) rfl (fun ls hl => ?_)
  refine lv_iconst (v := nI 0) C.1 C.2.1 dX4_isOnPath_2 (by decide +kernel) ?_
  refine lv_istore_n (lv' := [(3, _), (2, _), (0, _), (1, _)]) C.1 C.2.1 dX4_isOnPath_3 rfl hl (by decide) rfl (fun ls hl => ?_)
  have loop : ∀ (k j : Nat) (acc : Bool), j + k = n → ∀ (ls : Array Slot) (H : Heap) (locs : List Loc), lv_has ls 4 [(3, .int (nI j)), (2, .int (bI acc)), (0, .ref (ad 0)), (1, .int x)] → va_P D vwCl (mw ad cI cZ X I A) H → va_D (cm_A (mw ad cI cZ X I A)) (mw ad cI cZ X I A) → va_S (cm_A (mw ad cI cZ X I A)) s.heap H locs → W p l e (cm_rm 0 0) s m ([.ref (ad 0), .int x] : List Value).toArray below meth c H locs 0 0 (cm_Q below D [.ref (ad 0), .int x] s (mw ad cI cZ X I A) (some (.int (bI (acc || anyB (fun i => decide (A 30 i = x)) j k)))) (mw ad cI cZ X I A)) (F0 m 4 ls []) := by
    intro k
    induction k with
    | zero =>
      intro j acc hj ls H locs hl hP hD hS
      refine lv_iload_n C.1 C.2.1 dX4_isOnPath_4 rfl (lv_at hl 0 rfl) ?_
      refine lv_aload_n C.1 C.2.1 dX4_isOnPath_5 rfl (lv_at hl 2 rfl) ?_
      refine va_get (ci := 4) (C := RX4) (T := TX4) (N := 34) C.1 C.2.1 C.2.2.2.2.2.1 ui_X4 C.2.2.2.2.1 C.2.2.2.2.2.2.2.1 hP 0 (rfl) rfl 29 (by decide) (C.2.2.2.2.2.1 _ tw_485) (fun _ h9 => h9) rfl dX4_isOnPath_6 ?_
      rw [hn]
      refine lv_icmp_ge (tgt := 38) C.1 C.2.1 dX4_isOnPath_9 (by decide) (fun _ => ?_) (fun h => absurd (nI_le (by omega) (by omega)) h)
      refine lv_iload_n C.1 C.2.1 dX4_isOnPath_38 rfl (lv_at hl 1 rfl) ?_
      exact cm_zret C hP hD hS dX4_isOnPath_39 (bI_nar acc) (by rw [show anyB (fun i => decide (A 30 i = x)) j 0 = false from rfl, Bool.or_false]) rfl
    | succ k ih =>
      intro j acc hj ls H locs hl hP hD hS
      have e9 := anyB_s (fun i => decide (A 30 i = x)) j k
      cases acc with
      | true =>
        refine lv_iload_n C.1 C.2.1 dX4_isOnPath_4 rfl (lv_at hl 0 rfl) ?_
        refine lv_aload_n C.1 C.2.1 dX4_isOnPath_5 rfl (lv_at hl 2 rfl) ?_
        refine va_get (v := .int (I 29)) (ci := 4) (C := RX4) (T := TX4) (N := 34) C.1 C.2.1 C.2.2.2.2.2.1 ui_X4 C.2.2.2.2.1 C.2.2.2.2.2.2.2.1 hP 0 (rfl) rfl 29 (by decide) (C.2.2.2.2.2.1 _ tw_485) (fun _ h9 => h9) rfl dX4_isOnPath_6 ?_
        rw [hn]
        refine lv_icmp_ge (tgt := 38) C.1 C.2.1 dX4_isOnPath_9 (by decide) (fun h => absurd h (nI_ge (by omega) (by omega))) (fun _ => ?_)
        refine lv_iload_n C.1 C.2.1 dX4_isOnPath_12 rfl (lv_at hl 1 rfl) ?_
        refine lv_if_ne (tgt := 26) C.1 C.2.1 dX4_isOnPath_13 (by decide) (fun _ => ?_) (fun h => absurd h (by decide))
        refine lv_iconst (v := nI 1) C.1 C.2.1 dX4_isOnPath_26 (by decide +kernel) ?_
        refine lv_goto (tgt := 31) C.1 C.2.1 dX4_isOnPath_27 (by decide) ?_
        refine lv_istore_n (lv' := [(2, _), (3, _), (0, _), (1, _)]) C.1 C.2.1 dX4_isOnPath_31 rfl hl (by decide) rfl (fun ls hl => ?_)
        refine lv_iinc (v := nI (j + 1)) (lv' := [(3, _), (2, _), (0, _), (1, _)]) C.1 C.2.1 dX4_isOnPath_32 hl (k := 1) rfl (nI_1 j) (by decide) rfl (fun ls hl => ?_)
        refine lv_goto (tgt := 4) C.1 C.2.1 dX4_isOnPath_35 (by decide) ?_
        exact ih (j + 1) true (by omega) ls H locs hl hP hD hS
      | false =>
        refine lv_iload_n C.1 C.2.1 dX4_isOnPath_4 rfl (lv_at hl 0 rfl) ?_
        refine lv_aload_n C.1 C.2.1 dX4_isOnPath_5 rfl (lv_at hl 2 rfl) ?_
        refine va_get (ci := 4) (C := RX4) (T := TX4) (N := 34) C.1 C.2.1 C.2.2.2.2.2.1 ui_X4 C.2.2.2.2.1 C.2.2.2.2.2.2.2.1 hP 0 (rfl) rfl 29 (by decide) (C.2.2.2.2.2.1 _ tw_485) (fun _ h9 => h9) rfl dX4_isOnPath_6 ?_
        rw [hn]
        refine lv_icmp_ge (tgt := 38) C.1 C.2.1 dX4_isOnPath_9 (by decide) (fun h => absurd h (nI_ge (by omega) (by omega))) (fun _ => ?_)
        refine lv_iload_n C.1 C.2.1 dX4_isOnPath_12 rfl (lv_at hl 1 rfl) ?_
        refine lv_if_ne (tgt := 26) C.1 C.2.1 dX4_isOnPath_13 (by decide) (fun h => absurd (rfl) h) (fun _ => ?_)
        refine lv_aload_n C.1 C.2.1 dX4_isOnPath_16 rfl (lv_at hl 2 rfl) ?_
        refine va_get (ci := 4) (C := RX4) (T := TX4) (N := 34) C.1 C.2.1 C.2.2.2.2.2.1 ui_X4 C.2.2.2.2.1 C.2.2.2.2.2.2.2.1 hP 0 (rfl) rfl 30 (by decide) (C.2.2.2.2.2.1 _ tw_486) (fun _ h9 => h9) rfl dX4_isOnPath_17 ?_
        refine lv_iload_n C.1 C.2.1 dX4_isOnPath_20 rfl (lv_at hl 0 rfl) ?_
        refine va_iald C.1 C.2.1 C.2.2.2.2.2.2.2.1 hP 21 0 (rfl) rfl (vp_in_nI (by omega) (by decide)) dX4_isOnPath_21 ?_
        rw [nI_clamp (by omega)]
        refine lv_iload_n C.1 C.2.1 dX4_isOnPath_22 rfl (lv_at hl 3 rfl) ?_
        refine lv_icmp_ne (tgt := 30) C.1 C.2.1 dX4_isOnPath_23 (by decide) (fun h23 => ?_) (fun h23 => ?_)
        · refine lv_iconst (v := nI 0) C.1 C.2.1 dX4_isOnPath_30 (by decide +kernel) ?_
          refine lv_istore_n (lv' := [(2, _), (3, _), (0, _), (1, _)]) C.1 C.2.1 dX4_isOnPath_31 rfl hl (by decide) rfl (fun ls hl => ?_)
          refine lv_iinc (v := nI (j + 1)) (lv' := [(3, _), (2, _), (0, _), (1, _)]) C.1 C.2.1 dX4_isOnPath_32 hl (k := 1) rfl (nI_1 j) (by decide) rfl (fun ls hl => ?_)
          refine lv_goto (tgt := 4) C.1 C.2.1 dX4_isOnPath_35 (by decide) ?_
          rw [e9, show decide (A 30 j = x) = false from decide_eq_false h23]
          exact ih (j + 1) false (by omega) ls H locs hl hP hD hS
        · refine lv_iconst (v := nI 1) C.1 C.2.1 dX4_isOnPath_26 (by decide +kernel) ?_
          refine lv_goto (tgt := 31) C.1 C.2.1 dX4_isOnPath_27 (by decide) ?_
          refine lv_istore_n (lv' := [(2, _), (3, _), (0, _), (1, _)]) C.1 C.2.1 dX4_isOnPath_31 rfl hl (by decide) rfl (fun ls hl => ?_)
          refine lv_iinc (v := nI (j + 1)) (lv' := [(3, _), (2, _), (0, _), (1, _)]) C.1 C.2.1 dX4_isOnPath_32 hl (k := 1) rfl (nI_1 j) (by decide) rfl (fun ls hl => ?_)
          refine lv_goto (tgt := 4) C.1 C.2.1 dX4_isOnPath_35 (by decide) ?_
          rw [e9, show decide (A 30 j = x) = true from decide_eq_true h23, Bool.true_or]
          exact ih (j + 1) true (by omega) ls H locs hl hP hD hS
  exact loop n 0 false (Nat.zero_add n) ls H locs hl hP hD hS
set_option maxHeartbeats 4000000 in
set_option maxRecDepth 100000 in
/-- hasPath -/
theorem k_X4_hasPath (l : Launch) (D : va_G) (cI cZ cJ : ClassId) (ad : Nat → Nat) (X : va_W) (I : Nat → Int32) (A : Nat → Nat → Int32) (w b0 : Nat) (hw0 : w < 3) (hb0 : b0 < 8) (s0 : Int32) : CM l D (cm_T cI cZ cJ) yX4_hasPath cX4_hasPath 9 (some .boolean) (cm_rm 2 47) [.ref (ad 0), .int (nI w), .int s0, .int (nI b0)] (mw ad cI cZ X I A) (some (.int (bI (pathS (uM A w) (kM A w) s0 6 0 b0 []).1))) (mw ad cI cZ X (va_up I 29 (nI (pathS (uM A w) (kM A w) s0 6 0 b0 []).2.length)) (va_up A 30 (plA w (A 30) 0 (pathS (uM A w) (kM A w) s0 6 0 b0 []).2))) := by
  refine CM.of (by decide) (Nat.le_of_ble_eq_true rfl) ?_
  intro p e s m below meth c ls H locs C hl hP hD hS
  refine lv_iload_n C.1 C.2.1 dX4_hasPath_0 rfl (lv_at hl 3 rfl) ?_
  refine lv_istore (lv' := [(4, _), (0, _), (1, _), (2, _), (3, _)]) C.1 C.2.1 dX4_hasPath_1 hl (by decide) rfl (fun ls hl => ?_)
  refine lv_aload_n C.1 C.2.1 dX4_hasPath_3 rfl (lv_at hl 1 rfl) ?_
  refine lv_iconst (v := nI 0) C.1 C.2.1 dX4_hasPath_4 (by decide +kernel) ?_
  refine va_put (ci := 4) (C := RX4) (T := TX4) (N := 34) (ty := .int) C.1 C.2.1 C.2.2.2.2.2.1 ui_X4 tyX4 tyX4_ok nmX4 C.2.2.2.2.1 C.2.2.2.2.2.2.2.1 hP hD hS 0 (rfl) rfl 29 (by decide) (C.2.2.2.2.2.1 _ tw_485) (fun _ h9 => h9) rfl (by decide +kernel) rfl rfl (Nat.le_of_ble_eq_true rfl) dX4_hasPath_5 (fun H locs hP hD hS => ?_)
  have hP : va_P D vwCl (mw ad cI cZ X (va_up I 29 (nI 0)) (va_up A 30 (plA w (A 30) 0 []))) H := hP
  have hD : va_D (cm_A (mw ad cI cZ X I A)) (mw ad cI cZ X (va_up I 29 (nI 0)) (va_up A 30 (plA w (A 30) 0 []))) := hD
  refine lv_iconst (v := nI 0) C.1 C.2.1 dX4_hasPath_8 (by decide +kernel) ?_
  refine lv_istore (lv' := [(5, _), (4, _), (0, _), (1, _), (2, _), (3, _)]) C.1 C.2.1 dX4_hasPath_9 hl (by decide) rfl (fun ls hl => ?_)
  have loop : ∀ (k j b : Nat) (L : List Nat), j + k = 6 ∧ L.length = j ∧ b < 8 ∧ (∀ q ∈ L, q < 36) → ∀ (ls : Array Slot) (H : Heap) (locs : List Loc), lv_has ls 9 [(5, .int (nI j)), (4, .int (nI b)), (0, .ref (ad 0)), (1, .int (nI w)), (2, .int s0), (3, .int (nI b0))] → va_P D vwCl (mw ad cI cZ X (va_up I 29 (nI j)) (va_up A 30 (plA w (A 30) 0 L))) H → va_D (cm_A (mw ad cI cZ X I A)) (mw ad cI cZ X (va_up I 29 (nI j)) (va_up A 30 (plA w (A 30) 0 L))) → va_S (cm_A (mw ad cI cZ X I A)) s.heap H locs → W p l e (cm_rm 2 47) s m ([.ref (ad 0), .int (nI w), .int s0, .int (nI b0)] : List Value).toArray below meth c H locs 0 0 (cm_Q below D [.ref (ad 0), .int (nI w), .int s0, .int (nI b0)] s (mw ad cI cZ X I A) (some (.int (bI (pathS (uM A w) (kM A w) s0 k j b L).1))) (mw ad cI cZ X (va_up I 29 (nI (pathS (uM A w) (kM A w) s0 k j b L).2.length)) (va_up A 30 (plA w (A 30) 0 (pathS (uM A w) (kM A w) s0 k j b L).2)))) (F0 m 11 ls []) := by
    intro k
    induction k with
    | zero =>
      intro j b L hj ls H locs hl hP hD hS
      obtain ⟨hj, hLj, hb, hL⟩ := hj
      refine lv_iload C.1 C.2.1 dX4_hasPath_11 (lv_at hl 0 rfl) ?_
      refine lv_bipush (v := nI 6) C.1 C.2.1 dX4_hasPath_13 (by decide +kernel) ?_
      refine lv_icmp_ge (tgt := 179) C.1 C.2.1 dX4_hasPath_15 (by decide) (fun _ => ?_) (fun h => absurd (nI_le (by omega) (by omega)) h)
      refine lv_iconst (v := nI 0) C.1 C.2.1 dX4_hasPath_179 (by decide +kernel) ?_
      exact cm_zret C hP hD hS dX4_hasPath_180 (by decide +kernel) rfl (by rw [← hLj]; rfl)
    | succ k ih =>
      intro j b L hj ls H locs hl hP hD hS
      obtain ⟨hj, hLj, hb, hL⟩ := hj
      have hcont : ∀ (ls : Array Slot) (H : Heap) (locs : List Loc), lv_has ls 9 [(6, .int (optA w (nx L b j 0 4))), (5, .int (nI j)), (4, .int (nI b)), (0, .ref (ad 0)), (1, .int (nI w)), (2, .int s0), (3, .int (nI b0))] → va_P D vwCl (mw ad cI cZ X (va_up I 29 (nI j)) (va_up A 30 (plA w (A 30) 0 L))) H → va_D (cm_A (mw ad cI cZ X I A)) (mw ad cI cZ X (va_up I 29 (nI j)) (va_up A 30 (plA w (A 30) 0 L))) → va_S (cm_A (mw ad cI cZ X I A)) s.heap H locs → W p l e (cm_rm 2 47) s m ([.ref (ad 0), .int (nI w), .int s0, .int (nI b0)] : List Value).toArray below meth c H locs 0 0 (cm_Q below D [.ref (ad 0), .int (nI w), .int s0, .int (nI b0)] s (mw ad cI cZ X I A) (some (.int (bI (pathS (uM A w) (kM A w) s0 (k + 1) j b L).1))) (mw ad cI cZ X (va_up I 29 (nI (pathS (uM A w) (kM A w) s0 (k + 1) j b L).2.length)) (va_up A 30 (plA w (A 30) 0 (pathS (uM A w) (kM A w) s0 (k + 1) j b L).2)))) (F0 m 68 ls []) := by
        intro ls H locs hl hP hD hS
        cases hnx : nx L b j 0 4 with
        | none =>
          rw [hnx, optA_none] at hl
          refine lv_iload C.1 C.2.1 dX4_hasPath_68 (lv_at hl 0 rfl) ?_
          refine lv_if_ge (tgt := 75) C.1 C.2.1 dX4_hasPath_70 (by decide) (fun h => absurd h (by decide)) (fun _ => ?_)
          refine lv_iconst (v := nI 0) C.1 C.2.1 dX4_hasPath_73 (by decide +kernel) ?_
          exact cm_zret C hP hD hS dX4_hasPath_74 (by decide +kernel) (by simp only [pathS, hnx]; rfl) (by simp only [pathS, hnx]; rw [← hLj])
        | some p9 =>
          rw [hnx, optA_some] at hl
          have hp := nx_some _ _ hnx
          have hor := otherS_lt s0 (kM A w p9) b
          have e1 : upd (plA w (A 30) 0 L) j (nI (36 * w + p9)) = plA w (A 30) 0 (L ++ [p9]) := by rw [plA_app, Nat.zero_add, hLj]
          have hq1 := hm1_lt s0 (kM A w p9)
          have hq2 := hm2_lt s0 (kM A w p9)
          cases hem : emS (uM A w) (otherS s0 (kM A w p9) b) with
          | some e9 =>
            have he := emS_lt hem (by omega)
            have e3 : upd (plA w (A 30) 0 (L ++ [p9])) (j + 1) (nI (36 * w + e9)) = plA w (A 30) 0 (L ++ [p9] ++ [e9]) := by rw [plA_app w e9, Nat.zero_add, List.length_append, hLj]; rfl
            by_cases hb1 : b = hm1 s0 (kM A w p9)
            · refine lv_iload C.1 C.2.1 dX4_hasPath_68 (lv_at hl 0 rfl) ?_
              refine lv_if_ge (tgt := 75) C.1 C.2.1 dX4_hasPath_70 (by decide) (fun _ => ?_) (fun h => absurd (nI_pos' (by omega)) h)
              refine lv_aload_n C.1 C.2.1 dX4_hasPath_75 rfl (lv_at hl 3 rfl) ?_
              refine va_get (ci := 4) (C := RX4) (T := TX4) (N := 34) C.1 C.2.1 C.2.2.2.2.2.1 ui_X4 C.2.2.2.2.1 C.2.2.2.2.2.2.2.1 hP 0 (rfl) rfl 30 (by decide) (C.2.2.2.2.2.1 _ tw_486) (fun _ h9 => h9) rfl dX4_hasPath_76 ?_
              refine lv_aload_n C.1 C.2.1 dX4_hasPath_79 rfl (lv_at hl 3 rfl) ?_
              refine va_get (v := .int (nI j)) (ci := 4) (C := RX4) (T := TX4) (N := 34) C.1 C.2.1 C.2.2.2.2.2.1 ui_X4 C.2.2.2.2.1 C.2.2.2.2.2.2.2.1 hP 0 (rfl) rfl 29 (by decide) (C.2.2.2.2.2.1 _ tw_485) (fun _ h9 => h9) rfl dX4_hasPath_80 ?_
              refine lv_iload C.1 C.2.1 dX4_hasPath_83 (lv_at hl 0 rfl) ?_
              refine va_iast (f := plA w (A 30) 0 L) C.1 C.2.1 C.2.2.2.2.2.2.2.1 hP hD hS 21 0 (rfl) rfl (vp_in_nI (by omega) (by decide)) dX4_hasPath_85 (fun H locs hP hD hS => ?_)
              rw [nI_clamp (by omega), e1] at hP hD
              have hP : va_P D vwCl (mw ad cI cZ X (va_up I 29 (nI j)) (va_up A 30 (plA w (A 30) 0 (L ++ [p9])))) H := hP
              have hD : va_D (cm_A (mw ad cI cZ X I A)) (mw ad cI cZ X (va_up I 29 (nI j)) (va_up A 30 (plA w (A 30) 0 (L ++ [p9])))) := hD
              refine lv_aload_n C.1 C.2.1 dX4_hasPath_86 rfl (lv_at hl 3 rfl) ?_
              refine lv_dup C.1 C.2.1 dX4_hasPath_87 rfl ?_
              refine va_get (v := .int (nI j)) (ci := 4) (C := RX4) (T := TX4) (N := 34) C.1 C.2.1 C.2.2.2.2.2.1 ui_X4 C.2.2.2.2.1 C.2.2.2.2.2.2.2.1 hP 0 (rfl) rfl 29 (by decide) (C.2.2.2.2.2.1 _ tw_485) (fun _ h9 => h9) rfl dX4_hasPath_88 ?_
              refine lv_iconst (v := nI 1) C.1 C.2.1 dX4_hasPath_91 (by decide +kernel) ?_
              refine lv_iadd C.1 C.2.1 dX4_hasPath_92 ?_
              rw [nI_add]
              refine va_put (ci := 4) (C := RX4) (T := TX4) (N := 34) (ty := .int) C.1 C.2.1 C.2.2.2.2.2.1 ui_X4 tyX4 tyX4_ok nmX4 C.2.2.2.2.1 C.2.2.2.2.2.2.2.1 hP hD hS 0 (rfl) rfl 29 (by decide) (C.2.2.2.2.2.1 _ tw_485) (fun _ h9 => h9) rfl (by decide +kernel) rfl rfl (Nat.le_of_ble_eq_true rfl) dX4_hasPath_93 (fun H locs hP hD hS => ?_)
              have hP : va_P D vwCl (mw ad cI cZ X (va_up I 29 (nI (j + 1))) (va_up A 30 (plA w (A 30) 0 (L ++ [p9])))) H := hP
              have hD : va_D (cm_A (mw ad cI cZ X I A)) (mw ad cI cZ X (va_up I 29 (nI (j + 1))) (va_up A 30 (plA w (A 30) 0 (L ++ [p9])))) := hD
              refine lv_aload_n C.1 C.2.1 dX4_hasPath_96 rfl (lv_at hl 3 rfl) ?_
              refine va_get (ci := 4) (C := RX4) (T := TX4) (N := 34) C.1 C.2.1 C.2.2.2.2.2.1 ui_X4 C.2.2.2.2.1 C.2.2.2.2.2.2.2.1 hP 0 (rfl) rfl 2 (by decide) (C.2.2.2.2.2.1 _ tw_458) (fun _ h9 => h9) rfl dX4_hasPath_97 ?_
              refine lv_iload C.1 C.2.1 dX4_hasPath_100 (lv_at hl 0 rfl) ?_
              refine va_iald (f := A 2) C.1 C.2.1 C.2.2.2.2.2.2.2.1 hP 2 0 (rfl) rfl (vp_in_nI (by omega) (by decide)) dX4_hasPath_102 ?_
              rw [nI_clamp (by omega), show A 2 (36 * w + p9) = kM A w p9 from rfl]
              refine lv_iload_n C.1 C.2.1 dX4_hasPath_103 rfl (lv_at hl 5 rfl) ?_
              refine lv_iconst (v := nI 0) C.1 C.2.1 dX4_hasPath_104 (by decide +kernel) ?_
              refine cm_cS1 3 C (k_X4_homeBy1 l D cI cZ cJ (mw ad cI cZ X (va_up I 29 (nI (j + 1))) (va_up A 30 (plA w (A 30) 0 (L ++ [p9])))) (kM A w p9) s0) tw_572 tw_573 tw_5 tw_574 rfl rfl (by decide +kernel) ⟨Nat.le_of_ble_eq_true rfl, Nat.le_of_ble_eq_true rfl⟩ ⟨Nat.zero_le _, Nat.zero_le _⟩ hP hD hS hl.1 rfl rfl (Nat.le_of_ble_eq_true rfl) dX4_hasPath_105 (fun H locs hP hD hS => ?_)
              refine lv_istore (lv' := [(7, _), (6, _), (5, _), (4, _), (0, _), (1, _), (2, _), (3, _)]) C.1 C.2.1 dX4_hasPath_108 hl (by decide) rfl (fun ls hl => ?_)
              refine lv_iload C.1 C.2.1 dX4_hasPath_110 (lv_at hl 0 rfl) ?_
              refine lv_iload C.1 C.2.1 dX4_hasPath_112 (lv_at hl 3 rfl) ?_
              refine lv_icmp_ne (tgt := 132) C.1 C.2.1 dX4_hasPath_114 (by decide) (fun h => absurd (by rw [← hb1]) h) (fun _ => ?_)
              refine lv_aload_n C.1 C.2.1 dX4_hasPath_117 rfl (lv_at hl 4 rfl) ?_
              refine va_get (ci := 4) (C := RX4) (T := TX4) (N := 34) C.1 C.2.1 C.2.2.2.2.2.1 ui_X4 C.2.2.2.2.1 C.2.2.2.2.2.2.2.1 hP 0 (rfl) rfl 2 (by decide) (C.2.2.2.2.2.1 _ tw_458) (fun _ h9 => h9) rfl dX4_hasPath_118 ?_
              refine lv_iload C.1 C.2.1 dX4_hasPath_121 (lv_at hl 1 rfl) ?_
              refine va_iald (f := A 2) C.1 C.2.1 C.2.2.2.2.2.2.2.1 hP 2 0 (rfl) rfl (vp_in_nI (by omega) (by decide)) dX4_hasPath_123 ?_
              rw [nI_clamp (by omega), show A 2 (36 * w + p9) = kM A w p9 from rfl]
              refine lv_iload_n C.1 C.2.1 dX4_hasPath_124 rfl (lv_at hl 6 rfl) ?_
              refine lv_iconst (v := nI 1) C.1 C.2.1 dX4_hasPath_125 (by decide +kernel) ?_
              refine cm_cS1 3 C (k_X4_homeBy2 l D cI cZ cJ (mw ad cI cZ X (va_up I 29 (nI (j + 1))) (va_up A 30 (plA w (A 30) 0 (L ++ [p9])))) (kM A w p9) s0) tw_572 tw_573 tw_5 tw_574 rfl rfl (by decide +kernel) ⟨Nat.le_of_ble_eq_true rfl, Nat.le_of_ble_eq_true rfl⟩ ⟨Nat.zero_le _, Nat.zero_le _⟩ hP hD hS hl.1 rfl rfl (Nat.le_of_ble_eq_true rfl) dX4_hasPath_126 (fun H locs hP hD hS => ?_)
              refine lv_goto (tgt := 134) C.1 C.2.1 dX4_hasPath_129 (by decide) ?_
              rw [show hm2 s0 (kM A w p9) = otherS s0 (kM A w p9) b from (if_pos hb1).symm]
              refine lv_istore (lv' := [(4, _), (7, _), (6, _), (5, _), (0, _), (1, _), (2, _), (3, _)]) C.1 C.2.1 dX4_hasPath_134 hl (by decide) rfl (fun ls hl => ?_)
              refine lv_aload_n C.1 C.2.1 dX4_hasPath_136 rfl (lv_at hl 4 rfl) ?_
              refine lv_iload_n C.1 C.2.1 dX4_hasPath_137 rfl (lv_at hl 5 rfl) ?_
              refine lv_iload C.1 C.2.1 dX4_hasPath_138 (lv_at hl 0 rfl) ?_
              refine cm_cV1 (q0 := 0) 2 C (k_X4_empty l D cI cZ cJ ad X (va_up I 29 (nI (j + 1))) (va_up A 30 (plA w (A 30) 0 (L ++ [p9]))) w (otherS s0 (kM A w p9) b) hw0 (by omega)) tw_612 tw_614 ts_20 tw_5 tw_615 rfl rfl (rfl) rfl (by decide +kernel) ⟨Nat.le_of_ble_eq_true rfl, Nat.le_of_ble_eq_true rfl⟩ ⟨Nat.zero_le _, Nat.zero_le _⟩ hP hD hS hl.1 rfl rfl (Nat.le_of_ble_eq_true rfl) dX4_hasPath_140 (fun H locs hP hD hS => ?_)
              rw [show uM (va_up A 30 (plA w (A 30) 0 (L ++ [p9]))) w = uM A w from rfl, hem, optA_some]
              refine lv_istore (lv' := [(8, _), (4, _), (7, _), (6, _), (5, _), (0, _), (1, _), (2, _), (3, _)]) C.1 C.2.1 dX4_hasPath_143 hl (by decide) rfl (fun ls hl => ?_)
              refine lv_iload C.1 C.2.1 dX4_hasPath_145 (lv_at hl 0 rfl) ?_
              refine lv_if_lt (tgt := 173) C.1 C.2.1 dX4_hasPath_147 (by decide) (fun h => absurd h (nI_pos (by omega))) (fun _ => ?_)
              refine lv_aload_n C.1 C.2.1 dX4_hasPath_150 rfl (lv_at hl 5 rfl) ?_
              refine va_get (ci := 4) (C := RX4) (T := TX4) (N := 34) C.1 C.2.1 C.2.2.2.2.2.1 ui_X4 C.2.2.2.2.1 C.2.2.2.2.2.2.2.1 hP 0 (rfl) rfl 30 (by decide) (C.2.2.2.2.2.1 _ tw_486) (fun _ h9 => h9) rfl dX4_hasPath_151 ?_
              refine lv_aload_n C.1 C.2.1 dX4_hasPath_154 rfl (lv_at hl 5 rfl) ?_
              refine va_get (v := .int (nI (j + 1))) (ci := 4) (C := RX4) (T := TX4) (N := 34) C.1 C.2.1 C.2.2.2.2.2.1 ui_X4 C.2.2.2.2.1 C.2.2.2.2.2.2.2.1 hP 0 (rfl) rfl 29 (by decide) (C.2.2.2.2.2.1 _ tw_485) (fun _ h9 => h9) rfl dX4_hasPath_155 ?_
              refine lv_iload C.1 C.2.1 dX4_hasPath_158 (lv_at hl 0 rfl) ?_
              refine va_iast (f := plA w (A 30) 0 (L ++ [p9])) C.1 C.2.1 C.2.2.2.2.2.2.2.1 hP hD hS 21 0 (rfl) rfl (vp_in_nI (by omega) (by decide)) dX4_hasPath_160 (fun H locs hP hD hS => ?_)
              rw [nI_clamp (by omega), e3] at hP hD
              have hP : va_P D vwCl (mw ad cI cZ X (va_up I 29 (nI (j + 1))) (va_up A 30 (plA w (A 30) 0 (L ++ [p9] ++ [e9])))) H := hP
              have hD : va_D (cm_A (mw ad cI cZ X I A)) (mw ad cI cZ X (va_up I 29 (nI (j + 1))) (va_up A 30 (plA w (A 30) 0 (L ++ [p9] ++ [e9])))) := hD
              refine lv_aload_n C.1 C.2.1 dX4_hasPath_161 rfl (lv_at hl 5 rfl) ?_
              refine lv_dup C.1 C.2.1 dX4_hasPath_162 rfl ?_
              refine va_get (v := .int (nI (j + 1))) (ci := 4) (C := RX4) (T := TX4) (N := 34) C.1 C.2.1 C.2.2.2.2.2.1 ui_X4 C.2.2.2.2.1 C.2.2.2.2.2.2.2.1 hP 0 (rfl) rfl 29 (by decide) (C.2.2.2.2.2.1 _ tw_485) (fun _ h9 => h9) rfl dX4_hasPath_163 ?_
              refine lv_iconst (v := nI 1) C.1 C.2.1 dX4_hasPath_166 (by decide +kernel) ?_
              refine lv_iadd C.1 C.2.1 dX4_hasPath_167 ?_
              rw [nI_add]
              refine va_put (ci := 4) (C := RX4) (T := TX4) (N := 34) (ty := .int) C.1 C.2.1 C.2.2.2.2.2.1 ui_X4 tyX4 tyX4_ok nmX4 C.2.2.2.2.1 C.2.2.2.2.2.2.2.1 hP hD hS 0 (rfl) rfl 29 (by decide) (C.2.2.2.2.2.1 _ tw_485) (fun _ h9 => h9) rfl (by decide +kernel) rfl rfl (Nat.le_of_ble_eq_true rfl) dX4_hasPath_168 (fun H locs hP hD hS => ?_)
              have hP : va_P D vwCl (mw ad cI cZ X (va_up I 29 (nI (j + 1 + 1))) (va_up A 30 (plA w (A 30) 0 (L ++ [p9] ++ [e9])))) H := hP
              have hD : va_D (cm_A (mw ad cI cZ X I A)) (mw ad cI cZ X (va_up I 29 (nI (j + 1 + 1))) (va_up A 30 (plA w (A 30) 0 (L ++ [p9] ++ [e9])))) := hD
              refine lv_iconst (v := nI 1) C.1 C.2.1 dX4_hasPath_171 (by decide +kernel) ?_
              exact cm_zret C hP hD hS dX4_hasPath_172 (by decide +kernel) (by simp only [pathS, hnx, hem]; rfl) (by simp only [pathS, hnx, hem, List.length_append, hLj]; rfl)
            · refine lv_iload C.1 C.2.1 dX4_hasPath_68 (lv_at hl 0 rfl) ?_
              refine lv_if_ge (tgt := 75) C.1 C.2.1 dX4_hasPath_70 (by decide) (fun _ => ?_) (fun h => absurd (nI_pos' (by omega)) h)
              refine lv_aload_n C.1 C.2.1 dX4_hasPath_75 rfl (lv_at hl 3 rfl) ?_
              refine va_get (ci := 4) (C := RX4) (T := TX4) (N := 34) C.1 C.2.1 C.2.2.2.2.2.1 ui_X4 C.2.2.2.2.1 C.2.2.2.2.2.2.2.1 hP 0 (rfl) rfl 30 (by decide) (C.2.2.2.2.2.1 _ tw_486) (fun _ h9 => h9) rfl dX4_hasPath_76 ?_
              refine lv_aload_n C.1 C.2.1 dX4_hasPath_79 rfl (lv_at hl 3 rfl) ?_
              refine va_get (v := .int (nI j)) (ci := 4) (C := RX4) (T := TX4) (N := 34) C.1 C.2.1 C.2.2.2.2.2.1 ui_X4 C.2.2.2.2.1 C.2.2.2.2.2.2.2.1 hP 0 (rfl) rfl 29 (by decide) (C.2.2.2.2.2.1 _ tw_485) (fun _ h9 => h9) rfl dX4_hasPath_80 ?_
              refine lv_iload C.1 C.2.1 dX4_hasPath_83 (lv_at hl 0 rfl) ?_
              refine va_iast (f := plA w (A 30) 0 L) C.1 C.2.1 C.2.2.2.2.2.2.2.1 hP hD hS 21 0 (rfl) rfl (vp_in_nI (by omega) (by decide)) dX4_hasPath_85 (fun H locs hP hD hS => ?_)
              rw [nI_clamp (by omega), e1] at hP hD
              have hP : va_P D vwCl (mw ad cI cZ X (va_up I 29 (nI j)) (va_up A 30 (plA w (A 30) 0 (L ++ [p9])))) H := hP
              have hD : va_D (cm_A (mw ad cI cZ X I A)) (mw ad cI cZ X (va_up I 29 (nI j)) (va_up A 30 (plA w (A 30) 0 (L ++ [p9])))) := hD
              refine lv_aload_n C.1 C.2.1 dX4_hasPath_86 rfl (lv_at hl 3 rfl) ?_
              refine lv_dup C.1 C.2.1 dX4_hasPath_87 rfl ?_
              refine va_get (v := .int (nI j)) (ci := 4) (C := RX4) (T := TX4) (N := 34) C.1 C.2.1 C.2.2.2.2.2.1 ui_X4 C.2.2.2.2.1 C.2.2.2.2.2.2.2.1 hP 0 (rfl) rfl 29 (by decide) (C.2.2.2.2.2.1 _ tw_485) (fun _ h9 => h9) rfl dX4_hasPath_88 ?_
              refine lv_iconst (v := nI 1) C.1 C.2.1 dX4_hasPath_91 (by decide +kernel) ?_
              refine lv_iadd C.1 C.2.1 dX4_hasPath_92 ?_
              rw [nI_add]
              refine va_put (ci := 4) (C := RX4) (T := TX4) (N := 34) (ty := .int) C.1 C.2.1 C.2.2.2.2.2.1 ui_X4 tyX4 tyX4_ok nmX4 C.2.2.2.2.1 C.2.2.2.2.2.2.2.1 hP hD hS 0 (rfl) rfl 29 (by decide) (C.2.2.2.2.2.1 _ tw_485) (fun _ h9 => h9) rfl (by decide +kernel) rfl rfl (Nat.le_of_ble_eq_true rfl) dX4_hasPath_93 (fun H locs hP hD hS => ?_)
              have hP : va_P D vwCl (mw ad cI cZ X (va_up I 29 (nI (j + 1))) (va_up A 30 (plA w (A 30) 0 (L ++ [p9])))) H := hP
              have hD : va_D (cm_A (mw ad cI cZ X I A)) (mw ad cI cZ X (va_up I 29 (nI (j + 1))) (va_up A 30 (plA w (A 30) 0 (L ++ [p9])))) := hD
              refine lv_aload_n C.1 C.2.1 dX4_hasPath_96 rfl (lv_at hl 3 rfl) ?_
              refine va_get (ci := 4) (C := RX4) (T := TX4) (N := 34) C.1 C.2.1 C.2.2.2.2.2.1 ui_X4 C.2.2.2.2.1 C.2.2.2.2.2.2.2.1 hP 0 (rfl) rfl 2 (by decide) (C.2.2.2.2.2.1 _ tw_458) (fun _ h9 => h9) rfl dX4_hasPath_97 ?_
              refine lv_iload C.1 C.2.1 dX4_hasPath_100 (lv_at hl 0 rfl) ?_
              refine va_iald (f := A 2) C.1 C.2.1 C.2.2.2.2.2.2.2.1 hP 2 0 (rfl) rfl (vp_in_nI (by omega) (by decide)) dX4_hasPath_102 ?_
              rw [nI_clamp (by omega), show A 2 (36 * w + p9) = kM A w p9 from rfl]
              refine lv_iload_n C.1 C.2.1 dX4_hasPath_103 rfl (lv_at hl 5 rfl) ?_
              refine lv_iconst (v := nI 0) C.1 C.2.1 dX4_hasPath_104 (by decide +kernel) ?_
              refine cm_cS1 3 C (k_X4_homeBy1 l D cI cZ cJ (mw ad cI cZ X (va_up I 29 (nI (j + 1))) (va_up A 30 (plA w (A 30) 0 (L ++ [p9])))) (kM A w p9) s0) tw_572 tw_573 tw_5 tw_574 rfl rfl (by decide +kernel) ⟨Nat.le_of_ble_eq_true rfl, Nat.le_of_ble_eq_true rfl⟩ ⟨Nat.zero_le _, Nat.zero_le _⟩ hP hD hS hl.1 rfl rfl (Nat.le_of_ble_eq_true rfl) dX4_hasPath_105 (fun H locs hP hD hS => ?_)
              refine lv_istore (lv' := [(7, _), (6, _), (5, _), (4, _), (0, _), (1, _), (2, _), (3, _)]) C.1 C.2.1 dX4_hasPath_108 hl (by decide) rfl (fun ls hl => ?_)
              refine lv_iload C.1 C.2.1 dX4_hasPath_110 (lv_at hl 0 rfl) ?_
              refine lv_iload C.1 C.2.1 dX4_hasPath_112 (lv_at hl 3 rfl) ?_
              refine lv_icmp_ne (tgt := 132) C.1 C.2.1 dX4_hasPath_114 (by decide) (fun _ => ?_) (fun h => absurd h (fun q => hb1 ((nI_eq (by omega) (by omega)).mp q).symm))
              refine lv_iload C.1 C.2.1 dX4_hasPath_132 (lv_at hl 0 rfl) ?_
              rw [show hm1 s0 (kM A w p9) = otherS s0 (kM A w p9) b from (if_neg hb1).symm]
              refine lv_istore (lv' := [(4, _), (7, _), (6, _), (5, _), (0, _), (1, _), (2, _), (3, _)]) C.1 C.2.1 dX4_hasPath_134 hl (by decide) rfl (fun ls hl => ?_)
              refine lv_aload_n C.1 C.2.1 dX4_hasPath_136 rfl (lv_at hl 4 rfl) ?_
              refine lv_iload_n C.1 C.2.1 dX4_hasPath_137 rfl (lv_at hl 5 rfl) ?_
              refine lv_iload C.1 C.2.1 dX4_hasPath_138 (lv_at hl 0 rfl) ?_
              refine cm_cV1 (q0 := 0) 2 C (k_X4_empty l D cI cZ cJ ad X (va_up I 29 (nI (j + 1))) (va_up A 30 (plA w (A 30) 0 (L ++ [p9]))) w (otherS s0 (kM A w p9) b) hw0 (by omega)) tw_612 tw_614 ts_20 tw_5 tw_615 rfl rfl (rfl) rfl (by decide +kernel) ⟨Nat.le_of_ble_eq_true rfl, Nat.le_of_ble_eq_true rfl⟩ ⟨Nat.zero_le _, Nat.zero_le _⟩ hP hD hS hl.1 rfl rfl (Nat.le_of_ble_eq_true rfl) dX4_hasPath_140 (fun H locs hP hD hS => ?_)
              rw [show uM (va_up A 30 (plA w (A 30) 0 (L ++ [p9]))) w = uM A w from rfl, hem, optA_some]
              refine lv_istore (lv' := [(8, _), (4, _), (7, _), (6, _), (5, _), (0, _), (1, _), (2, _), (3, _)]) C.1 C.2.1 dX4_hasPath_143 hl (by decide) rfl (fun ls hl => ?_)
              refine lv_iload C.1 C.2.1 dX4_hasPath_145 (lv_at hl 0 rfl) ?_
              refine lv_if_lt (tgt := 173) C.1 C.2.1 dX4_hasPath_147 (by decide) (fun h => absurd h (nI_pos (by omega))) (fun _ => ?_)
              refine lv_aload_n C.1 C.2.1 dX4_hasPath_150 rfl (lv_at hl 5 rfl) ?_
              refine va_get (ci := 4) (C := RX4) (T := TX4) (N := 34) C.1 C.2.1 C.2.2.2.2.2.1 ui_X4 C.2.2.2.2.1 C.2.2.2.2.2.2.2.1 hP 0 (rfl) rfl 30 (by decide) (C.2.2.2.2.2.1 _ tw_486) (fun _ h9 => h9) rfl dX4_hasPath_151 ?_
              refine lv_aload_n C.1 C.2.1 dX4_hasPath_154 rfl (lv_at hl 5 rfl) ?_
              refine va_get (v := .int (nI (j + 1))) (ci := 4) (C := RX4) (T := TX4) (N := 34) C.1 C.2.1 C.2.2.2.2.2.1 ui_X4 C.2.2.2.2.1 C.2.2.2.2.2.2.2.1 hP 0 (rfl) rfl 29 (by decide) (C.2.2.2.2.2.1 _ tw_485) (fun _ h9 => h9) rfl dX4_hasPath_155 ?_
              refine lv_iload C.1 C.2.1 dX4_hasPath_158 (lv_at hl 0 rfl) ?_
              refine va_iast (f := plA w (A 30) 0 (L ++ [p9])) C.1 C.2.1 C.2.2.2.2.2.2.2.1 hP hD hS 21 0 (rfl) rfl (vp_in_nI (by omega) (by decide)) dX4_hasPath_160 (fun H locs hP hD hS => ?_)
              rw [nI_clamp (by omega), e3] at hP hD
              have hP : va_P D vwCl (mw ad cI cZ X (va_up I 29 (nI (j + 1))) (va_up A 30 (plA w (A 30) 0 (L ++ [p9] ++ [e9])))) H := hP
              have hD : va_D (cm_A (mw ad cI cZ X I A)) (mw ad cI cZ X (va_up I 29 (nI (j + 1))) (va_up A 30 (plA w (A 30) 0 (L ++ [p9] ++ [e9])))) := hD
              refine lv_aload_n C.1 C.2.1 dX4_hasPath_161 rfl (lv_at hl 5 rfl) ?_
              refine lv_dup C.1 C.2.1 dX4_hasPath_162 rfl ?_
              refine va_get (v := .int (nI (j + 1))) (ci := 4) (C := RX4) (T := TX4) (N := 34) C.1 C.2.1 C.2.2.2.2.2.1 ui_X4 C.2.2.2.2.1 C.2.2.2.2.2.2.2.1 hP 0 (rfl) rfl 29 (by decide) (C.2.2.2.2.2.1 _ tw_485) (fun _ h9 => h9) rfl dX4_hasPath_163 ?_
              refine lv_iconst (v := nI 1) C.1 C.2.1 dX4_hasPath_166 (by decide +kernel) ?_
              refine lv_iadd C.1 C.2.1 dX4_hasPath_167 ?_
              rw [nI_add]
              refine va_put (ci := 4) (C := RX4) (T := TX4) (N := 34) (ty := .int) C.1 C.2.1 C.2.2.2.2.2.1 ui_X4 tyX4 tyX4_ok nmX4 C.2.2.2.2.1 C.2.2.2.2.2.2.2.1 hP hD hS 0 (rfl) rfl 29 (by decide) (C.2.2.2.2.2.1 _ tw_485) (fun _ h9 => h9) rfl (by decide +kernel) rfl rfl (Nat.le_of_ble_eq_true rfl) dX4_hasPath_168 (fun H locs hP hD hS => ?_)
              have hP : va_P D vwCl (mw ad cI cZ X (va_up I 29 (nI (j + 1 + 1))) (va_up A 30 (plA w (A 30) 0 (L ++ [p9] ++ [e9])))) H := hP
              have hD : va_D (cm_A (mw ad cI cZ X I A)) (mw ad cI cZ X (va_up I 29 (nI (j + 1 + 1))) (va_up A 30 (plA w (A 30) 0 (L ++ [p9] ++ [e9])))) := hD
              refine lv_iconst (v := nI 1) C.1 C.2.1 dX4_hasPath_171 (by decide +kernel) ?_
              exact cm_zret C hP hD hS dX4_hasPath_172 (by decide +kernel) (by simp only [pathS, hnx, hem]; rfl) (by simp only [pathS, hnx, hem, List.length_append, hLj]; rfl)
          | none =>
            by_cases hb1 : b = hm1 s0 (kM A w p9)
            · refine lv_iload C.1 C.2.1 dX4_hasPath_68 (lv_at hl 0 rfl) ?_
              refine lv_if_ge (tgt := 75) C.1 C.2.1 dX4_hasPath_70 (by decide) (fun _ => ?_) (fun h => absurd (nI_pos' (by omega)) h)
              refine lv_aload_n C.1 C.2.1 dX4_hasPath_75 rfl (lv_at hl 3 rfl) ?_
              refine va_get (ci := 4) (C := RX4) (T := TX4) (N := 34) C.1 C.2.1 C.2.2.2.2.2.1 ui_X4 C.2.2.2.2.1 C.2.2.2.2.2.2.2.1 hP 0 (rfl) rfl 30 (by decide) (C.2.2.2.2.2.1 _ tw_486) (fun _ h9 => h9) rfl dX4_hasPath_76 ?_
              refine lv_aload_n C.1 C.2.1 dX4_hasPath_79 rfl (lv_at hl 3 rfl) ?_
              refine va_get (v := .int (nI j)) (ci := 4) (C := RX4) (T := TX4) (N := 34) C.1 C.2.1 C.2.2.2.2.2.1 ui_X4 C.2.2.2.2.1 C.2.2.2.2.2.2.2.1 hP 0 (rfl) rfl 29 (by decide) (C.2.2.2.2.2.1 _ tw_485) (fun _ h9 => h9) rfl dX4_hasPath_80 ?_
              refine lv_iload C.1 C.2.1 dX4_hasPath_83 (lv_at hl 0 rfl) ?_
              refine va_iast (f := plA w (A 30) 0 L) C.1 C.2.1 C.2.2.2.2.2.2.2.1 hP hD hS 21 0 (rfl) rfl (vp_in_nI (by omega) (by decide)) dX4_hasPath_85 (fun H locs hP hD hS => ?_)
              rw [nI_clamp (by omega), e1] at hP hD
              have hP : va_P D vwCl (mw ad cI cZ X (va_up I 29 (nI j)) (va_up A 30 (plA w (A 30) 0 (L ++ [p9])))) H := hP
              have hD : va_D (cm_A (mw ad cI cZ X I A)) (mw ad cI cZ X (va_up I 29 (nI j)) (va_up A 30 (plA w (A 30) 0 (L ++ [p9])))) := hD
              refine lv_aload_n C.1 C.2.1 dX4_hasPath_86 rfl (lv_at hl 3 rfl) ?_
              refine lv_dup C.1 C.2.1 dX4_hasPath_87 rfl ?_
              refine va_get (v := .int (nI j)) (ci := 4) (C := RX4) (T := TX4) (N := 34) C.1 C.2.1 C.2.2.2.2.2.1 ui_X4 C.2.2.2.2.1 C.2.2.2.2.2.2.2.1 hP 0 (rfl) rfl 29 (by decide) (C.2.2.2.2.2.1 _ tw_485) (fun _ h9 => h9) rfl dX4_hasPath_88 ?_
              refine lv_iconst (v := nI 1) C.1 C.2.1 dX4_hasPath_91 (by decide +kernel) ?_
              refine lv_iadd C.1 C.2.1 dX4_hasPath_92 ?_
              rw [nI_add]
              refine va_put (ci := 4) (C := RX4) (T := TX4) (N := 34) (ty := .int) C.1 C.2.1 C.2.2.2.2.2.1 ui_X4 tyX4 tyX4_ok nmX4 C.2.2.2.2.1 C.2.2.2.2.2.2.2.1 hP hD hS 0 (rfl) rfl 29 (by decide) (C.2.2.2.2.2.1 _ tw_485) (fun _ h9 => h9) rfl (by decide +kernel) rfl rfl (Nat.le_of_ble_eq_true rfl) dX4_hasPath_93 (fun H locs hP hD hS => ?_)
              have hP : va_P D vwCl (mw ad cI cZ X (va_up I 29 (nI (j + 1))) (va_up A 30 (plA w (A 30) 0 (L ++ [p9])))) H := hP
              have hD : va_D (cm_A (mw ad cI cZ X I A)) (mw ad cI cZ X (va_up I 29 (nI (j + 1))) (va_up A 30 (plA w (A 30) 0 (L ++ [p9])))) := hD
              refine lv_aload_n C.1 C.2.1 dX4_hasPath_96 rfl (lv_at hl 3 rfl) ?_
              refine va_get (ci := 4) (C := RX4) (T := TX4) (N := 34) C.1 C.2.1 C.2.2.2.2.2.1 ui_X4 C.2.2.2.2.1 C.2.2.2.2.2.2.2.1 hP 0 (rfl) rfl 2 (by decide) (C.2.2.2.2.2.1 _ tw_458) (fun _ h9 => h9) rfl dX4_hasPath_97 ?_
              refine lv_iload C.1 C.2.1 dX4_hasPath_100 (lv_at hl 0 rfl) ?_
              refine va_iald (f := A 2) C.1 C.2.1 C.2.2.2.2.2.2.2.1 hP 2 0 (rfl) rfl (vp_in_nI (by omega) (by decide)) dX4_hasPath_102 ?_
              rw [nI_clamp (by omega), show A 2 (36 * w + p9) = kM A w p9 from rfl]
              refine lv_iload_n C.1 C.2.1 dX4_hasPath_103 rfl (lv_at hl 5 rfl) ?_
              refine lv_iconst (v := nI 0) C.1 C.2.1 dX4_hasPath_104 (by decide +kernel) ?_
              refine cm_cS1 3 C (k_X4_homeBy1 l D cI cZ cJ (mw ad cI cZ X (va_up I 29 (nI (j + 1))) (va_up A 30 (plA w (A 30) 0 (L ++ [p9])))) (kM A w p9) s0) tw_572 tw_573 tw_5 tw_574 rfl rfl (by decide +kernel) ⟨Nat.le_of_ble_eq_true rfl, Nat.le_of_ble_eq_true rfl⟩ ⟨Nat.zero_le _, Nat.zero_le _⟩ hP hD hS hl.1 rfl rfl (Nat.le_of_ble_eq_true rfl) dX4_hasPath_105 (fun H locs hP hD hS => ?_)
              refine lv_istore (lv' := [(7, _), (6, _), (5, _), (4, _), (0, _), (1, _), (2, _), (3, _)]) C.1 C.2.1 dX4_hasPath_108 hl (by decide) rfl (fun ls hl => ?_)
              refine lv_iload C.1 C.2.1 dX4_hasPath_110 (lv_at hl 0 rfl) ?_
              refine lv_iload C.1 C.2.1 dX4_hasPath_112 (lv_at hl 3 rfl) ?_
              refine lv_icmp_ne (tgt := 132) C.1 C.2.1 dX4_hasPath_114 (by decide) (fun h => absurd (by rw [← hb1]) h) (fun _ => ?_)
              refine lv_aload_n C.1 C.2.1 dX4_hasPath_117 rfl (lv_at hl 4 rfl) ?_
              refine va_get (ci := 4) (C := RX4) (T := TX4) (N := 34) C.1 C.2.1 C.2.2.2.2.2.1 ui_X4 C.2.2.2.2.1 C.2.2.2.2.2.2.2.1 hP 0 (rfl) rfl 2 (by decide) (C.2.2.2.2.2.1 _ tw_458) (fun _ h9 => h9) rfl dX4_hasPath_118 ?_
              refine lv_iload C.1 C.2.1 dX4_hasPath_121 (lv_at hl 1 rfl) ?_
              refine va_iald (f := A 2) C.1 C.2.1 C.2.2.2.2.2.2.2.1 hP 2 0 (rfl) rfl (vp_in_nI (by omega) (by decide)) dX4_hasPath_123 ?_
              rw [nI_clamp (by omega), show A 2 (36 * w + p9) = kM A w p9 from rfl]
              refine lv_iload_n C.1 C.2.1 dX4_hasPath_124 rfl (lv_at hl 6 rfl) ?_
              refine lv_iconst (v := nI 1) C.1 C.2.1 dX4_hasPath_125 (by decide +kernel) ?_
              refine cm_cS1 3 C (k_X4_homeBy2 l D cI cZ cJ (mw ad cI cZ X (va_up I 29 (nI (j + 1))) (va_up A 30 (plA w (A 30) 0 (L ++ [p9])))) (kM A w p9) s0) tw_572 tw_573 tw_5 tw_574 rfl rfl (by decide +kernel) ⟨Nat.le_of_ble_eq_true rfl, Nat.le_of_ble_eq_true rfl⟩ ⟨Nat.zero_le _, Nat.zero_le _⟩ hP hD hS hl.1 rfl rfl (Nat.le_of_ble_eq_true rfl) dX4_hasPath_126 (fun H locs hP hD hS => ?_)
              refine lv_goto (tgt := 134) C.1 C.2.1 dX4_hasPath_129 (by decide) ?_
              rw [show hm2 s0 (kM A w p9) = otherS s0 (kM A w p9) b from (if_pos hb1).symm]
              refine lv_istore (lv' := [(4, _), (7, _), (6, _), (5, _), (0, _), (1, _), (2, _), (3, _)]) C.1 C.2.1 dX4_hasPath_134 hl (by decide) rfl (fun ls hl => ?_)
              refine lv_aload_n C.1 C.2.1 dX4_hasPath_136 rfl (lv_at hl 4 rfl) ?_
              refine lv_iload_n C.1 C.2.1 dX4_hasPath_137 rfl (lv_at hl 5 rfl) ?_
              refine lv_iload C.1 C.2.1 dX4_hasPath_138 (lv_at hl 0 rfl) ?_
              refine cm_cV1 (q0 := 0) 2 C (k_X4_empty l D cI cZ cJ ad X (va_up I 29 (nI (j + 1))) (va_up A 30 (plA w (A 30) 0 (L ++ [p9]))) w (otherS s0 (kM A w p9) b) hw0 (by omega)) tw_612 tw_614 ts_20 tw_5 tw_615 rfl rfl (rfl) rfl (by decide +kernel) ⟨Nat.le_of_ble_eq_true rfl, Nat.le_of_ble_eq_true rfl⟩ ⟨Nat.zero_le _, Nat.zero_le _⟩ hP hD hS hl.1 rfl rfl (Nat.le_of_ble_eq_true rfl) dX4_hasPath_140 (fun H locs hP hD hS => ?_)
              rw [show uM (va_up A 30 (plA w (A 30) 0 (L ++ [p9]))) w = uM A w from rfl, hem, optA_none]
              refine lv_istore (lv' := [(8, _), (4, _), (7, _), (6, _), (5, _), (0, _), (1, _), (2, _), (3, _)]) C.1 C.2.1 dX4_hasPath_143 hl (by decide) rfl (fun ls hl => ?_)
              refine lv_iload C.1 C.2.1 dX4_hasPath_145 (lv_at hl 0 rfl) ?_
              refine lv_if_lt (tgt := 173) C.1 C.2.1 dX4_hasPath_147 (by decide) (fun _ => ?_) (fun h => absurd (by decide) h)
              refine lv_iinc (v := nI (j + 1)) (lv' := [(5, _), (8, _), (4, _), (7, _), (6, _), (0, _), (1, _), (2, _), (3, _)]) C.1 C.2.1 dX4_hasPath_173 hl (k := 4) rfl (nI_1 j) (by decide) rfl (fun ls hl => ?_)
              refine lv_goto (tgt := 11) C.1 C.2.1 dX4_hasPath_176 (by decide) ?_
              rw [show pathS (uM A w) (kM A w) s0 (k + 1) j b L = pathS (uM A w) (kM A w) s0 k (j + 1) (otherS s0 (kM A w p9) b) (L ++ [p9]) by simp only [pathS, hnx, hem]]
              exact ih (j + 1) _ _ ⟨by omega, by rw [List.length_append, hLj]; rfl, hor, fun q hq => (List.mem_append.mp hq).elim (hL q) (fun h9 => by rw [List.mem_singleton.mp h9]; omega)⟩ ls H locs (lv_sub hl [0, 2, 5, 6, 7, 8] rfl) hP hD hS
            · refine lv_iload C.1 C.2.1 dX4_hasPath_68 (lv_at hl 0 rfl) ?_
              refine lv_if_ge (tgt := 75) C.1 C.2.1 dX4_hasPath_70 (by decide) (fun _ => ?_) (fun h => absurd (nI_pos' (by omega)) h)
              refine lv_aload_n C.1 C.2.1 dX4_hasPath_75 rfl (lv_at hl 3 rfl) ?_
              refine va_get (ci := 4) (C := RX4) (T := TX4) (N := 34) C.1 C.2.1 C.2.2.2.2.2.1 ui_X4 C.2.2.2.2.1 C.2.2.2.2.2.2.2.1 hP 0 (rfl) rfl 30 (by decide) (C.2.2.2.2.2.1 _ tw_486) (fun _ h9 => h9) rfl dX4_hasPath_76 ?_
              refine lv_aload_n C.1 C.2.1 dX4_hasPath_79 rfl (lv_at hl 3 rfl) ?_
              refine va_get (v := .int (nI j)) (ci := 4) (C := RX4) (T := TX4) (N := 34) C.1 C.2.1 C.2.2.2.2.2.1 ui_X4 C.2.2.2.2.1 C.2.2.2.2.2.2.2.1 hP 0 (rfl) rfl 29 (by decide) (C.2.2.2.2.2.1 _ tw_485) (fun _ h9 => h9) rfl dX4_hasPath_80 ?_
              refine lv_iload C.1 C.2.1 dX4_hasPath_83 (lv_at hl 0 rfl) ?_
              refine va_iast (f := plA w (A 30) 0 L) C.1 C.2.1 C.2.2.2.2.2.2.2.1 hP hD hS 21 0 (rfl) rfl (vp_in_nI (by omega) (by decide)) dX4_hasPath_85 (fun H locs hP hD hS => ?_)
              rw [nI_clamp (by omega), e1] at hP hD
              have hP : va_P D vwCl (mw ad cI cZ X (va_up I 29 (nI j)) (va_up A 30 (plA w (A 30) 0 (L ++ [p9])))) H := hP
              have hD : va_D (cm_A (mw ad cI cZ X I A)) (mw ad cI cZ X (va_up I 29 (nI j)) (va_up A 30 (plA w (A 30) 0 (L ++ [p9])))) := hD
              refine lv_aload_n C.1 C.2.1 dX4_hasPath_86 rfl (lv_at hl 3 rfl) ?_
              refine lv_dup C.1 C.2.1 dX4_hasPath_87 rfl ?_
              refine va_get (v := .int (nI j)) (ci := 4) (C := RX4) (T := TX4) (N := 34) C.1 C.2.1 C.2.2.2.2.2.1 ui_X4 C.2.2.2.2.1 C.2.2.2.2.2.2.2.1 hP 0 (rfl) rfl 29 (by decide) (C.2.2.2.2.2.1 _ tw_485) (fun _ h9 => h9) rfl dX4_hasPath_88 ?_
              refine lv_iconst (v := nI 1) C.1 C.2.1 dX4_hasPath_91 (by decide +kernel) ?_
              refine lv_iadd C.1 C.2.1 dX4_hasPath_92 ?_
              rw [nI_add]
              refine va_put (ci := 4) (C := RX4) (T := TX4) (N := 34) (ty := .int) C.1 C.2.1 C.2.2.2.2.2.1 ui_X4 tyX4 tyX4_ok nmX4 C.2.2.2.2.1 C.2.2.2.2.2.2.2.1 hP hD hS 0 (rfl) rfl 29 (by decide) (C.2.2.2.2.2.1 _ tw_485) (fun _ h9 => h9) rfl (by decide +kernel) rfl rfl (Nat.le_of_ble_eq_true rfl) dX4_hasPath_93 (fun H locs hP hD hS => ?_)
              have hP : va_P D vwCl (mw ad cI cZ X (va_up I 29 (nI (j + 1))) (va_up A 30 (plA w (A 30) 0 (L ++ [p9])))) H := hP
              have hD : va_D (cm_A (mw ad cI cZ X I A)) (mw ad cI cZ X (va_up I 29 (nI (j + 1))) (va_up A 30 (plA w (A 30) 0 (L ++ [p9])))) := hD
              refine lv_aload_n C.1 C.2.1 dX4_hasPath_96 rfl (lv_at hl 3 rfl) ?_
              refine va_get (ci := 4) (C := RX4) (T := TX4) (N := 34) C.1 C.2.1 C.2.2.2.2.2.1 ui_X4 C.2.2.2.2.1 C.2.2.2.2.2.2.2.1 hP 0 (rfl) rfl 2 (by decide) (C.2.2.2.2.2.1 _ tw_458) (fun _ h9 => h9) rfl dX4_hasPath_97 ?_
              refine lv_iload C.1 C.2.1 dX4_hasPath_100 (lv_at hl 0 rfl) ?_
              refine va_iald (f := A 2) C.1 C.2.1 C.2.2.2.2.2.2.2.1 hP 2 0 (rfl) rfl (vp_in_nI (by omega) (by decide)) dX4_hasPath_102 ?_
              rw [nI_clamp (by omega), show A 2 (36 * w + p9) = kM A w p9 from rfl]
              refine lv_iload_n C.1 C.2.1 dX4_hasPath_103 rfl (lv_at hl 5 rfl) ?_
              refine lv_iconst (v := nI 0) C.1 C.2.1 dX4_hasPath_104 (by decide +kernel) ?_
              refine cm_cS1 3 C (k_X4_homeBy1 l D cI cZ cJ (mw ad cI cZ X (va_up I 29 (nI (j + 1))) (va_up A 30 (plA w (A 30) 0 (L ++ [p9])))) (kM A w p9) s0) tw_572 tw_573 tw_5 tw_574 rfl rfl (by decide +kernel) ⟨Nat.le_of_ble_eq_true rfl, Nat.le_of_ble_eq_true rfl⟩ ⟨Nat.zero_le _, Nat.zero_le _⟩ hP hD hS hl.1 rfl rfl (Nat.le_of_ble_eq_true rfl) dX4_hasPath_105 (fun H locs hP hD hS => ?_)
              refine lv_istore (lv' := [(7, _), (6, _), (5, _), (4, _), (0, _), (1, _), (2, _), (3, _)]) C.1 C.2.1 dX4_hasPath_108 hl (by decide) rfl (fun ls hl => ?_)
              refine lv_iload C.1 C.2.1 dX4_hasPath_110 (lv_at hl 0 rfl) ?_
              refine lv_iload C.1 C.2.1 dX4_hasPath_112 (lv_at hl 3 rfl) ?_
              refine lv_icmp_ne (tgt := 132) C.1 C.2.1 dX4_hasPath_114 (by decide) (fun _ => ?_) (fun h => absurd h (fun q => hb1 ((nI_eq (by omega) (by omega)).mp q).symm))
              refine lv_iload C.1 C.2.1 dX4_hasPath_132 (lv_at hl 0 rfl) ?_
              rw [show hm1 s0 (kM A w p9) = otherS s0 (kM A w p9) b from (if_neg hb1).symm]
              refine lv_istore (lv' := [(4, _), (7, _), (6, _), (5, _), (0, _), (1, _), (2, _), (3, _)]) C.1 C.2.1 dX4_hasPath_134 hl (by decide) rfl (fun ls hl => ?_)
              refine lv_aload_n C.1 C.2.1 dX4_hasPath_136 rfl (lv_at hl 4 rfl) ?_
              refine lv_iload_n C.1 C.2.1 dX4_hasPath_137 rfl (lv_at hl 5 rfl) ?_
              refine lv_iload C.1 C.2.1 dX4_hasPath_138 (lv_at hl 0 rfl) ?_
              refine cm_cV1 (q0 := 0) 2 C (k_X4_empty l D cI cZ cJ ad X (va_up I 29 (nI (j + 1))) (va_up A 30 (plA w (A 30) 0 (L ++ [p9]))) w (otherS s0 (kM A w p9) b) hw0 (by omega)) tw_612 tw_614 ts_20 tw_5 tw_615 rfl rfl (rfl) rfl (by decide +kernel) ⟨Nat.le_of_ble_eq_true rfl, Nat.le_of_ble_eq_true rfl⟩ ⟨Nat.zero_le _, Nat.zero_le _⟩ hP hD hS hl.1 rfl rfl (Nat.le_of_ble_eq_true rfl) dX4_hasPath_140 (fun H locs hP hD hS => ?_)
              rw [show uM (va_up A 30 (plA w (A 30) 0 (L ++ [p9]))) w = uM A w from rfl, hem, optA_none]
              refine lv_istore (lv' := [(8, _), (4, _), (7, _), (6, _), (5, _), (0, _), (1, _), (2, _), (3, _)]) C.1 C.2.1 dX4_hasPath_143 hl (by decide) rfl (fun ls hl => ?_)
              refine lv_iload C.1 C.2.1 dX4_hasPath_145 (lv_at hl 0 rfl) ?_
              refine lv_if_lt (tgt := 173) C.1 C.2.1 dX4_hasPath_147 (by decide) (fun _ => ?_) (fun h => absurd (by decide) h)
              refine lv_iinc (v := nI (j + 1)) (lv' := [(5, _), (8, _), (4, _), (7, _), (6, _), (0, _), (1, _), (2, _), (3, _)]) C.1 C.2.1 dX4_hasPath_173 hl (k := 4) rfl (nI_1 j) (by decide) rfl (fun ls hl => ?_)
              refine lv_goto (tgt := 11) C.1 C.2.1 dX4_hasPath_176 (by decide) ?_
              rw [show pathS (uM A w) (kM A w) s0 (k + 1) j b L = pathS (uM A w) (kM A w) s0 k (j + 1) (otherS s0 (kM A w p9) b) (L ++ [p9]) by simp only [pathS, hnx, hem]]
              exact ih (j + 1) _ _ ⟨by omega, by rw [List.length_append, hLj]; rfl, hor, fun q hq => (List.mem_append.mp hq).elim (hL q) (fun h9 => by rw [List.mem_singleton.mp h9]; omega)⟩ ls H locs (lv_sub hl [0, 2, 5, 6, 7, 8] rfl) hP hD hS
      have inner : ∀ (i : Nat), i ≤ 4 → ∀ (ls : Array Slot) (H : Heap) (locs : List Loc), lv_has ls 9 [(7, .int (nI i - nI 1)), (6, .int (optA w (nx L b j i (4 - i)))), (5, .int (nI j)), (4, .int (nI b)), (0, .ref (ad 0)), (1, .int (nI w)), (2, .int s0), (3, .int (nI b0))] → va_P D vwCl (mw ad cI cZ X (va_up I 29 (nI j)) (va_up A 30 (plA w (A 30) 0 L))) H → va_D (cm_A (mw ad cI cZ X I A)) (mw ad cI cZ X (va_up I 29 (nI j)) (va_up A 30 (plA w (A 30) 0 L))) → va_S (cm_A (mw ad cI cZ X I A)) s.heap H locs → W p l e (cm_rm 2 47) s m ([.ref (ad 0), .int (nI w), .int s0, .int (nI b0)] : List Value).toArray below meth c H locs 0 0 (cm_Q below D [.ref (ad 0), .int (nI w), .int s0, .int (nI b0)] s (mw ad cI cZ X I A) (some (.int (bI (pathS (uM A w) (kM A w) s0 (k + 1) j b L).1))) (mw ad cI cZ X (va_up I 29 (nI (pathS (uM A w) (kM A w) s0 (k + 1) j b L).2.length)) (va_up A 30 (plA w (A 30) 0 (pathS (uM A w) (kM A w) s0 (k + 1) j b L).2)))) (F0 m 24 ls []) := by
        intro i
        induction i with
        | zero =>
          intro hi ls H locs hl hP hD hS
          refine lv_iload C.1 C.2.1 dX4_hasPath_24 (lv_at hl 0 rfl) ?_
          refine lv_if_lt (tgt := 68) C.1 C.2.1 dX4_hasPath_26 (by decide) (fun _ => ?_) (fun h => absurd (by decide) h)
          exact hcont ls H locs (lv_sub hl [1, 2, 3, 4, 5, 6, 7] rfl) hP hD hS
        | succ i ih2 =>
          intro hi ls H locs hl hP hD hS
          rw [pk_sub (by omega), Nat.add_sub_cancel] at hl
          have hon := onP_iff w hw0 (A 30) L hL (4 * b + (j + i) % 4) (by omega)
          have hs : nx L b j i (4 - i) = if 4 * b + (j + i) % 4 ∈ L then nx L b j (i + 1) (4 - (i + 1)) else some (4 * b + (j + i) % 4) := by rw [show 4 - i = (4 - (i + 1)) + 1 by omega]; rfl
          have hon9 : anyB (fun i_1 => decide ((va_up A 30 (plA w (A 30) 0 L)) 30 i_1 = nI (36 * w + (4 * b + (j + i) % 4)))) 0 j = decide (4 * b + (j + i) % 4 ∈ L) := by rw [← hon, hLj]; rfl
          by_cases hmem : 4 * b + (j + i) % 4 ∈ L
          · refine lv_iload C.1 C.2.1 dX4_hasPath_24 (lv_at hl 0 rfl) ?_
            refine lv_if_lt (tgt := 68) C.1 C.2.1 dX4_hasPath_26 (by decide) (fun h => absurd h (nI_pos (by omega))) (fun _ => ?_)
            refine lv_iload_n C.1 C.2.1 dX4_hasPath_29 rfl (lv_at hl 5 rfl) ?_
            refine lv_iload C.1 C.2.1 dX4_hasPath_30 (lv_at hl 3 rfl) ?_
            refine lv_iload C.1 C.2.1 dX4_hasPath_32 (lv_at hl 2 rfl) ?_
            refine lv_iload C.1 C.2.1 dX4_hasPath_34 (lv_at hl 0 rfl) ?_
            refine lv_iadd C.1 C.2.1 dX4_hasPath_36 ?_
            rw [nI_add]
            refine lv_iconst (v := nI 4) C.1 C.2.1 dX4_hasPath_37 (by decide +kernel) ?_
            refine lv_irem C.1 C.2.1 dX4_hasPath_38 (by decide) ?_
            rw [pk_rem (by omega) (by decide) (by decide)]
            refine cm_cS1 3 C (k_X4_slotOf l D cI cZ cJ (mw ad cI cZ X (va_up I 29 (nI j)) (va_up A 30 (plA w (A 30) 0 L))) w b ((j + i) % 4)) tw_585 tw_586 tw_5 tw_587 rfl rfl (by decide +kernel) ⟨Nat.le_of_ble_eq_true rfl, Nat.le_of_ble_eq_true rfl⟩ ⟨Nat.zero_le _, Nat.zero_le _⟩ hP hD hS hl.1 rfl rfl (Nat.le_of_ble_eq_true rfl) dX4_hasPath_39 (fun H locs hP hD hS => ?_)
            refine lv_istore (lv' := [(8, _), (7, _), (6, _), (5, _), (4, _), (0, _), (1, _), (2, _), (3, _)]) C.1 C.2.1 dX4_hasPath_42 hl (by decide) rfl (fun ls hl => ?_)
            refine lv_aload_n C.1 C.2.1 dX4_hasPath_44 rfl (lv_at hl 5 rfl) ?_
            refine lv_iload C.1 C.2.1 dX4_hasPath_45 (lv_at hl 0 rfl) ?_
            refine cm_cV1 (q0 := 0) 1 C (k_X4_isOnPath l D cI cZ cJ ad X (va_up I 29 (nI j)) (va_up A 30 (plA w (A 30) 0 L)) j (by omega) rfl (nI (36 * w + (4 * b + (j + i) % 4)))) tw_620 tw_622 ts_22 tw_5 tw_623 rfl rfl (rfl) rfl (by decide +kernel) ⟨Nat.le_of_ble_eq_true rfl, Nat.le_of_ble_eq_true rfl⟩ ⟨Nat.zero_le _, Nat.zero_le _⟩ hP hD hS hl.1 rfl rfl (Nat.le_of_ble_eq_true rfl) dX4_hasPath_47 (fun H locs hP hD hS => ?_)
            rw [hon9]
            refine lv_if_eq (tgt := 58) C.1 C.2.1 dX4_hasPath_50 (by decide) (fun h => absurd h (by rw [decide_eq_true hmem]; decide)) (fun _ => ?_)
            refine lv_iload C.1 C.2.1 dX4_hasPath_53 (lv_at hl 2 rfl) ?_
            refine lv_goto (tgt := 60) C.1 C.2.1 dX4_hasPath_55 (by decide) ?_
            refine lv_istore (lv' := [(6, _), (8, _), (7, _), (5, _), (4, _), (0, _), (1, _), (2, _), (3, _)]) C.1 C.2.1 dX4_hasPath_60 hl (by decide) rfl (fun ls hl => ?_)
            refine lv_iinc (v := (nI i - nI 1)) (lv' := [(7, _), (6, _), (8, _), (5, _), (4, _), (0, _), (1, _), (2, _), (3, _)]) C.1 C.2.1 dX4_hasPath_62 hl (k := 2) rfl (m1_sub (nI i)) (by decide) rfl (fun ls hl => ?_)
            refine lv_goto (tgt := 24) C.1 C.2.1 dX4_hasPath_65 (by decide) ?_
            exact ih2 (by omega) ls H locs (by rw [hs, if_pos hmem]; exact lv_sub hl [0, 1, 3, 4, 5, 6, 7, 8] rfl) hP hD hS
          · refine lv_iload C.1 C.2.1 dX4_hasPath_24 (lv_at hl 0 rfl) ?_
            refine lv_if_lt (tgt := 68) C.1 C.2.1 dX4_hasPath_26 (by decide) (fun h => absurd h (nI_pos (by omega))) (fun _ => ?_)
            refine lv_iload_n C.1 C.2.1 dX4_hasPath_29 rfl (lv_at hl 5 rfl) ?_
            refine lv_iload C.1 C.2.1 dX4_hasPath_30 (lv_at hl 3 rfl) ?_
            refine lv_iload C.1 C.2.1 dX4_hasPath_32 (lv_at hl 2 rfl) ?_
            refine lv_iload C.1 C.2.1 dX4_hasPath_34 (lv_at hl 0 rfl) ?_
            refine lv_iadd C.1 C.2.1 dX4_hasPath_36 ?_
            rw [nI_add]
            refine lv_iconst (v := nI 4) C.1 C.2.1 dX4_hasPath_37 (by decide +kernel) ?_
            refine lv_irem C.1 C.2.1 dX4_hasPath_38 (by decide) ?_
            rw [pk_rem (by omega) (by decide) (by decide)]
            refine cm_cS1 3 C (k_X4_slotOf l D cI cZ cJ (mw ad cI cZ X (va_up I 29 (nI j)) (va_up A 30 (plA w (A 30) 0 L))) w b ((j + i) % 4)) tw_585 tw_586 tw_5 tw_587 rfl rfl (by decide +kernel) ⟨Nat.le_of_ble_eq_true rfl, Nat.le_of_ble_eq_true rfl⟩ ⟨Nat.zero_le _, Nat.zero_le _⟩ hP hD hS hl.1 rfl rfl (Nat.le_of_ble_eq_true rfl) dX4_hasPath_39 (fun H locs hP hD hS => ?_)
            refine lv_istore (lv' := [(8, _), (7, _), (6, _), (5, _), (4, _), (0, _), (1, _), (2, _), (3, _)]) C.1 C.2.1 dX4_hasPath_42 hl (by decide) rfl (fun ls hl => ?_)
            refine lv_aload_n C.1 C.2.1 dX4_hasPath_44 rfl (lv_at hl 5 rfl) ?_
            refine lv_iload C.1 C.2.1 dX4_hasPath_45 (lv_at hl 0 rfl) ?_
            refine cm_cV1 (q0 := 0) 1 C (k_X4_isOnPath l D cI cZ cJ ad X (va_up I 29 (nI j)) (va_up A 30 (plA w (A 30) 0 L)) j (by omega) rfl (nI (36 * w + (4 * b + (j + i) % 4)))) tw_620 tw_622 ts_22 tw_5 tw_623 rfl rfl (rfl) rfl (by decide +kernel) ⟨Nat.le_of_ble_eq_true rfl, Nat.le_of_ble_eq_true rfl⟩ ⟨Nat.zero_le _, Nat.zero_le _⟩ hP hD hS hl.1 rfl rfl (Nat.le_of_ble_eq_true rfl) dX4_hasPath_47 (fun H locs hP hD hS => ?_)
            rw [hon9]
            refine lv_if_eq (tgt := 58) C.1 C.2.1 dX4_hasPath_50 (by decide) (fun _ => ?_) (fun h => absurd (by rw [decide_eq_false hmem]; rfl) h)
            refine lv_iload C.1 C.2.1 dX4_hasPath_58 (lv_at hl 0 rfl) ?_
            refine lv_istore (lv' := [(6, _), (8, _), (7, _), (5, _), (4, _), (0, _), (1, _), (2, _), (3, _)]) C.1 C.2.1 dX4_hasPath_60 hl (by decide) rfl (fun ls hl => ?_)
            refine lv_iinc (v := (nI i - nI 1)) (lv' := [(7, _), (6, _), (8, _), (5, _), (4, _), (0, _), (1, _), (2, _), (3, _)]) C.1 C.2.1 dX4_hasPath_62 hl (k := 2) rfl (m1_sub (nI i)) (by decide) rfl (fun ls hl => ?_)
            refine lv_goto (tgt := 24) C.1 C.2.1 dX4_hasPath_65 (by decide) ?_
            exact ih2 (by omega) ls H locs (by rw [hs, if_neg hmem]; exact lv_sub hl [0, 1, 3, 4, 5, 6, 7, 8] rfl) hP hD hS
      refine lv_iload C.1 C.2.1 dX4_hasPath_11 (lv_at hl 0 rfl) ?_
      refine lv_bipush (v := nI 6) C.1 C.2.1 dX4_hasPath_13 (by decide +kernel) ?_
      refine lv_icmp_ge (tgt := 179) C.1 C.2.1 dX4_hasPath_15 (by decide) (fun h => absurd h (nI_ge (by omega) (by decide))) (fun _ => ?_)
      refine lv_iconst (v := (-1)) C.1 C.2.1 dX4_hasPath_18 (by decide +kernel) ?_
      refine lv_istore (lv' := [(6, _), (5, _), (4, _), (0, _), (1, _), (2, _), (3, _)]) C.1 C.2.1 dX4_hasPath_19 hl (by decide) rfl (fun ls hl => ?_)
      refine lv_iconst (v := nI 3) C.1 C.2.1 dX4_hasPath_21 (by decide +kernel) ?_
      refine lv_istore (lv' := [(7, _), (6, _), (5, _), (4, _), (0, _), (1, _), (2, _), (3, _)]) C.1 C.2.1 dX4_hasPath_22 hl (by decide) rfl (fun ls hl => ?_)
      exact inner 4 (Nat.le_refl 4) ls H locs hl hP hD hS
  exact loop 6 0 b0 [] ⟨rfl, rfl, hb0, fun q hq => by cases hq⟩ ls H locs hl hP hD hS
end
