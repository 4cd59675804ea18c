section
-- ===== PART A: goes FIRST, ahead of the names: the tables' words, and 'selects' of the private methods out of them =====
/-- a private method of a class that the tables say can be made, by its rows of tables_1 -/
def lw_okq (q : MethodName × Nat) : Prop := (q.1.cls ≠ "java/lang/invoke/MethodHandle" ∧ q.1.cls ≠ "java/lang/invoke/VarHandle") ∧ Cond.instantiable q.1.cls q.2 ∈ tables_1 ∧ Cond.privateMethod q.1 ∈ tables_1 ∧ Cond.instanceMethod q.1 ∈ tables_1
theorem lw_p0 : lw_okq (⟨"MachineLoop", "jobOrNull", "(I)LMachineLoop$Job;"⟩, 4) := ⟨⟨by decide +kernel, by decide +kernel⟩, List.mem_of_getElem? (i := 15) (by decide +kernel), List.mem_of_getElem? (i := 275) (by decide +kernel), List.mem_of_getElem? (i := 276) (by decide +kernel)⟩
theorem lw_p1 : lw_okq (⟨"MachineLoop$Machine", "begin", "(LMachineLoop$Job;)V"⟩, 10) := ⟨⟨by decide +kernel, by decide +kernel⟩, List.mem_of_getElem? (i := 25) (by decide +kernel), List.mem_of_getElem? (i := 291) (by decide +kernel), List.mem_of_getElem? (i := 292) (by decide +kernel)⟩
theorem lw_p2 : lw_okq (⟨"MachineLoop$FileTree", "handleOrNull", "(I)LMachineLoop$Handle;"⟩, 3) := ⟨⟨by decide +kernel, by decide +kernel⟩, List.mem_of_getElem? (i := 60) (by decide +kernel), List.mem_of_getElem? (i := 311) (by decide +kernel), List.mem_of_getElem? (i := 312) (by decide +kernel)⟩
theorem lw_p3 : lw_okq (⟨"MachineLoop$Plan", "findDoneSigns", "(LMachineLoop$Job;)V"⟩, 4) := ⟨⟨by decide +kernel, by decide +kernel⟩, List.mem_of_getElem? (i := 158) (by decide +kernel), List.mem_of_getElem? (i := 326) (by decide +kernel), List.mem_of_getElem? (i := 327) (by decide +kernel)⟩
theorem lw_p4 : lw_okq (⟨"MachineLoop$Plan", "findMates", "(LMachineLoop$Job;)V"⟩, 4) := ⟨⟨by decide +kernel, by decide +kernel⟩, List.mem_of_getElem? (i := 158) (by decide +kernel), List.mem_of_getElem? (i := 334) (by decide +kernel), List.mem_of_getElem? (i := 335) (by decide +kernel)⟩
theorem lw_p5 : lw_okq (⟨"MachineLoop$Machine", "doSign", "(LMachineLoop$Job;II)I"⟩, 10) := ⟨⟨by decide +kernel, by decide +kernel⟩, List.mem_of_getElem? (i := 25) (by decide +kernel), List.mem_of_getElem? (i := 347) (by decide +kernel), List.mem_of_getElem? (i := 348) (by decide +kernel)⟩
theorem lw_p6 : lw_okq (⟨"MachineLoop$Machine", "enterLoop", "(II)I"⟩, 10) := ⟨⟨by decide +kernel, by decide +kernel⟩, List.mem_of_getElem? (i := 25) (by decide +kernel), List.mem_of_getElem? (i := 366) (by decide +kernel), List.mem_of_getElem? (i := 367) (by decide +kernel)⟩
theorem lw_p7 : lw_okq (⟨"MachineLoop$Machine", "comeToLoopEnd", "(I)I"⟩, 10) := ⟨⟨by decide +kernel, by decide +kernel⟩, List.mem_of_getElem? (i := 25) (by decide +kernel), List.mem_of_getElem? (i := 374) (by decide +kernel), List.mem_of_getElem? (i := 375) (by decide +kernel)⟩
theorem lw_p8 : lw_okq (⟨"MachineLoop$Machine", "showPage", "(LMachineLoop$Job;)I"⟩, 10) := ⟨⟨by decide +kernel, by decide +kernel⟩, List.mem_of_getElem? (i := 25) (by decide +kernel), List.mem_of_getElem? (i := 378) (by decide +kernel), List.mem_of_getElem? (i := 379) (by decide +kernel)⟩
theorem lw_p9 : lw_okq (⟨"MachineLoop$Machine", "request", "(II)I"⟩, 10) := ⟨⟨by decide +kernel, by decide +kernel⟩, List.mem_of_getElem? (i := 25) (by decide +kernel), List.mem_of_getElem? (i := 390) (by decide +kernel), List.mem_of_getElem? (i := 391) (by decide +kernel)⟩
theorem lw_p10 : lw_okq (⟨"MachineLoop$Machine", "layUnlessRefused", "(II)I"⟩, 10) := ⟨⟨by decide +kernel, by decide +kernel⟩, List.mem_of_getElem? (i := 25) (by decide +kernel), List.mem_of_getElem? (i := 413) (by decide +kernel), List.mem_of_getElem? (i := 414) (by decide +kernel)⟩
theorem lw_p11 : lw_okq (⟨"MachineLoop$Machine", "doFileSign", "(III)I"⟩, 10) := ⟨⟨by decide +kernel, by decide +kernel⟩, List.mem_of_getElem? (i := 25) (by decide +kernel), List.mem_of_getElem? (i := 424) (by decide +kernel), List.mem_of_getElem? (i := 425) (by decide +kernel)⟩
theorem lw_p12 : lw_okq (⟨"MachineLoop$FileTree", "storeOrNull", "(I)LMachineLoop$Store;"⟩, 3) := ⟨⟨by decide +kernel, by decide +kernel⟩, List.mem_of_getElem? (i := 60) (by decide +kernel), List.mem_of_getElem? (i := 432) (by decide +kernel), List.mem_of_getElem? (i := 433) (by decide +kernel)⟩
theorem lw_p13 : lw_okq (⟨"MachineLoop$FileTree", "isHeldAgainst", "(LMachineLoop$Store;I)Z"⟩, 3) := ⟨⟨by decide +kernel, by decide +kernel⟩, List.mem_of_getElem? (i := 60) (by decide +kernel), List.mem_of_getElem? (i := 436) (by decide +kernel), List.mem_of_getElem? (i := 437) (by decide +kernel)⟩
theorem lw_p14 : lw_okq (⟨"MachineLoop$FileTree", "openOrNull", "(I)LMachineLoop$Handle;"⟩, 3) := ⟨⟨by decide +kernel, by decide +kernel⟩, List.mem_of_getElem? (i := 60) (by decide +kernel), List.mem_of_getElem? (i := 440) (by decide +kernel), List.mem_of_getElem? (i := 441) (by decide +kernel)⟩
theorem lw_p15 : lw_okq (⟨"MachineLoop$FileTree", "freeHandle", "()I"⟩, 3) := ⟨⟨by decide +kernel, by decide +kernel⟩, List.mem_of_getElem? (i := 60) (by decide +kernel), List.mem_of_getElem? (i := 444) (by decide +kernel), List.mem_of_getElem? (i := 445) (by decide +kernel)⟩
def lw_privs_1 : List (MethodName × Nat) := [(⟨"MachineLoop", "jobOrNull", "(I)LMachineLoop$Job;"⟩, 4), (⟨"MachineLoop$Machine", "begin", "(LMachineLoop$Job;)V"⟩, 10), (⟨"MachineLoop$FileTree", "handleOrNull", "(I)LMachineLoop$Handle;"⟩, 3), (⟨"MachineLoop$Plan", "findDoneSigns", "(LMachineLoop$Job;)V"⟩, 4), (⟨"MachineLoop$Plan", "findMates", "(LMachineLoop$Job;)V"⟩, 4), (⟨"MachineLoop$Machine", "doSign", "(LMachineLoop$Job;II)I"⟩, 10), (⟨"MachineLoop$Machine", "enterLoop", "(II)I"⟩, 10), (⟨"MachineLoop$Machine", "comeToLoopEnd", "(I)I"⟩, 10), (⟨"MachineLoop$Machine", "showPage", "(LMachineLoop$Job;)I"⟩, 10), (⟨"MachineLoop$Machine", "request", "(II)I"⟩, 10), (⟨"MachineLoop$Machine", "layUnlessRefused", "(II)I"⟩, 10), (⟨"MachineLoop$Machine", "doFileSign", "(III)I"⟩, 10), (⟨"MachineLoop$FileTree", "storeOrNull", "(I)LMachineLoop$Store;"⟩, 3), (⟨"MachineLoop$FileTree", "isHeldAgainst", "(LMachineLoop$Store;I)Z"⟩, 3), (⟨"MachineLoop$FileTree", "openOrNull", "(I)LMachineLoop$Handle;"⟩, 3), (⟨"MachineLoop$FileTree", "freeHandle", "()I"⟩, 3)]
theorem lw_r1 : ∀ q ∈ lw_privs_1, lw_okq q := List.forall_mem_cons.mpr ⟨lw_p0, List.forall_mem_cons.mpr ⟨lw_p1, List.forall_mem_cons.mpr ⟨lw_p2, List.forall_mem_cons.mpr ⟨lw_p3, List.forall_mem_cons.mpr ⟨lw_p4, List.forall_mem_cons.mpr ⟨lw_p5, List.forall_mem_cons.mpr ⟨lw_p6, List.forall_mem_cons.mpr ⟨lw_p7, List.forall_mem_cons.mpr ⟨lw_p8, List.forall_mem_cons.mpr ⟨lw_p9, List.forall_mem_cons.mpr ⟨lw_p10, List.forall_mem_cons.mpr ⟨lw_p11, List.forall_mem_cons.mpr ⟨lw_p12, List.forall_mem_cons.mpr ⟨lw_p13, List.forall_mem_cons.mpr ⟨lw_p14, List.forall_mem_cons.mpr ⟨lw_p15, fun _ h => absurd h List.not_mem_nil⟩⟩⟩⟩⟩⟩⟩⟩⟩⟩⟩⟩⟩⟩⟩⟩
theorem lw_p16 : lw_okq (⟨"MachineLoop$Machine", "layByte", "(I)I"⟩, 10) := ⟨⟨by decide +kernel, by decide +kernel⟩, List.mem_of_getElem? (i := 25) (by decide +kernel), List.mem_of_getElem? (i := 501) (by decide +kernel), List.mem_of_getElem? (i := 502) (by decide +kernel)⟩
theorem lw_p17 : lw_okq (⟨"MachineLoop$Machine", "doStackSign", "(III)I"⟩, 10) := ⟨⟨by decide +kernel, by decide +kernel⟩, List.mem_of_getElem? (i := 25) (by decide +kernel), List.mem_of_getElem? (i := 505) (by decide +kernel), List.mem_of_getElem? (i := 506) (by decide +kernel)⟩
theorem lw_p18 : lw_okq (⟨"MachineLoop$Machine", "finish", "()V"⟩, 10) := ⟨⟨by decide +kernel, by decide +kernel⟩, List.mem_of_getElem? (i := 25) (by decide +kernel), List.mem_of_getElem? (i := 518) (by decide +kernel), List.mem_of_getElem? (i := 519) (by decide +kernel)⟩
theorem lw_p19 : lw_okq (⟨"MachineLoopModel", "noJob", "(I)Z"⟩, 37) := ⟨⟨by decide +kernel, by decide +kernel⟩, List.mem_of_getElem? (i := 614) (by decide +kernel), List.mem_of_getElem? (i := 742) (by decide +kernel), List.mem_of_getElem? (i := 743) (by decide +kernel)⟩
theorem lw_p20 : lw_okq (⟨"MachineLoopModel", "opened", "(II)I"⟩, 37) := ⟨⟨by decide +kernel, by decide +kernel⟩, List.mem_of_getElem? (i := 614) (by decide +kernel), List.mem_of_getElem? (i := 776) (by decide +kernel), List.mem_of_getElem? (i := 777) (by decide +kernel)⟩
theorem lw_p21 : lw_okq (⟨"MachineLoopModel", "written", "(II)I"⟩, 37) := ⟨⟨by decide +kernel, by decide +kernel⟩, List.mem_of_getElem? (i := 614) (by decide +kernel), List.mem_of_getElem? (i := 784) (by decide +kernel), List.mem_of_getElem? (i := 785) (by decide +kernel)⟩
theorem lw_p22 : lw_okq (⟨"MachineLoopModel", "isOpen", "(I)Z"⟩, 37) := ⟨⟨by decide +kernel, by decide +kernel⟩, List.mem_of_getElem? (i := 614) (by decide +kernel), List.mem_of_getElem? (i := 788) (by decide +kernel), List.mem_of_getElem? (i := 789) (by decide +kernel)⟩
theorem lw_p23 : lw_okq (⟨"MachineLoopModel", "taken", "(I)I"⟩, 37) := ⟨⟨by decide +kernel, by decide +kernel⟩, List.mem_of_getElem? (i := 614) (by decide +kernel), List.mem_of_getElem? (i := 799) (by decide +kernel), List.mem_of_getElem? (i := 800) (by decide +kernel)⟩
theorem lw_p24 : lw_okq (⟨"MachineLoopModel", "filtered", "(II)I"⟩, 37) := ⟨⟨by decide +kernel, by decide +kernel⟩, List.mem_of_getElem? (i := 614) (by decide +kernel), List.mem_of_getElem? (i := 807) (by decide +kernel), List.mem_of_getElem? (i := 808) (by decide +kernel)⟩
theorem lw_p25 : lw_okq (⟨"MachineLoopModel", "runJob", "()V"⟩, 37) := ⟨⟨by decide +kernel, by decide +kernel⟩, List.mem_of_getElem? (i := 614) (by decide +kernel), List.mem_of_getElem? (i := 831) (by decide +kernel), List.mem_of_getElem? (i := 832) (by decide +kernel)⟩
theorem lw_p26 : lw_okq (⟨"MachineLoopModel", "sign", "(I)I"⟩, 37) := ⟨⟨by decide +kernel, by decide +kernel⟩, List.mem_of_getElem? (i := 614) (by decide +kernel), List.mem_of_getElem? (i := 835) (by decide +kernel), List.mem_of_getElem? (i := 836) (by decide +kernel)⟩
theorem lw_p27 : lw_okq (⟨"MachineLoopModel", "behindRemark", "(I)I"⟩, 37) := ⟨⟨by decide +kernel, by decide +kernel⟩, List.mem_of_getElem? (i := 614) (by decide +kernel), List.mem_of_getElem? (i := 839) (by decide +kernel), List.mem_of_getElem? (i := 840) (by decide +kernel)⟩
theorem lw_p28 : lw_okq (⟨"MachineLoopModel", "act", "(I)V"⟩, 37) := ⟨⟨by decide +kernel, by decide +kernel⟩, List.mem_of_getElem? (i := 614) (by decide +kernel), List.mem_of_getElem? (i := 843) (by decide +kernel), List.mem_of_getElem? (i := 844) (by decide +kernel)⟩
theorem lw_p29 : lw_okq (⟨"MachineLoopModel", "lay", "(I)V"⟩, 37) := ⟨⟨by decide +kernel, by decide +kernel⟩, List.mem_of_getElem? (i := 614) (by decide +kernel), List.mem_of_getElem? (i := 850) (by decide +kernel), List.mem_of_getElem? (i := 851) (by decide +kernel)⟩
theorem lw_p30 : lw_okq (⟨"MachineLoopModel", "show", "()V"⟩, 37) := ⟨⟨by decide +kernel, by decide +kernel⟩, List.mem_of_getElem? (i := 614) (by decide +kernel), List.mem_of_getElem? (i := 854) (by decide +kernel), List.mem_of_getElem? (i := 855) (by decide +kernel)⟩
theorem lw_p31 : lw_okq (⟨"MachineLoopModel", "set", "(II)V"⟩, 37) := ⟨⟨by decide +kernel, by decide +kernel⟩, List.mem_of_getElem? (i := 614) (by decide +kernel), List.mem_of_getElem? (i := 858) (by decide +kernel), List.mem_of_getElem? (i := 859) (by decide +kernel)⟩
def lw_privs_2 : List (MethodName × Nat) := [(⟨"MachineLoop$Machine", "layByte", "(I)I"⟩, 10), (⟨"MachineLoop$Machine", "doStackSign", "(III)I"⟩, 10), (⟨"MachineLoop$Machine", "finish", "()V"⟩, 10), (⟨"MachineLoopModel", "noJob", "(I)Z"⟩, 37), (⟨"MachineLoopModel", "opened", "(II)I"⟩, 37), (⟨"MachineLoopModel", "written", "(II)I"⟩, 37), (⟨"MachineLoopModel", "isOpen", "(I)Z"⟩, 37), (⟨"MachineLoopModel", "taken", "(I)I"⟩, 37), (⟨"MachineLoopModel", "filtered", "(II)I"⟩, 37), (⟨"MachineLoopModel", "runJob", "()V"⟩, 37), (⟨"MachineLoopModel", "sign", "(I)I"⟩, 37), (⟨"MachineLoopModel", "behindRemark", "(I)I"⟩, 37), (⟨"MachineLoopModel", "act", "(I)V"⟩, 37), (⟨"MachineLoopModel", "lay", "(I)V"⟩, 37), (⟨"MachineLoopModel", "show", "()V"⟩, 37), (⟨"MachineLoopModel", "set", "(II)V"⟩, 37)]
theorem lw_r2 : ∀ q ∈ lw_privs_2, lw_okq q := List.forall_mem_cons.mpr ⟨lw_p16, List.forall_mem_cons.mpr ⟨lw_p17, List.forall_mem_cons.mpr ⟨lw_p18, List.forall_mem_cons.mpr ⟨lw_p19, List.forall_mem_cons.mpr ⟨lw_p20, List.forall_mem_cons.mpr ⟨lw_p21, List.forall_mem_cons.mpr ⟨lw_p22, List.forall_mem_cons.mpr ⟨lw_p23, List.forall_mem_cons.mpr ⟨lw_p24, List.forall_mem_cons.mpr ⟨lw_p25, List.forall_mem_cons.mpr ⟨lw_p26, List.forall_mem_cons.mpr ⟨lw_p27, List.forall_mem_cons.mpr ⟨lw_p28, List.forall_mem_cons.mpr ⟨lw_p29, List.forall_mem_cons.mpr ⟨lw_p30, List.forall_mem_cons.mpr ⟨lw_p31, fun _ h => absurd h List.not_mem_nil⟩⟩⟩⟩⟩⟩⟩⟩⟩⟩⟩⟩⟩⟩⟩⟩
theorem lw_p32 : lw_okq (⟨"MachineLoopModel", "readResource", "(II)V"⟩, 37) := ⟨⟨by decide +kernel, by decide +kernel⟩, List.mem_of_getElem? (i := 614) (by decide +kernel), List.mem_of_getElem? (i := 863) (by decide +kernel), List.mem_of_getElem? (i := 864) (by decide +kernel)⟩
theorem lw_p33 : lw_okq (⟨"MachineLoopModel", "openFile", "(II)V"⟩, 37) := ⟨⟨by decide +kernel, by decide +kernel⟩, List.mem_of_getElem? (i := 614) (by decide +kernel), List.mem_of_getElem? (i := 869) (by decide +kernel), List.mem_of_getElem? (i := 870) (by decide +kernel)⟩
theorem lw_p34 : lw_okq (⟨"MachineLoopModel", "closeFile", "(I)V"⟩, 37) := ⟨⟨by decide +kernel, by decide +kernel⟩, List.mem_of_getElem? (i := 614) (by decide +kernel), List.mem_of_getElem? (i := 873) (by decide +kernel), List.mem_of_getElem? (i := 874) (by decide +kernel)⟩
theorem lw_p35 : lw_okq (⟨"MachineLoopModel", "readFile", "(I)V"⟩, 37) := ⟨⟨by decide +kernel, by decide +kernel⟩, List.mem_of_getElem? (i := 614) (by decide +kernel), List.mem_of_getElem? (i := 877) (by decide +kernel), List.mem_of_getElem? (i := 878) (by decide +kernel)⟩
theorem lw_p36 : lw_okq (⟨"MachineLoopModel", "beginLoop", "(I)V"⟩, 37) := ⟨⟨by decide +kernel, by decide +kernel⟩, List.mem_of_getElem? (i := 614) (by decide +kernel), List.mem_of_getElem? (i := 881) (by decide +kernel), List.mem_of_getElem? (i := 882) (by decide +kernel)⟩
theorem lw_p37 : lw_okq (⟨"MachineLoopModel", "endOf", "(I)I"⟩, 37) := ⟨⟨by decide +kernel, by decide +kernel⟩, List.mem_of_getElem? (i := 614) (by decide +kernel), List.mem_of_getElem? (i := 885) (by decide +kernel), List.mem_of_getElem? (i := 886) (by decide +kernel)⟩
theorem lw_p38 : lw_okq (⟨"MachineLoopModel", "endLoop", "()V"⟩, 37) := ⟨⟨by decide +kernel, by decide +kernel⟩, List.mem_of_getElem? (i := 614) (by decide +kernel), List.mem_of_getElem? (i := 889) (by decide +kernel), List.mem_of_getElem? (i := 890) (by decide +kernel)⟩
def lw_privs_3 : List (MethodName × Nat) := [(⟨"MachineLoopModel", "readResource", "(II)V"⟩, 37), (⟨"MachineLoopModel", "openFile", "(II)V"⟩, 37), (⟨"MachineLoopModel", "closeFile", "(I)V"⟩, 37), (⟨"MachineLoopModel", "readFile", "(I)V"⟩, 37), (⟨"MachineLoopModel", "beginLoop", "(I)V"⟩, 37), (⟨"MachineLoopModel", "endOf", "(I)I"⟩, 37), (⟨"MachineLoopModel", "endLoop", "()V"⟩, 37)]
theorem lw_r3 : ∀ q ∈ lw_privs_3, lw_okq q := List.forall_mem_cons.mpr ⟨lw_p32, List.forall_mem_cons.mpr ⟨lw_p33, List.forall_mem_cons.mpr ⟨lw_p34, List.forall_mem_cons.mpr ⟨lw_p35, List.forall_mem_cons.mpr ⟨lw_p36, List.forall_mem_cons.mpr ⟨lw_p37, List.forall_mem_cons.mpr ⟨lw_p38, fun _ h => absurd h List.not_mem_nil⟩⟩⟩⟩⟩⟩⟩
def lw_privs : List (MethodName × Nat) := lw_privs_1 ++ (lw_privs_2 ++ (lw_privs_3))
def lw_tbl : List Cond := k2_sels lw_privs ++ tables_1
theorem lw_privs_ok : ∀ q ∈ lw_privs, lw_okq q := by
  show ∀ q ∈ lw_privs_1 ++ (lw_privs_2 ++ (lw_privs_3)), lw_okq q
  exact List.forall_mem_append.mpr ⟨lw_r1, List.forall_mem_append.mpr ⟨lw_r2, lw_r3⟩⟩
def lw_good : List Cond := lw_tbl.filter goodWord
end
section
def R_ML : String := "MachineLoop"
def R_Mo : String := "MachineLoopModel"
def R_Device : String := "MachineLoop$Device"
def R_FileTree : String := "MachineLoop$FileTree"
def R_Handle : String := "MachineLoop$Handle"
def R_Job : String := "MachineLoop$Job"
def R_Machine : String := "MachineLoop$Machine"
def R_Numbers : String := "MachineLoop$Numbers"
def R_Plan : String := "MachineLoop$Plan"
def R_Resources : String := "MachineLoop$Resources"
def R_Store : String := "MachineLoop$Store"
def R_Law : String := "MachineLoopLaw"
def F_ML : u_T := fun k => match k with
  | 0 => ("MachineLoop", "jobs", "[LMachineLoop$Job;", true)
  | 1 => ("MachineLoop", "machine", "LMachineLoop$Machine;", true)
  | 2 => ("MachineLoop", "jobCount", "I", false)
  | _ => ("MachineLoop", "startsFail", "Z", false)
def t_ML : Nat → FieldType := fun k => match k with
  | 0 => (.array (.object "MachineLoop$Job"))
  | 1 => (.object "MachineLoop$Machine")
  | 2 => .int
  | _ => .boolean
def F_Machine : u_T := fun k => match k with
  | 0 => ("MachineLoop$Machine", "device", "LMachineLoop$Device;", true)
  | 1 => ("MachineLoop$Machine", "resources", "LMachineLoop$Resources;", true)
  | 2 => ("MachineLoop$Machine", "files", "LMachineLoop$FileTree;", true)
  | 3 => ("MachineLoop$Machine", "stepLimit", "I", true)
  | 4 => ("MachineLoop$Machine", "stack", "LMachineLoop$Numbers;", true)
  | 5 => ("MachineLoop$Machine", "plan", "LMachineLoop$Plan;", true)
  | 6 => ("MachineLoop$Machine", "timesLeft", "[I", true)
  | 7 => ("MachineLoop$Machine", "loopCount", "I", false)
  | 8 => ("MachineLoop$Machine", "marks", "I", false)
  | _ => ("MachineLoop$Machine", "nextPlace", "I", false)
def t_Machine : Nat → FieldType := fun k => match k with
  | 0 => (.object "MachineLoop$Device")
  | 1 => (.object "MachineLoop$Resources")
  | 2 => (.object "MachineLoop$FileTree")
  | 3 => .int
  | 4 => (.object "MachineLoop$Numbers")
  | 5 => (.object "MachineLoop$Plan")
  | 6 => (.array .int)
  | 7 => .int
  | 8 => .int
  | _ => .int
def F_Device : u_T := fun k => match k with
  | 0 => ("MachineLoop$Device", "settings", "[I", true)
  | _ => ("MachineLoop$Device", "kept", "[I", true)
def t_Device : Nat → FieldType := fun k => match k with
  | 0 => (.array .int)
  | _ => (.array .int)
def F_Resources : u_T := fun k => match k with
  | 0 => ("MachineLoop$Resources", "values", "[I", true)
  | _ => ("MachineLoop$Resources", "kept", "[I", true)
def t_Resources : Nat → FieldType := fun k => match k with
  | 0 => (.array .int)
  | _ => (.array .int)
def F_FileTree : u_T := fun k => match k with
  | 0 => ("MachineLoop$FileTree", "stores", "[LMachineLoop$Store;", true)
  | 1 => ("MachineLoop$FileTree", "output", "LMachineLoop$Store;", true)
  | _ => ("MachineLoop$FileTree", "handles", "[LMachineLoop$Handle;", true)
def t_FileTree : Nat → FieldType := fun k => match k with
  | 0 => (.array (.object "MachineLoop$Store"))
  | 1 => (.object "MachineLoop$Store")
  | _ => (.array (.object "MachineLoop$Handle"))
def F_Numbers : u_T := fun k => match k with
  | 0 => ("MachineLoop$Numbers", "numbers", "[I", true)
  | _ => ("MachineLoop$Numbers", "height", "I", false)
def t_Numbers : Nat → FieldType := fun k => match k with
  | 0 => (.array .int)
  | _ => .int
def F_Plan : u_T := fun k => match k with
  | 0 => ("MachineLoop$Plan", "doneFrom", "[I", true)
  | 1 => ("MachineLoop$Plan", "mates", "[I", true)
  | 2 => ("MachineLoop$Plan", "openBraces", "[I", true)
  | _ => ("MachineLoop$Plan", "length", "I", false)
def t_Plan : Nat → FieldType := fun k => match k with
  | 0 => (.array .int)
  | 1 => (.array .int)
  | 2 => (.array .int)
  | _ => .int
def F_Job : u_T := fun k => match k with
  | 0 => ("MachineLoop$Job", "signs", "[B", true)
  | 1 => ("MachineLoop$Job", "pages", "[I", true)
  | 2 => ("MachineLoop$Job", "length", "I", false)
  | 3 => ("MachineLoop$Job", "pageCount", "I", false)
  | 4 => ("MachineLoop$Job", "outcome", "I", false)
  | 5 => ("MachineLoop$Job", "error", "I", false)
  | 6 => ("MachineLoop$Job", "errorPlace", "I", false)
  | 7 => ("MachineLoop$Job", "steps", "I", false)
  | _ => ("MachineLoop$Job", "flushed", "I", false)
def t_Job : Nat → FieldType := fun k => match k with
  | 0 => (.array .byte)
  | 1 => (.array .int)
  | 2 => .int
  | 3 => .int
  | 4 => .int
  | 5 => .int
  | 6 => .int
  | 7 => .int
  | _ => .int
def F_Store : u_T := fun k => match k with
  | 0 => ("MachineLoop$Store", "bytes", "[B", true)
  | 1 => ("MachineLoop$Store", "size", "I", false)
  | _ => ("MachineLoop$Store", "isThere", "Z", false)
def t_Store : Nat → FieldType := fun k => match k with
  | 0 => (.array .byte)
  | 1 => .int
  | _ => .boolean
def F_Handle : u_T := fun k => match k with
  | 0 => ("MachineLoop$Handle", "filters", "[I", true)
  | 1 => ("MachineLoop$Handle", "filterCount", "I", false)
  | 2 => ("MachineLoop$Handle", "keptFilterCount", "I", false)
  | 3 => ("MachineLoop$Handle", "place", "I", false)
  | 4 => ("MachineLoop$Handle", "store", "LMachineLoop$Store;", false)
  | 5 => ("MachineLoop$Handle", "mode", "I", false)
  | _ => ("MachineLoop$Handle", "isOfJob", "Z", false)
def t_Handle : Nat → FieldType := fun k => match k with
  | 0 => (.array .int)
  | 1 => .int
  | 2 => .int
  | 3 => .int
  | 4 => (.object "MachineLoop$Store")
  | 5 => .int
  | _ => .boolean
def F_Mo : u_T := fun k => match k with
  | 0 => ("MachineLoopModel", "code", "I", false)
  | 1 => ("MachineLoopModel", "most", "I", true)
  | 2 => ("MachineLoopModel", "jobs", "I", false)
  | 3 => ("MachineLoopModel", "signs", "[B", true)
  | 4 => ("MachineLoopModel", "size", "[I", true)
  | 5 => ("MachineLoopModel", "told", "[I", true)
  | 6 => ("MachineLoopModel", "pages", "[I", true)
  | 7 => ("MachineLoopModel", "setting", "[I", true)
  | 8 => ("MachineLoopModel", "resource", "[I", true)
  | 9 => ("MachineLoopModel", "settingWas", "[I", true)
  | 10 => ("MachineLoopModel", "resourceWas", "[I", true)
  | 11 => ("MachineLoopModel", "there", "[Z", true)
  | 12 => ("MachineLoopModel", "length", "[I", true)
  | 13 => ("MachineLoopModel", "lies", "[B", true)
  | 14 => ("MachineLoopModel", "out", "[B", true)
  | 15 => ("MachineLoopModel", "outSize", "I", false)
  | 16 => ("MachineLoopModel", "open", "[Z", true)
  | 17 => ("MachineLoopModel", "name", "[I", true)
  | 18 => ("MachineLoopModel", "mode", "[I", true)
  | 19 => ("MachineLoopModel", "place", "[I", true)
  | 20 => ("MachineLoopModel", "filters", "[I", true)
  | 21 => ("MachineLoopModel", "filter", "[I", true)
  | 22 => ("MachineLoopModel", "filtersWas", "[I", true)
  | 23 => ("MachineLoopModel", "own", "[Z", true)
  | 24 => ("MachineLoopModel", "fails", "Z", false)
  | 25 => ("MachineLoopModel", "job", "I", false)
  | 26 => ("MachineLoopModel", "at", "I", false)
  | 27 => ("MachineLoopModel", "steps", "I", false)
  | 28 => ("MachineLoopModel", "high", "I", false)
  | 29 => ("MachineLoopModel", "stack", "[I", true)
  | 30 => ("MachineLoopModel", "marks", "I", false)
  | 31 => ("MachineLoopModel", "shown", "I", false)
  | 32 => ("MachineLoopModel", "loops", "I", false)
  | 33 => ("MachineLoopModel", "begin", "[I", true)
  | 34 => ("MachineLoopModel", "left", "[I", true)
  | 35 => ("MachineLoopModel", "error", "I", false)
  | _ => ("MachineLoopModel", "done", "Z", false)
def t_Mo : Nat → FieldType := fun k => match k with
  | 0 => .int
  | 1 => .int
  | 2 => .int
  | 3 => (.array .byte)
  | 4 => (.array .int)
  | 5 => (.array .int)
  | 6 => (.array .int)
  | 7 => (.array .int)
  | 8 => (.array .int)
  | 9 => (.array .int)
  | 10 => (.array .int)
  | 11 => (.array .boolean)
  | 12 => (.array .int)
  | 13 => (.array .byte)
  | 14 => (.array .byte)
  | 15 => .int
  | 16 => (.array .boolean)
  | 17 => (.array .int)
  | 18 => (.array .int)
  | 19 => (.array .int)
  | 20 => (.array .int)
  | 21 => (.array .int)
  | 22 => (.array .int)
  | 23 => (.array .boolean)
  | 24 => .boolean
  | 25 => .int
  | 26 => .int
  | 27 => .int
  | 28 => .int
  | 29 => (.array .int)
  | 30 => .int
  | 31 => .int
  | 32 => .int
  | 33 => (.array .int)
  | 34 => (.array .int)
  | 35 => .int
  | _ => .boolean
abbrev b_Device_init : ByteArray := prog_2_method_1_code
def y_Device_init : MethodName := ⟨R_Device, "<init>", "()V"⟩
abbrev b_Resources_init : ByteArray := prog_9_method_1_code
def y_Resources_init : MethodName := ⟨R_Resources, "<init>", "()V"⟩
abbrev b_Store_init : ByteArray := prog_10_method_1_code
def y_Store_init : MethodName := ⟨R_Store, "<init>", "(I)V"⟩
abbrev b_Handle_detach : ByteArray := prog_4_method_3_code
def y_Handle_detach : MethodName := ⟨R_Handle, "detach", "()V"⟩
abbrev b_Handle_init : ByteArray := prog_4_method_1_code
def y_Handle_init : MethodName := ⟨R_Handle, "<init>", "()V"⟩
abbrev b_Handle_attach : ByteArray := prog_4_method_2_code
def y_Handle_attach : MethodName := ⟨R_Handle, "attach", "(LMachineLoop$Store;IZ)V"⟩
abbrev b_FileTree_init : ByteArray := prog_3_method_1_code
def y_FileTree_init : MethodName := ⟨R_FileTree, "<init>", "()V"⟩
abbrev b_Numbers_init : ByteArray := prog_7_method_1_code
def y_Numbers_init : MethodName := ⟨R_Numbers, "<init>", "()V"⟩
abbrev b_Plan_init : ByteArray := prog_8_method_1_code
def y_Plan_init : MethodName := ⟨R_Plan, "<init>", "()V"⟩
abbrev b_Machine_init : ByteArray := prog_6_method_1_code
def y_Machine_init : MethodName := ⟨R_Machine, "<init>", "(J)V"⟩
abbrev b_ML_init : ByteArray := prog_1_method_1_code
def y_ML_init : MethodName := ⟨R_ML, "<init>", "(J)V"⟩
abbrev b_Job_init : ByteArray := prog_5_method_1_code
def y_Job_init : MethodName := ⟨R_Job, "<init>", "()V"⟩
abbrev b_ML_job : ByteArray := prog_1_method_2_code
def y_ML_job : MethodName := ⟨R_ML, "job", "()I"⟩
abbrev b_ML_jobOrNull : ByteArray := prog_1_method_18_code
def y_ML_jobOrNull : MethodName := ⟨R_ML, "jobOrNull", "(I)LMachineLoop$Job;"⟩
abbrev b_Job_append : ByteArray := prog_5_method_2_code
def y_Job_append : MethodName := ⟨R_Job, "append", "(B)I"⟩
abbrev b_ML_add : ByteArray := prog_1_method_3_code
def y_ML_add : MethodName := ⟨R_ML, "add", "(IB)I"⟩
abbrev b_Device_keep : ByteArray := prog_2_method_5_code
def y_Device_keep : MethodName := ⟨R_Device, "keep", "()V"⟩
abbrev b_Resources_keep : ByteArray := prog_9_method_4_code
def y_Resources_keep : MethodName := ⟨R_Resources, "keep", "()V"⟩
abbrev b_FileTree_handleOrNull : ByteArray := prog_3_method_13_code
def y_FileTree_handleOrNull : MethodName := ⟨R_FileTree, "handleOrNull", "(I)LMachineLoop$Handle;"⟩
abbrev b_Handle_keepFilters : ByteArray := prog_4_method_5_code
def y_Handle_keepFilters : MethodName := ⟨R_Handle, "keepFilters", "()V"⟩
abbrev b_FileTree_keep : ByteArray := prog_3_method_10_code
def y_FileTree_keep : MethodName := ⟨R_FileTree, "keep", "()V"⟩
abbrev b_Job_signAt : ByteArray := prog_5_method_3_code
def y_Job_signAt : MethodName := ⟨R_Job, "signAt", "(I)I"⟩
abbrev b_Plan_findDoneSigns : ByteArray := prog_8_method_5_code
def y_Plan_findDoneSigns : MethodName := ⟨R_Plan, "findDoneSigns", "(LMachineLoop$Job;)V"⟩
abbrev b_Plan_findMates : ByteArray := prog_8_method_6_code
def y_Plan_findMates : MethodName := ⟨R_Plan, "findMates", "(LMachineLoop$Job;)V"⟩
abbrev b_Plan_prepare : ByteArray := prog_8_method_2_code
def y_Plan_prepare : MethodName := ⟨R_Plan, "prepare", "(LMachineLoop$Job;)V"⟩
abbrev b_Numbers_clear : ByteArray := prog_7_method_2_code
def y_Numbers_clear : MethodName := ⟨R_Numbers, "clear", "()V"⟩
abbrev b_Plan_firstDoneFrom : ByteArray := prog_8_method_3_code
def y_Plan_firstDoneFrom : MethodName := ⟨R_Plan, "firstDoneFrom", "(I)I"⟩
abbrev b_Machine_begin : ByteArray := prog_6_method_3_code
def y_Machine_begin : MethodName := ⟨R_Machine, "begin", "(LMachineLoop$Job;)V"⟩
abbrev b_Numbers_lay : ByteArray := prog_7_method_4_code
def y_Numbers_lay : MethodName := ⟨R_Numbers, "lay", "(I)I"⟩
abbrev b_Machine_numbersWanted : ByteArray := prog_6_method_15_code
def y_Machine_numbersWanted : MethodName := ⟨R_Machine, "numbersWanted", "(I)I"⟩
abbrev b_Numbers_has : ByteArray := prog_7_method_3_code
def y_Numbers_has : MethodName := ⟨R_Numbers, "has", "(I)Z"⟩
abbrev b_Numbers_take : ByteArray := prog_7_method_6_code
def y_Numbers_take : MethodName := ⟨R_Numbers, "take", "()I"⟩
abbrev b_Plan_mateOf : ByteArray := prog_8_method_4_code
def y_Plan_mateOf : MethodName := ⟨R_Plan, "mateOf", "(I)I"⟩
abbrev b_Machine_enterLoop : ByteArray := prog_6_method_13_code
def y_Machine_enterLoop : MethodName := ⟨R_Machine, "enterLoop", "(II)I"⟩
abbrev b_Machine_comeToLoopEnd : ByteArray := prog_6_method_14_code
def y_Machine_comeToLoopEnd : MethodName := ⟨R_Machine, "comeToLoopEnd", "(I)I"⟩
abbrev b_Device_copies : ByteArray := prog_2_method_3_code
def y_Device_copies : MethodName := ⟨R_Device, "copies", "()I"⟩
abbrev b_Job_show : ByteArray := prog_5_method_5_code
def y_Job_show : MethodName := ⟨R_Job, "show", "(II)Z"⟩
abbrev b_Machine_showPage : ByteArray := prog_6_method_12_code
def y_Machine_showPage : MethodName := ⟨R_Machine, "showPage", "(LMachineLoop$Job;)I"⟩
abbrev b_Device_change : ByteArray := prog_2_method_2_code
def y_Device_change : MethodName := ⟨R_Device, "change", "(II)Z"⟩
abbrev b_Device_passesOverWrongRequests : ByteArray := prog_2_method_4_code
def y_Device_passesOverWrongRequests : MethodName := ⟨R_Device, "passesOverWrongRequests", "()Z"⟩
abbrev b_Machine_request : ByteArray := prog_6_method_11_code
def y_Machine_request : MethodName := ⟨R_Machine, "request", "(II)I"⟩
abbrev b_Resources_slotOf : ByteArray := prog_9_method_6_code
def y_Resources_slotOf : MethodName := ⟨R_Resources, "slotOf", "(II)I"⟩
abbrev b_Resources_valueAt : ByteArray := prog_9_method_3_code
def y_Resources_valueAt : MethodName := ⟨R_Resources, "valueAt", "(II)I"⟩
abbrev b_Machine_layUnlessRefused : ByteArray := prog_6_method_9_code
def y_Machine_layUnlessRefused : MethodName := ⟨R_Machine, "layUnlessRefused", "(II)I"⟩
abbrev b_Resources_put : ByteArray := prog_9_method_2_code
def y_Resources_put : MethodName := ⟨R_Resources, "put", "(III)I"⟩
abbrev b_Machine_errorIfRefused : ByteArray := prog_6_method_10_code
def y_Machine_errorIfRefused : MethodName := ⟨R_Machine, "errorIfRefused", "(II)I"⟩
abbrev b_FileTree_storeOrNull : ByteArray := prog_3_method_12_code
def y_FileTree_storeOrNull : MethodName := ⟨R_FileTree, "storeOrNull", "(I)LMachineLoop$Store;"⟩
abbrev b_FileTree_openOrNull : ByteArray := prog_3_method_14_code
def y_FileTree_openOrNull : MethodName := ⟨R_FileTree, "openOrNull", "(I)LMachineLoop$Handle;"⟩
abbrev b_FileTree_isHeldAgainst : ByteArray := prog_3_method_15_code
def y_FileTree_isHeldAgainst : MethodName := ⟨R_FileTree, "isHeldAgainst", "(LMachineLoop$Store;I)Z"⟩
abbrev b_FileTree_freeHandle : ByteArray := prog_3_method_16_code
def y_FileTree_freeHandle : MethodName := ⟨R_FileTree, "freeHandle", "()I"⟩
abbrev b_Store_makeEmpty : ByteArray := prog_10_method_2_code
def y_Store_makeEmpty : MethodName := ⟨R_Store, "makeEmpty", "()V"⟩
abbrev b_FileTree_open : ByteArray := prog_3_method_2_code
def y_FileTree_open : MethodName := ⟨R_FileTree, "open", "(IIZ)I"⟩
abbrev b_FileTree_shut : ByteArray := prog_3_method_6_code
def y_FileTree_shut : MethodName := ⟨R_FileTree, "shut", "(I)I"⟩
abbrev b_FileTree_shutByJob : ByteArray := prog_3_method_7_code
def y_FileTree_shutByJob : MethodName := ⟨R_FileTree, "shutByJob", "(I)I"⟩
abbrev b_Store_isFull : ByteArray := prog_10_method_3_code
def y_Store_isFull : MethodName := ⟨R_Store, "isFull", "()Z"⟩
abbrev b_Handle_throughFilter : ByteArray := prog_4_method_9_code
def y_Handle_throughFilter : MethodName := ⟨R_Handle, "throughFilter", "(III)I"⟩
abbrev b_Handle_asWritten : ByteArray := prog_4_method_7_code
def y_Handle_asWritten : MethodName := ⟨R_Handle, "asWritten", "(I)I"⟩
abbrev b_Store_append : ByteArray := prog_10_method_4_code
def y_Store_append : MethodName := ⟨R_Store, "append", "(I)V"⟩
abbrev b_FileTree_put : ByteArray := prog_3_method_3_code
def y_FileTree_put : MethodName := ⟨R_FileTree, "put", "(II)I"⟩
abbrev b_Handle_layFilter : ByteArray := prog_4_method_4_code
def y_Handle_layFilter : MethodName := ⟨R_Handle, "layFilter", "(I)I"⟩
abbrev b_FileTree_putFilter : ByteArray := prog_3_method_5_code
def y_FileTree_putFilter : MethodName := ⟨R_FileTree, "putFilter", "(II)I"⟩
abbrev b_Store_byteAt : ByteArray := prog_10_method_5_code
def y_Store_byteAt : MethodName := ⟨R_Store, "byteAt", "(I)I"⟩
abbrev b_Handle_nextByte : ByteArray := prog_4_method_8_code
def y_Handle_nextByte : MethodName := ⟨R_Handle, "nextByte", "(LMachineLoop$Store;)I"⟩
abbrev b_FileTree_take : ByteArray := prog_3_method_4_code
def y_FileTree_take : MethodName := ⟨R_FileTree, "take", "(I)I"⟩
abbrev b_Machine_layByte : ByteArray := prog_6_method_8_code
def y_Machine_layByte : MethodName := ⟨R_Machine, "layByte", "(I)I"⟩
abbrev b_Machine_doFileSign : ByteArray := prog_6_method_7_code
def y_Machine_doFileSign : MethodName := ⟨R_Machine, "doFileSign", "(III)I"⟩
abbrev b_Numbers_layTwo : ByteArray := prog_7_method_5_code
def y_Numbers_layTwo : MethodName := ⟨R_Numbers, "layTwo", "(II)I"⟩
abbrev b_Machine_doStackSign : ByteArray := prog_6_method_6_code
def y_Machine_doStackSign : MethodName := ⟨R_Machine, "doStackSign", "(III)I"⟩
abbrev b_Machine_doSign : ByteArray := prog_6_method_5_code
def y_Machine_doSign : MethodName := ⟨R_Machine, "doSign", "(LMachineLoop$Job;II)I"⟩
abbrev b_Job_fail : ByteArray := prog_5_method_6_code
def y_Job_fail : MethodName := ⟨R_Job, "fail", "(II)V"⟩
abbrev b_Device_putBack : ByteArray := prog_2_method_6_code
def y_Device_putBack : MethodName := ⟨R_Device, "putBack", "()V"⟩
abbrev b_Resources_putBack : ByteArray := prog_9_method_5_code
def y_Resources_putBack : MethodName := ⟨R_Resources, "putBack", "()V"⟩
abbrev b_Handle_putBackFilters : ByteArray := prog_4_method_6_code
def y_Handle_putBackFilters : MethodName := ⟨R_Handle, "putBackFilters", "()V"⟩
abbrev b_FileTree_putBack : ByteArray := prog_3_method_11_code
def y_FileTree_putBack : MethodName := ⟨R_FileTree, "putBack", "()V"⟩
abbrev b_Machine_finish : ByteArray := prog_6_method_4_code
def y_Machine_finish : MethodName := ⟨R_Machine, "finish", "()V"⟩
abbrev b_Machine_execute : ByteArray := prog_6_method_2_code
def y_Machine_execute : MethodName := ⟨R_Machine, "execute", "(LMachineLoop$Job;)V"⟩
abbrev b_ML_run : ByteArray := prog_1_method_4_code
def y_ML_run : MethodName := ⟨R_ML, "run", "()I"⟩
abbrev b_ML_ended : ByteArray := prog_1_method_5_code
def y_ML_ended : MethodName := ⟨R_ML, "ended", "(II)I"⟩
abbrev b_Job_marksOf : ByteArray := prog_5_method_4_code
def y_Job_marksOf : MethodName := ⟨R_Job, "marksOf", "(I)I"⟩
abbrev b_ML_page : ByteArray := prog_1_method_6_code
def y_ML_page : MethodName := ⟨R_ML, "page", "(II)I"⟩
abbrev b_ML_device : ByteArray := prog_1_method_7_code
def y_ML_device : MethodName := ⟨R_ML, "device", "(II)I"⟩
abbrev b_ML_define : ByteArray := prog_1_method_8_code
def y_ML_define : MethodName := ⟨R_ML, "define", "(III)I"⟩
abbrev b_ML_resource : ByteArray := prog_1_method_9_code
def y_ML_resource : MethodName := ⟨R_ML, "resource", "(II)I"⟩
abbrev b_ML_file : ByteArray := prog_1_method_10_code
def y_ML_file : MethodName := ⟨R_ML, "file", "(II)I"⟩
abbrev b_ML_write : ByteArray := prog_1_method_11_code
def y_ML_write : MethodName := ⟨R_ML, "write", "(IB)I"⟩
abbrev b_ML_read : ByteArray := prog_1_method_12_code
def y_ML_read : MethodName := ⟨R_ML, "read", "(I)I"⟩
abbrev b_ML_filter : ByteArray := prog_1_method_13_code
def y_ML_filter : MethodName := ⟨R_ML, "filter", "(II)I"⟩
abbrev b_ML_close : ByteArray := prog_1_method_14_code
def y_ML_close : MethodName := ⟨R_ML, "close", "(I)I"⟩
abbrev b_ML_startFails : ByteArray := prog_1_method_15_code
def y_ML_startFails : MethodName := ⟨R_ML, "startFails", "(Z)Z"⟩
abbrev b_FileTree_outputByte : ByteArray := prog_3_method_8_code
def y_FileTree_outputByte : MethodName := ⟨R_FileTree, "outputByte", "(I)I"⟩
abbrev b_ML_output : ByteArray := prog_1_method_16_code
def y_ML_output : MethodName := ⟨R_ML, "output", "(I)I"⟩
abbrev b_FileTree_fileByte : ByteArray := prog_3_method_9_code
def y_FileTree_fileByte : MethodName := ⟨R_FileTree, "fileByte", "(II)I"⟩
abbrev b_ML_lies : ByteArray := prog_1_method_17_code
def y_ML_lies : MethodName := ⟨R_ML, "lies", "(II)I"⟩
abbrev b_Mo_init : ByteArray := prog_12_method_1_code
def y_Mo_init : MethodName := ⟨R_Mo, "<init>", "(J)V"⟩
abbrev b_Mo_in : ByteArray := prog_12_method_3_code
def y_Mo_in : MethodName := ⟨R_Mo, "in", "(III)Z"⟩
abbrev b_Mo_job : ByteArray := prog_12_method_4_code
def y_Mo_job : MethodName := ⟨R_Mo, "job", "()I"⟩
abbrev b_Mo_noJob : ByteArray := prog_12_method_5_code
def y_Mo_noJob : MethodName := ⟨R_Mo, "noJob", "(I)Z"⟩
abbrev b_Mo_add : ByteArray := prog_12_method_6_code
def y_Mo_add : MethodName := ⟨R_Mo, "add", "(IB)I"⟩
abbrev b_Mo_ended : ByteArray := prog_12_method_7_code
def y_Mo_ended : MethodName := ⟨R_Mo, "ended", "(II)I"⟩
abbrev b_Mo_page : ByteArray := prog_12_method_8_code
def y_Mo_page : MethodName := ⟨R_Mo, "page", "(II)I"⟩
abbrev b_Mo_isSetting : ByteArray := prog_12_method_9_code
def y_Mo_isSetting : MethodName := ⟨R_Mo, "isSetting", "(II)Z"⟩
abbrev b_Mo_device : ByteArray := prog_12_method_10_code
def y_Mo_device : MethodName := ⟨R_Mo, "device", "(II)I"⟩
abbrev b_Mo_define : ByteArray := prog_12_method_11_code
def y_Mo_define : MethodName := ⟨R_Mo, "define", "(III)I"⟩
abbrev b_Mo_resource : ByteArray := prog_12_method_12_code
def y_Mo_resource : MethodName := ⟨R_Mo, "resource", "(II)I"⟩
abbrev b_Mo_opened : ByteArray := prog_12_method_13_code
def y_Mo_opened : MethodName := ⟨R_Mo, "opened", "(II)I"⟩
abbrev b_Mo_isOpen : ByteArray := prog_12_method_14_code
def y_Mo_isOpen : MethodName := ⟨R_Mo, "isOpen", "(I)Z"⟩
abbrev b_Mo_half : ByteArray := prog_12_method_15_code
def y_Mo_half : MethodName := ⟨R_Mo, "half", "(I)I"⟩
abbrev b_Mo_written : ByteArray := prog_12_method_16_code
def y_Mo_written : MethodName := ⟨R_Mo, "written", "(II)I"⟩
abbrev b_Mo_taken : ByteArray := prog_12_method_17_code
def y_Mo_taken : MethodName := ⟨R_Mo, "taken", "(I)I"⟩
abbrev b_Mo_filtered : ByteArray := prog_12_method_18_code
def y_Mo_filtered : MethodName := ⟨R_Mo, "filtered", "(II)I"⟩
abbrev b_Mo_file : ByteArray := prog_12_method_19_code
def y_Mo_file : MethodName := ⟨R_Mo, "file", "(II)I"⟩
abbrev b_Mo_write : ByteArray := prog_12_method_20_code
def y_Mo_write : MethodName := ⟨R_Mo, "write", "(IB)I"⟩
abbrev b_Mo_read : ByteArray := prog_12_method_21_code
def y_Mo_read : MethodName := ⟨R_Mo, "read", "(I)I"⟩
abbrev b_Mo_filter : ByteArray := prog_12_method_22_code
def y_Mo_filter : MethodName := ⟨R_Mo, "filter", "(II)I"⟩
abbrev b_Mo_close : ByteArray := prog_12_method_23_code
def y_Mo_close : MethodName := ⟨R_Mo, "close", "(I)I"⟩
abbrev b_Mo_startFails : ByteArray := prog_12_method_24_code
def y_Mo_startFails : MethodName := ⟨R_Mo, "startFails", "(Z)Z"⟩
abbrev b_Mo_output : ByteArray := prog_12_method_25_code
def y_Mo_output : MethodName := ⟨R_Mo, "output", "(I)I"⟩
abbrev b_Mo_lies : ByteArray := prog_12_method_26_code
def y_Mo_lies : MethodName := ⟨R_Mo, "lies", "(II)I"⟩
abbrev b_Mo_sign : ByteArray := prog_12_method_27_code
def y_Mo_sign : MethodName := ⟨R_Mo, "sign", "(I)I"⟩
abbrev b_Mo_behindRemark : ByteArray := prog_12_method_28_code
def y_Mo_behindRemark : MethodName := ⟨R_Mo, "behindRemark", "(I)I"⟩
abbrev b_Mo_endOf : ByteArray := prog_12_method_29_code
def y_Mo_endOf : MethodName := ⟨R_Mo, "endOf", "(I)I"⟩
abbrev b_Mo_lay : ByteArray := prog_12_method_30_code
def y_Mo_lay : MethodName := ⟨R_Mo, "lay", "(I)V"⟩
abbrev b_Mo_wants : ByteArray := prog_12_method_31_code
def y_Mo_wants : MethodName := ⟨R_Mo, "wants", "(I)I"⟩
abbrev b_Mo_show : ByteArray := prog_12_method_32_code
def y_Mo_show : MethodName := ⟨R_Mo, "show", "()V"⟩
abbrev b_Mo_beginLoop : ByteArray := prog_12_method_33_code
def y_Mo_beginLoop : MethodName := ⟨R_Mo, "beginLoop", "(I)V"⟩
abbrev b_Mo_endLoop : ByteArray := prog_12_method_34_code
def y_Mo_endLoop : MethodName := ⟨R_Mo, "endLoop", "()V"⟩
abbrev b_Mo_readResource : ByteArray := prog_12_method_35_code
def y_Mo_readResource : MethodName := ⟨R_Mo, "readResource", "(II)V"⟩
abbrev b_Mo_set : ByteArray := prog_12_method_36_code
def y_Mo_set : MethodName := ⟨R_Mo, "set", "(II)V"⟩
abbrev b_Mo_openFile : ByteArray := prog_12_method_37_code
def y_Mo_openFile : MethodName := ⟨R_Mo, "openFile", "(II)V"⟩
abbrev b_Mo_closeFile : ByteArray := prog_12_method_38_code
def y_Mo_closeFile : MethodName := ⟨R_Mo, "closeFile", "(I)V"⟩
abbrev b_Mo_readFile : ByteArray := prog_12_method_39_code
def y_Mo_readFile : MethodName := ⟨R_Mo, "readFile", "(I)V"⟩
abbrev b_Mo_act : ByteArray := prog_12_method_40_code
def y_Mo_act : MethodName := ⟨R_Mo, "act", "(I)V"⟩
abbrev b_Mo_runJob : ByteArray := prog_12_method_41_code
def y_Mo_runJob : MethodName := ⟨R_Mo, "runJob", "()V"⟩
abbrev b_Mo_run : ByteArray := prog_12_method_42_code
def y_Mo_run : MethodName := ⟨R_Mo, "run", "()I"⟩
abbrev b_Law_cell : ByteArray := method_2_code
def y_Law_cell : MethodName := ⟨R_Law, "cell", "([II)I"⟩
abbrev classes : List vw_C := [(R_ML, F_ML, 4), (R_Machine, F_Machine, 10), (R_Device, F_Device, 2), (R_Resources, F_Resources, 2), (R_FileTree, F_FileTree, 3), (R_Numbers, F_Numbers, 2), (R_Plan, F_Plan, 4), (R_Job, F_Job, 9), (R_Store, F_Store, 3), (R_Handle, F_Handle, 7), (R_Mo, F_Mo, 37)]
abbrev tys (dA : Nat → ClassId) : List (ClassId × FieldType) := [(dA 0, (.object "MachineLoop$Job")), (dA 1, .int), (dA 2, (.object "MachineLoop$Store")), (dA 3, (.object "MachineLoop$Handle")), (dA 4, .byte), (dA 5, .boolean)]
def tab_0 : Nat → Int32 := fun j => [0, 1, 0, 0].getD j 0
def tab_1 : Nat → Int32 := fun j => [0, 1, 0, 0].getD j 0
def tab_2 : Nat → Int32 := fun j => [3, 9, 1, 1].getD j 0
theorem n_ML : ∀ a, a < 4 → ∀ b, b < 4 → a ≠ b → (F_ML a).2.1 ≠ (F_ML b).2.1 := by decide +kernel
theorem t_ML_ok : ∀ k, k < 4 → parseFieldDescriptor (F_ML k).2.2.1 = some (t_ML k) := by decide +kernel
theorem n_Machine : ∀ a, a < 10 → ∀ b, b < 10 → a ≠ b → (F_Machine a).2.1 ≠ (F_Machine b).2.1 := by decide +kernel
theorem t_Machine_ok : ∀ k, k < 10 → parseFieldDescriptor (F_Machine k).2.2.1 = some (t_Machine k) := by decide +kernel
theorem n_Device : ∀ a, a < 2 → ∀ b, b < 2 → a ≠ b → (F_Device a).2.1 ≠ (F_Device b).2.1 := by decide +kernel
theorem t_Device_ok : ∀ k, k < 2 → parseFieldDescriptor (F_Device k).2.2.1 = some (t_Device k) := by decide +kernel
theorem n_Resources : ∀ a, a < 2 → ∀ b, b < 2 → a ≠ b → (F_Resources a).2.1 ≠ (F_Resources b).2.1 := by decide +kernel
theorem t_Resources_ok : ∀ k, k < 2 → parseFieldDescriptor (F_Resources k).2.2.1 = some (t_Resources k) := by decide +kernel
theorem n_FileTree : ∀ a, a < 3 → ∀ b, b < 3 → a ≠ b → (F_FileTree a).2.1 ≠ (F_FileTree b).2.1 := by decide +kernel
theorem t_FileTree_ok : ∀ k, k < 3 → parseFieldDescriptor (F_FileTree k).2.2.1 = some (t_FileTree k) := by decide +kernel
theorem n_Numbers : ∀ a, a < 2 → ∀ b, b < 2 → a ≠ b → (F_Numbers a).2.1 ≠ (F_Numbers b).2.1 := by decide +kernel
theorem t_Numbers_ok : ∀ k, k < 2 → parseFieldDescriptor (F_Numbers k).2.2.1 = some (t_Numbers k) := by decide +kernel
theorem n_Plan : ∀ a, a < 4 → ∀ b, b < 4 → a ≠ b → (F_Plan a).2.1 ≠ (F_Plan b).2.1 := by decide +kernel
theorem t_Plan_ok : ∀ k, k < 4 → parseFieldDescriptor (F_Plan k).2.2.1 = some (t_Plan k) := by decide +kernel
theorem n_Job : ∀ a, a < 9 → ∀ b, b < 9 → a ≠ b → (F_Job a).2.1 ≠ (F_Job b).2.1 := by decide +kernel
theorem t_Job_ok : ∀ k, k < 9 → parseFieldDescriptor (F_Job k).2.2.1 = some (t_Job k) := by decide +kernel
theorem n_Store : ∀ a, a < 3 → ∀ b, b < 3 → a ≠ b → (F_Store a).2.1 ≠ (F_Store b).2.1 := by decide +kernel
theorem t_Store_ok : ∀ k, k < 3 → parseFieldDescriptor (F_Store k).2.2.1 = some (t_Store k) := by decide +kernel
theorem n_Handle : ∀ a, a < 7 → ∀ b, b < 7 → a ≠ b → (F_Handle a).2.1 ≠ (F_Handle b).2.1 := by decide +kernel
theorem t_Handle_ok : ∀ k, k < 7 → parseFieldDescriptor (F_Handle k).2.2.1 = some (t_Handle k) := by decide +kernel
theorem n_Mo : ∀ a, a < 37 → ∀ b, b < 37 → a ≠ b → (F_Mo a).2.1 ≠ (F_Mo b).2.1 := by decide +kernel
theorem t_Mo_ok : ∀ k, k < 37 → parseFieldDescriptor (F_Mo k).2.2.1 = some (t_Mo k) := by decide +kernel
end
section
theorem lw_at {i : Nat} {w : Cond} (h : lw_tbl[i]? = some w) (hg : goodWord w = true) : w ∈ lw_good := List.mem_filter.mpr ⟨List.mem_of_getElem? h, hg⟩
set_option maxRecDepth 20000 in
theorem lk_0 : (.fieldLink R_Device 9 "MachineLoop$Device" "settings" "[I" : Cond) ∈ lw_good := lw_at (i := 77) (by decide +kernel) rfl
set_option maxRecDepth 20000 in
theorem lk_1 : (.methodLink R_Device 3 Lib.objectInit : Cond) ∈ lw_good := lw_at (i := 74) (by decide +kernel) rfl
set_option maxRecDepth 20000 in
theorem lk_2 : (.instanceMethod Lib.objectInit : Cond) ∈ lw_good := lw_at (i := 59) (by decide +kernel) rfl
set_option maxRecDepth 20000 in
theorem lk_3 : (.code Lib.objectInit ⟨#[0xb1]⟩ 1 none : Cond) ∈ lw_good := lw_at (i := 60) rfl rfl
set_option maxRecDepth 20000 in
theorem lk_4 : (.fieldLink R_Device 15 "MachineLoop$Device" "kept" "[I" : Cond) ∈ lw_good := lw_at (i := 78) (by decide +kernel) rfl
set_option maxRecDepth 20000 in
theorem lk_5 : (.fieldLink R_Resources 9 "MachineLoop$Resources" "values" "[I" : Cond) ∈ lw_good := lw_at (i := 91) (by decide +kernel) rfl
set_option maxRecDepth 20000 in
theorem lk_6 : (.methodLink R_Resources 3 Lib.objectInit : Cond) ∈ lw_good := lw_at (i := 90) (by decide +kernel) rfl
set_option maxRecDepth 20000 in
theorem lk_7 : (.fieldLink R_Resources 15 "MachineLoop$Resources" "kept" "[I" : Cond) ∈ lw_good := lw_at (i := 92) (by decide +kernel) rfl
set_option maxRecDepth 20000 in
theorem lk_8 : (.methodLink R_Store 3 Lib.objectInit : Cond) ∈ lw_good := lw_at (i := 110) (by decide +kernel) rfl
set_option maxRecDepth 20000 in
theorem lk_9 : (.methodLink R_Store 9 Lib.Math.max.name : Cond) ∈ lw_good := lw_at (i := 111) (by decide +kernel) rfl
set_option maxRecDepth 20000 in
theorem lk_10 : (.static Lib.Math.max.name : Cond) ∈ lw_good := lw_at (i := 112) (by decide +kernel) rfl
set_option maxRecDepth 20000 in
theorem lk_11 : (.initialized "java/lang/Math" : Cond) ∈ lw_good := lw_at (i := 46) (by decide +kernel) rfl
set_option maxRecDepth 20000 in
theorem lk_12 : (.code Lib.Math.max.name Lib.Math.max.code 2 (some .int) : Cond) ∈ lw_good := lw_at (i := 113) rfl rfl
set_option maxRecDepth 20000 in
theorem lk_13 : (.fieldLink R_Store 15 "MachineLoop$Store" "bytes" "[B" : Cond) ∈ lw_good := lw_at (i := 114) (by decide +kernel) rfl
set_option maxRecDepth 20000 in
theorem lk_14 : (.fieldLink R_Store 21 "MachineLoop$Store" "size" "I" : Cond) ∈ lw_good := lw_at (i := 115) (by decide +kernel) rfl
set_option maxRecDepth 20000 in
theorem lk_15 : (.fieldLink R_Store 25 "MachineLoop$Store" "isThere" "Z" : Cond) ∈ lw_good := lw_at (i := 116) (by decide +kernel) rfl
set_option maxRecDepth 20000 in
theorem lk_16 : (.fieldLink R_Handle 18 "MachineLoop$Handle" "store" "LMachineLoop$Store;" : Cond) ∈ lw_good := lw_at (i := 140) (by decide +kernel) rfl
set_option maxRecDepth 20000 in
theorem lk_17 : (.fieldLink R_Handle 22 "MachineLoop$Handle" "mode" "I" : Cond) ∈ lw_good := lw_at (i := 142) (by decide +kernel) rfl
set_option maxRecDepth 20000 in
theorem lk_18 : (.fieldLink R_Handle 26 "MachineLoop$Handle" "isOfJob" "Z" : Cond) ∈ lw_good := lw_at (i := 144) (by decide +kernel) rfl
set_option maxRecDepth 20000 in
theorem lk_19 : (.fieldLink R_Handle 30 "MachineLoop$Handle" "place" "I" : Cond) ∈ lw_good := lw_at (i := 139) (by decide +kernel) rfl
set_option maxRecDepth 20000 in
theorem lk_20 : (.fieldLink R_Handle 33 "MachineLoop$Handle" "filterCount" "I" : Cond) ∈ lw_good := lw_at (i := 137) (by decide +kernel) rfl
set_option maxRecDepth 20000 in
theorem lk_21 : (.fieldLink R_Handle 36 "MachineLoop$Handle" "keptFilterCount" "I" : Cond) ∈ lw_good := lw_at (i := 138) (by decide +kernel) rfl
set_option maxRecDepth 20000 in
theorem lk_22 : (.methodLink R_Handle 3 Lib.objectInit : Cond) ∈ lw_good := lw_at (i := 131) (by decide +kernel) rfl
set_option maxRecDepth 20000 in
theorem lk_23 : (.fieldLink R_Handle 9 "MachineLoop$Handle" "filters" "[I" : Cond) ∈ lw_good := lw_at (i := 136) (by decide +kernel) rfl
set_option maxRecDepth 20000 in
theorem lk_24 : (.methodLink R_Handle 15 y_Handle_detach : Cond) ∈ lw_good := lw_at (i := 132) (by decide +kernel) rfl
set_option maxRecDepth 20000 in
theorem lk_25 : (.instanceMethod y_Handle_detach : Cond) ∈ lw_good := lw_at (i := 133) (by decide +kernel) rfl
set_option maxRecDepth 20000 in
theorem lk_26 : (.selects y_Handle_detach.cls y_Handle_detach y_Handle_detach : Cond) ∈ lw_good := lw_at (i := 134) (by decide +kernel) rfl
set_option maxRecDepth 20000 in
theorem lk_27 : (.fieldLink R_FileTree 31 "MachineLoop$FileTree" "handles" "[LMachineLoop$Handle;" : Cond) ∈ lw_good := lw_at (i := 168) (by decide +kernel) rfl
set_option maxRecDepth 20000 in
theorem lk_28 : (.classLink R_FileTree 24 "MachineLoop$Handle" : Cond) ∈ lw_good := lw_at (i := 126) (by decide +kernel) rfl
set_option maxRecDepth 20000 in
theorem lk_29 : (.methodLink R_FileTree 26 y_Handle_init : Cond) ∈ lw_good := lw_at (i := 128) (by decide +kernel) rfl
set_option maxRecDepth 20000 in
theorem lk_30 : (.instanceMethod y_Handle_init : Cond) ∈ lw_good := lw_at (i := 129) (by decide +kernel) rfl
set_option maxRecDepth 20000 in
theorem lk_31 : (.classLink R_FileTree 9 "MachineLoop$Store" : Cond) ∈ lw_good := lw_at (i := 104) (by decide +kernel) rfl
set_option maxRecDepth 20000 in
theorem lk_32 : (.methodLink R_FileTree 17 y_Store_init : Cond) ∈ lw_good := lw_at (i := 107) (by decide +kernel) rfl
set_option maxRecDepth 20000 in
theorem lk_33 : (.instanceMethod y_Store_init : Cond) ∈ lw_good := lw_at (i := 108) (by decide +kernel) rfl
set_option maxRecDepth 20000 in
theorem lk_34 : (.fieldLink R_FileTree 20 "MachineLoop$FileTree" "output" "LMachineLoop$Store;" : Cond) ∈ lw_good := lw_at (i := 167) (by decide +kernel) rfl
set_option maxRecDepth 20000 in
theorem lk_35 : (.methodLink R_FileTree 27 y_Handle_attach : Cond) ∈ lw_good := lw_at (i := 161) (by decide +kernel) rfl
set_option maxRecDepth 20000 in
theorem lk_36 : (.instanceMethod y_Handle_attach : Cond) ∈ lw_good := lw_at (i := 162) (by decide +kernel) rfl
set_option maxRecDepth 20000 in
theorem lk_37 : (.selects y_Handle_attach.cls y_Handle_attach y_Handle_attach : Cond) ∈ lw_good := lw_at (i := 163) (by decide +kernel) rfl
set_option maxRecDepth 20000 in
theorem lk_38 : (.fieldLink R_FileTree 11 "MachineLoop$FileTree" "stores" "[LMachineLoop$Store;" : Cond) ∈ lw_good := lw_at (i := 166) (by decide +kernel) rfl
set_option maxRecDepth 20000 in
theorem lk_39 : (.methodLink R_FileTree 3 Lib.objectInit : Cond) ∈ lw_good := lw_at (i := 103) (by decide +kernel) rfl
set_option maxRecDepth 20000 in
theorem lk_40 : (.methodLink R_Numbers 3 Lib.objectInit : Cond) ∈ lw_good := lw_at (i := 188) (by decide +kernel) rfl
set_option maxRecDepth 20000 in
theorem lk_41 : (.fieldLink R_Numbers 9 "MachineLoop$Numbers" "numbers" "[I" : Cond) ∈ lw_good := lw_at (i := 189) (by decide +kernel) rfl
set_option maxRecDepth 20000 in
theorem lk_42 : (.fieldLink R_Numbers 15 "MachineLoop$Numbers" "height" "I" : Cond) ∈ lw_good := lw_at (i := 190) (by decide +kernel) rfl
set_option maxRecDepth 20000 in
theorem lk_43 : (.methodLink R_Plan 3 Lib.objectInit : Cond) ∈ lw_good := lw_at (i := 201) (by decide +kernel) rfl
set_option maxRecDepth 20000 in
theorem lk_44 : (.fieldLink R_Plan 9 "MachineLoop$Plan" "doneFrom" "[I" : Cond) ∈ lw_good := lw_at (i := 202) (by decide +kernel) rfl
set_option maxRecDepth 20000 in
theorem lk_45 : (.fieldLink R_Plan 15 "MachineLoop$Plan" "mates" "[I" : Cond) ∈ lw_good := lw_at (i := 203) (by decide +kernel) rfl
set_option maxRecDepth 20000 in
theorem lk_46 : (.fieldLink R_Plan 18 "MachineLoop$Plan" "openBraces" "[I" : Cond) ∈ lw_good := lw_at (i := 204) (by decide +kernel) rfl
set_option maxRecDepth 20000 in
theorem lk_47 : (.fieldLink R_Plan 21 "MachineLoop$Plan" "length" "I" : Cond) ∈ lw_good := lw_at (i := 205) (by decide +kernel) rfl
set_option maxRecDepth 20000 in
theorem lk_48 : (.methodLink R_Machine 3 Lib.objectInit : Cond) ∈ lw_good := lw_at (i := 68) (by decide +kernel) rfl
set_option maxRecDepth 20000 in
theorem lk_49 : (.classLink R_Machine 9 "MachineLoop$Device" : Cond) ∈ lw_good := lw_at (i := 69) (by decide +kernel) rfl
set_option maxRecDepth 20000 in
theorem lk_50 : (.methodLink R_Machine 11 y_Device_init : Cond) ∈ lw_good := lw_at (i := 71) (by decide +kernel) rfl
set_option maxRecDepth 20000 in
theorem lk_51 : (.instanceMethod y_Device_init : Cond) ∈ lw_good := lw_at (i := 72) (by decide +kernel) rfl
set_option maxRecDepth 20000 in
theorem lk_52 : (.fieldLink R_Machine 12 "MachineLoop$Machine" "device" "LMachineLoop$Device;" : Cond) ∈ lw_good := lw_at (i := 215) (by decide +kernel) rfl
set_option maxRecDepth 20000 in
theorem lk_53 : (.classLink R_Machine 18 "MachineLoop$Resources" : Cond) ∈ lw_good := lw_at (i := 85) (by decide +kernel) rfl
set_option maxRecDepth 20000 in
theorem lk_54 : (.methodLink R_Machine 20 y_Resources_init : Cond) ∈ lw_good := lw_at (i := 87) (by decide +kernel) rfl
set_option maxRecDepth 20000 in
theorem lk_55 : (.instanceMethod y_Resources_init : Cond) ∈ lw_good := lw_at (i := 88) (by decide +kernel) rfl
set_option maxRecDepth 20000 in
theorem lk_56 : (.fieldLink R_Machine 21 "MachineLoop$Machine" "resources" "LMachineLoop$Resources;" : Cond) ∈ lw_good := lw_at (i := 217) (by decide +kernel) rfl
set_option maxRecDepth 20000 in
theorem lk_57 : (.classLink R_Machine 25 "MachineLoop$FileTree" : Cond) ∈ lw_good := lw_at (i := 98) (by decide +kernel) rfl
set_option maxRecDepth 20000 in
theorem lk_58 : (.methodLink R_Machine 27 y_FileTree_init : Cond) ∈ lw_good := lw_at (i := 100) (by decide +kernel) rfl
set_option maxRecDepth 20000 in
theorem lk_59 : (.instanceMethod y_FileTree_init : Cond) ∈ lw_good := lw_at (i := 101) (by decide +kernel) rfl
set_option maxRecDepth 20000 in
theorem lk_60 : (.fieldLink R_Machine 28 "MachineLoop$Machine" "files" "LMachineLoop$FileTree;" : Cond) ∈ lw_good := lw_at (i := 219) (by decide +kernel) rfl
set_option maxRecDepth 20000 in
theorem lk_61 : (.constantLong R_Machine 32 20000 : Cond) ∈ lw_good := lw_at (i := 176) (by decide +kernel) rfl
set_option maxRecDepth 20000 in
theorem lk_62 : (.methodLink R_Machine 34 Lib.MathLoose.min_long.x : Cond) ∈ lw_good := lw_at (i := 177) (by decide +kernel) rfl
set_option maxRecDepth 20000 in
theorem lk_63 : (.static Lib.MathLoose.min_long.x : Cond) ∈ lw_good := lw_at (i := 178) (by decide +kernel) rfl
set_option maxRecDepth 20000 in
theorem lk_64 : (.code Lib.MathLoose.min_long.x Lib.MathLoose.min_long.code 4 (some .long) : Cond) ∈ lw_good := lw_at (i := 179) rfl rfl
set_option maxRecDepth 20000 in
theorem lk_65 : (.methodLink R_Machine 40 Lib.MathLoose.max_long.x : Cond) ∈ lw_good := lw_at (i := 180) (by decide +kernel) rfl
set_option maxRecDepth 20000 in
theorem lk_66 : (.static Lib.MathLoose.max_long.x : Cond) ∈ lw_good := lw_at (i := 181) (by decide +kernel) rfl
set_option maxRecDepth 20000 in
theorem lk_67 : (.code Lib.MathLoose.max_long.x Lib.MathLoose.max_long.code 4 (some .long) : Cond) ∈ lw_good := lw_at (i := 182) rfl rfl
set_option maxRecDepth 20000 in
theorem lk_68 : (.fieldLink R_Machine 43 "MachineLoop$Machine" "stepLimit" "I" : Cond) ∈ lw_good := lw_at (i := 221) (by decide +kernel) rfl
set_option maxRecDepth 20000 in
theorem lk_69 : (.classLink R_Machine 47 "MachineLoop$Numbers" : Cond) ∈ lw_good := lw_at (i := 183) (by decide +kernel) rfl
set_option maxRecDepth 20000 in
theorem lk_70 : (.methodLink R_Machine 49 y_Numbers_init : Cond) ∈ lw_good := lw_at (i := 185) (by decide +kernel) rfl
set_option maxRecDepth 20000 in
theorem lk_71 : (.instanceMethod y_Numbers_init : Cond) ∈ lw_good := lw_at (i := 186) (by decide +kernel) rfl
set_option maxRecDepth 20000 in
theorem lk_72 : (.fieldLink R_Machine 50 "MachineLoop$Machine" "stack" "LMachineLoop$Numbers;" : Cond) ∈ lw_good := lw_at (i := 222) (by decide +kernel) rfl
set_option maxRecDepth 20000 in
theorem lk_73 : (.classLink R_Machine 54 "MachineLoop$Plan" : Cond) ∈ lw_good := lw_at (i := 196) (by decide +kernel) rfl
set_option maxRecDepth 20000 in
theorem lk_74 : (.methodLink R_Machine 56 y_Plan_init : Cond) ∈ lw_good := lw_at (i := 198) (by decide +kernel) rfl
set_option maxRecDepth 20000 in
theorem lk_75 : (.instanceMethod y_Plan_init : Cond) ∈ lw_good := lw_at (i := 199) (by decide +kernel) rfl
set_option maxRecDepth 20000 in
theorem lk_76 : (.fieldLink R_Machine 57 "MachineLoop$Machine" "plan" "LMachineLoop$Plan;" : Cond) ∈ lw_good := lw_at (i := 223) (by decide +kernel) rfl
set_option maxRecDepth 20000 in
theorem lk_77 : (.fieldLink R_Machine 61 "MachineLoop$Machine" "timesLeft" "[I" : Cond) ∈ lw_good := lw_at (i := 224) (by decide +kernel) rfl
set_option maxRecDepth 20000 in
theorem lk_78 : (.fieldLink R_Machine 65 "MachineLoop$Machine" "loopCount" "I" : Cond) ∈ lw_good := lw_at (i := 225) (by decide +kernel) rfl
set_option maxRecDepth 20000 in
theorem lk_79 : (.fieldLink R_Machine 68 "MachineLoop$Machine" "marks" "I" : Cond) ∈ lw_good := lw_at (i := 226) (by decide +kernel) rfl
set_option maxRecDepth 20000 in
theorem lk_80 : (.fieldLink R_Machine 71 "MachineLoop$Machine" "nextPlace" "I" : Cond) ∈ lw_good := lw_at (i := 227) (by decide +kernel) rfl
set_option maxRecDepth 20000 in
theorem lk_81 : (.methodLink R_ML 1 Lib.objectInit : Cond) ∈ lw_good := lw_at (i := 58) (by decide +kernel) rfl
set_option maxRecDepth 20000 in
theorem lk_82 : (.classLink R_ML 9 "MachineLoop$Job" : Cond) ∈ lw_good := lw_at (i := 61) (by decide +kernel) rfl
set_option maxRecDepth 20000 in
theorem lk_83 : (.fieldLink R_ML 11 "MachineLoop" "jobs" "[LMachineLoop$Job;" : Cond) ∈ lw_good := lw_at (i := 249) (by decide +kernel) rfl
set_option maxRecDepth 20000 in
theorem lk_84 : (.classLink R_ML 15 "MachineLoop$Machine" : Cond) ∈ lw_good := lw_at (i := 63) (by decide +kernel) rfl
set_option maxRecDepth 20000 in
theorem lk_85 : (.methodLink R_ML 17 y_Machine_init : Cond) ∈ lw_good := lw_at (i := 65) (by decide +kernel) rfl
set_option maxRecDepth 20000 in
theorem lk_86 : (.instanceMethod y_Machine_init : Cond) ∈ lw_good := lw_at (i := 66) (by decide +kernel) rfl
set_option maxRecDepth 20000 in
theorem lk_87 : (.fieldLink R_ML 20 "MachineLoop" "machine" "LMachineLoop$Machine;" : Cond) ∈ lw_good := lw_at (i := 250) (by decide +kernel) rfl
set_option maxRecDepth 20000 in
theorem lk_88 : (.fieldLink R_ML 24 "MachineLoop" "jobCount" "I" : Cond) ∈ lw_good := lw_at (i := 251) (by decide +kernel) rfl
set_option maxRecDepth 20000 in
theorem lk_89 : (.fieldLink R_ML 28 "MachineLoop" "startsFail" "Z" : Cond) ∈ lw_good := lw_at (i := 252) (by decide +kernel) rfl
set_option maxRecDepth 20000 in
theorem lk_90 : (.methodLink R_Job 3 Lib.objectInit : Cond) ∈ lw_good := lw_at (i := 270) (by decide +kernel) rfl
set_option maxRecDepth 20000 in
theorem lk_91 : (.fieldLink R_Job 9 "MachineLoop$Job" "signs" "[B" : Cond) ∈ lw_good := lw_at (i := 271) (by decide +kernel) rfl
set_option maxRecDepth 20000 in
theorem lk_92 : (.fieldLink R_Job 15 "MachineLoop$Job" "pages" "[I" : Cond) ∈ lw_good := lw_at (i := 272) (by decide +kernel) rfl
set_option maxRecDepth 20000 in
theorem lk_93 : (.fieldLink R_Job 19 "MachineLoop$Job" "length" "I" : Cond) ∈ lw_good := lw_at (i := 273) (by decide +kernel) rfl
set_option maxRecDepth 20000 in
theorem lk_94 : (.fieldLink R_Job 23 "MachineLoop$Job" "pageCount" "I" : Cond) ∈ lw_good := lw_at (i := 276) (by decide +kernel) rfl
set_option maxRecDepth 20000 in
theorem lk_95 : (.fieldLink R_Job 26 "MachineLoop$Job" "outcome" "I" : Cond) ∈ lw_good := lw_at (i := 278) (by decide +kernel) rfl
set_option maxRecDepth 20000 in
theorem lk_96 : (.fieldLink R_Job 29 "MachineLoop$Job" "error" "I" : Cond) ∈ lw_good := lw_at (i := 281) (by decide +kernel) rfl
set_option maxRecDepth 20000 in
theorem lk_97 : (.fieldLink R_Job 32 "MachineLoop$Job" "errorPlace" "I" : Cond) ∈ lw_good := lw_at (i := 283) (by decide +kernel) rfl
set_option maxRecDepth 20000 in
theorem lk_98 : (.fieldLink R_Job 35 "MachineLoop$Job" "steps" "I" : Cond) ∈ lw_good := lw_at (i := 285) (by decide +kernel) rfl
set_option maxRecDepth 20000 in
theorem lk_99 : (.fieldLink R_Job 38 "MachineLoop$Job" "flushed" "I" : Cond) ∈ lw_good := lw_at (i := 288) (by decide +kernel) rfl
set_option maxRecDepth 20000 in
theorem lk_100 : (.methodLink R_ML 32 y_Job_init : Cond) ∈ lw_good := lw_at (i := 267) (by decide +kernel) rfl
set_option maxRecDepth 20000 in
theorem lk_101 : (.instanceMethod y_Job_init : Cond) ∈ lw_good := lw_at (i := 268) (by decide +kernel) rfl
set_option maxRecDepth 20000 in
theorem lk_102 : (.methodLink R_ML 33 y_ML_jobOrNull : Cond) ∈ lw_good := lw_at (i := 313) (by decide +kernel) rfl
set_option maxRecDepth 20000 in
theorem lk_103 : (.instanceMethod y_ML_jobOrNull : Cond) ∈ lw_good := lw_at (i := 315) (by decide +kernel) rfl
set_option maxRecDepth 20000 in
theorem lk_104 : (.selects y_ML_jobOrNull.cls y_ML_jobOrNull y_ML_jobOrNull : Cond) ∈ lw_good := lw_at (i := 0) (by decide +kernel) rfl
set_option maxRecDepth 20000 in
theorem lk_105 : (.fieldLink R_ML 37 "MachineLoop$Job" "outcome" "I" : Cond) ∈ lw_good := lw_at (i := 280) (by decide +kernel) rfl
set_option maxRecDepth 20000 in
theorem lk_106 : (.methodLink R_ML 40 y_Job_append : Cond) ∈ lw_good := lw_at (i := 317) (by decide +kernel) rfl
set_option maxRecDepth 20000 in
theorem lk_107 : (.instanceMethod y_Job_append : Cond) ∈ lw_good := lw_at (i := 318) (by decide +kernel) rfl
set_option maxRecDepth 20000 in
theorem lk_108 : (.selects y_Job_append.cls y_Job_append y_Job_append : Cond) ∈ lw_good := lw_at (i := 319) (by decide +kernel) rfl
set_option maxRecDepth 20000 in
theorem lk_109 : (.methodLink R_Device 27 arraycopyName : Cond) ∈ lw_good := lw_at (i := 337) (by decide +kernel) rfl
set_option maxRecDepth 20000 in
theorem lk_110 : (.native arraycopyName : Cond) ∈ lw_good := lw_at (i := 339) (by decide +kernel) rfl
set_option maxRecDepth 20000 in
theorem lk_111 : (.static arraycopyName : Cond) ∈ lw_good := lw_at (i := 338) (by decide +kernel) rfl
set_option maxRecDepth 20000 in
theorem lk_112 : (.initialized "java/lang/System" : Cond) ∈ lw_good := lw_at (i := 52) (by decide +kernel) rfl
set_option maxRecDepth 20000 in
theorem lk_113 : (.methodLink R_Resources 22 arraycopyName : Cond) ∈ lw_good := lw_at (i := 344) (by decide +kernel) rfl
set_option maxRecDepth 20000 in
theorem lk_114 : (.methodLink R_FileTree 51 y_FileTree_handleOrNull : Cond) ∈ lw_good := lw_at (i := 349) (by decide +kernel) rfl
set_option maxRecDepth 20000 in
theorem lk_115 : (.instanceMethod y_FileTree_handleOrNull : Cond) ∈ lw_good := lw_at (i := 351) (by decide +kernel) rfl
set_option maxRecDepth 20000 in
theorem lk_116 : (.selects y_FileTree_handleOrNull.cls y_FileTree_handleOrNull y_FileTree_handleOrNull : Cond) ∈ lw_good := lw_at (i := 2) (by decide +kernel) rfl
set_option maxRecDepth 20000 in
theorem lk_117 : (.methodLink R_FileTree 98 y_Handle_keepFilters : Cond) ∈ lw_good := lw_at (i := 353) (by decide +kernel) rfl
set_option maxRecDepth 20000 in
theorem lk_118 : (.instanceMethod y_Handle_keepFilters : Cond) ∈ lw_good := lw_at (i := 354) (by decide +kernel) rfl
set_option maxRecDepth 20000 in
theorem lk_119 : (.selects y_Handle_keepFilters.cls y_Handle_keepFilters y_Handle_keepFilters : Cond) ∈ lw_good := lw_at (i := 355) (by decide +kernel) rfl
set_option maxRecDepth 20000 in
theorem lk_120 : (.methodLink R_Plan 41 y_Job_signAt : Cond) ∈ lw_good := lw_at (i := 368) (by decide +kernel) rfl
set_option maxRecDepth 20000 in
theorem lk_121 : (.instanceMethod y_Job_signAt : Cond) ∈ lw_good := lw_at (i := 369) (by decide +kernel) rfl
set_option maxRecDepth 20000 in
theorem lk_122 : (.selects y_Job_signAt.cls y_Job_signAt y_Job_signAt : Cond) ∈ lw_good := lw_at (i := 370) (by decide +kernel) rfl
set_option maxRecDepth 20000 in
theorem lk_123 : (.fieldLink R_Plan 25 "MachineLoop$Job" "length" "I" : Cond) ∈ lw_good := lw_at (i := 274) (by decide +kernel) rfl
set_option maxRecDepth 20000 in
theorem lk_124 : (.methodLink R_Plan 28 Lib.Math.min.name : Cond) ∈ lw_good := lw_at (i := 361) (by decide +kernel) rfl
set_option maxRecDepth 20000 in
theorem lk_125 : (.static Lib.Math.min.name : Cond) ∈ lw_good := lw_at (i := 362) (by decide +kernel) rfl
set_option maxRecDepth 20000 in
theorem lk_126 : (.code Lib.Math.min.name Lib.Math.min.code 2 (some .int) : Cond) ∈ lw_good := lw_at (i := 363) rfl rfl
set_option maxRecDepth 20000 in
theorem lk_127 : (.methodLink R_Plan 34 y_Plan_findDoneSigns : Cond) ∈ lw_good := lw_at (i := 364) (by decide +kernel) rfl
set_option maxRecDepth 20000 in
theorem lk_128 : (.instanceMethod y_Plan_findDoneSigns : Cond) ∈ lw_good := lw_at (i := 366) (by decide +kernel) rfl
set_option maxRecDepth 20000 in
theorem lk_129 : (.selects y_Plan_findDoneSigns.cls y_Plan_findDoneSigns y_Plan_findDoneSigns : Cond) ∈ lw_good := lw_at (i := 3) (by decide +kernel) rfl
set_option maxRecDepth 20000 in
theorem lk_130 : (.methodLink R_Plan 38 y_Plan_findMates : Cond) ∈ lw_good := lw_at (i := 372) (by decide +kernel) rfl
set_option maxRecDepth 20000 in
theorem lk_131 : (.instanceMethod y_Plan_findMates : Cond) ∈ lw_good := lw_at (i := 374) (by decide +kernel) rfl
set_option maxRecDepth 20000 in
theorem lk_132 : (.selects y_Plan_findMates.cls y_Plan_findMates y_Plan_findMates : Cond) ∈ lw_good := lw_at (i := 4) (by decide +kernel) rfl
set_option maxRecDepth 20000 in
theorem lk_133 : (.methodLink R_Machine 107 y_Device_keep : Cond) ∈ lw_good := lw_at (i := 333) (by decide +kernel) rfl
set_option maxRecDepth 20000 in
theorem lk_134 : (.instanceMethod y_Device_keep : Cond) ∈ lw_good := lw_at (i := 334) (by decide +kernel) rfl
set_option maxRecDepth 20000 in
theorem lk_135 : (.selects y_Device_keep.cls y_Device_keep y_Device_keep : Cond) ∈ lw_good := lw_at (i := 335) (by decide +kernel) rfl
set_option maxRecDepth 20000 in
theorem lk_136 : (.methodLink R_Machine 110 y_Resources_keep : Cond) ∈ lw_good := lw_at (i := 340) (by decide +kernel) rfl
set_option maxRecDepth 20000 in
theorem lk_137 : (.instanceMethod y_Resources_keep : Cond) ∈ lw_good := lw_at (i := 341) (by decide +kernel) rfl
set_option maxRecDepth 20000 in
theorem lk_138 : (.selects y_Resources_keep.cls y_Resources_keep y_Resources_keep : Cond) ∈ lw_good := lw_at (i := 342) (by decide +kernel) rfl
set_option maxRecDepth 20000 in
theorem lk_139 : (.methodLink R_Machine 111 y_FileTree_keep : Cond) ∈ lw_good := lw_at (i := 345) (by decide +kernel) rfl
set_option maxRecDepth 20000 in
theorem lk_140 : (.instanceMethod y_FileTree_keep : Cond) ∈ lw_good := lw_at (i := 346) (by decide +kernel) rfl
set_option maxRecDepth 20000 in
theorem lk_141 : (.selects y_FileTree_keep.cls y_FileTree_keep y_FileTree_keep : Cond) ∈ lw_good := lw_at (i := 347) (by decide +kernel) rfl
set_option maxRecDepth 20000 in
theorem lk_142 : (.methodLink R_Machine 112 y_Plan_prepare : Cond) ∈ lw_good := lw_at (i := 357) (by decide +kernel) rfl
set_option maxRecDepth 20000 in
theorem lk_143 : (.instanceMethod y_Plan_prepare : Cond) ∈ lw_good := lw_at (i := 358) (by decide +kernel) rfl
set_option maxRecDepth 20000 in
theorem lk_144 : (.selects y_Plan_prepare.cls y_Plan_prepare y_Plan_prepare : Cond) ∈ lw_good := lw_at (i := 359) (by decide +kernel) rfl
set_option maxRecDepth 20000 in
theorem lk_145 : (.methodLink R_Machine 115 y_Numbers_clear : Cond) ∈ lw_good := lw_at (i := 376) (by decide +kernel) rfl
set_option maxRecDepth 20000 in
theorem lk_146 : (.instanceMethod y_Numbers_clear : Cond) ∈ lw_good := lw_at (i := 377) (by decide +kernel) rfl
set_option maxRecDepth 20000 in
theorem lk_147 : (.selects y_Numbers_clear.cls y_Numbers_clear y_Numbers_clear : Cond) ∈ lw_good := lw_at (i := 378) (by decide +kernel) rfl
set_option maxRecDepth 20000 in
theorem lk_148 : (.methodLink R_Machine 89 y_Plan_firstDoneFrom : Cond) ∈ lw_good := lw_at (i := 380) (by decide +kernel) rfl
set_option maxRecDepth 20000 in
theorem lk_149 : (.instanceMethod y_Plan_firstDoneFrom : Cond) ∈ lw_good := lw_at (i := 381) (by decide +kernel) rfl
set_option maxRecDepth 20000 in
theorem lk_150 : (.selects y_Plan_firstDoneFrom.cls y_Plan_firstDoneFrom y_Plan_firstDoneFrom : Cond) ∈ lw_good := lw_at (i := 382) (by decide +kernel) rfl
set_option maxRecDepth 20000 in
theorem lk_151 : (.methodLink R_Machine 204 y_Plan_mateOf : Cond) ∈ lw_good := lw_at (i := 408) (by decide +kernel) rfl
set_option maxRecDepth 20000 in
theorem lk_152 : (.instanceMethod y_Plan_mateOf : Cond) ∈ lw_good := lw_at (i := 409) (by decide +kernel) rfl
set_option maxRecDepth 20000 in
theorem lk_153 : (.selects y_Plan_mateOf.cls y_Plan_mateOf y_Plan_mateOf : Cond) ∈ lw_good := lw_at (i := 410) (by decide +kernel) rfl
set_option maxRecDepth 20000 in
theorem lk_154 : (.methodLink R_Machine 198 y_Device_copies : Cond) ∈ lw_good := lw_at (i := 420) (by decide +kernel) rfl
set_option maxRecDepth 20000 in
theorem lk_155 : (.instanceMethod y_Device_copies : Cond) ∈ lw_good := lw_at (i := 421) (by decide +kernel) rfl
set_option maxRecDepth 20000 in
theorem lk_156 : (.selects y_Device_copies.cls y_Device_copies y_Device_copies : Cond) ∈ lw_good := lw_at (i := 422) (by decide +kernel) rfl
set_option maxRecDepth 20000 in
theorem lk_157 : (.methodLink R_Machine 201 y_Job_show : Cond) ∈ lw_good := lw_at (i := 424) (by decide +kernel) rfl
set_option maxRecDepth 20000 in
theorem lk_158 : (.instanceMethod y_Job_show : Cond) ∈ lw_good := lw_at (i := 425) (by decide +kernel) rfl
set_option maxRecDepth 20000 in
theorem lk_159 : (.selects y_Job_show.cls y_Job_show y_Job_show : Cond) ∈ lw_good := lw_at (i := 426) (by decide +kernel) rfl
set_option maxRecDepth 20000 in
theorem lk_160 : (.methodLink R_Machine 190 y_Device_change : Cond) ∈ lw_good := lw_at (i := 432) (by decide +kernel) rfl
set_option maxRecDepth 20000 in
theorem lk_161 : (.instanceMethod y_Device_change : Cond) ∈ lw_good := lw_at (i := 433) (by decide +kernel) rfl
set_option maxRecDepth 20000 in
theorem lk_162 : (.selects y_Device_change.cls y_Device_change y_Device_change : Cond) ∈ lw_good := lw_at (i := 434) (by decide +kernel) rfl
set_option maxRecDepth 20000 in
theorem lk_163 : (.methodLink R_Machine 194 y_Device_passesOverWrongRequests : Cond) ∈ lw_good := lw_at (i := 440) (by decide +kernel) rfl
set_option maxRecDepth 20000 in
theorem lk_164 : (.instanceMethod y_Device_passesOverWrongRequests : Cond) ∈ lw_good := lw_at (i := 441) (by decide +kernel) rfl
set_option maxRecDepth 20000 in
theorem lk_165 : (.selects y_Device_passesOverWrongRequests.cls y_Device_passesOverWrongRequests y_Device_passesOverWrongRequests : Cond) ∈ lw_good := lw_at (i := 442) (by decide +kernel) rfl
set_option maxRecDepth 20000 in
theorem lk_166 : (.methodLink R_Resources 18 y_Resources_slotOf : Cond) ∈ lw_good := lw_at (i := 448) (by decide +kernel) rfl
set_option maxRecDepth 20000 in
theorem lk_167 : (.static y_Resources_slotOf : Cond) ∈ lw_good := lw_at (i := 449) (by decide +kernel) rfl
set_option maxRecDepth 20000 in
theorem lk_168 : (.methodLink R_Machine 123 y_Numbers_lay : Cond) ∈ lw_good := lw_at (i := 389) (by decide +kernel) rfl
set_option maxRecDepth 20000 in
theorem lk_169 : (.instanceMethod y_Numbers_lay : Cond) ∈ lw_good := lw_at (i := 390) (by decide +kernel) rfl
set_option maxRecDepth 20000 in
theorem lk_170 : (.selects y_Numbers_lay.cls y_Numbers_lay y_Numbers_lay : Cond) ∈ lw_good := lw_at (i := 391) (by decide +kernel) rfl
set_option maxRecDepth 20000 in
theorem lk_171 : (.fieldLink R_FileTree 61 "MachineLoop$Handle" "store" "LMachineLoop$Store;" : Cond) ∈ lw_good := lw_at (i := 141) (by decide +kernel) rfl
set_option maxRecDepth 20000 in
theorem lk_172 : (.methodLink R_FileTree 58 y_FileTree_openOrNull : Cond) ∈ lw_good := lw_at (i := 478) (by decide +kernel) rfl
set_option maxRecDepth 20000 in
theorem lk_173 : (.instanceMethod y_FileTree_openOrNull : Cond) ∈ lw_good := lw_at (i := 480) (by decide +kernel) rfl
set_option maxRecDepth 20000 in
theorem lk_174 : (.selects y_FileTree_openOrNull.cls y_FileTree_openOrNull y_FileTree_openOrNull : Cond) ∈ lw_good := lw_at (i := 14) (by decide +kernel) rfl
set_option maxRecDepth 20000 in
theorem lk_175 : (.fieldLink R_FileTree 64 "MachineLoop$Handle" "mode" "I" : Cond) ∈ lw_good := lw_at (i := 143) (by decide +kernel) rfl
set_option maxRecDepth 20000 in
theorem lk_176 : (.methodLink R_FileTree 55 y_Store_makeEmpty : Cond) ∈ lw_good := lw_at (i := 486) (by decide +kernel) rfl
set_option maxRecDepth 20000 in
theorem lk_177 : (.instanceMethod y_Store_makeEmpty : Cond) ∈ lw_good := lw_at (i := 487) (by decide +kernel) rfl
set_option maxRecDepth 20000 in
theorem lk_178 : (.selects y_Store_makeEmpty.cls y_Store_makeEmpty y_Store_makeEmpty : Cond) ∈ lw_good := lw_at (i := 488) (by decide +kernel) rfl
set_option maxRecDepth 20000 in
theorem lk_179 : (.methodLink R_FileTree 43 y_FileTree_isHeldAgainst : Cond) ∈ lw_good := lw_at (i := 474) (by decide +kernel) rfl
set_option maxRecDepth 20000 in
theorem lk_180 : (.instanceMethod y_FileTree_isHeldAgainst : Cond) ∈ lw_good := lw_at (i := 476) (by decide +kernel) rfl
set_option maxRecDepth 20000 in
theorem lk_181 : (.selects y_FileTree_isHeldAgainst.cls y_FileTree_isHeldAgainst y_FileTree_isHeldAgainst : Cond) ∈ lw_good := lw_at (i := 13) (by decide +kernel) rfl
set_option maxRecDepth 20000 in
theorem lk_182 : (.methodLink R_FileTree 47 y_FileTree_freeHandle : Cond) ∈ lw_good := lw_at (i := 482) (by decide +kernel) rfl
set_option maxRecDepth 20000 in
theorem lk_183 : (.instanceMethod y_FileTree_freeHandle : Cond) ∈ lw_good := lw_at (i := 484) (by decide +kernel) rfl
set_option maxRecDepth 20000 in
theorem lk_184 : (.selects y_FileTree_freeHandle.cls y_FileTree_freeHandle y_FileTree_freeHandle : Cond) ∈ lw_good := lw_at (i := 15) (by decide +kernel) rfl
set_option maxRecDepth 20000 in
theorem lk_185 : (.fieldLink R_FileTree 39 "MachineLoop$Store" "isThere" "Z" : Cond) ∈ lw_good := lw_at (i := 117) (by decide +kernel) rfl
set_option maxRecDepth 20000 in
theorem lk_186 : (.methodLink R_FileTree 35 y_FileTree_storeOrNull : Cond) ∈ lw_good := lw_at (i := 470) (by decide +kernel) rfl
set_option maxRecDepth 20000 in
theorem lk_187 : (.instanceMethod y_FileTree_storeOrNull : Cond) ∈ lw_good := lw_at (i := 472) (by decide +kernel) rfl
set_option maxRecDepth 20000 in
theorem lk_188 : (.selects y_FileTree_storeOrNull.cls y_FileTree_storeOrNull y_FileTree_storeOrNull : Cond) ∈ lw_good := lw_at (i := 12) (by decide +kernel) rfl
set_option maxRecDepth 20000 in
theorem lk_189 : (.methodLink R_FileTree 86 y_Handle_detach : Cond) ∈ lw_good := lw_at (i := 498) (by decide +kernel) rfl
set_option maxRecDepth 20000 in
theorem lk_190 : (.fieldLink R_FileTree 89 "MachineLoop$Handle" "isOfJob" "Z" : Cond) ∈ lw_good := lw_at (i := 145) (by decide +kernel) rfl
set_option maxRecDepth 20000 in
theorem lk_191 : (.methodLink R_FileTree 92 y_FileTree_shut : Cond) ∈ lw_good := lw_at (i := 494) (by decide +kernel) rfl
set_option maxRecDepth 20000 in
theorem lk_192 : (.instanceMethod y_FileTree_shut : Cond) ∈ lw_good := lw_at (i := 495) (by decide +kernel) rfl
set_option maxRecDepth 20000 in
theorem lk_193 : (.selects y_FileTree_shut.cls y_FileTree_shut y_FileTree_shut : Cond) ∈ lw_good := lw_at (i := 496) (by decide +kernel) rfl
set_option maxRecDepth 20000 in
theorem lk_194 : (.methodLink R_Handle 39 y_Handle_throughFilter : Cond) ∈ lw_good := lw_at (i := 511) (by decide +kernel) rfl
set_option maxRecDepth 20000 in
theorem lk_195 : (.static y_Handle_throughFilter : Cond) ∈ lw_good := lw_at (i := 512) (by decide +kernel) rfl
set_option maxRecDepth 20000 in
theorem lk_196 : (.methodLink R_Store 29 y_Store_isFull : Cond) ∈ lw_good := lw_at (i := 518) (by decide +kernel) rfl
set_option maxRecDepth 20000 in
theorem lk_197 : (.instanceMethod y_Store_isFull : Cond) ∈ lw_good := lw_at (i := 504) (by decide +kernel) rfl
set_option maxRecDepth 20000 in
theorem lk_198 : (.selects y_Store_isFull.cls y_Store_isFull y_Store_isFull : Cond) ∈ lw_good := lw_at (i := 505) (by decide +kernel) rfl
set_option maxRecDepth 20000 in
theorem lk_199 : (.methodLink R_FileTree 68 y_Store_isFull : Cond) ∈ lw_good := lw_at (i := 503) (by decide +kernel) rfl
set_option maxRecDepth 20000 in
theorem lk_200 : (.methodLink R_FileTree 72 y_Handle_asWritten : Cond) ∈ lw_good := lw_at (i := 507) (by decide +kernel) rfl
set_option maxRecDepth 20000 in
theorem lk_201 : (.instanceMethod y_Handle_asWritten : Cond) ∈ lw_good := lw_at (i := 508) (by decide +kernel) rfl
set_option maxRecDepth 20000 in
theorem lk_202 : (.selects y_Handle_asWritten.cls y_Handle_asWritten y_Handle_asWritten : Cond) ∈ lw_good := lw_at (i := 509) (by decide +kernel) rfl
set_option maxRecDepth 20000 in
theorem lk_203 : (.methodLink R_FileTree 76 y_Store_append : Cond) ∈ lw_good := lw_at (i := 514) (by decide +kernel) rfl
set_option maxRecDepth 20000 in
theorem lk_204 : (.instanceMethod y_Store_append : Cond) ∈ lw_good := lw_at (i := 515) (by decide +kernel) rfl
set_option maxRecDepth 20000 in
theorem lk_205 : (.selects y_Store_append.cls y_Store_append y_Store_append : Cond) ∈ lw_good := lw_at (i := 516) (by decide +kernel) rfl
set_option maxRecDepth 20000 in
theorem lk_206 : (.methodLink R_FileTree 83 y_Handle_layFilter : Cond) ∈ lw_good := lw_at (i := 523) (by decide +kernel) rfl
set_option maxRecDepth 20000 in
theorem lk_207 : (.instanceMethod y_Handle_layFilter : Cond) ∈ lw_good := lw_at (i := 524) (by decide +kernel) rfl
set_option maxRecDepth 20000 in
theorem lk_208 : (.selects y_Handle_layFilter.cls y_Handle_layFilter y_Handle_layFilter : Cond) ∈ lw_good := lw_at (i := 525) (by decide +kernel) rfl
set_option maxRecDepth 20000 in
theorem lk_209 : (.methodLink R_Handle 43 y_Store_byteAt : Cond) ∈ lw_good := lw_at (i := 535) (by decide +kernel) rfl
set_option maxRecDepth 20000 in
theorem lk_210 : (.instanceMethod y_Store_byteAt : Cond) ∈ lw_good := lw_at (i := 536) (by decide +kernel) rfl
set_option maxRecDepth 20000 in
theorem lk_211 : (.selects y_Store_byteAt.cls y_Store_byteAt y_Store_byteAt : Cond) ∈ lw_good := lw_at (i := 537) (by decide +kernel) rfl
set_option maxRecDepth 20000 in
theorem lk_212 : (.methodLink R_FileTree 79 y_Handle_nextByte : Cond) ∈ lw_good := lw_at (i := 531) (by decide +kernel) rfl
set_option maxRecDepth 20000 in
theorem lk_213 : (.instanceMethod y_Handle_nextByte : Cond) ∈ lw_good := lw_at (i := 532) (by decide +kernel) rfl
set_option maxRecDepth 20000 in
theorem lk_214 : (.selects y_Handle_nextByte.cls y_Handle_nextByte y_Handle_nextByte : Cond) ∈ lw_good := lw_at (i := 533) (by decide +kernel) rfl
set_option maxRecDepth 20000 in
theorem lk_215 : (.methodLink R_Machine 154 y_Machine_layUnlessRefused : Cond) ∈ lw_good := lw_at (i := 451) (by decide +kernel) rfl
set_option maxRecDepth 20000 in
theorem lk_216 : (.instanceMethod y_Machine_layUnlessRefused : Cond) ∈ lw_good := lw_at (i := 453) (by decide +kernel) rfl
set_option maxRecDepth 20000 in
theorem lk_217 : (.selects y_Machine_layUnlessRefused.cls y_Machine_layUnlessRefused y_Machine_layUnlessRefused : Cond) ∈ lw_good := lw_at (i := 10) (by decide +kernel) rfl
set_option maxRecDepth 20000 in
theorem lk_218 : (.methodLink R_Machine 177 y_FileTree_shutByJob : Cond) ∈ lw_good := lw_at (i := 490) (by decide +kernel) rfl
set_option maxRecDepth 20000 in
theorem lk_219 : (.instanceMethod y_FileTree_shutByJob : Cond) ∈ lw_good := lw_at (i := 491) (by decide +kernel) rfl
set_option maxRecDepth 20000 in
theorem lk_220 : (.selects y_FileTree_shutByJob.cls y_FileTree_shutByJob y_FileTree_shutByJob : Cond) ∈ lw_good := lw_at (i := 492) (by decide +kernel) rfl
set_option maxRecDepth 20000 in
theorem lk_221 : (.methodLink R_Machine 161 y_Machine_errorIfRefused : Cond) ∈ lw_good := lw_at (i := 459) (by decide +kernel) rfl
set_option maxRecDepth 20000 in
theorem lk_222 : (.static y_Machine_errorIfRefused : Cond) ∈ lw_good := lw_at (i := 460) (by decide +kernel) rfl
set_option maxRecDepth 20000 in
theorem lk_223 : (.methodLink R_Machine 182 y_FileTree_putFilter : Cond) ∈ lw_good := lw_at (i := 519) (by decide +kernel) rfl
set_option maxRecDepth 20000 in
theorem lk_224 : (.instanceMethod y_FileTree_putFilter : Cond) ∈ lw_good := lw_at (i := 520) (by decide +kernel) rfl
set_option maxRecDepth 20000 in
theorem lk_225 : (.selects y_FileTree_putFilter.cls y_FileTree_putFilter y_FileTree_putFilter : Cond) ∈ lw_good := lw_at (i := 521) (by decide +kernel) rfl
set_option maxRecDepth 20000 in
theorem lk_226 : (.methodLink R_Machine 173 y_FileTree_open : Cond) ∈ lw_good := lw_at (i := 466) (by decide +kernel) rfl
set_option maxRecDepth 20000 in
theorem lk_227 : (.instanceMethod y_FileTree_open : Cond) ∈ lw_good := lw_at (i := 467) (by decide +kernel) rfl
set_option maxRecDepth 20000 in
theorem lk_228 : (.selects y_FileTree_open.cls y_FileTree_open y_FileTree_open : Cond) ∈ lw_good := lw_at (i := 468) (by decide +kernel) rfl
set_option maxRecDepth 20000 in
theorem lk_229 : (.methodLink R_Machine 180 y_FileTree_put : Cond) ∈ lw_good := lw_at (i := 499) (by decide +kernel) rfl
set_option maxRecDepth 20000 in
theorem lk_230 : (.instanceMethod y_FileTree_put : Cond) ∈ lw_good := lw_at (i := 500) (by decide +kernel) rfl
set_option maxRecDepth 20000 in
theorem lk_231 : (.selects y_FileTree_put.cls y_FileTree_put y_FileTree_put : Cond) ∈ lw_good := lw_at (i := 501) (by decide +kernel) rfl
set_option maxRecDepth 20000 in
theorem lk_232 : (.methodLink R_Machine 185 y_FileTree_take : Cond) ∈ lw_good := lw_at (i := 527) (by decide +kernel) rfl
set_option maxRecDepth 20000 in
theorem lk_233 : (.instanceMethod y_FileTree_take : Cond) ∈ lw_good := lw_at (i := 528) (by decide +kernel) rfl
set_option maxRecDepth 20000 in
theorem lk_234 : (.selects y_FileTree_take.cls y_FileTree_take y_FileTree_take : Cond) ∈ lw_good := lw_at (i := 529) (by decide +kernel) rfl
set_option maxRecDepth 20000 in
theorem lk_235 : (.methodLink R_Machine 187 y_Machine_layByte : Cond) ∈ lw_good := lw_at (i := 539) (by decide +kernel) rfl
set_option maxRecDepth 20000 in
theorem lk_236 : (.instanceMethod y_Machine_layByte : Cond) ∈ lw_good := lw_at (i := 541) (by decide +kernel) rfl
set_option maxRecDepth 20000 in
theorem lk_237 : (.selects y_Machine_layByte.cls y_Machine_layByte y_Machine_layByte : Cond) ∈ lw_good := lw_at (i := 16) (by decide +kernel) rfl
set_option maxRecDepth 20000 in
theorem lk_238 : (.methodLink R_Numbers 19 y_Numbers_lay : Cond) ∈ lw_good := lw_at (i := 551) (by decide +kernel) rfl
set_option maxRecDepth 20000 in
theorem lk_239 : (.methodLink R_Machine 170 y_Numbers_layTwo : Cond) ∈ lw_good := lw_at (i := 547) (by decide +kernel) rfl
set_option maxRecDepth 20000 in
theorem lk_240 : (.instanceMethod y_Numbers_layTwo : Cond) ∈ lw_good := lw_at (i := 548) (by decide +kernel) rfl
set_option maxRecDepth 20000 in
theorem lk_241 : (.selects y_Numbers_layTwo.cls y_Numbers_layTwo y_Numbers_layTwo : Cond) ∈ lw_good := lw_at (i := 549) (by decide +kernel) rfl
set_option maxRecDepth 20000 in
theorem lk_242 : (.methodLink R_Machine 157 y_Resources_put : Cond) ∈ lw_good := lw_at (i := 455) (by decide +kernel) rfl
set_option maxRecDepth 20000 in
theorem lk_243 : (.instanceMethod y_Resources_put : Cond) ∈ lw_good := lw_at (i := 456) (by decide +kernel) rfl
set_option maxRecDepth 20000 in
theorem lk_244 : (.selects y_Resources_put.cls y_Resources_put y_Resources_put : Cond) ∈ lw_good := lw_at (i := 457) (by decide +kernel) rfl
set_option maxRecDepth 20000 in
theorem lk_245 : (.methodLink R_Machine 151 y_Resources_valueAt : Cond) ∈ lw_good := lw_at (i := 444) (by decide +kernel) rfl
set_option maxRecDepth 20000 in
theorem lk_246 : (.instanceMethod y_Resources_valueAt : Cond) ∈ lw_good := lw_at (i := 445) (by decide +kernel) rfl
set_option maxRecDepth 20000 in
theorem lk_247 : (.selects y_Resources_valueAt.cls y_Resources_valueAt y_Resources_valueAt : Cond) ∈ lw_good := lw_at (i := 446) (by decide +kernel) rfl
set_option maxRecDepth 20000 in
theorem lk_248 : (.methodLink R_Machine 164 y_Machine_doFileSign : Cond) ∈ lw_good := lw_at (i := 462) (by decide +kernel) rfl
set_option maxRecDepth 20000 in
theorem lk_249 : (.instanceMethod y_Machine_doFileSign : Cond) ∈ lw_good := lw_at (i := 464) (by decide +kernel) rfl
set_option maxRecDepth 20000 in
theorem lk_250 : (.selects y_Machine_doFileSign.cls y_Machine_doFileSign y_Machine_doFileSign : Cond) ∈ lw_good := lw_at (i := 11) (by decide +kernel) rfl
set_option maxRecDepth 20000 in
theorem lk_251 : (.methodLink R_Machine 148 y_Machine_request : Cond) ∈ lw_good := lw_at (i := 428) (by decide +kernel) rfl
set_option maxRecDepth 20000 in
theorem lk_252 : (.instanceMethod y_Machine_request : Cond) ∈ lw_good := lw_at (i := 430) (by decide +kernel) rfl
set_option maxRecDepth 20000 in
theorem lk_253 : (.selects y_Machine_request.cls y_Machine_request y_Machine_request : Cond) ∈ lw_good := lw_at (i := 9) (by decide +kernel) rfl
set_option maxRecDepth 20000 in
theorem lk_254 : (.fieldLink R_Machine 78 "MachineLoop$Job" "outcome" "I" : Cond) ∈ lw_good := lw_at (i := 279) (by decide +kernel) rfl
set_option maxRecDepth 20000 in
theorem lk_255 : (.methodLink R_Machine 144 y_Machine_showPage : Cond) ∈ lw_good := lw_at (i := 416) (by decide +kernel) rfl
set_option maxRecDepth 20000 in
theorem lk_256 : (.instanceMethod y_Machine_showPage : Cond) ∈ lw_good := lw_at (i := 418) (by decide +kernel) rfl
set_option maxRecDepth 20000 in
theorem lk_257 : (.selects y_Machine_showPage.cls y_Machine_showPage y_Machine_showPage : Cond) ∈ lw_good := lw_at (i := 8) (by decide +kernel) rfl
set_option maxRecDepth 20000 in
theorem lk_258 : (.methodLink R_Machine 137 y_Machine_enterLoop : Cond) ∈ lw_good := lw_at (i := 404) (by decide +kernel) rfl
set_option maxRecDepth 20000 in
theorem lk_259 : (.instanceMethod y_Machine_enterLoop : Cond) ∈ lw_good := lw_at (i := 406) (by decide +kernel) rfl
set_option maxRecDepth 20000 in
theorem lk_260 : (.selects y_Machine_enterLoop.cls y_Machine_enterLoop y_Machine_enterLoop : Cond) ∈ lw_good := lw_at (i := 6) (by decide +kernel) rfl
set_option maxRecDepth 20000 in
theorem lk_261 : (.methodLink R_Machine 141 y_Machine_comeToLoopEnd : Cond) ∈ lw_good := lw_at (i := 412) (by decide +kernel) rfl
set_option maxRecDepth 20000 in
theorem lk_262 : (.instanceMethod y_Machine_comeToLoopEnd : Cond) ∈ lw_good := lw_at (i := 414) (by decide +kernel) rfl
set_option maxRecDepth 20000 in
theorem lk_263 : (.selects y_Machine_comeToLoopEnd.cls y_Machine_comeToLoopEnd y_Machine_comeToLoopEnd : Cond) ∈ lw_good := lw_at (i := 7) (by decide +kernel) rfl
set_option maxRecDepth 20000 in
theorem lk_264 : (.methodLink R_Machine 167 y_Machine_doStackSign : Cond) ∈ lw_good := lw_at (i := 543) (by decide +kernel) rfl
set_option maxRecDepth 20000 in
theorem lk_265 : (.instanceMethod y_Machine_doStackSign : Cond) ∈ lw_good := lw_at (i := 545) (by decide +kernel) rfl
set_option maxRecDepth 20000 in
theorem lk_266 : (.selects y_Machine_doStackSign.cls y_Machine_doStackSign y_Machine_doStackSign : Cond) ∈ lw_good := lw_at (i := 17) (by decide +kernel) rfl
set_option maxRecDepth 20000 in
theorem lk_267 : (.methodLink R_Machine 133 y_Numbers_take : Cond) ∈ lw_good := lw_at (i := 400) (by decide +kernel) rfl
set_option maxRecDepth 20000 in
theorem lk_268 : (.instanceMethod y_Numbers_take : Cond) ∈ lw_good := lw_at (i := 401) (by decide +kernel) rfl
set_option maxRecDepth 20000 in
theorem lk_269 : (.selects y_Numbers_take.cls y_Numbers_take y_Numbers_take : Cond) ∈ lw_good := lw_at (i := 402) (by decide +kernel) rfl
set_option maxRecDepth 20000 in
theorem lk_270 : (.methodLink R_Machine 126 y_Machine_numbersWanted : Cond) ∈ lw_good := lw_at (i := 393) (by decide +kernel) rfl
set_option maxRecDepth 20000 in
theorem lk_271 : (.static y_Machine_numbersWanted : Cond) ∈ lw_good := lw_at (i := 394) (by decide +kernel) rfl
set_option maxRecDepth 20000 in
theorem lk_272 : (.methodLink R_Machine 129 y_Numbers_has : Cond) ∈ lw_good := lw_at (i := 396) (by decide +kernel) rfl
set_option maxRecDepth 20000 in
theorem lk_273 : (.instanceMethod y_Numbers_has : Cond) ∈ lw_good := lw_at (i := 397) (by decide +kernel) rfl
set_option maxRecDepth 20000 in
theorem lk_274 : (.selects y_Numbers_has.cls y_Numbers_has y_Numbers_has : Cond) ∈ lw_good := lw_at (i := 398) (by decide +kernel) rfl
set_option maxRecDepth 20000 in
theorem lk_275 : (.methodLink R_FileTree 101 y_Handle_putBackFilters : Cond) ∈ lw_good := lw_at (i := 572) (by decide +kernel) rfl
set_option maxRecDepth 20000 in
theorem lk_276 : (.instanceMethod y_Handle_putBackFilters : Cond) ∈ lw_good := lw_at (i := 573) (by decide +kernel) rfl
set_option maxRecDepth 20000 in
theorem lk_277 : (.selects y_Handle_putBackFilters.cls y_Handle_putBackFilters y_Handle_putBackFilters : Cond) ∈ lw_good := lw_at (i := 574) (by decide +kernel) rfl
set_option maxRecDepth 20000 in
theorem lk_278 : (.methodLink R_Machine 118 y_Device_putBack : Cond) ∈ lw_good := lw_at (i := 560) (by decide +kernel) rfl
set_option maxRecDepth 20000 in
theorem lk_279 : (.instanceMethod y_Device_putBack : Cond) ∈ lw_good := lw_at (i := 561) (by decide +kernel) rfl
set_option maxRecDepth 20000 in
theorem lk_280 : (.selects y_Device_putBack.cls y_Device_putBack y_Device_putBack : Cond) ∈ lw_good := lw_at (i := 562) (by decide +kernel) rfl
set_option maxRecDepth 20000 in
theorem lk_281 : (.methodLink R_Machine 121 y_Resources_putBack : Cond) ∈ lw_good := lw_at (i := 564) (by decide +kernel) rfl
set_option maxRecDepth 20000 in
theorem lk_282 : (.instanceMethod y_Resources_putBack : Cond) ∈ lw_good := lw_at (i := 565) (by decide +kernel) rfl
set_option maxRecDepth 20000 in
theorem lk_283 : (.selects y_Resources_putBack.cls y_Resources_putBack y_Resources_putBack : Cond) ∈ lw_good := lw_at (i := 566) (by decide +kernel) rfl
set_option maxRecDepth 20000 in
theorem lk_284 : (.methodLink R_Machine 122 y_FileTree_putBack : Cond) ∈ lw_good := lw_at (i := 568) (by decide +kernel) rfl
set_option maxRecDepth 20000 in
theorem lk_285 : (.instanceMethod y_FileTree_putBack : Cond) ∈ lw_good := lw_at (i := 569) (by decide +kernel) rfl
set_option maxRecDepth 20000 in
theorem lk_286 : (.selects y_FileTree_putBack.cls y_FileTree_putBack y_FileTree_putBack : Cond) ∈ lw_good := lw_at (i := 570) (by decide +kernel) rfl
set_option maxRecDepth 20000 in
theorem lk_287 : (.methodLink R_Machine 104 y_Machine_finish : Cond) ∈ lw_good := lw_at (i := 556) (by decide +kernel) rfl
set_option maxRecDepth 20000 in
theorem lk_288 : (.instanceMethod y_Machine_finish : Cond) ∈ lw_good := lw_at (i := 558) (by decide +kernel) rfl
set_option maxRecDepth 20000 in
theorem lk_289 : (.selects y_Machine_finish.cls y_Machine_finish y_Machine_finish : Cond) ∈ lw_good := lw_at (i := 18) (by decide +kernel) rfl
set_option maxRecDepth 20000 in
theorem lk_290 : (.fieldLink R_Machine 83 "MachineLoop$Job" "length" "I" : Cond) ∈ lw_good := lw_at (i := 275) (by decide +kernel) rfl
set_option maxRecDepth 20000 in
theorem lk_291 : (.fieldLink R_Machine 86 "MachineLoop$Job" "steps" "I" : Cond) ∈ lw_good := lw_at (i := 286) (by decide +kernel) rfl
set_option maxRecDepth 20000 in
theorem lk_292 : (.methodLink R_Machine 93 y_Job_signAt : Cond) ∈ lw_good := lw_at (i := 384) (by decide +kernel) rfl
set_option maxRecDepth 20000 in
theorem lk_293 : (.methodLink R_Machine 96 y_Machine_doSign : Cond) ∈ lw_good := lw_at (i := 385) (by decide +kernel) rfl
set_option maxRecDepth 20000 in
theorem lk_294 : (.instanceMethod y_Machine_doSign : Cond) ∈ lw_good := lw_at (i := 387) (by decide +kernel) rfl
set_option maxRecDepth 20000 in
theorem lk_295 : (.selects y_Machine_doSign.cls y_Machine_doSign y_Machine_doSign : Cond) ∈ lw_good := lw_at (i := 5) (by decide +kernel) rfl
set_option maxRecDepth 20000 in
theorem lk_296 : (.methodLink R_Machine 100 y_Job_fail : Cond) ∈ lw_good := lw_at (i := 552) (by decide +kernel) rfl
set_option maxRecDepth 20000 in
theorem lk_297 : (.instanceMethod y_Job_fail : Cond) ∈ lw_good := lw_at (i := 553) (by decide +kernel) rfl
set_option maxRecDepth 20000 in
theorem lk_298 : (.selects y_Job_fail.cls y_Job_fail y_Job_fail : Cond) ∈ lw_good := lw_at (i := 554) (by decide +kernel) rfl
set_option maxRecDepth 20000 in
theorem lk_299 : (.methodLink R_Machine 74 y_Machine_begin : Cond) ∈ lw_good := lw_at (i := 329) (by decide +kernel) rfl
set_option maxRecDepth 20000 in
theorem lk_300 : (.instanceMethod y_Machine_begin : Cond) ∈ lw_good := lw_at (i := 331) (by decide +kernel) rfl
set_option maxRecDepth 20000 in
theorem lk_301 : (.selects y_Machine_begin.cls y_Machine_begin y_Machine_begin : Cond) ∈ lw_good := lw_at (i := 1) (by decide +kernel) rfl
set_option maxRecDepth 20000 in
theorem lk_302 : (.methodLink R_ML 44 y_Machine_execute : Cond) ∈ lw_good := lw_at (i := 325) (by decide +kernel) rfl
set_option maxRecDepth 20000 in
theorem lk_303 : (.instanceMethod y_Machine_execute : Cond) ∈ lw_good := lw_at (i := 326) (by decide +kernel) rfl
set_option maxRecDepth 20000 in
theorem lk_304 : (.selects y_Machine_execute.cls y_Machine_execute y_Machine_execute : Cond) ∈ lw_good := lw_at (i := 327) (by decide +kernel) rfl
set_option maxRecDepth 20000 in
theorem lk_305 : (.fieldLink R_ML 48 "MachineLoop$Job" "error" "I" : Cond) ∈ lw_good := lw_at (i := 282) (by decide +kernel) rfl
set_option maxRecDepth 20000 in
theorem lk_306 : (.fieldLink R_ML 51 "MachineLoop$Job" "errorPlace" "I" : Cond) ∈ lw_good := lw_at (i := 284) (by decide +kernel) rfl
set_option maxRecDepth 20000 in
theorem lk_307 : (.fieldLink R_ML 54 "MachineLoop$Job" "pageCount" "I" : Cond) ∈ lw_good := lw_at (i := 277) (by decide +kernel) rfl
set_option maxRecDepth 20000 in
theorem lk_308 : (.fieldLink R_ML 57 "MachineLoop$Job" "steps" "I" : Cond) ∈ lw_good := lw_at (i := 287) (by decide +kernel) rfl
set_option maxRecDepth 20000 in
theorem lk_309 : (.fieldLink R_ML 60 "MachineLoop$Job" "flushed" "I" : Cond) ∈ lw_good := lw_at (i := 289) (by decide +kernel) rfl
set_option maxRecDepth 20000 in
theorem lk_310 : (.methodLink R_ML 63 y_Job_marksOf : Cond) ∈ lw_good := lw_at (i := 584) (by decide +kernel) rfl
set_option maxRecDepth 20000 in
theorem lk_311 : (.instanceMethod y_Job_marksOf : Cond) ∈ lw_good := lw_at (i := 585) (by decide +kernel) rfl
set_option maxRecDepth 20000 in
theorem lk_312 : (.selects y_Job_marksOf.cls y_Job_marksOf y_Job_marksOf : Cond) ∈ lw_good := lw_at (i := 586) (by decide +kernel) rfl
set_option maxRecDepth 20000 in
theorem lk_313 : (.fieldLink R_ML 67 "MachineLoop$Machine" "device" "LMachineLoop$Device;" : Cond) ∈ lw_good := lw_at (i := 216) (by decide +kernel) rfl
set_option maxRecDepth 20000 in
theorem lk_314 : (.methodLink R_ML 71 y_Device_change : Cond) ∈ lw_good := lw_at (i := 592) (by decide +kernel) rfl
set_option maxRecDepth 20000 in
theorem lk_315 : (.fieldLink R_ML 77 "MachineLoop$Machine" "resources" "LMachineLoop$Resources;" : Cond) ∈ lw_good := lw_at (i := 218) (by decide +kernel) rfl
set_option maxRecDepth 20000 in
theorem lk_316 : (.methodLink R_ML 81 y_Resources_put : Cond) ∈ lw_good := lw_at (i := 597) (by decide +kernel) rfl
set_option maxRecDepth 20000 in
theorem lk_317 : (.methodLink R_ML 87 y_Resources_valueAt : Cond) ∈ lw_good := lw_at (i := 602) (by decide +kernel) rfl
set_option maxRecDepth 20000 in
theorem lk_318 : (.fieldLink R_ML 91 "MachineLoop$Machine" "files" "LMachineLoop$FileTree;" : Cond) ∈ lw_good := lw_at (i := 220) (by decide +kernel) rfl
set_option maxRecDepth 20000 in
theorem lk_319 : (.methodLink R_ML 95 y_FileTree_open : Cond) ∈ lw_good := lw_at (i := 607) (by decide +kernel) rfl
set_option maxRecDepth 20000 in
theorem lk_320 : (.methodLink R_ML 101 y_FileTree_put : Cond) ∈ lw_good := lw_at (i := 612) (by decide +kernel) rfl
set_option maxRecDepth 20000 in
theorem lk_321 : (.methodLink R_ML 103 y_FileTree_take : Cond) ∈ lw_good := lw_at (i := 617) (by decide +kernel) rfl
set_option maxRecDepth 20000 in
theorem lk_322 : (.methodLink R_ML 106 y_FileTree_putFilter : Cond) ∈ lw_good := lw_at (i := 622) (by decide +kernel) rfl
set_option maxRecDepth 20000 in
theorem lk_323 : (.methodLink R_ML 109 y_FileTree_shut : Cond) ∈ lw_good := lw_at (i := 627) (by decide +kernel) rfl
set_option maxRecDepth 20000 in
theorem lk_324 : (.methodLink R_FileTree 95 y_Store_byteAt : Cond) ∈ lw_good := lw_at (i := 640) (by decide +kernel) rfl
set_option maxRecDepth 20000 in
theorem lk_325 : (.methodLink R_ML 112 y_FileTree_outputByte : Cond) ∈ lw_good := lw_at (i := 636) (by decide +kernel) rfl
set_option maxRecDepth 20000 in
theorem lk_326 : (.instanceMethod y_FileTree_outputByte : Cond) ∈ lw_good := lw_at (i := 637) (by decide +kernel) rfl
set_option maxRecDepth 20000 in
theorem lk_327 : (.selects y_FileTree_outputByte.cls y_FileTree_outputByte y_FileTree_outputByte : Cond) ∈ lw_good := lw_at (i := 638) (by decide +kernel) rfl
set_option maxRecDepth 20000 in
theorem lk_328 : (.methodLink R_ML 115 y_FileTree_fileByte : Cond) ∈ lw_good := lw_at (i := 645) (by decide +kernel) rfl
set_option maxRecDepth 20000 in
theorem lk_329 : (.instanceMethod y_FileTree_fileByte : Cond) ∈ lw_good := lw_at (i := 646) (by decide +kernel) rfl
set_option maxRecDepth 20000 in
theorem lk_330 : (.selects y_FileTree_fileByte.cls y_FileTree_fileByte y_FileTree_fileByte : Cond) ∈ lw_good := lw_at (i := 647) (by decide +kernel) rfl
set_option maxRecDepth 20000 in
theorem lk_331 : (.fieldLink R_Mo 48 "MachineLoopModel" "open" "[Z" : Cond) ∈ lw_good := lw_at (i := 675) (by decide +kernel) rfl
set_option maxRecDepth 20000 in
theorem lk_332 : (.fieldLink R_Mo 54 "MachineLoopModel" "mode" "[I" : Cond) ∈ lw_good := lw_at (i := 677) (by decide +kernel) rfl
set_option maxRecDepth 20000 in
theorem lk_333 : (.fieldLink R_Mo 26 "MachineLoopModel" "resource" "[I" : Cond) ∈ lw_good := lw_at (i := 667) (by decide +kernel) rfl
set_option maxRecDepth 20000 in
theorem lk_334 : (.fieldLink R_Mo 83 "MachineLoopModel" "most" "I" : Cond) ∈ lw_good := lw_at (i := 660) (by decide +kernel) rfl
set_option maxRecDepth 20000 in
theorem lk_335 : (.methodLink R_Mo 1 Lib.objectInit : Cond) ∈ lw_good := lw_at (i := 657) (by decide +kernel) rfl
set_option maxRecDepth 20000 in
theorem lk_336 : (.fieldLink R_Mo 7 "MachineLoopModel" "signs" "[B" : Cond) ∈ lw_good := lw_at (i := 662) (by decide +kernel) rfl
set_option maxRecDepth 20000 in
theorem lk_337 : (.fieldLink R_Mo 13 "MachineLoopModel" "size" "[I" : Cond) ∈ lw_good := lw_at (i := 663) (by decide +kernel) rfl
set_option maxRecDepth 20000 in
theorem lk_338 : (.fieldLink R_Mo 17 "MachineLoopModel" "told" "[I" : Cond) ∈ lw_good := lw_at (i := 664) (by decide +kernel) rfl
set_option maxRecDepth 20000 in
theorem lk_339 : (.fieldLink R_Mo 20 "MachineLoopModel" "pages" "[I" : Cond) ∈ lw_good := lw_at (i := 665) (by decide +kernel) rfl
set_option maxRecDepth 20000 in
theorem lk_340 : (.fieldLink R_Mo 23 "MachineLoopModel" "setting" "[I" : Cond) ∈ lw_good := lw_at (i := 666) (by decide +kernel) rfl
set_option maxRecDepth 20000 in
theorem lk_341 : (.fieldLink R_Mo 29 "MachineLoopModel" "settingWas" "[I" : Cond) ∈ lw_good := lw_at (i := 668) (by decide +kernel) rfl
set_option maxRecDepth 20000 in
theorem lk_342 : (.fieldLink R_Mo 32 "MachineLoopModel" "resourceWas" "[I" : Cond) ∈ lw_good := lw_at (i := 669) (by decide +kernel) rfl
set_option maxRecDepth 20000 in
theorem lk_343 : (.fieldLink R_Mo 35 "MachineLoopModel" "there" "[Z" : Cond) ∈ lw_good := lw_at (i := 670) (by decide +kernel) rfl
set_option maxRecDepth 20000 in
theorem lk_344 : (.fieldLink R_Mo 39 "MachineLoopModel" "length" "[I" : Cond) ∈ lw_good := lw_at (i := 671) (by decide +kernel) rfl
set_option maxRecDepth 20000 in
theorem lk_345 : (.fieldLink R_Mo 42 "MachineLoopModel" "lies" "[B" : Cond) ∈ lw_good := lw_at (i := 672) (by decide +kernel) rfl
set_option maxRecDepth 20000 in
theorem lk_346 : (.fieldLink R_Mo 45 "MachineLoopModel" "out" "[B" : Cond) ∈ lw_good := lw_at (i := 673) (by decide +kernel) rfl
set_option maxRecDepth 20000 in
theorem lk_347 : (.fieldLink R_Mo 51 "MachineLoopModel" "name" "[I" : Cond) ∈ lw_good := lw_at (i := 676) (by decide +kernel) rfl
set_option maxRecDepth 20000 in
theorem lk_348 : (.fieldLink R_Mo 57 "MachineLoopModel" "place" "[I" : Cond) ∈ lw_good := lw_at (i := 678) (by decide +kernel) rfl
set_option maxRecDepth 20000 in
theorem lk_349 : (.fieldLink R_Mo 60 "MachineLoopModel" "filters" "[I" : Cond) ∈ lw_good := lw_at (i := 679) (by decide +kernel) rfl
set_option maxRecDepth 20000 in
theorem lk_350 : (.fieldLink R_Mo 63 "MachineLoopModel" "filter" "[I" : Cond) ∈ lw_good := lw_at (i := 680) (by decide +kernel) rfl
set_option maxRecDepth 20000 in
theorem lk_351 : (.fieldLink R_Mo 66 "MachineLoopModel" "filtersWas" "[I" : Cond) ∈ lw_good := lw_at (i := 681) (by decide +kernel) rfl
set_option maxRecDepth 20000 in
theorem lk_352 : (.fieldLink R_Mo 69 "MachineLoopModel" "own" "[Z" : Cond) ∈ lw_good := lw_at (i := 682) (by decide +kernel) rfl
set_option maxRecDepth 20000 in
theorem lk_353 : (.fieldLink R_Mo 72 "MachineLoopModel" "stack" "[I" : Cond) ∈ lw_good := lw_at (i := 688) (by decide +kernel) rfl
set_option maxRecDepth 20000 in
theorem lk_354 : (.fieldLink R_Mo 75 "MachineLoopModel" "begin" "[I" : Cond) ∈ lw_good := lw_at (i := 692) (by decide +kernel) rfl
set_option maxRecDepth 20000 in
theorem lk_355 : (.fieldLink R_Mo 78 "MachineLoopModel" "left" "[I" : Cond) ∈ lw_good := lw_at (i := 693) (by decide +kernel) rfl
set_option maxRecDepth 20000 in
theorem lk_356 : (.constantLong R_Mo 81 20000 : Cond) ∈ lw_good := lw_at (i := 658) (by decide +kernel) rfl
set_option maxRecDepth 20000 in
theorem lk_357 : (.fieldLink R_Mo 87 "MachineLoopModel" "code" "I" : Cond) ∈ lw_good := lw_at (i := 659) (by decide +kernel) rfl
set_option maxRecDepth 20000 in
theorem lk_358 : (.fieldLink R_Mo 90 "MachineLoopModel" "jobs" "I" : Cond) ∈ lw_good := lw_at (i := 661) (by decide +kernel) rfl
set_option maxRecDepth 20000 in
theorem lk_359 : (.methodLink R_Mo 93 y_Mo_noJob : Cond) ∈ lw_good := lw_at (i := 780) (by decide +kernel) rfl
set_option maxRecDepth 20000 in
theorem lk_360 : (.instanceMethod y_Mo_noJob : Cond) ∈ lw_good := lw_at (i := 782) (by decide +kernel) rfl
set_option maxRecDepth 20000 in
theorem lk_361 : (.selects y_Mo_noJob.cls y_Mo_noJob y_Mo_noJob : Cond) ∈ lw_good := lw_at (i := 19) (by decide +kernel) rfl
set_option maxRecDepth 20000 in
theorem lk_362 : (.methodLink R_Mo 97 y_Mo_in : Cond) ∈ lw_good := lw_at (i := 788) (by decide +kernel) rfl
set_option maxRecDepth 20000 in
theorem lk_363 : (.static y_Mo_in : Cond) ∈ lw_good := lw_at (i := 789) (by decide +kernel) rfl
set_option maxRecDepth 20000 in
theorem lk_364 : (.methodLink R_Mo 101 y_Mo_isSetting : Cond) ∈ lw_good := lw_at (i := 799) (by decide +kernel) rfl
set_option maxRecDepth 20000 in
theorem lk_365 : (.static y_Mo_isSetting : Cond) ∈ lw_good := lw_at (i := 800) (by decide +kernel) rfl
set_option maxRecDepth 20000 in
theorem lk_366 : (.fieldLink R_Mo 108 "MachineLoopModel" "outSize" "I" : Cond) ∈ lw_good := lw_at (i := 674) (by decide +kernel) rfl
set_option maxRecDepth 20000 in
theorem lk_367 : (.methodLink R_Mo 111 y_Mo_half : Cond) ∈ lw_good := lw_at (i := 830) (by decide +kernel) rfl
set_option maxRecDepth 20000 in
theorem lk_368 : (.static y_Mo_half : Cond) ∈ lw_good := lw_at (i := 831) (by decide +kernel) rfl
set_option maxRecDepth 20000 in
theorem lk_369 : (.methodLink R_Mo 105 y_Mo_isOpen : Cond) ∈ lw_good := lw_at (i := 826) (by decide +kernel) rfl
set_option maxRecDepth 20000 in
theorem lk_370 : (.instanceMethod y_Mo_isOpen : Cond) ∈ lw_good := lw_at (i := 828) (by decide +kernel) rfl
set_option maxRecDepth 20000 in
theorem lk_371 : (.selects y_Mo_isOpen.cls y_Mo_isOpen y_Mo_isOpen : Cond) ∈ lw_good := lw_at (i := 22) (by decide +kernel) rfl
set_option maxRecDepth 20000 in
theorem lk_372 : (.methodLink R_Mo 115 y_Mo_opened : Cond) ∈ lw_good := lw_at (i := 814) (by decide +kernel) rfl
set_option maxRecDepth 20000 in
theorem lk_373 : (.instanceMethod y_Mo_opened : Cond) ∈ lw_good := lw_at (i := 816) (by decide +kernel) rfl
set_option maxRecDepth 20000 in
theorem lk_374 : (.selects y_Mo_opened.cls y_Mo_opened y_Mo_opened : Cond) ∈ lw_good := lw_at (i := 20) (by decide +kernel) rfl
set_option maxRecDepth 20000 in
theorem lk_375 : (.methodLink R_Mo 119 y_Mo_written : Cond) ∈ lw_good := lw_at (i := 822) (by decide +kernel) rfl
set_option maxRecDepth 20000 in
theorem lk_376 : (.instanceMethod y_Mo_written : Cond) ∈ lw_good := lw_at (i := 824) (by decide +kernel) rfl
set_option maxRecDepth 20000 in
theorem lk_377 : (.selects y_Mo_written.cls y_Mo_written y_Mo_written : Cond) ∈ lw_good := lw_at (i := 21) (by decide +kernel) rfl
set_option maxRecDepth 20000 in
theorem lk_378 : (.methodLink R_Mo 122 y_Mo_taken : Cond) ∈ lw_good := lw_at (i := 837) (by decide +kernel) rfl
set_option maxRecDepth 20000 in
theorem lk_379 : (.instanceMethod y_Mo_taken : Cond) ∈ lw_good := lw_at (i := 839) (by decide +kernel) rfl
set_option maxRecDepth 20000 in
theorem lk_380 : (.selects y_Mo_taken.cls y_Mo_taken y_Mo_taken : Cond) ∈ lw_good := lw_at (i := 23) (by decide +kernel) rfl
set_option maxRecDepth 20000 in
theorem lk_381 : (.methodLink R_Mo 125 y_Mo_filtered : Cond) ∈ lw_good := lw_at (i := 845) (by decide +kernel) rfl
set_option maxRecDepth 20000 in
theorem lk_382 : (.instanceMethod y_Mo_filtered : Cond) ∈ lw_good := lw_at (i := 847) (by decide +kernel) rfl
set_option maxRecDepth 20000 in
theorem lk_383 : (.selects y_Mo_filtered.cls y_Mo_filtered y_Mo_filtered : Cond) ∈ lw_good := lw_at (i := 24) (by decide +kernel) rfl
set_option maxRecDepth 20000 in
theorem lk_384 : (.fieldLink R_Mo 128 "MachineLoopModel" "fails" "Z" : Cond) ∈ lw_good := lw_at (i := 683) (by decide +kernel) rfl
set_option maxRecDepth 20000 in
theorem lk_385 : (.fieldLink R_Mo 132 "MachineLoopModel" "job" "I" : Cond) ∈ lw_good := lw_at (i := 684) (by decide +kernel) rfl
set_option maxRecDepth 20000 in
theorem lk_386 : (.methodLink R_Mo 135 y_Mo_sign : Cond) ∈ lw_good := lw_at (i := 873) (by decide +kernel) rfl
set_option maxRecDepth 20000 in
theorem lk_387 : (.instanceMethod y_Mo_sign : Cond) ∈ lw_good := lw_at (i := 875) (by decide +kernel) rfl
set_option maxRecDepth 20000 in
theorem lk_388 : (.selects y_Mo_sign.cls y_Mo_sign y_Mo_sign : Cond) ∈ lw_good := lw_at (i := 26) (by decide +kernel) rfl
set_option maxRecDepth 20000 in
theorem lk_389 : (.methodLink R_Mo 138 y_Mo_behindRemark : Cond) ∈ lw_good := lw_at (i := 877) (by decide +kernel) rfl
set_option maxRecDepth 20000 in
theorem lk_390 : (.instanceMethod y_Mo_behindRemark : Cond) ∈ lw_good := lw_at (i := 879) (by decide +kernel) rfl
set_option maxRecDepth 20000 in
theorem lk_391 : (.selects y_Mo_behindRemark.cls y_Mo_behindRemark y_Mo_behindRemark : Cond) ∈ lw_good := lw_at (i := 27) (by decide +kernel) rfl
set_option maxRecDepth 20000 in
theorem lk_392 : (.fieldLink R_Mo 141 "MachineLoopModel" "high" "I" : Cond) ∈ lw_good := lw_at (i := 687) (by decide +kernel) rfl
set_option maxRecDepth 20000 in
theorem lk_393 : (.fieldLink R_Mo 144 "MachineLoopModel" "error" "I" : Cond) ∈ lw_good := lw_at (i := 694) (by decide +kernel) rfl
set_option maxRecDepth 20000 in
theorem lk_394 : (.fieldLink R_Mo 150 "MachineLoopModel" "marks" "I" : Cond) ∈ lw_good := lw_at (i := 689) (by decide +kernel) rfl
set_option maxRecDepth 20000 in
theorem lk_395 : (.fieldLink R_Mo 147 "MachineLoopModel" "shown" "I" : Cond) ∈ lw_good := lw_at (i := 690) (by decide +kernel) rfl
set_option maxRecDepth 20000 in
theorem lk_396 : (.fieldLink R_Mo 153 "MachineLoopModel" "at" "I" : Cond) ∈ lw_good := lw_at (i := 685) (by decide +kernel) rfl
set_option maxRecDepth 20000 in
theorem lk_397 : (.methodLink R_Mo 156 y_Mo_endOf : Cond) ∈ lw_good := lw_at (i := 923) (by decide +kernel) rfl
set_option maxRecDepth 20000 in
theorem lk_398 : (.instanceMethod y_Mo_endOf : Cond) ∈ lw_good := lw_at (i := 925) (by decide +kernel) rfl
set_option maxRecDepth 20000 in
theorem lk_399 : (.selects y_Mo_endOf.cls y_Mo_endOf y_Mo_endOf : Cond) ∈ lw_good := lw_at (i := 37) (by decide +kernel) rfl
set_option maxRecDepth 20000 in
theorem lk_400 : (.fieldLink R_Mo 159 "MachineLoopModel" "loops" "I" : Cond) ∈ lw_good := lw_at (i := 691) (by decide +kernel) rfl
set_option maxRecDepth 20000 in
theorem lk_401 : (.methodLink R_Mo 162 y_Mo_resource : Cond) ∈ lw_good := lw_at (i := 905) (by decide +kernel) rfl
set_option maxRecDepth 20000 in
theorem lk_402 : (.instanceMethod y_Mo_resource : Cond) ∈ lw_good := lw_at (i := 807) (by decide +kernel) rfl
set_option maxRecDepth 20000 in
theorem lk_403 : (.selects y_Mo_resource.cls y_Mo_resource y_Mo_resource : Cond) ∈ lw_good := lw_at (i := 808) (by decide +kernel) rfl
set_option maxRecDepth 20000 in
theorem lk_404 : (.methodLink R_Mo 164 y_Mo_lay : Cond) ∈ lw_good := lw_at (i := 888) (by decide +kernel) rfl
set_option maxRecDepth 20000 in
theorem lk_405 : (.instanceMethod y_Mo_lay : Cond) ∈ lw_good := lw_at (i := 890) (by decide +kernel) rfl
set_option maxRecDepth 20000 in
theorem lk_406 : (.selects y_Mo_lay.cls y_Mo_lay y_Mo_lay : Cond) ∈ lw_good := lw_at (i := 29) (by decide +kernel) rfl
set_option maxRecDepth 20000 in
theorem lk_407 : (.methodLink R_Mo 168 y_Mo_device : Cond) ∈ lw_good := lw_at (i := 900) (by decide +kernel) rfl
set_option maxRecDepth 20000 in
theorem lk_408 : (.instanceMethod y_Mo_device : Cond) ∈ lw_good := lw_at (i := 796) (by decide +kernel) rfl
set_option maxRecDepth 20000 in
theorem lk_409 : (.selects y_Mo_device.cls y_Mo_device y_Mo_device : Cond) ∈ lw_good := lw_at (i := 797) (by decide +kernel) rfl
set_option maxRecDepth 20000 in
theorem lk_410 : (.methodLink R_Mo 184 y_Mo_define : Cond) ∈ lw_good := lw_at (i := 906) (by decide +kernel) rfl
set_option maxRecDepth 20000 in
theorem lk_411 : (.instanceMethod y_Mo_define : Cond) ∈ lw_good := lw_at (i := 803) (by decide +kernel) rfl
set_option maxRecDepth 20000 in
theorem lk_412 : (.selects y_Mo_define.cls y_Mo_define y_Mo_define : Cond) ∈ lw_good := lw_at (i := 804) (by decide +kernel) rfl
set_option maxRecDepth 20000 in
theorem lk_413 : (.methodLink R_Mo 181 y_Mo_readResource : Cond) ∈ lw_good := lw_at (i := 901) (by decide +kernel) rfl
set_option maxRecDepth 20000 in
theorem lk_414 : (.instanceMethod y_Mo_readResource : Cond) ∈ lw_good := lw_at (i := 903) (by decide +kernel) rfl
set_option maxRecDepth 20000 in
theorem lk_415 : (.selects y_Mo_readResource.cls y_Mo_readResource y_Mo_readResource : Cond) ∈ lw_good := lw_at (i := 32) (by decide +kernel) rfl
set_option maxRecDepth 20000 in
theorem lk_416 : (.methodLink R_Mo 191 y_Mo_closeFile : Cond) ∈ lw_good := lw_at (i := 911) (by decide +kernel) rfl
set_option maxRecDepth 20000 in
theorem lk_417 : (.instanceMethod y_Mo_closeFile : Cond) ∈ lw_good := lw_at (i := 913) (by decide +kernel) rfl
set_option maxRecDepth 20000 in
theorem lk_418 : (.selects y_Mo_closeFile.cls y_Mo_closeFile y_Mo_closeFile : Cond) ∈ lw_good := lw_at (i := 34) (by decide +kernel) rfl
set_option maxRecDepth 20000 in
theorem lk_419 : (.methodLink R_Mo 177 y_Mo_set : Cond) ∈ lw_good := lw_at (i := 896) (by decide +kernel) rfl
set_option maxRecDepth 20000 in
theorem lk_420 : (.instanceMethod y_Mo_set : Cond) ∈ lw_good := lw_at (i := 898) (by decide +kernel) rfl
set_option maxRecDepth 20000 in
theorem lk_421 : (.selects y_Mo_set.cls y_Mo_set y_Mo_set : Cond) ∈ lw_good := lw_at (i := 31) (by decide +kernel) rfl
set_option maxRecDepth 20000 in
theorem lk_422 : (.methodLink R_Mo 188 y_Mo_openFile : Cond) ∈ lw_good := lw_at (i := 907) (by decide +kernel) rfl
set_option maxRecDepth 20000 in
theorem lk_423 : (.instanceMethod y_Mo_openFile : Cond) ∈ lw_good := lw_at (i := 909) (by decide +kernel) rfl
set_option maxRecDepth 20000 in
theorem lk_424 : (.selects y_Mo_openFile.cls y_Mo_openFile y_Mo_openFile : Cond) ∈ lw_good := lw_at (i := 33) (by decide +kernel) rfl
set_option maxRecDepth 20000 in
theorem lk_425 : (.fieldLink R_Mo 203 "MachineLoopModel" "done" "Z" : Cond) ∈ lw_good := lw_at (i := 695) (by decide +kernel) rfl
set_option maxRecDepth 20000 in
theorem lk_426 : (.methodLink R_Mo 194 y_Mo_readFile : Cond) ∈ lw_good := lw_at (i := 915) (by decide +kernel) rfl
set_option maxRecDepth 20000 in
theorem lk_427 : (.instanceMethod y_Mo_readFile : Cond) ∈ lw_good := lw_at (i := 917) (by decide +kernel) rfl
set_option maxRecDepth 20000 in
theorem lk_428 : (.selects y_Mo_readFile.cls y_Mo_readFile y_Mo_readFile : Cond) ∈ lw_good := lw_at (i := 35) (by decide +kernel) rfl
set_option maxRecDepth 20000 in
theorem lk_429 : (.methodLink R_Mo 174 y_Mo_show : Cond) ∈ lw_good := lw_at (i := 892) (by decide +kernel) rfl
set_option maxRecDepth 20000 in
theorem lk_430 : (.instanceMethod y_Mo_show : Cond) ∈ lw_good := lw_at (i := 894) (by decide +kernel) rfl
set_option maxRecDepth 20000 in
theorem lk_431 : (.selects y_Mo_show.cls y_Mo_show y_Mo_show : Cond) ∈ lw_good := lw_at (i := 30) (by decide +kernel) rfl
set_option maxRecDepth 20000 in
theorem lk_432 : (.methodLink R_Mo 197 y_Mo_beginLoop : Cond) ∈ lw_good := lw_at (i := 919) (by decide +kernel) rfl
set_option maxRecDepth 20000 in
theorem lk_433 : (.instanceMethod y_Mo_beginLoop : Cond) ∈ lw_good := lw_at (i := 921) (by decide +kernel) rfl
set_option maxRecDepth 20000 in
theorem lk_434 : (.selects y_Mo_beginLoop.cls y_Mo_beginLoop y_Mo_beginLoop : Cond) ∈ lw_good := lw_at (i := 36) (by decide +kernel) rfl
set_option maxRecDepth 20000 in
theorem lk_435 : (.methodLink R_Mo 200 y_Mo_endLoop : Cond) ∈ lw_good := lw_at (i := 927) (by decide +kernel) rfl
set_option maxRecDepth 20000 in
theorem lk_436 : (.instanceMethod y_Mo_endLoop : Cond) ∈ lw_good := lw_at (i := 929) (by decide +kernel) rfl
set_option maxRecDepth 20000 in
theorem lk_437 : (.selects y_Mo_endLoop.cls y_Mo_endLoop y_Mo_endLoop : Cond) ∈ lw_good := lw_at (i := 38) (by decide +kernel) rfl
set_option maxRecDepth 20000 in
theorem lk_438 : (.methodLink R_Mo 171 y_Mo_wants : Cond) ∈ lw_good := lw_at (i := 885) (by decide +kernel) rfl
set_option maxRecDepth 20000 in
theorem lk_439 : (.static y_Mo_wants : Cond) ∈ lw_good := lw_at (i := 886) (by decide +kernel) rfl
set_option maxRecDepth 20000 in
theorem lk_440 : (.fieldLink R_Mo 206 "MachineLoopModel" "steps" "I" : Cond) ∈ lw_good := lw_at (i := 686) (by decide +kernel) rfl
set_option maxRecDepth 20000 in
theorem lk_441 : (.methodLink R_Mo 209 y_Mo_act : Cond) ∈ lw_good := lw_at (i := 881) (by decide +kernel) rfl
set_option maxRecDepth 20000 in
theorem lk_442 : (.instanceMethod y_Mo_act : Cond) ∈ lw_good := lw_at (i := 883) (by decide +kernel) rfl
set_option maxRecDepth 20000 in
theorem lk_443 : (.selects y_Mo_act.cls y_Mo_act y_Mo_act : Cond) ∈ lw_good := lw_at (i := 28) (by decide +kernel) rfl
set_option maxRecDepth 20000 in
theorem lk_444 : (.methodLink R_Mo 212 y_Mo_runJob : Cond) ∈ lw_good := lw_at (i := 869) (by decide +kernel) rfl
set_option maxRecDepth 20000 in
theorem lk_445 : (.instanceMethod y_Mo_runJob : Cond) ∈ lw_good := lw_at (i := 871) (by decide +kernel) rfl
set_option maxRecDepth 20000 in
theorem lk_446 : (.selects y_Mo_runJob.cls y_Mo_runJob y_Mo_runJob : Cond) ∈ lw_good := lw_at (i := 25) (by decide +kernel) rfl
set_option maxRecDepth 20000 in
theorem lk_447 : (.lays "MachineLoop" "MachineLoop" "startsFail" "Z" : Cond) ∈ lw_good := lw_at (i := 259) (by decide +kernel) rfl
set_option maxRecDepth 20000 in
theorem lk_448 : (.lays "MachineLoop" "MachineLoop" "jobCount" "I" : Cond) ∈ lw_good := lw_at (i := 257) (by decide +kernel) rfl
set_option maxRecDepth 20000 in
theorem lk_449 : (.laysFinal "MachineLoop" "MachineLoop" "machine" "LMachineLoop$Machine;" : Cond) ∈ lw_good := lw_at (i := 255) (by decide +kernel) rfl
set_option maxRecDepth 20000 in
theorem lk_450 : (.laysFinal "MachineLoop" "MachineLoop" "jobs" "[LMachineLoop$Job;" : Cond) ∈ lw_good := lw_at (i := 253) (by decide +kernel) rfl
set_option maxRecDepth 20000 in
theorem lk_451 : (.lays "MachineLoop$Machine" "MachineLoop$Machine" "nextPlace" "I" : Cond) ∈ lw_good := lw_at (i := 246) (by decide +kernel) rfl
set_option maxRecDepth 20000 in
theorem lk_452 : (.lays "MachineLoop$Machine" "MachineLoop$Machine" "marks" "I" : Cond) ∈ lw_good := lw_at (i := 244) (by decide +kernel) rfl
set_option maxRecDepth 20000 in
theorem lk_453 : (.lays "MachineLoop$Machine" "MachineLoop$Machine" "loopCount" "I" : Cond) ∈ lw_good := lw_at (i := 242) (by decide +kernel) rfl
set_option maxRecDepth 20000 in
theorem lk_454 : (.laysFinal "MachineLoop$Machine" "MachineLoop$Machine" "timesLeft" "[I" : Cond) ∈ lw_good := lw_at (i := 240) (by decide +kernel) rfl
set_option maxRecDepth 20000 in
theorem lk_455 : (.laysFinal "MachineLoop$Machine" "MachineLoop$Machine" "plan" "LMachineLoop$Plan;" : Cond) ∈ lw_good := lw_at (i := 238) (by decide +kernel) rfl
set_option maxRecDepth 20000 in
theorem lk_456 : (.laysFinal "MachineLoop$Machine" "MachineLoop$Machine" "stack" "LMachineLoop$Numbers;" : Cond) ∈ lw_good := lw_at (i := 236) (by decide +kernel) rfl
set_option maxRecDepth 20000 in
theorem lk_457 : (.laysFinal "MachineLoop$Machine" "MachineLoop$Machine" "stepLimit" "I" : Cond) ∈ lw_good := lw_at (i := 234) (by decide +kernel) rfl
set_option maxRecDepth 20000 in
theorem lk_458 : (.laysFinal "MachineLoop$Machine" "MachineLoop$Machine" "files" "LMachineLoop$FileTree;" : Cond) ∈ lw_good := lw_at (i := 232) (by decide +kernel) rfl
set_option maxRecDepth 20000 in
theorem lk_459 : (.laysFinal "MachineLoop$Machine" "MachineLoop$Machine" "resources" "LMachineLoop$Resources;" : Cond) ∈ lw_good := lw_at (i := 230) (by decide +kernel) rfl
set_option maxRecDepth 20000 in
theorem lk_460 : (.laysFinal "MachineLoop$Machine" "MachineLoop$Machine" "device" "LMachineLoop$Device;" : Cond) ∈ lw_good := lw_at (i := 228) (by decide +kernel) rfl
set_option maxRecDepth 20000 in
theorem lk_461 : (.laysFinal "MachineLoop$Device" "MachineLoop$Device" "kept" "[I" : Cond) ∈ lw_good := lw_at (i := 81) (by decide +kernel) rfl
set_option maxRecDepth 20000 in
theorem lk_462 : (.laysFinal "MachineLoop$Device" "MachineLoop$Device" "settings" "[I" : Cond) ∈ lw_good := lw_at (i := 79) (by decide +kernel) rfl
set_option maxRecDepth 20000 in
theorem lk_463 : (.laysFinal "MachineLoop$Resources" "MachineLoop$Resources" "kept" "[I" : Cond) ∈ lw_good := lw_at (i := 95) (by decide +kernel) rfl
set_option maxRecDepth 20000 in
theorem lk_464 : (.laysFinal "MachineLoop$Resources" "MachineLoop$Resources" "values" "[I" : Cond) ∈ lw_good := lw_at (i := 93) (by decide +kernel) rfl
set_option maxRecDepth 20000 in
theorem lk_465 : (.laysFinal "MachineLoop$FileTree" "MachineLoop$FileTree" "handles" "[LMachineLoop$Handle;" : Cond) ∈ lw_good := lw_at (i := 173) (by decide +kernel) rfl
set_option maxRecDepth 20000 in
theorem lk_466 : (.laysFinal "MachineLoop$FileTree" "MachineLoop$FileTree" "output" "LMachineLoop$Store;" : Cond) ∈ lw_good := lw_at (i := 171) (by decide +kernel) rfl
set_option maxRecDepth 20000 in
theorem lk_467 : (.laysFinal "MachineLoop$FileTree" "MachineLoop$FileTree" "stores" "[LMachineLoop$Store;" : Cond) ∈ lw_good := lw_at (i := 169) (by decide +kernel) rfl
set_option maxRecDepth 20000 in
theorem lk_468 : (.lays "MachineLoop$Numbers" "MachineLoop$Numbers" "height" "I" : Cond) ∈ lw_good := lw_at (i := 193) (by decide +kernel) rfl
set_option maxRecDepth 20000 in
theorem lk_469 : (.laysFinal "MachineLoop$Numbers" "MachineLoop$Numbers" "numbers" "[I" : Cond) ∈ lw_good := lw_at (i := 191) (by decide +kernel) rfl
set_option maxRecDepth 20000 in
theorem lk_470 : (.lays "MachineLoop$Plan" "MachineLoop$Plan" "length" "I" : Cond) ∈ lw_good := lw_at (i := 212) (by decide +kernel) rfl
set_option maxRecDepth 20000 in
theorem lk_471 : (.laysFinal "MachineLoop$Plan" "MachineLoop$Plan" "openBraces" "[I" : Cond) ∈ lw_good := lw_at (i := 210) (by decide +kernel) rfl
set_option maxRecDepth 20000 in
theorem lk_472 : (.laysFinal "MachineLoop$Plan" "MachineLoop$Plan" "mates" "[I" : Cond) ∈ lw_good := lw_at (i := 208) (by decide +kernel) rfl
set_option maxRecDepth 20000 in
theorem lk_473 : (.laysFinal "MachineLoop$Plan" "MachineLoop$Plan" "doneFrom" "[I" : Cond) ∈ lw_good := lw_at (i := 206) (by decide +kernel) rfl
set_option maxRecDepth 20000 in
theorem lk_474 : (.lays "MachineLoop$Job" "MachineLoop$Job" "flushed" "I" : Cond) ∈ lw_good := lw_at (i := 306) (by decide +kernel) rfl
set_option maxRecDepth 20000 in
theorem lk_475 : (.lays "MachineLoop$Job" "MachineLoop$Job" "steps" "I" : Cond) ∈ lw_good := lw_at (i := 304) (by decide +kernel) rfl
set_option maxRecDepth 20000 in
theorem lk_476 : (.lays "MachineLoop$Job" "MachineLoop$Job" "errorPlace" "I" : Cond) ∈ lw_good := lw_at (i := 302) (by decide +kernel) rfl
set_option maxRecDepth 20000 in
theorem lk_477 : (.lays "MachineLoop$Job" "MachineLoop$Job" "error" "I" : Cond) ∈ lw_good := lw_at (i := 300) (by decide +kernel) rfl
set_option maxRecDepth 20000 in
theorem lk_478 : (.lays "MachineLoop$Job" "MachineLoop$Job" "outcome" "I" : Cond) ∈ lw_good := lw_at (i := 298) (by decide +kernel) rfl
set_option maxRecDepth 20000 in
theorem lk_479 : (.lays "MachineLoop$Job" "MachineLoop$Job" "pageCount" "I" : Cond) ∈ lw_good := lw_at (i := 296) (by decide +kernel) rfl
set_option maxRecDepth 20000 in
theorem lk_480 : (.lays "MachineLoop$Job" "MachineLoop$Job" "length" "I" : Cond) ∈ lw_good := lw_at (i := 294) (by decide +kernel) rfl
set_option maxRecDepth 20000 in
theorem lk_481 : (.laysFinal "MachineLoop$Job" "MachineLoop$Job" "pages" "[I" : Cond) ∈ lw_good := lw_at (i := 292) (by decide +kernel) rfl
set_option maxRecDepth 20000 in
theorem lk_482 : (.laysFinal "MachineLoop$Job" "MachineLoop$Job" "signs" "[B" : Cond) ∈ lw_good := lw_at (i := 290) (by decide +kernel) rfl
set_option maxRecDepth 20000 in
theorem lk_483 : (.lays "MachineLoop$Store" "MachineLoop$Store" "isThere" "Z" : Cond) ∈ lw_good := lw_at (i := 122) (by decide +kernel) rfl
set_option maxRecDepth 20000 in
theorem lk_484 : (.lays "MachineLoop$Store" "MachineLoop$Store" "size" "I" : Cond) ∈ lw_good := lw_at (i := 120) (by decide +kernel) rfl
set_option maxRecDepth 20000 in
theorem lk_485 : (.laysFinal "MachineLoop$Store" "MachineLoop$Store" "bytes" "[B" : Cond) ∈ lw_good := lw_at (i := 118) (by decide +kernel) rfl
set_option maxRecDepth 20000 in
theorem lk_486 : (.lays "MachineLoop$Handle" "MachineLoop$Handle" "isOfJob" "Z" : Cond) ∈ lw_good := lw_at (i := 158) (by decide +kernel) rfl
set_option maxRecDepth 20000 in
theorem lk_487 : (.lays "MachineLoop$Handle" "MachineLoop$Handle" "mode" "I" : Cond) ∈ lw_good := lw_at (i := 156) (by decide +kernel) rfl
set_option maxRecDepth 20000 in
theorem lk_488 : (.lays "MachineLoop$Handle" "MachineLoop$Handle" "store" "LMachineLoop$Store;" : Cond) ∈ lw_good := lw_at (i := 154) (by decide +kernel) rfl
set_option maxRecDepth 20000 in
theorem lk_489 : (.lays "MachineLoop$Handle" "MachineLoop$Handle" "place" "I" : Cond) ∈ lw_good := lw_at (i := 152) (by decide +kernel) rfl
set_option maxRecDepth 20000 in
theorem lk_490 : (.lays "MachineLoop$Handle" "MachineLoop$Handle" "keptFilterCount" "I" : Cond) ∈ lw_good := lw_at (i := 150) (by decide +kernel) rfl
set_option maxRecDepth 20000 in
theorem lk_491 : (.lays "MachineLoop$Handle" "MachineLoop$Handle" "filterCount" "I" : Cond) ∈ lw_good := lw_at (i := 148) (by decide +kernel) rfl
set_option maxRecDepth 20000 in
theorem lk_492 : (.laysFinal "MachineLoop$Handle" "MachineLoop$Handle" "filters" "[I" : Cond) ∈ lw_good := lw_at (i := 146) (by decide +kernel) rfl
set_option maxRecDepth 20000 in
theorem lk_493 : (.lays "MachineLoopModel" "MachineLoopModel" "done" "Z" : Cond) ∈ lw_good := lw_at (i := 768) (by decide +kernel) rfl
set_option maxRecDepth 20000 in
theorem lk_494 : (.lays "MachineLoopModel" "MachineLoopModel" "error" "I" : Cond) ∈ lw_good := lw_at (i := 766) (by decide +kernel) rfl
set_option maxRecDepth 20000 in
theorem lk_495 : (.laysFinal "MachineLoopModel" "MachineLoopModel" "left" "[I" : Cond) ∈ lw_good := lw_at (i := 764) (by decide +kernel) rfl
set_option maxRecDepth 20000 in
theorem lk_496 : (.laysFinal "MachineLoopModel" "MachineLoopModel" "begin" "[I" : Cond) ∈ lw_good := lw_at (i := 762) (by decide +kernel) rfl
set_option maxRecDepth 20000 in
theorem lk_497 : (.lays "MachineLoopModel" "MachineLoopModel" "loops" "I" : Cond) ∈ lw_good := lw_at (i := 760) (by decide +kernel) rfl
set_option maxRecDepth 20000 in
theorem lk_498 : (.lays "MachineLoopModel" "MachineLoopModel" "shown" "I" : Cond) ∈ lw_good := lw_at (i := 758) (by decide +kernel) rfl
set_option maxRecDepth 20000 in
theorem lk_499 : (.lays "MachineLoopModel" "MachineLoopModel" "marks" "I" : Cond) ∈ lw_good := lw_at (i := 756) (by decide +kernel) rfl
set_option maxRecDepth 20000 in
theorem lk_500 : (.laysFinal "MachineLoopModel" "MachineLoopModel" "stack" "[I" : Cond) ∈ lw_good := lw_at (i := 754) (by decide +kernel) rfl
set_option maxRecDepth 20000 in
theorem lk_501 : (.lays "MachineLoopModel" "MachineLoopModel" "high" "I" : Cond) ∈ lw_good := lw_at (i := 752) (by decide +kernel) rfl
set_option maxRecDepth 20000 in
theorem lk_502 : (.lays "MachineLoopModel" "MachineLoopModel" "steps" "I" : Cond) ∈ lw_good := lw_at (i := 750) (by decide +kernel) rfl
set_option maxRecDepth 20000 in
theorem lk_503 : (.lays "MachineLoopModel" "MachineLoopModel" "at" "I" : Cond) ∈ lw_good := lw_at (i := 748) (by decide +kernel) rfl
set_option maxRecDepth 20000 in
theorem lk_504 : (.lays "MachineLoopModel" "MachineLoopModel" "job" "I" : Cond) ∈ lw_good := lw_at (i := 746) (by decide +kernel) rfl
set_option maxRecDepth 20000 in
theorem lk_505 : (.lays "MachineLoopModel" "MachineLoopModel" "fails" "Z" : Cond) ∈ lw_good := lw_at (i := 744) (by decide +kernel) rfl
set_option maxRecDepth 20000 in
theorem lk_506 : (.laysFinal "MachineLoopModel" "MachineLoopModel" "own" "[Z" : Cond) ∈ lw_good := lw_at (i := 742) (by decide +kernel) rfl
set_option maxRecDepth 20000 in
theorem lk_507 : (.laysFinal "MachineLoopModel" "MachineLoopModel" "filtersWas" "[I" : Cond) ∈ lw_good := lw_at (i := 740) (by decide +kernel) rfl
set_option maxRecDepth 20000 in
theorem lk_508 : (.laysFinal "MachineLoopModel" "MachineLoopModel" "filter" "[I" : Cond) ∈ lw_good := lw_at (i := 738) (by decide +kernel) rfl
set_option maxRecDepth 20000 in
theorem lk_509 : (.laysFinal "MachineLoopModel" "MachineLoopModel" "filters" "[I" : Cond) ∈ lw_good := lw_at (i := 736) (by decide +kernel) rfl
set_option maxRecDepth 20000 in
theorem lk_510 : (.laysFinal "MachineLoopModel" "MachineLoopModel" "place" "[I" : Cond) ∈ lw_good := lw_at (i := 734) (by decide +kernel) rfl
set_option maxRecDepth 20000 in
theorem lk_511 : (.laysFinal "MachineLoopModel" "MachineLoopModel" "mode" "[I" : Cond) ∈ lw_good := lw_at (i := 732) (by decide +kernel) rfl
set_option maxRecDepth 20000 in
theorem lk_512 : (.laysFinal "MachineLoopModel" "MachineLoopModel" "name" "[I" : Cond) ∈ lw_good := lw_at (i := 730) (by decide +kernel) rfl
set_option maxRecDepth 20000 in
theorem lk_513 : (.laysFinal "MachineLoopModel" "MachineLoopModel" "open" "[Z" : Cond) ∈ lw_good := lw_at (i := 728) (by decide +kernel) rfl
set_option maxRecDepth 20000 in
theorem lk_514 : (.lays "MachineLoopModel" "MachineLoopModel" "outSize" "I" : Cond) ∈ lw_good := lw_at (i := 726) (by decide +kernel) rfl
set_option maxRecDepth 20000 in
theorem lk_515 : (.laysFinal "MachineLoopModel" "MachineLoopModel" "out" "[B" : Cond) ∈ lw_good := lw_at (i := 724) (by decide +kernel) rfl
set_option maxRecDepth 20000 in
theorem lk_516 : (.laysFinal "MachineLoopModel" "MachineLoopModel" "lies" "[B" : Cond) ∈ lw_good := lw_at (i := 722) (by decide +kernel) rfl
set_option maxRecDepth 20000 in
theorem lk_517 : (.laysFinal "MachineLoopModel" "MachineLoopModel" "length" "[I" : Cond) ∈ lw_good := lw_at (i := 720) (by decide +kernel) rfl
set_option maxRecDepth 20000 in
theorem lk_518 : (.laysFinal "MachineLoopModel" "MachineLoopModel" "there" "[Z" : Cond) ∈ lw_good := lw_at (i := 718) (by decide +kernel) rfl
set_option maxRecDepth 20000 in
theorem lk_519 : (.laysFinal "MachineLoopModel" "MachineLoopModel" "resourceWas" "[I" : Cond) ∈ lw_good := lw_at (i := 716) (by decide +kernel) rfl
set_option maxRecDepth 20000 in
theorem lk_520 : (.laysFinal "MachineLoopModel" "MachineLoopModel" "settingWas" "[I" : Cond) ∈ lw_good := lw_at (i := 714) (by decide +kernel) rfl
set_option maxRecDepth 20000 in
theorem lk_521 : (.laysFinal "MachineLoopModel" "MachineLoopModel" "resource" "[I" : Cond) ∈ lw_good := lw_at (i := 712) (by decide +kernel) rfl
set_option maxRecDepth 20000 in
theorem lk_522 : (.laysFinal "MachineLoopModel" "MachineLoopModel" "setting" "[I" : Cond) ∈ lw_good := lw_at (i := 710) (by decide +kernel) rfl
set_option maxRecDepth 20000 in
theorem lk_523 : (.laysFinal "MachineLoopModel" "MachineLoopModel" "pages" "[I" : Cond) ∈ lw_good := lw_at (i := 708) (by decide +kernel) rfl
set_option maxRecDepth 20000 in
theorem lk_524 : (.laysFinal "MachineLoopModel" "MachineLoopModel" "told" "[I" : Cond) ∈ lw_good := lw_at (i := 706) (by decide +kernel) rfl
set_option maxRecDepth 20000 in
theorem lk_525 : (.laysFinal "MachineLoopModel" "MachineLoopModel" "size" "[I" : Cond) ∈ lw_good := lw_at (i := 704) (by decide +kernel) rfl
set_option maxRecDepth 20000 in
theorem lk_526 : (.laysFinal "MachineLoopModel" "MachineLoopModel" "signs" "[B" : Cond) ∈ lw_good := lw_at (i := 702) (by decide +kernel) rfl
set_option maxRecDepth 20000 in
theorem lk_527 : (.lays "MachineLoopModel" "MachineLoopModel" "jobs" "I" : Cond) ∈ lw_good := lw_at (i := 700) (by decide +kernel) rfl
set_option maxRecDepth 20000 in
theorem lk_528 : (.laysFinal "MachineLoopModel" "MachineLoopModel" "most" "I" : Cond) ∈ lw_good := lw_at (i := 698) (by decide +kernel) rfl
set_option maxRecDepth 20000 in
theorem lk_529 : (.lays "MachineLoopModel" "MachineLoopModel" "code" "I" : Cond) ∈ lw_good := lw_at (i := 696) (by decide +kernel) rfl
set_option maxRecDepth 20000 in
theorem lk_530 : (.code y_Device_init b_Device_init 2 none : Cond) ∈ lw_good := lw_at (i := 73) rfl rfl
set_option maxRecDepth 20000 in
theorem lk_531 : (.initialized "MachineLoop$Device" : Cond) ∈ lw_good := lw_at (i := 42) (by decide +kernel) rfl
set_option maxRecDepth 20000 in
theorem lk_532 : (.code y_Resources_init b_Resources_init 2 none : Cond) ∈ lw_good := lw_at (i := 89) rfl rfl
set_option maxRecDepth 20000 in
theorem lk_533 : (.initialized "MachineLoop$Resources" : Cond) ∈ lw_good := lw_at (i := 43) (by decide +kernel) rfl
set_option maxRecDepth 20000 in
theorem lk_534 : (.code y_Store_init b_Store_init 2 none : Cond) ∈ lw_good := lw_at (i := 109) rfl rfl
set_option maxRecDepth 20000 in
theorem lk_535 : (.initialized "MachineLoop$Store" : Cond) ∈ lw_good := lw_at (i := 45) (by decide +kernel) rfl
set_option maxRecDepth 20000 in
theorem lk_536 : (.code y_Handle_detach b_Handle_detach 1 none : Cond) ∈ lw_good := lw_at (i := 135) rfl rfl
set_option maxRecDepth 20000 in
theorem lk_537 : (.initialized "MachineLoop$Handle" : Cond) ∈ lw_good := lw_at (i := 47) (by decide +kernel) rfl
set_option maxRecDepth 20000 in
theorem lk_538 : (.code y_Handle_init b_Handle_init 1 none : Cond) ∈ lw_good := lw_at (i := 130) rfl rfl
set_option maxRecDepth 20000 in
theorem lk_539 : (.code y_Handle_attach b_Handle_attach 4 none : Cond) ∈ lw_good := lw_at (i := 164) rfl rfl
set_option maxRecDepth 20000 in
theorem lk_540 : (.code y_FileTree_init b_FileTree_init 3 none : Cond) ∈ lw_good := lw_at (i := 102) rfl rfl
set_option maxRecDepth 20000 in
theorem lk_541 : (.initialized "MachineLoop$FileTree" : Cond) ∈ lw_good := lw_at (i := 44) (by decide +kernel) rfl
set_option maxRecDepth 20000 in
theorem lk_542 : (.code y_Numbers_init b_Numbers_init 1 none : Cond) ∈ lw_good := lw_at (i := 187) rfl rfl
set_option maxRecDepth 20000 in
theorem lk_543 : (.initialized "MachineLoop$Numbers" : Cond) ∈ lw_good := lw_at (i := 48) (by decide +kernel) rfl
set_option maxRecDepth 20000 in
theorem lk_544 : (.code y_Plan_init b_Plan_init 1 none : Cond) ∈ lw_good := lw_at (i := 200) rfl rfl
set_option maxRecDepth 20000 in
theorem lk_545 : (.initialized "MachineLoop$Plan" : Cond) ∈ lw_good := lw_at (i := 49) (by decide +kernel) rfl
set_option maxRecDepth 20000 in
theorem lk_546 : (.code y_Machine_init b_Machine_init 3 none : Cond) ∈ lw_good := lw_at (i := 67) rfl rfl
set_option maxRecDepth 20000 in
theorem lk_547 : (.initialized "MachineLoop$Machine" : Cond) ∈ lw_good := lw_at (i := 41) (by decide +kernel) rfl
set_option maxRecDepth 20000 in
theorem lk_548 : (.code y_ML_init b_ML_init 3 none : Cond) ∈ lw_good := lw_at (i := 57) rfl rfl
set_option maxRecDepth 20000 in
theorem lk_549 : (.initialized "MachineLoop" : Cond) ∈ lw_good := lw_at (i := 40) (by decide +kernel) rfl
set_option maxRecDepth 20000 in
theorem lk_550 : (.code y_Job_init b_Job_init 1 none : Cond) ∈ lw_good := lw_at (i := 269) rfl rfl
set_option maxRecDepth 20000 in
theorem lk_551 : (.initialized "MachineLoop$Job" : Cond) ∈ lw_good := lw_at (i := 51) (by decide +kernel) rfl
set_option maxRecDepth 20000 in
theorem lk_552 : (.code y_ML_job b_ML_job 1 (some .int) : Cond) ∈ lw_good := lw_at (i := 265) rfl rfl
set_option maxRecDepth 20000 in
theorem lk_553 : (.code y_ML_jobOrNull b_ML_jobOrNull 2 (some (.object "MachineLoop$Job")) : Cond) ∈ lw_good := lw_at (i := 316) rfl rfl
set_option maxRecDepth 20000 in
theorem lk_554 : (.code y_Job_append b_Job_append 2 (some .int) : Cond) ∈ lw_good := lw_at (i := 320) rfl rfl
set_option maxRecDepth 20000 in
theorem lk_555 : (.code y_ML_add b_ML_add 4 (some .int) : Cond) ∈ lw_good := lw_at (i := 312) rfl rfl
set_option maxRecDepth 20000 in
theorem lk_556 : (.code y_Device_keep b_Device_keep 1 none : Cond) ∈ lw_good := lw_at (i := 336) rfl rfl
set_option maxRecDepth 20000 in
theorem lk_557 : (.code y_Resources_keep b_Resources_keep 1 none : Cond) ∈ lw_good := lw_at (i := 343) rfl rfl
set_option maxRecDepth 20000 in
theorem lk_558 : (.code y_FileTree_handleOrNull b_FileTree_handleOrNull 2 (some (.object "MachineLoop$Handle")) : Cond) ∈ lw_good := lw_at (i := 352) rfl rfl
set_option maxRecDepth 20000 in
theorem lk_559 : (.code y_Handle_keepFilters b_Handle_keepFilters 1 none : Cond) ∈ lw_good := lw_at (i := 356) rfl rfl
set_option maxRecDepth 20000 in
theorem lk_560 : (.code y_FileTree_keep b_FileTree_keep 3 none : Cond) ∈ lw_good := lw_at (i := 348) rfl rfl
set_option maxRecDepth 20000 in
theorem lk_561 : (.code y_Job_signAt b_Job_signAt 2 (some .int) : Cond) ∈ lw_good := lw_at (i := 371) rfl rfl
set_option maxRecDepth 20000 in
theorem lk_562 : (.code y_Plan_findDoneSigns b_Plan_findDoneSigns 5 none : Cond) ∈ lw_good := lw_at (i := 367) rfl rfl
set_option maxRecDepth 20000 in
theorem lk_563 : (.code y_Plan_findMates b_Plan_findMates 5 none : Cond) ∈ lw_good := lw_at (i := 375) rfl rfl
set_option maxRecDepth 20000 in
theorem lk_564 : (.code y_Plan_prepare b_Plan_prepare 2 none : Cond) ∈ lw_good := lw_at (i := 360) rfl rfl
set_option maxRecDepth 20000 in
theorem lk_565 : (.code y_Numbers_clear b_Numbers_clear 1 none : Cond) ∈ lw_good := lw_at (i := 379) rfl rfl
set_option maxRecDepth 20000 in
theorem lk_566 : (.code y_Plan_firstDoneFrom b_Plan_firstDoneFrom 2 (some .int) : Cond) ∈ lw_good := lw_at (i := 383) rfl rfl
set_option maxRecDepth 20000 in
theorem lk_567 : (.code y_Machine_begin b_Machine_begin 2 none : Cond) ∈ lw_good := lw_at (i := 332) rfl rfl
set_option maxRecDepth 20000 in
theorem lk_568 : (.code y_Numbers_lay b_Numbers_lay 2 (some .int) : Cond) ∈ lw_good := lw_at (i := 392) rfl rfl
set_option maxRecDepth 20000 in
theorem lk_569 : (.code y_Machine_numbersWanted b_Machine_numbersWanted 1 (some .int) : Cond) ∈ lw_good := lw_at (i := 395) rfl rfl
set_option maxRecDepth 20000 in
theorem lk_570 : (.code y_Numbers_has b_Numbers_has 2 (some .boolean) : Cond) ∈ lw_good := lw_at (i := 399) rfl rfl
set_option maxRecDepth 20000 in
theorem lk_571 : (.code y_Numbers_take b_Numbers_take 1 (some .int) : Cond) ∈ lw_good := lw_at (i := 403) rfl rfl
set_option maxRecDepth 20000 in
theorem lk_572 : (.code y_Plan_mateOf b_Plan_mateOf 2 (some .int) : Cond) ∈ lw_good := lw_at (i := 411) rfl rfl
set_option maxRecDepth 20000 in
theorem lk_573 : (.code y_Machine_enterLoop b_Machine_enterLoop 4 (some .int) : Cond) ∈ lw_good := lw_at (i := 407) rfl rfl
set_option maxRecDepth 20000 in
theorem lk_574 : (.code y_Machine_comeToLoopEnd b_Machine_comeToLoopEnd 3 (some .int) : Cond) ∈ lw_good := lw_at (i := 415) rfl rfl
set_option maxRecDepth 20000 in
theorem lk_575 : (.code y_Device_copies b_Device_copies 1 (some .int) : Cond) ∈ lw_good := lw_at (i := 423) rfl rfl
set_option maxRecDepth 20000 in
theorem lk_576 : (.code y_Job_show b_Job_show 4 (some .boolean) : Cond) ∈ lw_good := lw_at (i := 427) rfl rfl
set_option maxRecDepth 20000 in
theorem lk_577 : (.code y_Machine_showPage b_Machine_showPage 2 (some .int) : Cond) ∈ lw_good := lw_at (i := 419) rfl rfl
set_option maxRecDepth 20000 in
theorem lk_578 : (.code y_Device_change b_Device_change 3 (some .boolean) : Cond) ∈ lw_good := lw_at (i := 435) rfl rfl
set_option maxRecDepth 20000 in
theorem lk_579 : (.code y_Device_passesOverWrongRequests b_Device_passesOverWrongRequests 1 (some .boolean) : Cond) ∈ lw_good := lw_at (i := 443) rfl rfl
set_option maxRecDepth 20000 in
theorem lk_580 : (.code y_Machine_request b_Machine_request 4 (some .int) : Cond) ∈ lw_good := lw_at (i := 431) rfl rfl
set_option maxRecDepth 20000 in
theorem lk_581 : (.code y_Resources_slotOf b_Resources_slotOf 2 (some .int) : Cond) ∈ lw_good := lw_at (i := 450) rfl rfl
set_option maxRecDepth 20000 in
theorem lk_582 : (.code y_Resources_valueAt b_Resources_valueAt 4 (some .int) : Cond) ∈ lw_good := lw_at (i := 447) rfl rfl
set_option maxRecDepth 20000 in
theorem lk_583 : (.code y_Machine_layUnlessRefused b_Machine_layUnlessRefused 3 (some .int) : Cond) ∈ lw_good := lw_at (i := 454) rfl rfl
set_option maxRecDepth 20000 in
theorem lk_584 : (.code y_Resources_put b_Resources_put 5 (some .int) : Cond) ∈ lw_good := lw_at (i := 458) rfl rfl
set_option maxRecDepth 20000 in
theorem lk_585 : (.code y_Machine_errorIfRefused b_Machine_errorIfRefused 2 (some .int) : Cond) ∈ lw_good := lw_at (i := 461) rfl rfl
set_option maxRecDepth 20000 in
theorem lk_586 : (.code y_FileTree_storeOrNull b_FileTree_storeOrNull 2 (some (.object "MachineLoop$Store")) : Cond) ∈ lw_good := lw_at (i := 473) rfl rfl
set_option maxRecDepth 20000 in
theorem lk_587 : (.code y_FileTree_openOrNull b_FileTree_openOrNull 3 (some (.object "MachineLoop$Handle")) : Cond) ∈ lw_good := lw_at (i := 481) rfl rfl
set_option maxRecDepth 20000 in
theorem lk_588 : (.code y_FileTree_isHeldAgainst b_FileTree_isHeldAgainst 5 (some .boolean) : Cond) ∈ lw_good := lw_at (i := 477) rfl rfl
set_option maxRecDepth 20000 in
theorem lk_589 : (.code y_FileTree_freeHandle b_FileTree_freeHandle 2 (some .int) : Cond) ∈ lw_good := lw_at (i := 485) rfl rfl
set_option maxRecDepth 20000 in
theorem lk_590 : (.code y_Store_makeEmpty b_Store_makeEmpty 1 none : Cond) ∈ lw_good := lw_at (i := 489) rfl rfl
set_option maxRecDepth 20000 in
theorem lk_591 : (.code y_FileTree_open b_FileTree_open 7 (some .int) : Cond) ∈ lw_good := lw_at (i := 469) rfl rfl
set_option maxRecDepth 20000 in
theorem lk_592 : (.code y_FileTree_shut b_FileTree_shut 3 (some .int) : Cond) ∈ lw_good := lw_at (i := 497) rfl rfl
set_option maxRecDepth 20000 in
theorem lk_593 : (.code y_FileTree_shutByJob b_FileTree_shutByJob 3 (some .int) : Cond) ∈ lw_good := lw_at (i := 493) rfl rfl
set_option maxRecDepth 20000 in
theorem lk_594 : (.code y_Store_isFull b_Store_isFull 1 (some .boolean) : Cond) ∈ lw_good := lw_at (i := 506) rfl rfl
set_option maxRecDepth 20000 in
theorem lk_595 : (.code y_Handle_throughFilter b_Handle_throughFilter 3 (some .int) : Cond) ∈ lw_good := lw_at (i := 513) rfl rfl
set_option maxRecDepth 20000 in
theorem lk_596 : (.code y_Handle_asWritten b_Handle_asWritten 4 (some .int) : Cond) ∈ lw_good := lw_at (i := 510) rfl rfl
set_option maxRecDepth 20000 in
theorem lk_597 : (.code y_Store_append b_Store_append 2 none : Cond) ∈ lw_good := lw_at (i := 517) rfl rfl
set_option maxRecDepth 20000 in
theorem lk_598 : (.code y_FileTree_put b_FileTree_put 4 (some .int) : Cond) ∈ lw_good := lw_at (i := 502) rfl rfl
set_option maxRecDepth 20000 in
theorem lk_599 : (.code y_Handle_layFilter b_Handle_layFilter 2 (some .int) : Cond) ∈ lw_good := lw_at (i := 526) rfl rfl
set_option maxRecDepth 20000 in
theorem lk_600 : (.code y_FileTree_putFilter b_FileTree_putFilter 4 (some .int) : Cond) ∈ lw_good := lw_at (i := 522) rfl rfl
set_option maxRecDepth 20000 in
theorem lk_601 : (.code y_Store_byteAt b_Store_byteAt 2 (some .int) : Cond) ∈ lw_good := lw_at (i := 538) rfl rfl
set_option maxRecDepth 20000 in
theorem lk_602 : (.code y_Handle_nextByte b_Handle_nextByte 4 (some .int) : Cond) ∈ lw_good := lw_at (i := 534) rfl rfl
set_option maxRecDepth 20000 in
theorem lk_603 : (.code y_FileTree_take b_FileTree_take 3 (some .int) : Cond) ∈ lw_good := lw_at (i := 530) rfl rfl
set_option maxRecDepth 20000 in
theorem lk_604 : (.code y_Machine_layByte b_Machine_layByte 2 (some .int) : Cond) ∈ lw_good := lw_at (i := 542) rfl rfl
set_option maxRecDepth 20000 in
theorem lk_605 : (.code y_Machine_doFileSign b_Machine_doFileSign 4 (some .int) : Cond) ∈ lw_good := lw_at (i := 465) rfl rfl
set_option maxRecDepth 20000 in
theorem lk_606 : (.code y_Numbers_layTwo b_Numbers_layTwo 4 (some .int) : Cond) ∈ lw_good := lw_at (i := 550) rfl rfl
set_option maxRecDepth 20000 in
theorem lk_607 : (.code y_Machine_doStackSign b_Machine_doStackSign 4 (some .int) : Cond) ∈ lw_good := lw_at (i := 546) rfl rfl
set_option maxRecDepth 20000 in
theorem lk_608 : (.code y_Machine_doSign b_Machine_doSign 8 (some .int) : Cond) ∈ lw_good := lw_at (i := 388) rfl rfl
set_option maxRecDepth 20000 in
theorem lk_609 : (.code y_Job_fail b_Job_fail 3 none : Cond) ∈ lw_good := lw_at (i := 555) rfl rfl
set_option maxRecDepth 20000 in
theorem lk_610 : (.code y_Device_putBack b_Device_putBack 1 none : Cond) ∈ lw_good := lw_at (i := 563) rfl rfl
set_option maxRecDepth 20000 in
theorem lk_611 : (.code y_Resources_putBack b_Resources_putBack 1 none : Cond) ∈ lw_good := lw_at (i := 567) rfl rfl
set_option maxRecDepth 20000 in
theorem lk_612 : (.code y_Handle_putBackFilters b_Handle_putBackFilters 1 none : Cond) ∈ lw_good := lw_at (i := 575) rfl rfl
set_option maxRecDepth 20000 in
theorem lk_613 : (.code y_FileTree_putBack b_FileTree_putBack 3 none : Cond) ∈ lw_good := lw_at (i := 571) rfl rfl
set_option maxRecDepth 20000 in
theorem lk_614 : (.code y_Machine_finish b_Machine_finish 1 none : Cond) ∈ lw_good := lw_at (i := 559) rfl rfl
set_option maxRecDepth 20000 in
theorem lk_615 : (.code y_Machine_execute b_Machine_execute 5 none : Cond) ∈ lw_good := lw_at (i := 328) rfl rfl
set_option maxRecDepth 20000 in
theorem lk_616 : (.code y_ML_run b_ML_run 4 (some .int) : Cond) ∈ lw_good := lw_at (i := 324) rfl rfl
set_option maxRecDepth 20000 in
theorem lk_617 : (.code y_ML_ended b_ML_ended 4 (some .int) : Cond) ∈ lw_good := lw_at (i := 579) rfl rfl
set_option maxRecDepth 20000 in
theorem lk_618 : (.code y_Job_marksOf b_Job_marksOf 2 (some .int) : Cond) ∈ lw_good := lw_at (i := 587) rfl rfl
set_option maxRecDepth 20000 in
theorem lk_619 : (.code y_ML_page b_ML_page 4 (some .int) : Cond) ∈ lw_good := lw_at (i := 583) rfl rfl
set_option maxRecDepth 20000 in
theorem lk_620 : (.code y_ML_device b_ML_device 3 (some .int) : Cond) ∈ lw_good := lw_at (i := 591) rfl rfl
set_option maxRecDepth 20000 in
theorem lk_621 : (.code y_ML_define b_ML_define 4 (some .int) : Cond) ∈ lw_good := lw_at (i := 596) rfl rfl
set_option maxRecDepth 20000 in
theorem lk_622 : (.code y_ML_resource b_ML_resource 3 (some .int) : Cond) ∈ lw_good := lw_at (i := 601) rfl rfl
set_option maxRecDepth 20000 in
theorem lk_623 : (.code y_ML_file b_ML_file 3 (some .int) : Cond) ∈ lw_good := lw_at (i := 606) rfl rfl
set_option maxRecDepth 20000 in
theorem lk_624 : (.code y_ML_write b_ML_write 3 (some .int) : Cond) ∈ lw_good := lw_at (i := 611) rfl rfl
set_option maxRecDepth 20000 in
theorem lk_625 : (.code y_ML_read b_ML_read 2 (some .int) : Cond) ∈ lw_good := lw_at (i := 616) rfl rfl
set_option maxRecDepth 20000 in
theorem lk_626 : (.code y_ML_filter b_ML_filter 3 (some .int) : Cond) ∈ lw_good := lw_at (i := 621) rfl rfl
set_option maxRecDepth 20000 in
theorem lk_627 : (.code y_ML_close b_ML_close 2 (some .int) : Cond) ∈ lw_good := lw_at (i := 626) rfl rfl
set_option maxRecDepth 20000 in
theorem lk_628 : (.code y_ML_startFails b_ML_startFails 3 (some .boolean) : Cond) ∈ lw_good := lw_at (i := 631) rfl rfl
set_option maxRecDepth 20000 in
theorem lk_629 : (.code y_FileTree_outputByte b_FileTree_outputByte 2 (some .int) : Cond) ∈ lw_good := lw_at (i := 639) rfl rfl
set_option maxRecDepth 20000 in
theorem lk_630 : (.code y_ML_output b_ML_output 2 (some .int) : Cond) ∈ lw_good := lw_at (i := 635) rfl rfl
set_option maxRecDepth 20000 in
theorem lk_631 : (.code y_FileTree_fileByte b_FileTree_fileByte 4 (some .int) : Cond) ∈ lw_good := lw_at (i := 648) rfl rfl
set_option maxRecDepth 20000 in
theorem lk_632 : (.code y_ML_lies b_ML_lies 3 (some .int) : Cond) ∈ lw_good := lw_at (i := 644) rfl rfl
set_option maxRecDepth 20000 in
theorem lk_633 : (.code y_Mo_init b_Mo_init 4 none : Cond) ∈ lw_good := lw_at (i := 656) rfl rfl
set_option maxRecDepth 20000 in
theorem lk_634 : (.initialized "MachineLoopModel" : Cond) ∈ lw_good := lw_at (i := 50) (by decide +kernel) rfl
set_option maxRecDepth 20000 in
theorem lk_635 : (.code y_Mo_in b_Mo_in 3 (some .boolean) : Cond) ∈ lw_good := lw_at (i := 790) rfl rfl
set_option maxRecDepth 20000 in
theorem lk_636 : (.code y_Mo_job b_Mo_job 1 (some .int) : Cond) ∈ lw_good := lw_at (i := 775) rfl rfl
set_option maxRecDepth 20000 in
theorem lk_637 : (.code y_Mo_noJob b_Mo_noJob 2 (some .boolean) : Cond) ∈ lw_good := lw_at (i := 783) rfl rfl
set_option maxRecDepth 20000 in
theorem lk_638 : (.code y_Mo_add b_Mo_add 3 (some .int) : Cond) ∈ lw_good := lw_at (i := 779) rfl rfl
set_option maxRecDepth 20000 in
theorem lk_639 : (.code y_Mo_ended b_Mo_ended 3 (some .int) : Cond) ∈ lw_good := lw_at (i := 787) rfl rfl
set_option maxRecDepth 20000 in
theorem lk_640 : (.code y_Mo_page b_Mo_page 3 (some .int) : Cond) ∈ lw_good := lw_at (i := 794) rfl rfl
set_option maxRecDepth 20000 in
theorem lk_641 : (.code y_Mo_isSetting b_Mo_isSetting 2 (some .boolean) : Cond) ∈ lw_good := lw_at (i := 801) rfl rfl
set_option maxRecDepth 20000 in
theorem lk_642 : (.code y_Mo_device b_Mo_device 3 (some .int) : Cond) ∈ lw_good := lw_at (i := 798) rfl rfl
set_option maxRecDepth 20000 in
theorem lk_643 : (.code y_Mo_define b_Mo_define 4 (some .int) : Cond) ∈ lw_good := lw_at (i := 805) rfl rfl
set_option maxRecDepth 20000 in
theorem lk_644 : (.code y_Mo_resource b_Mo_resource 3 (some .int) : Cond) ∈ lw_good := lw_at (i := 809) rfl rfl
set_option maxRecDepth 20000 in
theorem lk_645 : (.code y_Mo_opened b_Mo_opened 6 (some .int) : Cond) ∈ lw_good := lw_at (i := 817) rfl rfl
set_option maxRecDepth 20000 in
theorem lk_646 : (.code y_Mo_isOpen b_Mo_isOpen 2 (some .boolean) : Cond) ∈ lw_good := lw_at (i := 829) rfl rfl
set_option maxRecDepth 20000 in
theorem lk_647 : (.code y_Mo_half b_Mo_half 1 (some .int) : Cond) ∈ lw_good := lw_at (i := 832) rfl rfl
set_option maxRecDepth 20000 in
theorem lk_648 : (.code y_Mo_written b_Mo_written 6 (some .int) : Cond) ∈ lw_good := lw_at (i := 825) rfl rfl
set_option maxRecDepth 20000 in
theorem lk_649 : (.code y_Mo_taken b_Mo_taken 5 (some .int) : Cond) ∈ lw_good := lw_at (i := 840) rfl rfl
set_option maxRecDepth 20000 in
theorem lk_650 : (.code y_Mo_filtered b_Mo_filtered 3 (some .int) : Cond) ∈ lw_good := lw_at (i := 848) rfl rfl
set_option maxRecDepth 20000 in
theorem lk_651 : (.code y_Mo_file b_Mo_file 3 (some .int) : Cond) ∈ lw_good := lw_at (i := 813) rfl rfl
set_option maxRecDepth 20000 in
theorem lk_652 : (.code y_Mo_write b_Mo_write 3 (some .int) : Cond) ∈ lw_good := lw_at (i := 821) rfl rfl
set_option maxRecDepth 20000 in
theorem lk_653 : (.code y_Mo_read b_Mo_read 2 (some .int) : Cond) ∈ lw_good := lw_at (i := 836) rfl rfl
set_option maxRecDepth 20000 in
theorem lk_654 : (.code y_Mo_filter b_Mo_filter 3 (some .int) : Cond) ∈ lw_good := lw_at (i := 844) rfl rfl
set_option maxRecDepth 20000 in
theorem lk_655 : (.code y_Mo_close b_Mo_close 2 (some .int) : Cond) ∈ lw_good := lw_at (i := 852) rfl rfl
set_option maxRecDepth 20000 in
theorem lk_656 : (.code y_Mo_startFails b_Mo_startFails 3 (some .boolean) : Cond) ∈ lw_good := lw_at (i := 856) rfl rfl
set_option maxRecDepth 20000 in
theorem lk_657 : (.code y_Mo_output b_Mo_output 2 (some .int) : Cond) ∈ lw_good := lw_at (i := 860) rfl rfl
set_option maxRecDepth 20000 in
theorem lk_658 : (.code y_Mo_lies b_Mo_lies 3 (some .int) : Cond) ∈ lw_good := lw_at (i := 864) rfl rfl
set_option maxRecDepth 20000 in
theorem lk_659 : (.code y_Mo_sign b_Mo_sign 2 (some .int) : Cond) ∈ lw_good := lw_at (i := 876) rfl rfl
set_option maxRecDepth 20000 in
theorem lk_660 : (.code y_Mo_behindRemark b_Mo_behindRemark 3 (some .int) : Cond) ∈ lw_good := lw_at (i := 880) rfl rfl
set_option maxRecDepth 20000 in
theorem lk_661 : (.code y_Mo_endOf b_Mo_endOf 5 (some .int) : Cond) ∈ lw_good := lw_at (i := 926) rfl rfl
set_option maxRecDepth 20000 in
theorem lk_662 : (.code y_Mo_lay b_Mo_lay 2 none : Cond) ∈ lw_good := lw_at (i := 891) rfl rfl
set_option maxRecDepth 20000 in
theorem lk_663 : (.code y_Mo_wants b_Mo_wants 1 (some .int) : Cond) ∈ lw_good := lw_at (i := 887) rfl rfl
set_option maxRecDepth 20000 in
theorem lk_664 : (.code y_Mo_show b_Mo_show 2 none : Cond) ∈ lw_good := lw_at (i := 895) rfl rfl
set_option maxRecDepth 20000 in
theorem lk_665 : (.code y_Mo_beginLoop b_Mo_beginLoop 3 none : Cond) ∈ lw_good := lw_at (i := 922) rfl rfl
set_option maxRecDepth 20000 in
theorem lk_666 : (.code y_Mo_endLoop b_Mo_endLoop 1 none : Cond) ∈ lw_good := lw_at (i := 930) rfl rfl
set_option maxRecDepth 20000 in
theorem lk_667 : (.code y_Mo_readResource b_Mo_readResource 4 none : Cond) ∈ lw_good := lw_at (i := 904) rfl rfl
set_option maxRecDepth 20000 in
theorem lk_668 : (.code y_Mo_set b_Mo_set 4 none : Cond) ∈ lw_good := lw_at (i := 899) rfl rfl
set_option maxRecDepth 20000 in
theorem lk_669 : (.code y_Mo_openFile b_Mo_openFile 4 none : Cond) ∈ lw_good := lw_at (i := 910) rfl rfl
set_option maxRecDepth 20000 in
theorem lk_670 : (.code y_Mo_closeFile b_Mo_closeFile 2 none : Cond) ∈ lw_good := lw_at (i := 914) rfl rfl
set_option maxRecDepth 20000 in
theorem lk_671 : (.code y_Mo_readFile b_Mo_readFile 3 none : Cond) ∈ lw_good := lw_at (i := 918) rfl rfl
set_option maxRecDepth 20000 in
theorem lk_672 : (.code y_Mo_act b_Mo_act 6 none : Cond) ∈ lw_good := lw_at (i := 884) rfl rfl
set_option maxRecDepth 20000 in
theorem lk_673 : (.code y_Mo_runJob b_Mo_runJob 3 none : Cond) ∈ lw_good := lw_at (i := 872) rfl rfl
set_option maxRecDepth 20000 in
theorem lk_674 : (.code y_Mo_run b_Mo_run 4 (some .int) : Cond) ∈ lw_good := lw_at (i := 868) rfl rfl
set_option maxRecDepth 20000 in
theorem lk_675 : (.code y_Law_cell b_Law_cell 2 (some .int) : Cond) ∈ lw_good := lw_at (i := 651) rfl rfl
set_option maxRecDepth 20000 in
theorem lk_676 : (.initialized "MachineLoopLaw" : Cond) ∈ lw_good := lw_at (i := 39) (by decide +kernel) rfl
set_option maxRecDepth 20000 in
theorem lk_677 : (.instantiable "MachineLoop" 4 : Cond) ∈ lw_good := lw_at (i := 54) (by decide +kernel) rfl
set_option maxRecDepth 20000 in
theorem lk_678 : (.instantiable "MachineLoop$Machine" 10 : Cond) ∈ lw_good := lw_at (i := 64) (by decide +kernel) rfl
set_option maxRecDepth 20000 in
theorem lk_679 : (.instantiable "MachineLoop$Device" 2 : Cond) ∈ lw_good := lw_at (i := 70) (by decide +kernel) rfl
set_option maxRecDepth 20000 in
theorem lk_680 : (.instantiable "MachineLoop$Resources" 2 : Cond) ∈ lw_good := lw_at (i := 86) (by decide +kernel) rfl
set_option maxRecDepth 20000 in
theorem lk_681 : (.instantiable "MachineLoop$FileTree" 3 : Cond) ∈ lw_good := lw_at (i := 99) (by decide +kernel) rfl
set_option maxRecDepth 20000 in
theorem lk_682 : (.instantiable "MachineLoop$Numbers" 2 : Cond) ∈ lw_good := lw_at (i := 184) (by decide +kernel) rfl
set_option maxRecDepth 20000 in
theorem lk_683 : (.instantiable "MachineLoop$Plan" 4 : Cond) ∈ lw_good := lw_at (i := 197) (by decide +kernel) rfl
set_option maxRecDepth 20000 in
theorem lk_684 : (.instantiable "MachineLoop$Job" 9 : Cond) ∈ lw_good := lw_at (i := 266) (by decide +kernel) rfl
set_option maxRecDepth 20000 in
theorem lk_685 : (.instantiable "MachineLoop$Store" 3 : Cond) ∈ lw_good := lw_at (i := 106) (by decide +kernel) rfl
set_option maxRecDepth 20000 in
theorem lk_686 : (.instantiable "MachineLoop$Handle" 7 : Cond) ∈ lw_good := lw_at (i := 127) (by decide +kernel) rfl
set_option maxRecDepth 20000 in
theorem lk_687 : (.instantiable "MachineLoopModel" 37 : Cond) ∈ lw_good := lw_at (i := 653) (by decide +kernel) rfl
set_option maxRecDepth 20000 in
theorem lk_688 : (.arrayClass .int : Cond) ∈ lw_good := lw_at (i := 84) (by decide +kernel) rfl
set_option maxRecDepth 20000 in
theorem lk_689 : (.arrayClass .byte : Cond) ∈ lw_good := lw_at (i := 125) (by decide +kernel) rfl
set_option maxRecDepth 20000 in
theorem lk_690 : (.arrayClass .boolean : Cond) ∈ lw_good := lw_at (i := 771) (by decide +kernel) rfl
theorem i_ML : ∀ w ∈ u_ws R_ML F_ML 4, w ∈ lw_good := show ∀ w ∈ ([.laysFinal "MachineLoop" "MachineLoop" "jobs" "[LMachineLoop$Job;", .laysFinal "MachineLoop" "MachineLoop" "machine" "LMachineLoop$Machine;", .lays "MachineLoop" "MachineLoop" "jobCount" "I", .lays "MachineLoop" "MachineLoop" "startsFail" "Z"] : List Cond), w ∈ lw_good from (List.forall_mem_cons.mpr ⟨lk_450, (List.forall_mem_cons.mpr ⟨lk_449, (List.forall_mem_cons.mpr ⟨lk_448, (List.forall_mem_cons.mpr ⟨lk_447, (fun _ h => absurd h List.not_mem_nil)⟩)⟩)⟩)⟩)
theorem i_Machine : ∀ w ∈ u_ws R_Machine F_Machine 10, w ∈ lw_good := show ∀ w ∈ ([.laysFinal "MachineLoop$Machine" "MachineLoop$Machine" "device" "LMachineLoop$Device;", .laysFinal "MachineLoop$Machine" "MachineLoop$Machine" "resources" "LMachineLoop$Resources;", .laysFinal "MachineLoop$Machine" "MachineLoop$Machine" "files" "LMachineLoop$FileTree;", .laysFinal "MachineLoop$Machine" "MachineLoop$Machine" "stepLimit" "I", .laysFinal "MachineLoop$Machine" "MachineLoop$Machine" "stack" "LMachineLoop$Numbers;", .laysFinal "MachineLoop$Machine" "MachineLoop$Machine" "plan" "LMachineLoop$Plan;", .laysFinal "MachineLoop$Machine" "MachineLoop$Machine" "timesLeft" "[I", .lays "MachineLoop$Machine" "MachineLoop$Machine" "loopCount" "I", .lays "MachineLoop$Machine" "MachineLoop$Machine" "marks" "I", .lays "MachineLoop$Machine" "MachineLoop$Machine" "nextPlace" "I"] : List Cond), w ∈ lw_good from (List.forall_mem_cons.mpr ⟨lk_460, (List.forall_mem_cons.mpr ⟨lk_459, (List.forall_mem_cons.mpr ⟨lk_458, (List.forall_mem_cons.mpr ⟨lk_457, (List.forall_mem_cons.mpr ⟨lk_456, (List.forall_mem_cons.mpr ⟨lk_455, (List.forall_mem_cons.mpr ⟨lk_454, (List.forall_mem_cons.mpr ⟨lk_453, (List.forall_mem_cons.mpr ⟨lk_452, (List.forall_mem_cons.mpr ⟨lk_451, (fun _ h => absurd h List.not_mem_nil)⟩)⟩)⟩)⟩)⟩)⟩)⟩)⟩)⟩)⟩)
theorem i_Device : ∀ w ∈ u_ws R_Device F_Device 2, w ∈ lw_good := show ∀ w ∈ ([.laysFinal "MachineLoop$Device" "MachineLoop$Device" "settings" "[I", .laysFinal "MachineLoop$Device" "MachineLoop$Device" "kept" "[I"] : List Cond), w ∈ lw_good from (List.forall_mem_cons.mpr ⟨lk_462, (List.forall_mem_cons.mpr ⟨lk_461, (fun _ h => absurd h List.not_mem_nil)⟩)⟩)
theorem i_Resources : ∀ w ∈ u_ws R_Resources F_Resources 2, w ∈ lw_good := show ∀ w ∈ ([.laysFinal "MachineLoop$Resources" "MachineLoop$Resources" "values" "[I", .laysFinal "MachineLoop$Resources" "MachineLoop$Resources" "kept" "[I"] : List Cond), w ∈ lw_good from (List.forall_mem_cons.mpr ⟨lk_464, (List.forall_mem_cons.mpr ⟨lk_463, (fun _ h => absurd h List.not_mem_nil)⟩)⟩)
theorem i_FileTree : ∀ w ∈ u_ws R_FileTree F_FileTree 3, w ∈ lw_good := show ∀ w ∈ ([.laysFinal "MachineLoop$FileTree" "MachineLoop$FileTree" "stores" "[LMachineLoop$Store;", .laysFinal "MachineLoop$FileTree" "MachineLoop$FileTree" "output" "LMachineLoop$Store;", .laysFinal "MachineLoop$FileTree" "MachineLoop$FileTree" "handles" "[LMachineLoop$Handle;"] : List Cond), w ∈ lw_good from (List.forall_mem_cons.mpr ⟨lk_467, (List.forall_mem_cons.mpr ⟨lk_466, (List.forall_mem_cons.mpr ⟨lk_465, (fun _ h => absurd h List.not_mem_nil)⟩)⟩)⟩)
theorem i_Numbers : ∀ w ∈ u_ws R_Numbers F_Numbers 2, w ∈ lw_good := show ∀ w ∈ ([.laysFinal "MachineLoop$Numbers" "MachineLoop$Numbers" "numbers" "[I", .lays "MachineLoop$Numbers" "MachineLoop$Numbers" "height" "I"] : List Cond), w ∈ lw_good from (List.forall_mem_cons.mpr ⟨lk_469, (List.forall_mem_cons.mpr ⟨lk_468, (fun _ h => absurd h List.not_mem_nil)⟩)⟩)
theorem i_Plan : ∀ w ∈ u_ws R_Plan F_Plan 4, w ∈ lw_good := show ∀ w ∈ ([.laysFinal "MachineLoop$Plan" "MachineLoop$Plan" "doneFrom" "[I", .laysFinal "MachineLoop$Plan" "MachineLoop$Plan" "mates" "[I", .laysFinal "MachineLoop$Plan" "MachineLoop$Plan" "openBraces" "[I", .lays "MachineLoop$Plan" "MachineLoop$Plan" "length" "I"] : List Cond), w ∈ lw_good from (List.forall_mem_cons.mpr ⟨lk_473, (List.forall_mem_cons.mpr ⟨lk_472, (List.forall_mem_cons.mpr ⟨lk_471, (List.forall_mem_cons.mpr ⟨lk_470, (fun _ h => absurd h List.not_mem_nil)⟩)⟩)⟩)⟩)
theorem i_Job : ∀ w ∈ u_ws R_Job F_Job 9, w ∈ lw_good := show ∀ w ∈ ([.laysFinal "MachineLoop$Job" "MachineLoop$Job" "signs" "[B", .laysFinal "MachineLoop$Job" "MachineLoop$Job" "pages" "[I", .lays "MachineLoop$Job" "MachineLoop$Job" "length" "I", .lays "MachineLoop$Job" "MachineLoop$Job" "pageCount" "I", .lays "MachineLoop$Job" "MachineLoop$Job" "outcome" "I", .lays "MachineLoop$Job" "MachineLoop$Job" "error" "I", .lays "MachineLoop$Job" "MachineLoop$Job" "errorPlace" "I", .lays "MachineLoop$Job" "MachineLoop$Job" "steps" "I", .lays "MachineLoop$Job" "MachineLoop$Job" "flushed" "I"] : List Cond), w ∈ lw_good from (List.forall_mem_cons.mpr ⟨lk_482, (List.forall_mem_cons.mpr ⟨lk_481, (List.forall_mem_cons.mpr ⟨lk_480, (List.forall_mem_cons.mpr ⟨lk_479, (List.forall_mem_cons.mpr ⟨lk_478, (List.forall_mem_cons.mpr ⟨lk_477, (List.forall_mem_cons.mpr ⟨lk_476, (List.forall_mem_cons.mpr ⟨lk_475, (List.forall_mem_cons.mpr ⟨lk_474, (fun _ h => absurd h List.not_mem_nil)⟩)⟩)⟩)⟩)⟩)⟩)⟩)⟩)⟩)
theorem i_Store : ∀ w ∈ u_ws R_Store F_Store 3, w ∈ lw_good := show ∀ w ∈ ([.laysFinal "MachineLoop$Store" "MachineLoop$Store" "bytes" "[B", .lays "MachineLoop$Store" "MachineLoop$Store" "size" "I", .lays "MachineLoop$Store" "MachineLoop$Store" "isThere" "Z"] : List Cond), w ∈ lw_good from (List.forall_mem_cons.mpr ⟨lk_485, (List.forall_mem_cons.mpr ⟨lk_484, (List.forall_mem_cons.mpr ⟨lk_483, (fun _ h => absurd h List.not_mem_nil)⟩)⟩)⟩)
theorem i_Handle : ∀ w ∈ u_ws R_Handle F_Handle 7, w ∈ lw_good := show ∀ w ∈ ([.laysFinal "MachineLoop$Handle" "MachineLoop$Handle" "filters" "[I", .lays "MachineLoop$Handle" "MachineLoop$Handle" "filterCount" "I", .lays "MachineLoop$Handle" "MachineLoop$Handle" "keptFilterCount" "I", .lays "MachineLoop$Handle" "MachineLoop$Handle" "place" "I", .lays "MachineLoop$Handle" "MachineLoop$Handle" "store" "LMachineLoop$Store;", .lays "MachineLoop$Handle" "MachineLoop$Handle" "mode" "I", .lays "MachineLoop$Handle" "MachineLoop$Handle" "isOfJob" "Z"] : List Cond), w ∈ lw_good from (List.forall_mem_cons.mpr ⟨lk_492, (List.forall_mem_cons.mpr ⟨lk_491, (List.forall_mem_cons.mpr ⟨lk_490, (List.forall_mem_cons.mpr ⟨lk_489, (List.forall_mem_cons.mpr ⟨lk_488, (List.forall_mem_cons.mpr ⟨lk_487, (List.forall_mem_cons.mpr ⟨lk_486, (fun _ h => absurd h List.not_mem_nil)⟩)⟩)⟩)⟩)⟩)⟩)⟩)
theorem i_Mo : ∀ w ∈ u_ws R_Mo F_Mo 37, w ∈ lw_good := show ∀ w ∈ ([.lays "MachineLoopModel" "MachineLoopModel" "code" "I", .laysFinal "MachineLoopModel" "MachineLoopModel" "most" "I", .lays "MachineLoopModel" "MachineLoopModel" "jobs" "I", .laysFinal "MachineLoopModel" "MachineLoopModel" "signs" "[B", .laysFinal "MachineLoopModel" "MachineLoopModel" "size" "[I", .laysFinal "MachineLoopModel" "MachineLoopModel" "told" "[I", .laysFinal "MachineLoopModel" "MachineLoopModel" "pages" "[I", .laysFinal "MachineLoopModel" "MachineLoopModel" "setting" "[I", .laysFinal "MachineLoopModel" "MachineLoopModel" "resource" "[I", .laysFinal "MachineLoopModel" "MachineLoopModel" "settingWas" "[I", .laysFinal "MachineLoopModel" "MachineLoopModel" "resourceWas" "[I", .laysFinal "MachineLoopModel" "MachineLoopModel" "there" "[Z", .laysFinal "MachineLoopModel" "MachineLoopModel" "length" "[I", .laysFinal "MachineLoopModel" "MachineLoopModel" "lies" "[B", .laysFinal "MachineLoopModel" "MachineLoopModel" "out" "[B", .lays "MachineLoopModel" "MachineLoopModel" "outSize" "I", .laysFinal "MachineLoopModel" "MachineLoopModel" "open" "[Z", .laysFinal "MachineLoopModel" "MachineLoopModel" "name" "[I", .laysFinal "MachineLoopModel" "MachineLoopModel" "mode" "[I", .laysFinal "MachineLoopModel" "MachineLoopModel" "place" "[I", .laysFinal "MachineLoopModel" "MachineLoopModel" "filters" "[I", .laysFinal "MachineLoopModel" "MachineLoopModel" "filter" "[I", .laysFinal "MachineLoopModel" "MachineLoopModel" "filtersWas" "[I", .laysFinal "MachineLoopModel" "MachineLoopModel" "own" "[Z", .lays "MachineLoopModel" "MachineLoopModel" "fails" "Z", .lays "MachineLoopModel" "MachineLoopModel" "job" "I", .lays "MachineLoopModel" "MachineLoopModel" "at" "I", .lays "MachineLoopModel" "MachineLoopModel" "steps" "I", .lays "MachineLoopModel" "MachineLoopModel" "high" "I", .laysFinal "MachineLoopModel" "MachineLoopModel" "stack" "[I", .lays "MachineLoopModel" "MachineLoopModel" "marks" "I", .lays "MachineLoopModel" "MachineLoopModel" "shown" "I", .lays "MachineLoopModel" "MachineLoopModel" "loops" "I", .laysFinal "MachineLoopModel" "MachineLoopModel" "begin" "[I", .laysFinal "MachineLoopModel" "MachineLoopModel" "left" "[I", .lays "MachineLoopModel" "MachineLoopModel" "error" "I", .lays "MachineLoopModel" "MachineLoopModel" "done" "Z"] : List Cond), w ∈ lw_good from (List.forall_mem_cons.mpr ⟨lk_529, (List.forall_mem_cons.mpr ⟨lk_528, (List.forall_mem_cons.mpr ⟨lk_527, (List.forall_mem_cons.mpr ⟨lk_526, (List.forall_mem_cons.mpr ⟨lk_525, (List.forall_mem_cons.mpr ⟨lk_524, (List.forall_mem_cons.mpr ⟨lk_523, (List.forall_mem_cons.mpr ⟨lk_522, (List.forall_mem_cons.mpr ⟨lk_521, (List.forall_mem_cons.mpr ⟨lk_520, (List.forall_mem_cons.mpr ⟨lk_519, (List.forall_mem_cons.mpr ⟨lk_518, (List.forall_mem_cons.mpr ⟨lk_517, (List.forall_mem_cons.mpr ⟨lk_516, (List.forall_mem_cons.mpr ⟨lk_515, (List.forall_mem_cons.mpr ⟨lk_514, (List.forall_mem_cons.mpr ⟨lk_513, (List.forall_mem_cons.mpr ⟨lk_512, (List.forall_mem_cons.mpr ⟨lk_511, (List.forall_mem_cons.mpr ⟨lk_510, (List.forall_mem_cons.mpr ⟨lk_509, (List.forall_mem_cons.mpr ⟨lk_508, (List.forall_mem_cons.mpr ⟨lk_507, (List.forall_mem_cons.mpr ⟨lk_506, (List.forall_mem_cons.mpr ⟨lk_505, (List.forall_mem_cons.mpr ⟨lk_504, (List.forall_mem_cons.mpr ⟨lk_503, (List.forall_mem_cons.mpr ⟨lk_502, (List.forall_mem_cons.mpr ⟨lk_501, (List.forall_mem_cons.mpr ⟨lk_500, (List.forall_mem_cons.mpr ⟨lk_499, (List.forall_mem_cons.mpr ⟨lk_498, (List.forall_mem_cons.mpr ⟨lk_497, (List.forall_mem_cons.mpr ⟨lk_496, (List.forall_mem_cons.mpr ⟨lk_495, (List.forall_mem_cons.mpr ⟨lk_494, (List.forall_mem_cons.mpr ⟨lk_493, (fun _ h => absurd h List.not_mem_nil)⟩)⟩)⟩)⟩)⟩)⟩)⟩)⟩)⟩)⟩)⟩)⟩)⟩)⟩)⟩)⟩)⟩)⟩)⟩)⟩)⟩)⟩)⟩)⟩)⟩)⟩)⟩)⟩)⟩)⟩)⟩)⟩)⟩)⟩)⟩)⟩)⟩)
end
section
/-! MEMORY: a picture of all cells by kind and address. Kinds: 1.. objects by class, then arrays by region. A reference is its address, 0 is null. -/
abbrev Mm : Type := (Nat → Nat) × (Nat → Nat → Nat → Int32) × (Nat → Nat → Nat → Nat) × (Nat → Nat → Nat → Int32) × (Nat → Nat → Nat → Nat) × (Nat → Nat)
def tg (m : Mm) (a : Nat) : Nat := m.1 a
def gI (m : Mm) (k i a : Nat) : Int32 := m.2.1 k i a
def gR (m : Mm) (k i a : Nat) : Nat := m.2.2.1 k i a
def aI (m : Mm) (k a j : Nat) : Int32 := m.2.2.2.1 k a j
def aR (m : Mm) (k a j : Nat) : Nat := m.2.2.2.2.1 k a j
def ln (m : Mm) (a : Nat) : Nat := m.2.2.2.2.2 a
def sI (m : Mm) (k i a : Nat) (v : Int32) : Mm := (m.1, (fun k' i' a' => if k' = k ∧ i' = i ∧ a' = a then v else m.2.1 k' i' a'), m.2.2)
def sR (m : Mm) (k i a v : Nat) : Mm := (m.1, m.2.1, (fun k' i' a' => if k' = k ∧ i' = i ∧ a' = a then v else m.2.2.1 k' i' a'), m.2.2.2)
def wI (m : Mm) (k a j : Nat) (v : Int32) : Mm := (m.1, m.2.1, m.2.2.1, (fun k' a' j' => if k' = k ∧ a' = a ∧ j' = j then v else m.2.2.2.1 k' a' j'), m.2.2.2.2)
def wR (m : Mm) (k a j v : Nat) : Mm := (m.1, m.2.1, m.2.2.1, m.2.2.2.1, (fun k' a' j' => if k' = k ∧ a' = a ∧ j' = j then v else m.2.2.2.2.1 k' a' j'), m.2.2.2.2.2)
def wC (m : Mm) (k a : Nat) (f : Nat → Int32) : Mm := (m.1, m.2.1, m.2.2.1, (fun k' a' j' => if k' = k ∧ a' = a then f j' else m.2.2.2.1 k' a' j'), m.2.2.2.2)
def nO (m : Mm) (k q : Nat) : Mm := (va_up m.1 q k, (fun k' i' a' => if a' = q then 0 else m.2.1 k' i' a'), (fun k' i' a' => if a' = q then 0 else m.2.2.1 k' i' a'), m.2.2.2)
def nA (m : Mm) (k q n : Nat) : Mm := (va_up m.1 q k, m.2.1, m.2.2.1, (fun k' a' j' => if a' = q then 0 else m.2.2.2.1 k' a' j'), (fun k' a' j' => if a' = q then 0 else m.2.2.2.2.1 k' a' j'), va_up m.2.2.2.2.2 q n)
def ro (x : Nat) : Option Nat := if x = 0 then none else some x
def rn (x : Nat) : Value := va_rf (ro x)
theorem rn_pos {x : Nat} (h : x ≠ 0) : rn x = .ref x := by simp [rn, ro, h, va_rf]
theorem rn_0 : rn 0 = .null := rfl
theorem rn_cat (x : Nat) : (rn x).category = 1 := by
  by_cases h : x = 0
  · subst h; rfl
  · rw [rn_pos h]; rfl
theorem ro_inj {x y : Nat} : ro x = ro y ↔ x = y := by
  unfold ro
  by_cases h : x = 0 <;> by_cases h2 : y = 0 <;> simp [h, h2]
  omega
theorem ro_pos {x : Nat} (h : x ≠ 0) : ro x = some x := by simp [ro, h]
/-! rows of references on the stack -/
section RR
variable {p : Program} {l : Launch} {e : Env} {R : Room} {s : State} {m : MethodId} {args : Array Value} {below : List Frame} {meth : Method} {c : Code} {H : Heap} {locs : List Loc} {cells slots : Nat} {Q : State → Prop} {cc : ByteArray} {pc : Nat} {ls : Array Slot} {rest : List Value}
theorem rr_aload_n (hx : p.tables.exec = Jvm.exec) (hb : c.code = cc) {k : Fin 4} {i x : Nat} (hdg : decode cc pc = .ok (.aload_n k, 1)) (hi : (k : Nat) = i) (hl : ls[i]? = some (.val (rn x)))
    (kk : W p l e R s m args below meth c H locs cells slots Q (F0 m (pc + 1) ls (rn x :: rest))) : W p l e R s m args below meth c H locs cells slots Q (F0 m pc ls rest) := by
  by_cases h : x = 0
  · subst h; exact lv_aload_nN hx hb hdg hi hl kk
  · rw [rn_pos h] at hl kk; exact lv_aload_n hx hb hdg hi hl kk
theorem rr_aload (hx : p.tables.exec = Jvm.exec) (hb : c.code = cc) {i x : Nat} (hdg : decode cc pc = .ok (.aload i, 2)) (hl : ls[i]? = some (.val (rn x)))
    (kk : W p l e R s m args below meth c H locs cells slots Q (F0 m (pc + 2) ls (rn x :: rest))) : W p l e R s m args below meth c H locs cells slots Q (F0 m pc ls rest) := by
  by_cases h : x = 0
  · subst h; exact lv_aloadN hx hb hdg hl kk
  · rw [rn_pos h] at hl kk; exact lv_aload hx hb hdg hl kk
theorem rr_astore_n (hx : p.tables.exec = Jvm.exec) (hb : c.code = cc) {k : Fin 4} {i nL x : Nat} {lv lv' : List (Nat × Value)} (hdg : decode cc pc = .ok (.astore_n k, 1)) (hi : (k : Nat) = i) (h : lv_has ls nL lv) (hn : i < nL) (hl : (i, rn x) :: lv.filter (fun q => !(q.1 == i) && !(q.1 + 1 == i && q.2.category == 2)) = lv')
    (kk : ∀ ls' : Array Slot, lv_has ls' nL lv' → W p l e R s m args below meth c H locs cells slots Q (F0 m (pc + 1) ls' rest)) : W p l e R s m args below meth c H locs cells slots Q (F0 m pc ls (rn x :: rest)) := by
  by_cases h0 : x = 0
  · subst h0; exact lv_astore_nN hx hb hdg hi h hn hl kk
  · rw [rn_pos h0] at hl ⊢; exact lv_astore_n hx hb hdg hi h hn hl kk
theorem rr_astore (hx : p.tables.exec = Jvm.exec) (hb : c.code = cc) {i nL x : Nat} {lv lv' : List (Nat × Value)} (hdg : decode cc pc = .ok (.astore i, 2)) (h : lv_has ls nL lv) (hn : i < nL) (hl : (i, rn x) :: lv.filter (fun q => !(q.1 == i) && !(q.1 + 1 == i && q.2.category == 2)) = lv')
    (kk : ∀ ls' : Array Slot, lv_has ls' nL lv' → W p l e R s m args below meth c H locs cells slots Q (F0 m (pc + 2) ls' rest)) : W p l e R s m args below meth c H locs cells slots Q (F0 m pc ls (rn x :: rest)) := by
  by_cases h0 : x = 0
  · subst h0; exact lv_astoreN hx hb hdg h hn hl kk
  · rw [rn_pos h0] at hl ⊢; exact lv_astore hx hb hdg h hn hl kk
theorem rr_null (hx : p.tables.exec = Jvm.exec) (hb : c.code = cc) (hdg : decode cc pc = .ok (.aconst_null, 1)) (kk : W p l e R s m args below meth c H locs cells slots Q (F0 m (pc + 1) ls (rn 0 :: rest))) : W p l e R s m args below meth c H locs cells slots Q (F0 m pc ls rest) := lv_null hx hb hdg kk
theorem rr_ifnull (hx : p.tables.exec = Jvm.exec) (hb : c.code = cc) {x : Nat} {off : Int} {tgt : Nat} (hdg : decode cc pc = .ok (.ifnull off, 3)) (ht : (pc : Int) + off = (tgt : Int))
    (kt : x = 0 → W p l e R s m args below meth c H locs cells slots Q (F0 m tgt ls rest)) (kf : ¬ x = 0 → W p l e R s m args below meth c H locs cells slots Q (F0 m (pc + 3) ls rest)) : W p l e R s m args below meth c H locs cells slots Q (F0 m pc ls (rn x :: rest)) := by
  by_cases h : x = 0
  · have k := kt h; subst h; exact lv_ifnullN hx hb hdg ht k
  · rw [rn_pos h]; exact lv_ifnull hx hb hdg (kf h)
theorem rr_ifnonnull (hx : p.tables.exec = Jvm.exec) (hb : c.code = cc) {x : Nat} {off : Int} {tgt : Nat} (hdg : decode cc pc = .ok (.ifnonnull off, 3)) (ht : (pc : Int) + off = (tgt : Int))
    (kt : ¬ x = 0 → W p l e R s m args below meth c H locs cells slots Q (F0 m tgt ls rest)) (kf : x = 0 → W p l e R s m args below meth c H locs cells slots Q (F0 m (pc + 3) ls rest)) : W p l e R s m args below meth c H locs cells slots Q (F0 m pc ls (rn x :: rest)) := by
  by_cases h : x = 0
  · have k := kf h; subst h; exact lv_ifnonnullN hx hb hdg k
  · rw [rn_pos h]; exact lv_ifnonnull hx hb hdg ht (kt h)
theorem rr_acmp_eq (hx : p.tables.exec = Jvm.exec) (hb : c.code = cc) {x y : Nat} {off : Int} {tgt : Nat} (hdg : decode cc pc = .ok (.if_acmp .eq off, 3)) (ht : (pc : Int) + off = (tgt : Int))
    (kt : x = y → W p l e R s m args below meth c H locs cells slots Q (F0 m tgt ls rest)) (kf : ¬ x = y → W p l e R s m args below meth c H locs cells slots Q (F0 m (pc + 3) ls rest)) : W p l e R s m args below meth c H locs cells slots Q (F0 m pc ls (rn y :: rn x :: rest)) :=
  lv_acmp_eq hx hb hdg ht (fun h => kt (ro_inj.mp h)) (fun h => kf (fun q => h (ro_inj.mpr q)))
theorem rr_acmp_ne (hx : p.tables.exec = Jvm.exec) (hb : c.code = cc) {x y : Nat} {off : Int} {tgt : Nat} (hdg : decode cc pc = .ok (.if_acmp .ne off, 3)) (ht : (pc : Int) + off = (tgt : Int))
    (kt : ¬ x = y → W p l e R s m args below meth c H locs cells slots Q (F0 m tgt ls rest)) (kf : x = y → W p l e R s m args below meth c H locs cells slots Q (F0 m (pc + 3) ls rest)) : W p l e R s m args below meth c H locs cells slots Q (F0 m pc ls (rn y :: rn x :: rest)) :=
  lv_acmp_ne hx hb hdg ht (fun h => kt (fun q => h (ro_inj.mpr q))) (fun h => kf (ro_inj.mp h))
end RR
abbrev Gc : Type := va_G × (Nat → ClassId) × (Nat → Nat) × Nat × Nat × (Nat → Int32)
abbrev fr (G : Gc) : Nat → Prop := fun q => G.2.2.2.1 ≤ q
theorem nar_rn (C : String) (x : Nat) : narrow (.object C) (rn x) = rn x := by
  by_cases h : x = 0
  · subst h; rfl
  · rw [rn_pos h]; rfl
theorem fit_rn (C : String) (x : Nat) : fits (.object C) (rn x) = true := by
  by_cases h : x = 0
  · subst h; rfl
  · rw [rn_pos h]; rfl
theorem nar_ra (t : FieldType) (x : Nat) : narrow (.array t) (rn x) = rn x := by
  by_cases h : x = 0
  · subst h; rfl
  · rw [rn_pos h]; rfl
theorem fit_ra (t : FieldType) (x : Nat) : fits (.array t) (rn x) = true := by
  by_cases h : x = 0
  · subst h; rfl
  · rw [rn_pos h]; rfl
theorem lv_tableD {p : Program} {l : Launch} {e : Env} {R : Room} {s : State} {m : MethodId} {args : Array Value} {below : List Frame} {meth : Method} {c : Code} {H : Heap} {locs : List Loc} {cells slots : Nat} {Q : State → Prop} {cc : ByteArray} {pc : Nat} {ls : Array Slot} {rest : List Value} (hx : p.tables.exec = Jvm.exec) (hb : c.code = cc) {dflt lo hi : Int} {offs : Array Int} {len : Nat} {x : Int32} {tgt : Nat} {real : List Nat} (hdg : decode cc pc = .ok (.tableswitch dflt lo hi offs, len)) (hall : ∀ n, n < offs.size → n ∉ real → offs[n]? = some dflt) (hn : ¬ x.toInt < lo → ¬ hi < x.toInt → (x.toInt - lo).toNat < offs.size ∧ (x.toInt - lo).toNat ∉ real) (ht : (pc : Int) + dflt = (tgt : Int))
    (k : W p l e R s m args below meth c H locs cells slots Q (F0 m tgt ls rest)) : W p l e R s m args below meth c H locs cells slots Q (F0 m pc ls (.int x :: rest)) := by
  by_cases h1 : x.toInt < lo
  · exact lv_tableOut hx hb hdg (Or.inl h1) ht k
  · by_cases h2 : hi < x.toInt
    · exact lv_tableOut hx hb hdg (Or.inr h2) ht k
    · obtain ⟨a, b⟩ := hn h1 h2
      exact lv_tableIn hx hb hdg h1 h2 (hall _ a b) ht k
theorem tg_sI (m : Mm) (k i a : Nat) (v : Int32) (b : Nat) : tg (sI m k i a v) b = tg m b := rfl
theorem gI_sI (m : Mm) (k i a : Nat) (v : Int32) (k' i' b : Nat) : gI (sI m k i a v) k' i' b = if k' = k ∧ i' = i ∧ b = a then v else gI m k' i' b := rfl
theorem gR_sI (m : Mm) (k i a : Nat) (v : Int32) (k' i' b : Nat) : gR (sI m k i a v) k' i' b = gR m k' i' b := rfl
theorem aI_sI (m : Mm) (k i a : Nat) (v : Int32) (k' b j' : Nat) : aI (sI m k i a v) k' b j' = aI m k' b j' := rfl
theorem aR_sI (m : Mm) (k i a : Nat) (v : Int32) (k' b j' : Nat) : aR (sI m k i a v) k' b j' = aR m k' b j' := rfl
theorem ln_sI (m : Mm) (k i a : Nat) (v : Int32) (b : Nat) : ln (sI m k i a v) b = ln m b := rfl
theorem tg_sR (m : Mm) (k i a v : Nat) (b : Nat) : tg (sR m k i a v) b = tg m b := rfl
theorem gI_sR (m : Mm) (k i a v : Nat) (k' i' b : Nat) : gI (sR m k i a v) k' i' b = gI m k' i' b := rfl
theorem gR_sR (m : Mm) (k i a v : Nat) (k' i' b : Nat) : gR (sR m k i a v) k' i' b = if k' = k ∧ i' = i ∧ b = a then v else gR m k' i' b := rfl
theorem aI_sR (m : Mm) (k i a v : Nat) (k' b j' : Nat) : aI (sR m k i a v) k' b j' = aI m k' b j' := rfl
theorem aR_sR (m : Mm) (k i a v : Nat) (k' b j' : Nat) : aR (sR m k i a v) k' b j' = aR m k' b j' := rfl
theorem ln_sR (m : Mm) (k i a v : Nat) (b : Nat) : ln (sR m k i a v) b = ln m b := rfl
theorem tg_wI (m : Mm) (k a j : Nat) (v : Int32) (b : Nat) : tg (wI m k a j v) b = tg m b := rfl
theorem gI_wI (m : Mm) (k a j : Nat) (v : Int32) (k' i' b : Nat) : gI (wI m k a j v) k' i' b = gI m k' i' b := rfl
theorem gR_wI (m : Mm) (k a j : Nat) (v : Int32) (k' i' b : Nat) : gR (wI m k a j v) k' i' b = gR m k' i' b := rfl
theorem aI_wI (m : Mm) (k a j : Nat) (v : Int32) (k' b j' : Nat) : aI (wI m k a j v) k' b j' = if k' = k ∧ b = a ∧ j' = j then v else aI m k' b j' := rfl
theorem aR_wI (m : Mm) (k a j : Nat) (v : Int32) (k' b j' : Nat) : aR (wI m k a j v) k' b j' = aR m k' b j' := rfl
theorem ln_wI (m : Mm) (k a j : Nat) (v : Int32) (b : Nat) : ln (wI m k a j v) b = ln m b := rfl
theorem tg_wR (m : Mm) (k a j v : Nat) (b : Nat) : tg (wR m k a j v) b = tg m b := rfl
theorem gI_wR (m : Mm) (k a j v : Nat) (k' i' b : Nat) : gI (wR m k a j v) k' i' b = gI m k' i' b := rfl
theorem gR_wR (m : Mm) (k a j v : Nat) (k' i' b : Nat) : gR (wR m k a j v) k' i' b = gR m k' i' b := rfl
theorem aI_wR (m : Mm) (k a j v : Nat) (k' b j' : Nat) : aI (wR m k a j v) k' b j' = aI m k' b j' := rfl
theorem aR_wR (m : Mm) (k a j v : Nat) (k' b j' : Nat) : aR (wR m k a j v) k' b j' = if k' = k ∧ b = a ∧ j' = j then v else aR m k' b j' := rfl
theorem ln_wR (m : Mm) (k a j v : Nat) (b : Nat) : ln (wR m k a j v) b = ln m b := rfl
theorem tg_wC (m : Mm) (k a : Nat) (f : Nat → Int32) (b : Nat) : tg (wC m k a f) b = tg m b := rfl
theorem gI_wC (m : Mm) (k a : Nat) (f : Nat → Int32) (k' i' b : Nat) : gI (wC m k a f) k' i' b = gI m k' i' b := rfl
theorem gR_wC (m : Mm) (k a : Nat) (f : Nat → Int32) (k' i' b : Nat) : gR (wC m k a f) k' i' b = gR m k' i' b := rfl
theorem aI_wC (m : Mm) (k a : Nat) (f : Nat → Int32) (k' b j' : Nat) : aI (wC m k a f) k' b j' = if k' = k ∧ b = a then f j' else aI m k' b j' := rfl
theorem aR_wC (m : Mm) (k a : Nat) (f : Nat → Int32) (k' b j' : Nat) : aR (wC m k a f) k' b j' = aR m k' b j' := rfl
theorem ln_wC (m : Mm) (k a : Nat) (f : Nat → Int32) (b : Nat) : ln (wC m k a f) b = ln m b := rfl
theorem tg_nO (m : Mm) (k a : Nat) (b : Nat) : tg (nO m k a) b = if b = a then k else tg m b := rfl
theorem gI_nO (m : Mm) (k a : Nat) (k' i' b : Nat) : gI (nO m k a) k' i' b = if b = a then 0 else gI m k' i' b := rfl
theorem gR_nO (m : Mm) (k a : Nat) (k' i' b : Nat) : gR (nO m k a) k' i' b = if b = a then 0 else gR m k' i' b := rfl
theorem aI_nO (m : Mm) (k a : Nat) (k' b j' : Nat) : aI (nO m k a) k' b j' = aI m k' b j' := rfl
theorem aR_nO (m : Mm) (k a : Nat) (k' b j' : Nat) : aR (nO m k a) k' b j' = aR m k' b j' := rfl
theorem ln_nO (m : Mm) (k a : Nat) (b : Nat) : ln (nO m k a) b = ln m b := rfl
theorem tg_nA (m : Mm) (k a n : Nat) (b : Nat) : tg (nA m k a n) b = if b = a then k else tg m b := rfl
theorem gI_nA (m : Mm) (k a n : Nat) (k' i' b : Nat) : gI (nA m k a n) k' i' b = gI m k' i' b := rfl
theorem gR_nA (m : Mm) (k a n : Nat) (k' i' b : Nat) : gR (nA m k a n) k' i' b = gR m k' i' b := rfl
theorem aI_nA (m : Mm) (k a n : Nat) (k' b j' : Nat) : aI (nA m k a n) k' b j' = if b = a then 0 else aI m k' b j' := rfl
theorem aR_nA (m : Mm) (k a n : Nat) (k' b j' : Nat) : aR (nA m k a n) k' b j' = if b = a then 0 else aR m k' b j' := rfl
theorem ln_nA (m : Mm) (k a n : Nat) (b : Nat) : ln (nA m k a n) b = if b = a then n else ln m b := rfl
theorem gI_self (m : Mm) (k i a : Nat) (v : Int32) : gI (sI m k i a v) k i a = v := by simp [gI_sI]
theorem gR_self (m : Mm) (k i a v : Nat) : gR (sR m k i a v) k i a = v := by simp [gR_sR]
def cell (dA : Nat → ClassId) (m : Mm) (k a : Nat) : va_E := match k with
  | 1 => .inr (0, [rn (gR m 1 0 a), rn (gR m 1 1 a), .int (gI m 1 2 a), .int (gI m 1 3 a)])
  | 2 => .inr (1, [rn (gR m 2 0 a), rn (gR m 2 1 a), rn (gR m 2 2 a), .int (gI m 2 3 a), rn (gR m 2 4 a), rn (gR m 2 5 a), rn (gR m 2 6 a), .int (gI m 2 7 a), .int (gI m 2 8 a), .int (gI m 2 9 a)])
  | 3 => .inr (2, [rn (gR m 3 0 a), rn (gR m 3 1 a)])
  | 4 => .inr (3, [rn (gR m 4 0 a), rn (gR m 4 1 a)])
  | 5 => .inr (4, [rn (gR m 5 0 a), rn (gR m 5 1 a), rn (gR m 5 2 a)])
  | 6 => .inr (5, [rn (gR m 6 0 a), .int (gI m 6 1 a)])
  | 7 => .inr (6, [rn (gR m 7 0 a), rn (gR m 7 1 a), rn (gR m 7 2 a), .int (gI m 7 3 a)])
  | 8 => .inr (7, [rn (gR m 8 0 a), rn (gR m 8 1 a), .int (gI m 8 2 a), .int (gI m 8 3 a), .int (gI m 8 4 a), .int (gI m 8 5 a), .int (gI m 8 6 a), .int (gI m 8 7 a), .int (gI m 8 8 a)])
  | 9 => .inr (8, [rn (gR m 9 0 a), .int (gI m 9 1 a), .int (gI m 9 2 a)])
  | 10 => .inr (9, [rn (gR m 10 0 a), .int (gI m 10 1 a), .int (gI m 10 2 a), .int (gI m 10 3 a), rn (gR m 10 4 a), .int (gI m 10 5 a), .int (gI m 10 6 a)])
  | 11 => .inr (10, [.int (gI m 11 0 a), .int (gI m 11 1 a), .int (gI m 11 2 a), rn (gR m 11 3 a), rn (gR m 11 4 a), rn (gR m 11 5 a), rn (gR m 11 6 a), rn (gR m 11 7 a), rn (gR m 11 8 a), rn (gR m 11 9 a), rn (gR m 11 10 a), rn (gR m 11 11 a), rn (gR m 11 12 a), rn (gR m 11 13 a), rn (gR m 11 14 a), .int (gI m 11 15 a), rn (gR m 11 16 a), rn (gR m 11 17 a), rn (gR m 11 18 a), rn (gR m 11 19 a), rn (gR m 11 20 a), rn (gR m 11 21 a), rn (gR m 11 22 a), rn (gR m 11 23 a), .int (gI m 11 24 a), .int (gI m 11 25 a), .int (gI m 11 26 a), .int (gI m 11 27 a), .int (gI m 11 28 a), rn (gR m 11 29 a), .int (gI m 11 30 a), .int (gI m 11 31 a), .int (gI m 11 32 a), rn (gR m 11 33 a), rn (gR m 11 34 a), .int (gI m 11 35 a), .int (gI m 11 36 a)])
  | 12 => .inl (dA 0, ln m a, .inr (.inr (.inr (.inr (fun j => ro (aR m 12 a j))))))
  | 13 => .inl (dA 1, ln m a, .inl (fun j => aI m 13 a j))
  | 14 => .inl (dA 1, ln m a, .inl (fun j => aI m 14 a j))
  | 15 => .inl (dA 1, ln m a, .inl (fun j => aI m 15 a j))
  | 16 => .inl (dA 1, ln m a, .inl (fun j => aI m 16 a j))
  | 17 => .inl (dA 1, ln m a, .inl (fun j => aI m 17 a j))
  | 18 => .inl (dA 2, ln m a, .inr (.inr (.inr (.inr (fun j => ro (aR m 18 a j))))))
  | 19 => .inl (dA 3, ln m a, .inr (.inr (.inr (.inr (fun j => ro (aR m 19 a j))))))
  | 20 => .inl (dA 1, ln m a, .inl (fun j => aI m 20 a j))
  | 21 => .inl (dA 1, ln m a, .inl (fun j => aI m 21 a j))
  | 22 => .inl (dA 1, ln m a, .inl (fun j => aI m 22 a j))
  | 23 => .inl (dA 1, ln m a, .inl (fun j => aI m 23 a j))
  | 24 => .inl (dA 4, ln m a, .inl (fun j => aI m 24 a j))
  | 25 => .inl (dA 1, ln m a, .inl (fun j => aI m 25 a j))
  | 26 => .inl (dA 4, ln m a, .inl (fun j => aI m 26 a j))
  | 27 => .inl (dA 1, ln m a, .inl (fun j => aI m 27 a j))
  | 28 => .inl (dA 4, ln m a, .inl (fun j => aI m 28 a j))
  | 29 => .inl (dA 1, ln m a, .inl (fun j => aI m 29 a j))
  | 30 => .inl (dA 1, ln m a, .inl (fun j => aI m 30 a j))
  | 31 => .inl (dA 1, ln m a, .inl (fun j => aI m 31 a j))
  | 32 => .inl (dA 1, ln m a, .inl (fun j => aI m 32 a j))
  | 33 => .inl (dA 1, ln m a, .inl (fun j => aI m 33 a j))
  | 34 => .inl (dA 1, ln m a, .inl (fun j => aI m 34 a j))
  | 35 => .inl (dA 1, ln m a, .inl (fun j => aI m 35 a j))
  | 36 => .inl (dA 5, ln m a, .inl (fun j => aI m 36 a j))
  | 37 => .inl (dA 1, ln m a, .inl (fun j => aI m 37 a j))
  | 38 => .inl (dA 4, ln m a, .inl (fun j => aI m 38 a j))
  | 39 => .inl (dA 4, ln m a, .inl (fun j => aI m 39 a j))
  | 40 => .inl (dA 5, ln m a, .inl (fun j => aI m 40 a j))
  | 41 => .inl (dA 1, ln m a, .inl (fun j => aI m 41 a j))
  | 42 => .inl (dA 1, ln m a, .inl (fun j => aI m 42 a j))
  | 43 => .inl (dA 1, ln m a, .inl (fun j => aI m 43 a j))
  | 44 => .inl (dA 1, ln m a, .inl (fun j => aI m 44 a j))
  | 45 => .inl (dA 1, ln m a, .inl (fun j => aI m 45 a j))
  | 46 => .inl (dA 1, ln m a, .inl (fun j => aI m 46 a j))
  | 47 => .inl (dA 5, ln m a, .inl (fun j => aI m 47 a j))
  | 48 => .inl (dA 1, ln m a, .inl (fun j => aI m 48 a j))
  | 49 => .inl (dA 1, ln m a, .inl (fun j => aI m 49 a j))
  | 50 => .inl (dA 1, ln m a, .inl (fun j => aI m 50 a j))
  | 51 => .inl (dA 1, ln m a, .inl (fun j => aI m 51 a j))
  | _ => .inr (0, [])
theorem ck_1 (dA : Nat → ClassId) (m : Mm) (a : Nat) : cell dA m 1 a = .inr (0, [rn (gR m 1 0 a), rn (gR m 1 1 a), .int (gI m 1 2 a), .int (gI m 1 3 a)]) := rfl
theorem ck_2 (dA : Nat → ClassId) (m : Mm) (a : Nat) : cell dA m 2 a = .inr (1, [rn (gR m 2 0 a), rn (gR m 2 1 a), rn (gR m 2 2 a), .int (gI m 2 3 a), rn (gR m 2 4 a), rn (gR m 2 5 a), rn (gR m 2 6 a), .int (gI m 2 7 a), .int (gI m 2 8 a), .int (gI m 2 9 a)]) := rfl
theorem ck_3 (dA : Nat → ClassId) (m : Mm) (a : Nat) : cell dA m 3 a = .inr (2, [rn (gR m 3 0 a), rn (gR m 3 1 a)]) := rfl
theorem ck_4 (dA : Nat → ClassId) (m : Mm) (a : Nat) : cell dA m 4 a = .inr (3, [rn (gR m 4 0 a), rn (gR m 4 1 a)]) := rfl
theorem ck_5 (dA : Nat → ClassId) (m : Mm) (a : Nat) : cell dA m 5 a = .inr (4, [rn (gR m 5 0 a), rn (gR m 5 1 a), rn (gR m 5 2 a)]) := rfl
theorem ck_6 (dA : Nat → ClassId) (m : Mm) (a : Nat) : cell dA m 6 a = .inr (5, [rn (gR m 6 0 a), .int (gI m 6 1 a)]) := rfl
theorem ck_7 (dA : Nat → ClassId) (m : Mm) (a : Nat) : cell dA m 7 a = .inr (6, [rn (gR m 7 0 a), rn (gR m 7 1 a), rn (gR m 7 2 a), .int (gI m 7 3 a)]) := rfl
theorem ck_8 (dA : Nat → ClassId) (m : Mm) (a : Nat) : cell dA m 8 a = .inr (7, [rn (gR m 8 0 a), rn (gR m 8 1 a), .int (gI m 8 2 a), .int (gI m 8 3 a), .int (gI m 8 4 a), .int (gI m 8 5 a), .int (gI m 8 6 a), .int (gI m 8 7 a), .int (gI m 8 8 a)]) := rfl
theorem ck_9 (dA : Nat → ClassId) (m : Mm) (a : Nat) : cell dA m 9 a = .inr (8, [rn (gR m 9 0 a), .int (gI m 9 1 a), .int (gI m 9 2 a)]) := rfl
theorem ck_10 (dA : Nat → ClassId) (m : Mm) (a : Nat) : cell dA m 10 a = .inr (9, [rn (gR m 10 0 a), .int (gI m 10 1 a), .int (gI m 10 2 a), .int (gI m 10 3 a), rn (gR m 10 4 a), .int (gI m 10 5 a), .int (gI m 10 6 a)]) := rfl
theorem ck_11 (dA : Nat → ClassId) (m : Mm) (a : Nat) : cell dA m 11 a = .inr (10, [.int (gI m 11 0 a), .int (gI m 11 1 a), .int (gI m 11 2 a), rn (gR m 11 3 a), rn (gR m 11 4 a), rn (gR m 11 5 a), rn (gR m 11 6 a), rn (gR m 11 7 a), rn (gR m 11 8 a), rn (gR m 11 9 a), rn (gR m 11 10 a), rn (gR m 11 11 a), rn (gR m 11 12 a), rn (gR m 11 13 a), rn (gR m 11 14 a), .int (gI m 11 15 a), rn (gR m 11 16 a), rn (gR m 11 17 a), rn (gR m 11 18 a), rn (gR m 11 19 a), rn (gR m 11 20 a), rn (gR m 11 21 a), rn (gR m 11 22 a), rn (gR m 11 23 a), .int (gI m 11 24 a), .int (gI m 11 25 a), .int (gI m 11 26 a), .int (gI m 11 27 a), .int (gI m 11 28 a), rn (gR m 11 29 a), .int (gI m 11 30 a), .int (gI m 11 31 a), .int (gI m 11 32 a), rn (gR m 11 33 a), rn (gR m 11 34 a), .int (gI m 11 35 a), .int (gI m 11 36 a)]) := rfl
theorem ck_12 (dA : Nat → ClassId) (m : Mm) (a : Nat) : cell dA m 12 a = .inl (dA 0, ln m a, .inr (.inr (.inr (.inr (fun j => ro (aR m 12 a j)))))) := rfl
theorem ck_13 (dA : Nat → ClassId) (m : Mm) (a : Nat) : cell dA m 13 a = .inl (dA 1, ln m a, .inl (fun j => aI m 13 a j)) := rfl
theorem ck_14 (dA : Nat → ClassId) (m : Mm) (a : Nat) : cell dA m 14 a = .inl (dA 1, ln m a, .inl (fun j => aI m 14 a j)) := rfl
theorem ck_15 (dA : Nat → ClassId) (m : Mm) (a : Nat) : cell dA m 15 a = .inl (dA 1, ln m a, .inl (fun j => aI m 15 a j)) := rfl
theorem ck_16 (dA : Nat → ClassId) (m : Mm) (a : Nat) : cell dA m 16 a = .inl (dA 1, ln m a, .inl (fun j => aI m 16 a j)) := rfl
theorem ck_17 (dA : Nat → ClassId) (m : Mm) (a : Nat) : cell dA m 17 a = .inl (dA 1, ln m a, .inl (fun j => aI m 17 a j)) := rfl
theorem ck_18 (dA : Nat → ClassId) (m : Mm) (a : Nat) : cell dA m 18 a = .inl (dA 2, ln m a, .inr (.inr (.inr (.inr (fun j => ro (aR m 18 a j)))))) := rfl
theorem ck_19 (dA : Nat → ClassId) (m : Mm) (a : Nat) : cell dA m 19 a = .inl (dA 3, ln m a, .inr (.inr (.inr (.inr (fun j => ro (aR m 19 a j)))))) := rfl
theorem ck_20 (dA : Nat → ClassId) (m : Mm) (a : Nat) : cell dA m 20 a = .inl (dA 1, ln m a, .inl (fun j => aI m 20 a j)) := rfl
theorem ck_21 (dA : Nat → ClassId) (m : Mm) (a : Nat) : cell dA m 21 a = .inl (dA 1, ln m a, .inl (fun j => aI m 21 a j)) := rfl
theorem ck_22 (dA : Nat → ClassId) (m : Mm) (a : Nat) : cell dA m 22 a = .inl (dA 1, ln m a, .inl (fun j => aI m 22 a j)) := rfl
theorem ck_23 (dA : Nat → ClassId) (m : Mm) (a : Nat) : cell dA m 23 a = .inl (dA 1, ln m a, .inl (fun j => aI m 23 a j)) := rfl
theorem ck_24 (dA : Nat → ClassId) (m : Mm) (a : Nat) : cell dA m 24 a = .inl (dA 4, ln m a, .inl (fun j => aI m 24 a j)) := rfl
theorem ck_25 (dA : Nat → ClassId) (m : Mm) (a : Nat) : cell dA m 25 a = .inl (dA 1, ln m a, .inl (fun j => aI m 25 a j)) := rfl
theorem ck_26 (dA : Nat → ClassId) (m : Mm) (a : Nat) : cell dA m 26 a = .inl (dA 4, ln m a, .inl (fun j => aI m 26 a j)) := rfl
theorem ck_27 (dA : Nat → ClassId) (m : Mm) (a : Nat) : cell dA m 27 a = .inl (dA 1, ln m a, .inl (fun j => aI m 27 a j)) := rfl
theorem ck_28 (dA : Nat → ClassId) (m : Mm) (a : Nat) : cell dA m 28 a = .inl (dA 4, ln m a, .inl (fun j => aI m 28 a j)) := rfl
theorem ck_29 (dA : Nat → ClassId) (m : Mm) (a : Nat) : cell dA m 29 a = .inl (dA 1, ln m a, .inl (fun j => aI m 29 a j)) := rfl
theorem ck_30 (dA : Nat → ClassId) (m : Mm) (a : Nat) : cell dA m 30 a = .inl (dA 1, ln m a, .inl (fun j => aI m 30 a j)) := rfl
theorem ck_31 (dA : Nat → ClassId) (m : Mm) (a : Nat) : cell dA m 31 a = .inl (dA 1, ln m a, .inl (fun j => aI m 31 a j)) := rfl
theorem ck_32 (dA : Nat → ClassId) (m : Mm) (a : Nat) : cell dA m 32 a = .inl (dA 1, ln m a, .inl (fun j => aI m 32 a j)) := rfl
theorem ck_33 (dA : Nat → ClassId) (m : Mm) (a : Nat) : cell dA m 33 a = .inl (dA 1, ln m a, .inl (fun j => aI m 33 a j)) := rfl
theorem ck_34 (dA : Nat → ClassId) (m : Mm) (a : Nat) : cell dA m 34 a = .inl (dA 1, ln m a, .inl (fun j => aI m 34 a j)) := rfl
theorem ck_35 (dA : Nat → ClassId) (m : Mm) (a : Nat) : cell dA m 35 a = .inl (dA 1, ln m a, .inl (fun j => aI m 35 a j)) := rfl
theorem ck_36 (dA : Nat → ClassId) (m : Mm) (a : Nat) : cell dA m 36 a = .inl (dA 5, ln m a, .inl (fun j => aI m 36 a j)) := rfl
theorem ck_37 (dA : Nat → ClassId) (m : Mm) (a : Nat) : cell dA m 37 a = .inl (dA 1, ln m a, .inl (fun j => aI m 37 a j)) := rfl
theorem ck_38 (dA : Nat → ClassId) (m : Mm) (a : Nat) : cell dA m 38 a = .inl (dA 4, ln m a, .inl (fun j => aI m 38 a j)) := rfl
theorem ck_39 (dA : Nat → ClassId) (m : Mm) (a : Nat) : cell dA m 39 a = .inl (dA 4, ln m a, .inl (fun j => aI m 39 a j)) := rfl
theorem ck_40 (dA : Nat → ClassId) (m : Mm) (a : Nat) : cell dA m 40 a = .inl (dA 5, ln m a, .inl (fun j => aI m 40 a j)) := rfl
theorem ck_41 (dA : Nat → ClassId) (m : Mm) (a : Nat) : cell dA m 41 a = .inl (dA 1, ln m a, .inl (fun j => aI m 41 a j)) := rfl
theorem ck_42 (dA : Nat → ClassId) (m : Mm) (a : Nat) : cell dA m 42 a = .inl (dA 1, ln m a, .inl (fun j => aI m 42 a j)) := rfl
theorem ck_43 (dA : Nat → ClassId) (m : Mm) (a : Nat) : cell dA m 43 a = .inl (dA 1, ln m a, .inl (fun j => aI m 43 a j)) := rfl
theorem ck_44 (dA : Nat → ClassId) (m : Mm) (a : Nat) : cell dA m 44 a = .inl (dA 1, ln m a, .inl (fun j => aI m 44 a j)) := rfl
theorem ck_45 (dA : Nat → ClassId) (m : Mm) (a : Nat) : cell dA m 45 a = .inl (dA 1, ln m a, .inl (fun j => aI m 45 a j)) := rfl
theorem ck_46 (dA : Nat → ClassId) (m : Mm) (a : Nat) : cell dA m 46 a = .inl (dA 1, ln m a, .inl (fun j => aI m 46 a j)) := rfl
theorem ck_47 (dA : Nat → ClassId) (m : Mm) (a : Nat) : cell dA m 47 a = .inl (dA 5, ln m a, .inl (fun j => aI m 47 a j)) := rfl
theorem ck_48 (dA : Nat → ClassId) (m : Mm) (a : Nat) : cell dA m 48 a = .inl (dA 1, ln m a, .inl (fun j => aI m 48 a j)) := rfl
theorem ck_49 (dA : Nat → ClassId) (m : Mm) (a : Nat) : cell dA m 49 a = .inl (dA 1, ln m a, .inl (fun j => aI m 49 a j)) := rfl
theorem ck_50 (dA : Nat → ClassId) (m : Mm) (a : Nat) : cell dA m 50 a = .inl (dA 1, ln m a, .inl (fun j => aI m 50 a j)) := rfl
theorem ck_51 (dA : Nat → ClassId) (m : Mm) (a : Nat) : cell dA m 51 a = .inl (dA 1, ln m a, .inl (fun j => aI m 51 a j)) := rfl
theorem co_sI {dA : Nat → ClassId} {m : Mm} {a b : Nat} {k i : Nat} {v : Int32} (t : Nat) (hb : b ≠ a) : cell dA (sI m k i a v) t b = cell dA m t b := by
  unfold cell
  split <;> simp [gI, gR, aI, aR, ln, sI, va_up, hb]
theorem co_sR {dA : Nat → ClassId} {m : Mm} {a b : Nat} {k i v : Nat} (t : Nat) (hb : b ≠ a) : cell dA (sR m k i a v) t b = cell dA m t b := by
  unfold cell
  split <;> simp [gI, gR, aI, aR, ln, sR, va_up, hb]
theorem co_wI {dA : Nat → ClassId} {m : Mm} {a b : Nat} {k j : Nat} {v : Int32} (t : Nat) (hb : b ≠ a) : cell dA (wI m k a j v) t b = cell dA m t b := by
  unfold cell
  split <;> simp [gI, gR, aI, aR, ln, wI, va_up, hb]
theorem co_wR {dA : Nat → ClassId} {m : Mm} {a b : Nat} {k j v : Nat} (t : Nat) (hb : b ≠ a) : cell dA (wR m k a j v) t b = cell dA m t b := by
  unfold cell
  split <;> simp [gI, gR, aI, aR, ln, wR, va_up, hb]
theorem co_wC {dA : Nat → ClassId} {m : Mm} {a b : Nat} {k : Nat} {f : Nat → Int32} (t : Nat) (hb : b ≠ a) : cell dA (wC m k a f) t b = cell dA m t b := by
  unfold cell
  split <;> simp [gI, gR, aI, aR, ln, wC, va_up, hb]
theorem co_nO {dA : Nat → ClassId} {m : Mm} {a b : Nat} {k : Nat} (t : Nat) (hb : b ≠ a) : cell dA (nO m k a) t b = cell dA m t b := by
  unfold cell
  split <;> simp [gI, gR, aI, aR, ln, nO, va_up, hb]
theorem co_nA {dA : Nat → ClassId} {m : Mm} {a b : Nat} {k n : Nat} (t : Nat) (hb : b ≠ a) : cell dA (nA m k a n) t b = cell dA m t b := by
  unfold cell
  split <;> simp [gI, gR, aI, aR, ln, nA, va_up, hb]
def NwAll (U : State) : Prop := va_Nw (.fieldLinkNest R_Device 18 "MachineLoop" "SETTING_AT_FIRST" "[I" "MachineLoop") U ∧ va_Nw (.fieldLinkNest R_Device 21 "MachineLoop" "SETTING_LEAST" "[I" "MachineLoop") U ∧ va_Nw (.fieldLinkNest R_Device 24 "MachineLoop" "SETTING_MOST" "[I" "MachineLoop") U ∧ True
theorem Nw_0 {U : State} (h : NwAll U) : va_Nw (.fieldLinkNest R_Device 18 "MachineLoop" "SETTING_AT_FIRST" "[I" "MachineLoop") U := h.1
theorem Nw_1 {U : State} (h : NwAll U) : va_Nw (.fieldLinkNest R_Device 21 "MachineLoop" "SETTING_LEAST" "[I" "MachineLoop") U := h.2.1
theorem Nw_2 {U : State} (h : NwAll U) : va_Nw (.fieldLinkNest R_Device 24 "MachineLoop" "SETTING_MOST" "[I" "MachineLoop") U := h.2.2.1
theorem NwAll.same {u U : State} (hv : u.vm = U.vm) (h : NwAll u) : NwAll U := ⟨va_Nw.same rfl hv (Nw_0 h), va_Nw.same rfl hv (Nw_1 h), va_Nw.same rfl hv (Nw_2 h), trivial⟩
theorem NwAll.warm {u U : State} (hW : u.WarmedH U.vm) (h : NwAll u) : NwAll U := ⟨va_Nw.warmF hW (Nw_0 h), va_Nw.warmF hW (Nw_1 h), va_Nw.warmF hW (Nw_2 h), trivial⟩
def Cx (G : Gc) (U : State) : Prop := 0 < G.2.2.2.1 ∧ va_K G.1 classes (tys G.2.1) U ∧ G.2.2.2.1 ≤ U.heap.size ∧ va_X (G.2.2.1 99) G.2.2.2.2.1 G.2.2.2.2.2 U U.heap ∧ G.2.2.1 99 < G.2.2.2.1 ∧ va_AO "MachineLoop$Job" U ∧ va_AO "MachineLoop$Store" U ∧ va_AO "MachineLoop$Handle" U ∧ va_Z "MachineLoop" "SETTING_AT_FIRST" "[I" (.ref (G.2.2.1 0)) (fr G) U U.heap ∧ va_T .int (G.2.2.1 0) 4 (fun j => .int (tab_0 j)) (fr G) U U.heap ∧ va_Z "MachineLoop" "SETTING_LEAST" "[I" (.ref (G.2.2.1 1)) (fr G) U U.heap ∧ va_T .int (G.2.2.1 1) 4 (fun j => .int (tab_1 j)) (fr G) U U.heap ∧ va_Z "MachineLoop" "SETTING_MOST" "[I" (.ref (G.2.2.1 2)) (fr G) U U.heap ∧ va_T .int (G.2.2.1 2) 4 (fun j => .int (tab_2 j)) (fr G) U U.heap ∧ NwAll U
theorem Cx_ao0 {G : Gc} {U : State} (h : Cx G U) : va_AO "MachineLoop$Job" U := h.2.2.2.2.2.1
theorem Cx_ao1 {G : Gc} {U : State} (h : Cx G U) : va_AO "MachineLoop$Store" U := h.2.2.2.2.2.2.1
theorem Cx_ao2 {G : Gc} {U : State} (h : Cx G U) : va_AO "MachineLoop$Handle" U := h.2.2.2.2.2.2.2.1
theorem Cx_x {G : Gc} {U : State} (h : Cx G U) : va_X (G.2.2.1 99) G.2.2.2.2.1 G.2.2.2.2.2 U U.heap := h.2.2.2.1
theorem Cx_xl {G : Gc} {U : State} (h : Cx G U) : G.2.2.1 99 < G.2.2.2.1 := h.2.2.2.2.1
theorem Cx_z0 {G : Gc} {U : State} (h : Cx G U) : va_Z "MachineLoop" "SETTING_AT_FIRST" "[I" (.ref (G.2.2.1 0)) (fr G) U U.heap := h.2.2.2.2.2.2.2.2.1
theorem Cx_t0 {G : Gc} {U : State} (h : Cx G U) : va_T .int (G.2.2.1 0) 4 (fun j => .int (tab_0 j)) (fr G) U U.heap := h.2.2.2.2.2.2.2.2.2.1
theorem Cx_z1 {G : Gc} {U : State} (h : Cx G U) : va_Z "MachineLoop" "SETTING_LEAST" "[I" (.ref (G.2.2.1 1)) (fr G) U U.heap := h.2.2.2.2.2.2.2.2.2.2.1
theorem Cx_t1 {G : Gc} {U : State} (h : Cx G U) : va_T .int (G.2.2.1 1) 4 (fun j => .int (tab_1 j)) (fr G) U U.heap := h.2.2.2.2.2.2.2.2.2.2.2.1
theorem Cx_z2 {G : Gc} {U : State} (h : Cx G U) : va_Z "MachineLoop" "SETTING_MOST" "[I" (.ref (G.2.2.1 2)) (fr G) U U.heap := h.2.2.2.2.2.2.2.2.2.2.2.2.1
theorem Cx_t2 {G : Gc} {U : State} (h : Cx G U) : va_T .int (G.2.2.1 2) 4 (fun j => .int (tab_2 j)) (fr G) U U.heap := h.2.2.2.2.2.2.2.2.2.2.2.2.2.1
theorem Cx_nw {G : Gc} {U : State} (h : Cx G U) : NwAll U := h.2.2.2.2.2.2.2.2.2.2.2.2.2.2
theorem Cx.moved {G : Gc} {u U : State} (hvm : u.vm.Alike U.vm) (hsz : u.heap.size ≤ U.heap.size) (hq : ∀ q : Nat, q < u.heap.size → ¬ fr G q → U.heap[q]? = u.heap[q]?) (hn : NwAll u → NwAll U) (h : Cx G u) : Cx G U :=
  ⟨h.1, va_K.moved hvm h.2.1, Nat.le_trans h.2.2.1 hsz, va_X.kept (va_X.moved hvm (Cx_x h)) (hq _ (Nat.lt_of_lt_of_le (Cx_xl h) h.2.2.1) (Nat.not_le.mpr (Cx_xl h))), Cx_xl h, va_AO.moved hvm (Cx_ao0 h), va_AO.moved hvm (Cx_ao1 h), va_AO.moved hvm (Cx_ao2 h), (va_Z.moved hvm (Cx_z0 h)).kept hq, (va_T.moved hvm (Cx_t0 h)).kept hq, (va_Z.moved hvm (Cx_z1 h)).kept hq, (va_T.moved hvm (Cx_t1 h)).kept hq, (va_Z.moved hvm (Cx_z2 h)).kept hq, (va_T.moved hvm (Cx_t2 h)).kept hq, hn (Cx_nw h)⟩
end
section
/-! PICTURES: the heap holds the memory m -/
def cf (G : Gc) (m : Mm) : Nat → va_E := fun a => cell G.2.1 m (tg m a) a
def pic (G : Gc) (m : Mm) (H : Heap) : Prop := ∃ L : List Nat, (∀ a, a ∈ L ↔ tg m a ≠ 0) ∧ va_P G.1 classes (va_pl L (cf G m)) H ∧ va_D (fr G) (va_pl L (cf G m))
theorem pic_get {G : Gc} {m : Mm} {H : Heap} {a k : Nat} (hp : pic G m H) (ht : tg m a = k) (hk : k ≠ 0) : ∃ (L : List Nat) (j : Nat), (∀ a, a ∈ L ↔ tg m a ≠ 0) ∧ va_P G.1 classes (va_pl L (cf G m)) H ∧ va_D (fr G) (va_pl L (cf G m)) ∧ (va_pl L (cf G m))[j]? = some (a, cell G.2.1 m k a) := by
  obtain ⟨L, hL, hP, hD⟩ := hp
  have hm : a ∈ L := (hL a).mpr (by rw [ht]; exact hk)
  obtain ⟨j, hj⟩ := va_pl_get (X := []) (f := cf G m) hm
  refine ⟨L, j, hL, hP, hD, ?_⟩
  rw [List.nil_append] at hj
  rw [hj]
  simp only [cf, ht]
theorem pic_lo {G : Gc} {m : Mm} {H : Heap} {a : Nat} (hp : pic G m H) (ht : tg m a ≠ 0) : G.2.2.2.1 ≤ a := by
  obtain ⟨L, j, -, -, hD, hj⟩ := pic_get hp rfl ht
  exact hD.2 j _ hj
theorem pic_upd {G : Gc} {m m' : Mm} {L : List Nat} {H1 : Heap} {a j k : Nat} {e' : va_E} (hL : ∀ a, a ∈ L ↔ tg m a ≠ 0) (ha : tg m a = k) (hk : k ≠ 0) (hD : va_D (fr G) (va_pl L (cf G m))) (hj : (va_pl L (cf G m))[j]? = some (a, cell G.2.1 m k a)) (hP1 : va_P G.1 classes ((va_pl L (cf G m)).set j (a, e')) H1) (hD1 : va_D (fr G) ((va_pl L (cf G m)).set j (a, e'))) (htg : ∀ b, tg m' b = tg m b) (he : cell G.2.1 m' k a = e') (ho : ∀ t b, b ≠ a → cell G.2.1 m' t b = cell G.2.1 m t b) : pic G m' H1 := by
  have hs : (va_pl L (cf G m)).set j (a, e') = va_pl L (cf G m') := by
    have h1 := va_pl_set (X := []) (e := e') (A := fr G) hD ((hL a).mpr (by rw [ha]; exact hk)) (k := j) (by rw [List.nil_append, hj]; simp only [cf, ha])
    rw [List.nil_append, List.nil_append] at h1
    rw [h1]
    refine va_pl_congr fun b => ?_
    by_cases hb : b = a
    · subst hb; rw [va_up_self]; simp only [cf, htg, ha, he]
    · rw [va_up_ne _ _ hb]; simp only [cf, htg]; exact (ho _ b hb).symm
  rw [hs] at hP1 hD1
  exact ⟨L, fun b => by rw [htg]; exact hL b, hP1, hD1⟩
theorem pic_push {G : Gc} {m m' : Mm} {L : List Nat} {H1 : Heap} {q k : Nat} {e' : va_E} (hL : ∀ a, a ∈ L ↔ tg m a ≠ 0) (hk : k ≠ 0) (hP1 : va_P G.1 classes (va_pl L (cf G m) ++ [(q, e')]) H1) (hD1 : va_D (fr G) (va_pl L (cf G m) ++ [(q, e')])) (hq : tg m' q = k) (htg : ∀ b, b ≠ q → tg m' b = tg m b) (he : cell G.2.1 m' k q = e') (ho : ∀ t b, b ≠ q → cell G.2.1 m' t b = cell G.2.1 m t b) : pic G m' H1 := by
  have hn : q ∉ L := va_pl_fresh2 (X := []) hD1
  have hs : va_pl L (cf G m) ++ [(q, e')] = va_pl (L ++ [q]) (cf G m') := by
    rw [va_pl_push hn]
    refine va_pl_congr fun b => ?_
    by_cases hb : b = q
    · subst hb; rw [va_up_self]; simp only [cf, hq, he]
    · rw [va_up_ne _ _ hb]; simp only [cf, htg b hb]; exact (ho _ b hb).symm
  rw [hs] at hP1 hD1
  refine ⟨L ++ [q], fun b => ?_, hP1, hD1⟩
  rw [List.mem_append, List.mem_singleton]
  by_cases hb : b = q
  · subst hb; simp [hq, hk]
  · rw [htg b hb, hL b]; simp [hb]
theorem pic_fresh {G : Gc} {m : Mm} {L : List Nat} {q : Nat} {e' : va_E} (hL : ∀ a, a ∈ L ↔ tg m a ≠ 0) (hD1 : va_D (fr G) (va_pl L (cf G m) ++ [(q, e')])) : tg m q = 0 := by
  have hn : q ∉ L := va_pl_fresh2 (X := []) hD1
  exact Decidable.byContradiction fun h => hn ((hL q).mpr h)
/-- a method's surroundings -/
def En (G : Gc) (own : String) (cc : ByteArray) (mL : Nat) (p : Program) (s : State) (m : MethodId) (args : Array Value) (meth : Method) (c : Code) : Prop := p.tables.exec = Jvm.exec ∧ c.code = cc ∧ c.maxLocals = mL ∧ s.vm.findClass own = some m.cls ∧ (∀ w ∈ lw_good, w.before args s = true) ∧ Cx G s ∧ meth.locks = false
def Pre9 (G : Gc) (m0 : Mm) (av : List Value) : Array Value → State → Prop := va_Pc av (fun U => pic G m0 U.heap ∧ Cx G U)
def PoI (G : Gc) (P : Int32 → Mm → Prop) : Array Value → State → Outcome → State → Prop := va_Qi P (fun m' t => pic G m' t.heap) (fr G)
def PoL (G : Gc) (P : Int64 → Mm → Prop) : Array Value → State → Outcome → State → Prop := va_Ql P (fun m' t => pic G m' t.heap) (fr G)
def PoV (G : Gc) (P : Mm → Prop) : Array Value → State → Outcome → State → Prop := va_Qv P (fun m' t => pic G m' t.heap) (fr G)
def PoR (G : Gc) (P : Nat → Mm → Prop) : Array Value → State → Outcome → State → Prop := va_Qq (fun r m' => ∃ x, r = ro x ∧ P x m') (fun m' t => pic G m' t.heap) (fr G)
theorem Pre9.blind (G : Gc) (m0 : Mm) (av : List Value) : FrameBlind (Pre9 G m0 av) := fun a U g mk q => by
  obtain ⟨q0, q1, q2⟩ := q
  exact ⟨q0, q1, Cx.moved (u := U) (U := U.calling g mk a) (Vm.Alike.refl U.vm) (Nat.le_refl _) (fun _ _ _ => rfl) (fun h => NwAll.same rfl h) q2⟩
section MP
variable {p : Program} {l : Launch} {e : Env} {R : Room} {s : State} {mt : MethodId} {args : Array Value} {below : List Frame} {meth : Method} {c : Code} {H : Heap} {locs : List Loc} {cells slots : Nat} {Q : State → Prop} {cc : ByteArray} {pc mL : Nat} {ls : Array Slot} {rest : List Value} {G : Gc} {own : String} {m : Mm} {a k : Nat}
theorem En.pos (E : En G own cc mL p s mt args meth c) (hp : pic G m H) (ht : tg m a = k) (hk : k ≠ 0) : a ≠ 0 := by
  have h1 := pic_lo hp (a := a) (by rw [ht]; exact hk)
  have h2 : 0 < G.2.2.2.1 := E.2.2.2.2.2.1.1
  omega
theorem mp_get (E : En G own cc mL p s mt args meth c) (hp : pic G m H) (ht : tg m a = k) (hk : k ≠ 0) {ci : Nat} {fs : List Value} (hce : cell G.2.1 m k a = .inr (ci, fs)) {C : String} {T : u_T} {N : Nat} (hc : classes[ci]? = some (C, T, N)) (hin : ∀ w ∈ u_ws C T N, w ∈ lw_good) (i : Nat) (hi : i < N) {idx : Nat} (hlink : Cond.fieldLink own idx (T i).1 (T i).2.1 (T i).2.2.1 ∈ lw_good) {v : Value} (hv : fs[i]? = some v) (hdg : decode cc pc = .ok (.getfield idx, 3))
    (kk : W p l e R s mt args below meth c H locs cells slots Q (F0 mt (pc + 3) ls (v :: rest))) : W p l e R s mt args below meth c H locs cells slots Q (F0 mt pc ls (rn a :: rest)) := by
  rw [rn_pos (E.pos hp ht hk)]
  obtain ⟨L, j, hL, hP, hD, hj⟩ := pic_get hp ht hk
  rw [hce] at hj
  exact va_get E.1 E.2.1 E.2.2.2.2.1 hin E.2.2.2.1 E.2.2.2.2.2.1.2.1 hP j hj hc i hi (E.2.2.2.2.1 _ hlink) (fun _ h9 => h9) hv hdg kk
theorem mp_put (E : En G own cc mL p s mt args meth c) (hp : pic G m H) (hS : va_S (fr G) s.heap H locs) (ht : tg m a = k) (hk : k ≠ 0) {ci : Nat} {fs : List Value} (hce : cell G.2.1 m k a = .inr (ci, fs)) {C : String} {T : u_T} {N : Nat} (hc : classes[ci]? = some (C, T, N)) (hin : ∀ w ∈ u_ws C T N, w ∈ lw_good) (ty0 : Nat → FieldType) (hty : ∀ k, k < N → parseFieldDescriptor (T k).2.2.1 = some (ty0 k)) (hnm : ∀ a, a < N → ∀ b, b < N → a ≠ b → (T a).2.1 ≠ (T b).2.1) (i : Nat) (hi : i < N) {idx : Nat} (hlink : Cond.fieldLink own idx (T i).1 (T i).2.1 (T i).2.2.1 ∈ lw_good) (hfin : (T i).2.2.2 = false) {ty : FieldType} {v : Value} (hd : parseFieldDescriptor (T i).2.2.1 = some ty) (hn : narrow ty v = v) (hfit : fits ty v = true) (hl : i < fs.length)
    {m' : Mm} (htg : ∀ b, tg m' b = tg m b) (he : cell G.2.1 m' k a = .inr (ci, fs.set i v)) (ho : ∀ t b, b ≠ a → cell G.2.1 m' t b = cell G.2.1 m t b) (hdg : decode cc pc = .ok (.putfield idx, 3))
    (kk : ∀ (H1 : Heap) (locs1 : List Loc), pic G m' H1 → va_S (fr G) s.heap H1 locs1 → W p l e R s mt args below meth c H1 locs1 cells slots Q (F0 mt (pc + 3) ls rest)) : W p l e R s mt args below meth c H locs cells slots Q (F0 mt pc ls (v :: rn a :: rest)) := by
  rw [rn_pos (E.pos hp ht hk)]
  obtain ⟨L, j, hL, hP, hD, hj⟩ := pic_get hp ht hk
  have hj' := hj
  rw [hce] at hj
  exact va_put E.1 E.2.1 E.2.2.2.2.1 hin ty0 hty hnm E.2.2.2.1 E.2.2.2.2.2.1.2.1 hP hD hS j hj hc i hi (E.2.2.2.2.1 _ hlink) (fun _ h9 => h9) hfin hd hn hfit hl hdg (fun H1 locs1 hP1 hD1 hS1 => kk H1 locs1 (pic_upd hL ht hk hD hj' hP1 hD1 htg he ho) hS1)
theorem mp_putF (E : En G own cc mL p s mt args meth c) (hp : pic G m H) (hS : va_S (fr G) s.heap H locs) (ht : tg m a = k) (hk : k ≠ 0) {ci : Nat} {fs : List Value} (hce : cell G.2.1 m k a = .inr (ci, fs)) {C : String} {T : u_T} {N : Nat} (hc : classes[ci]? = some (C, T, N)) (hin : ∀ w ∈ u_ws C T N, w ∈ lw_good) (ty0 : Nat → FieldType) (hty : ∀ k, k < N → parseFieldDescriptor (T k).2.2.1 = some (ty0 k)) (hnm : ∀ a, a < N → ∀ b, b < N → a ≠ b → (T a).2.1 ≠ (T b).2.1) (i : Nat) (hi : i < N) {idx : Nat} (hlink : Cond.fieldLink own idx (T i).1 (T i).2.1 (T i).2.2.1 ∈ lw_good) (hfin : (T i).2.2.2 = true) (hini : meth.name = "<init>") (hdecl : (T i).1 = own) {ty : FieldType} {v : Value} (hd : parseFieldDescriptor (T i).2.2.1 = some ty) (hn : narrow ty v = v) (hfit : fits ty v = true) (hl : i < fs.length)
    {m' : Mm} (htg : ∀ b, tg m' b = tg m b) (he : cell G.2.1 m' k a = .inr (ci, fs.set i v)) (ho : ∀ t b, b ≠ a → cell G.2.1 m' t b = cell G.2.1 m t b) (hdg : decode cc pc = .ok (.putfield idx, 3))
    (kk : ∀ (H1 : Heap) (locs1 : List Loc), pic G m' H1 → va_S (fr G) s.heap H1 locs1 → W p l e R s mt args below meth c H1 locs1 cells slots Q (F0 mt (pc + 3) ls rest)) : W p l e R s mt args below meth c H locs cells slots Q (F0 mt pc ls (v :: rn a :: rest)) := by
  rw [rn_pos (E.pos hp ht hk)]
  obtain ⟨L, j, hL, hP, hD, hj⟩ := pic_get hp ht hk
  have hj' := hj
  rw [hce] at hj
  exact va_putF E.1 E.2.1 E.2.2.2.2.1 hin ty0 hty hnm E.2.2.2.1 E.2.2.2.2.2.1.2.1 hP hD hS j hj hc i hi (E.2.2.2.2.1 _ hlink) (fun _ h9 => h9) hfin hini hdecl hd hn hfit hl hdg (fun H1 locs1 hP1 hD1 hS1 => kk H1 locs1 (pic_upd hL ht hk hD hj' hP1 hD1 htg he ho) hS1)
theorem mp_new (E : En G own cc mL p s mt args meth c) (hp : pic G m H) (hS : va_S (fr G) s.heap H locs) (hk : k ≠ 0) {ci : Nat} {C : String} {T : u_T} {N : Nat} (hc : classes[ci]? = some (C, T, N)) (hin : ∀ w ∈ u_ws C T N, w ∈ lw_good) (ty0 : Nat → FieldType) (hty : ∀ k, k < N → parseFieldDescriptor (T k).2.2.1 = some (ty0 k)) {idx : Nat} (hcl : Cond.classLink own idx C ∈ lw_good) (hinst : Cond.instantiable C N ∈ lw_good) (hini : Cond.initialized C ∈ lw_good) {fs : List Value} (hfs : ∀ j, j < N → defaultValue (ty0 j) = vp_V fs j) (he : ∀ q, cell G.2.1 (nO m k q) k q = .inr (ci, fs)) (hcells : cells + 1 ≤ R.cells) (hslots : slots + N ≤ R.slots) (hdg : decode cc pc = .ok (.new idx, 3))
    (kk : ∀ (q : Nat), tg m q = 0 → q ≠ 0 → ∀ m' : Mm, m' = nO m k q → ∀ (H1 : Heap), pic G m' H1 → va_S (fr G) s.heap H1 locs → W p l e R s mt args below meth c H1 locs (cells + 1) (slots + N) Q (F0 mt (pc + 3) ls (rn q :: rest))) : W p l e R s mt args below meth c H locs cells slots Q (F0 mt pc ls rest) := by
  obtain ⟨L, hL, hP, hD⟩ := hp
  refine va_new E.1 E.2.1 E.2.2.2.2.1 hin ty0 hty E.2.2.2.1 (E.2.2.2.2.1 _ hcl) (E.2.2.2.2.1 _ hinst) (E.2.2.2.2.1 _ hini) E.2.2.2.2.2.1.2.1 hP hD hS (fun q hq => Nat.le_trans E.2.2.2.2.2.1.2.2.1 hq) hc hfs hcells hslots hdg (fun q H1 hP1 hD1 hS1 => ?_)
  have hq0 : q ≠ 0 := by
    have h1 : G.2.2.2.1 ≤ q := by
      have := hD1.2 L.length (q, .inr (ci, fs)) (by simp [va_pl])
      exact this
    have h2 : 0 < G.2.2.2.1 := E.2.2.2.2.2.1.1
    omega
  have hk' := kk q (pic_fresh hL hD1) hq0 _ rfl H1 (pic_push hL hk hP1 hD1 (by simp [tg, nO, va_up]) (fun b hb => by simp [tg, nO, va_up, hb]) (he q) (fun t b hb => co_nO t hb)) hS1
  rw [rn_pos hq0] at hk'
  exact hk'
theorem mp_iald (E : En G own cc mL p s mt args meth c) (hp : pic G m H) (ht : tg m a = k) (hk : k ≠ 0) {t0 : Nat} (hce : cell G.2.1 m k a = .inl (G.2.1 t0, ln m a, .inl (fun j => aI m k a j))) (hty : (tys G.2.1)[t0]? = some (G.2.1 t0, .int)) {i : Int32} (hin : vp_in i (ln m a)) (hdg : decode cc pc = .ok (.iaload, 1))
    (kk : ∀ x : Int32, x = aI m k a i.toNatClampNeg → W p l e R s mt args below meth c H locs cells slots Q (F0 mt (pc + 1) ls (.int x :: rest))) : W p l e R s mt args below meth c H locs cells slots Q (F0 mt pc ls (.int i :: rn a :: rest)) := by
  rw [rn_pos (E.pos hp ht hk)]
  obtain ⟨L, j, hL, hP, hD, hj⟩ := pic_get hp ht hk
  rw [hce] at hj
  exact va_iald E.1 E.2.1 E.2.2.2.2.2.1.2.1 hP j t0 hj hty hin hdg (kk _ rfl)
theorem mp_bald (E : En G own cc mL p s mt args meth c) (hp : pic G m H) (ht : tg m a = k) (hk : k ≠ 0) {t0 : Nat} (hce : cell G.2.1 m k a = .inl (G.2.1 t0, ln m a, .inl (fun j => aI m k a j))) (hty : (tys G.2.1)[t0]? = some (G.2.1 t0, .byte)) {i : Int32} (hin : vp_in i (ln m a)) (hdg : decode cc pc = .ok (.baload, 1))
    (kk : ∀ x : Int32, x = aI m k a i.toNatClampNeg → W p l e R s mt args below meth c H locs cells slots Q (F0 mt (pc + 1) ls (.int x :: rest))) : W p l e R s mt args below meth c H locs cells slots Q (F0 mt pc ls (.int i :: rn a :: rest)) := by
  rw [rn_pos (E.pos hp ht hk)]
  obtain ⟨L, j, hL, hP, hD, hj⟩ := pic_get hp ht hk
  rw [hce] at hj
  exact va_bald E.1 E.2.1 E.2.2.2.2.2.1.2.1 hP j t0 hj hty hin hdg (kk _ rfl)
theorem mp_zald (E : En G own cc mL p s mt args meth c) (hp : pic G m H) (ht : tg m a = k) (hk : k ≠ 0) {t0 : Nat} (hce : cell G.2.1 m k a = .inl (G.2.1 t0, ln m a, .inl (fun j => aI m k a j))) (hty : (tys G.2.1)[t0]? = some (G.2.1 t0, .boolean)) {i : Int32} (hin : vp_in i (ln m a)) (hdg : decode cc pc = .ok (.baload, 1))
    (kk : ∀ x : Int32, x = aI m k a i.toNatClampNeg → W p l e R s mt args below meth c H locs cells slots Q (F0 mt (pc + 1) ls (.int x :: rest))) : W p l e R s mt args below meth c H locs cells slots Q (F0 mt pc ls (.int i :: rn a :: rest)) := by
  rw [rn_pos (E.pos hp ht hk)]
  obtain ⟨L, j, hL, hP, hD, hj⟩ := pic_get hp ht hk
  rw [hce] at hj
  exact va_zald E.1 E.2.1 E.2.2.2.2.2.1.2.1 hP j t0 hj hty hin hdg (kk _ rfl)
theorem mp_aald (E : En G own cc mL p s mt args meth c) (hp : pic G m H) (ht : tg m a = k) (hk : k ≠ 0) {t0 : Nat} (hce : cell G.2.1 m k a = .inl (G.2.1 t0, ln m a, .inr (.inr (.inr (.inr (fun j => ro (aR m k a j))))))) {C : String} (hty : (tys G.2.1)[t0]? = some (G.2.1 t0, .object C)) {i : Int32} (hin : vp_in i (ln m a)) (hdg : decode cc pc = .ok (.aaload, 1))
    (kk : ∀ x : Nat, x = aR m k a i.toNatClampNeg → W p l e R s mt args below meth c H locs cells slots Q (F0 mt (pc + 1) ls (rn x :: rest))) : W p l e R s mt args below meth c H locs cells slots Q (F0 mt pc ls (.int i :: rn a :: rest)) := by
  rw [rn_pos (E.pos hp ht hk)]
  obtain ⟨L, j, hL, hP, hD, hj⟩ := pic_get hp ht hk
  rw [hce] at hj
  exact va_aldq E.1 E.2.1 E.2.2.2.2.2.1.2.1 hP j t0 hj hty hin hdg (kk _ rfl)
theorem mp_alen (E : En G own cc mL p s mt args meth c) (hp : pic G m H) (ht : tg m a = k) (hk : k ≠ 0) {t0 : Nat} {ty : FieldType} {f : (Nat → Int32) ⊕ (Nat → Int64) ⊕ (Nat → UInt32) ⊕ (Nat → UInt64) ⊕ (Nat → Option Nat)} (hce : cell G.2.1 m k a = .inl (G.2.1 t0, ln m a, f)) (hty : (tys G.2.1)[t0]? = some (G.2.1 t0, ty)) (hdg : decode cc pc = .ok (.arraylength, 1))
    (kk : ∀ x : Int32, x = nI (ln m a) → W p l e R s mt args below meth c H locs cells slots Q (F0 mt (pc + 1) ls (.int x :: rest))) : W p l e R s mt args below meth c H locs cells slots Q (F0 mt pc ls (rn a :: rest)) := by
  rw [rn_pos (E.pos hp ht hk)]
  obtain ⟨L, j, hL, hP, hD, hj⟩ := pic_get hp ht hk
  rw [hce] at hj
  exact va_alen E.1 E.2.1 E.2.2.2.2.2.1.2.1 hP j t0 hj hty rfl hdg (kk _ rfl)
theorem mp_iast (E : En G own cc mL p s mt args meth c) (hp : pic G m H) (hS : va_S (fr G) s.heap H locs) (ht : tg m a = k) (hk : k ≠ 0) {t0 : Nat} (hce : cell G.2.1 m k a = .inl (G.2.1 t0, ln m a, .inl (fun j => aI m k a j))) (hce' : ∀ j v, cell G.2.1 (wI m k a j v) k a = .inl (G.2.1 t0, ln m a, .inl (upd (fun j => aI m k a j) j v))) (hty : (tys G.2.1)[t0]? = some (G.2.1 t0, .int)) {i x : Int32} (hin : vp_in i (ln m a)) (hdg : decode cc pc = .ok (.iastore, 1))
    (kk : ∀ m' : Mm, m' = wI m k a i.toNatClampNeg x → ∀ (H1 : Heap) (locs1 : List Loc), pic G m' H1 → va_S (fr G) s.heap H1 locs1 → W p l e R s mt args below meth c H1 locs1 cells slots Q (F0 mt (pc + 1) ls rest)) : W p l e R s mt args below meth c H locs cells slots Q (F0 mt pc ls (.int x :: .int i :: rn a :: rest)) := by
  rw [rn_pos (E.pos hp ht hk)]
  obtain ⟨L, j, hL, hP, hD, hj⟩ := pic_get hp ht hk
  have hj' := hj
  rw [hce] at hj
  exact va_iast E.1 E.2.1 E.2.2.2.2.2.1.2.1 hP hD hS j t0 hj hty hin hdg (fun H1 locs1 hP1 hD1 hS1 => kk _ rfl H1 locs1 (pic_upd hL ht hk hD hj' hP1 hD1 (fun _ => rfl) (hce' _ _) (fun t b hb => co_wI t hb)) hS1)
theorem mp_bast (E : En G own cc mL p s mt args meth c) (hp : pic G m H) (hS : va_S (fr G) s.heap H locs) (ht : tg m a = k) (hk : k ≠ 0) {t0 : Nat} (hce : cell G.2.1 m k a = .inl (G.2.1 t0, ln m a, .inl (fun j => aI m k a j))) (hce' : ∀ j v, cell G.2.1 (wI m k a j v) k a = .inl (G.2.1 t0, ln m a, .inl (upd (fun j => aI m k a j) j v))) (hty : (tys G.2.1)[t0]? = some (G.2.1 t0, .byte)) {i x : Int32} (hin : vp_in i (ln m a)) (hdg : decode cc pc = .ok (.bastore, 1))
    (kk : ∀ m' : Mm, m' = wI m k a i.toNatClampNeg x.toInt8.toInt32 → ∀ (H1 : Heap) (locs1 : List Loc), pic G m' H1 → va_S (fr G) s.heap H1 locs1 → W p l e R s mt args below meth c H1 locs1 cells slots Q (F0 mt (pc + 1) ls rest)) : W p l e R s mt args below meth c H locs cells slots Q (F0 mt pc ls (.int x :: .int i :: rn a :: rest)) := by
  rw [rn_pos (E.pos hp ht hk)]
  obtain ⟨L, j, hL, hP, hD, hj⟩ := pic_get hp ht hk
  have hj' := hj
  rw [hce] at hj
  exact va_bast E.1 E.2.1 E.2.2.2.2.2.1.2.1 hP hD hS j t0 hj hty hin hdg (fun H1 locs1 hP1 hD1 hS1 => kk _ rfl H1 locs1 (pic_upd hL ht hk hD hj' hP1 hD1 (fun _ => rfl) ((hce' _ _).trans (by rw [vp_nar_byte])) (fun t b hb => co_wI t hb)) hS1)
theorem mp_zast (E : En G own cc mL p s mt args meth c) (hp : pic G m H) (hS : va_S (fr G) s.heap H locs) (ht : tg m a = k) (hk : k ≠ 0) {t0 : Nat} (hce : cell G.2.1 m k a = .inl (G.2.1 t0, ln m a, .inl (fun j => aI m k a j))) (hce' : ∀ j v, cell G.2.1 (wI m k a j v) k a = .inl (G.2.1 t0, ln m a, .inl (upd (fun j => aI m k a j) j v))) (hty : (tys G.2.1)[t0]? = some (G.2.1 t0, .boolean)) {i x : Int32} (hin : vp_in i (ln m a)) (hdg : decode cc pc = .ok (.bastore, 1))
    (kk : ∀ m' : Mm, m' = wI m k a i.toNatClampNeg (vp_nar .boolean x) → ∀ (H1 : Heap) (locs1 : List Loc), pic G m' H1 → va_S (fr G) s.heap H1 locs1 → W p l e R s mt args below meth c H1 locs1 cells slots Q (F0 mt (pc + 1) ls rest)) : W p l e R s mt args below meth c H locs cells slots Q (F0 mt pc ls (.int x :: .int i :: rn a :: rest)) := by
  rw [rn_pos (E.pos hp ht hk)]
  obtain ⟨L, j, hL, hP, hD, hj⟩ := pic_get hp ht hk
  have hj' := hj
  rw [hce] at hj
  exact va_zast E.1 E.2.1 E.2.2.2.2.2.1.2.1 hP hD hS j t0 hj hty hin hdg (fun H1 locs1 hP1 hD1 hS1 => kk _ rfl H1 locs1 (pic_upd hL ht hk hD hj' hP1 hD1 (fun _ => rfl) (hce' _ _) (fun t b hb => co_wI t hb)) hS1)
theorem rx_ld (E : En G own cc mL p s mt args meth c) (hS : va_S (fr G) s.heap H locs) {i : Int32} (hin : vp_in i G.2.2.2.2.1) (hdg : decode cc pc = .ok (.iaload, 1))
    (kk : ∀ x : Int32, x = G.2.2.2.2.2 i.toNatClampNeg → W p l e R s mt args below meth c H locs cells slots Q (F0 mt (pc + 1) ls (.int x :: rest))) : W p l e R s mt args below meth c H locs cells slots Q (F0 mt pc ls (.int i :: .ref (G.2.2.1 99) :: rest)) :=
  va_sld E.1 E.2.1 (Cx_x E.2.2.2.2.2.1) (Nat.lt_of_lt_of_le (Cx_xl E.2.2.2.2.2.1) E.2.2.2.2.2.1.2.2.1) (Nat.not_le.mpr (Cx_xl E.2.2.2.2.2.1)) hS hin hdg (kk _ rfl)
theorem rx_len (E : En G own cc mL p s mt args meth c) (hS : va_S (fr G) s.heap H locs) (hdg : decode cc pc = .ok (.arraylength, 1))
    (kk : ∀ x : Int32, x = nI G.2.2.2.2.1 → W p l e R s mt args below meth c H locs cells slots Q (F0 mt (pc + 1) ls (.int x :: rest))) : W p l e R s mt args below meth c H locs cells slots Q (F0 mt pc ls (.ref (G.2.2.1 99) :: rest)) :=
  va_slen E.1 E.2.1 (Cx_x E.2.2.2.2.2.1) (Nat.lt_of_lt_of_le (Cx_xl E.2.2.2.2.2.1) E.2.2.2.2.2.1.2.2.1) (Nat.not_le.mpr (Cx_xl E.2.2.2.2.2.1)) hS hdg (kk _ rfl)
theorem rx_aload_n (E : En G own cc mL p s mt args meth c) {k : Fin 4} {i x : Nat} (hdg : decode cc pc = .ok (.aload_n k, 1)) (hi : (k : Nat) = i) (hl : ls[i]? = some (.val (.ref x)))
    (kk : W p l e R s mt args below meth c H locs cells slots Q (F0 mt (pc + 1) ls (.ref x :: rest))) : W p l e R s mt args below meth c H locs cells slots Q (F0 mt pc ls rest) := lv_aload_n E.1 E.2.1 hdg hi hl kk
theorem mp_aast (E : En G own cc mL p s mt args meth c) (hp : pic G m H) (hS : va_S (fr G) s.heap H locs) (ht : tg m a = k) (hk : k ≠ 0) {t0 : Nat} (hce : cell G.2.1 m k a = .inl (G.2.1 t0, ln m a, .inr (.inr (.inr (.inr (fun j => ro (aR m k a j))))))) (hce' : ∀ j v, cell G.2.1 (wR m k a j v) k a = .inl (G.2.1 t0, ln m a, .inr (.inr (.inr (.inr (va_up (fun j => ro (aR m k a j)) j (ro v))))))) {r : vw_C} (hty : (tys G.2.1)[t0]? = some (G.2.1 t0, .object r.1)) {v kv ci : Nat} {vs : List Value} (htv : tg m v = kv) (hkv : kv ≠ 0) (hcv : cell G.2.1 m kv v = .inr (ci, vs)) (hc : classes[ci]? = some r) {i : Int32} (hin : vp_in i (ln m a)) (hdg : decode cc pc = .ok (.aastore, 1))
    (kk : ∀ m' : Mm, m' = wR m k a i.toNatClampNeg v → ∀ (H1 : Heap) (locs1 : List Loc), pic G m' H1 → va_S (fr G) s.heap H1 locs1 → W p l e R s mt args below meth c H1 locs1 cells slots Q (F0 mt (pc + 1) ls rest)) : W p l e R s mt args below meth c H locs cells slots Q (F0 mt pc ls (rn v :: .int i :: rn a :: rest)) := by
  rw [rn_pos (E.pos hp ht hk), rn_pos (E.pos hp htv hkv)]
  have hv0 := E.pos hp htv hkv
  obtain ⟨L, hL, hP, hD⟩ := id hp
  have hma : a ∈ L := (hL a).mpr (by rw [ht]; exact hk)
  have hmv : v ∈ L := (hL v).mpr (by rw [htv]; exact hkv)
  obtain ⟨j, hj⟩ := va_pl_get (X := []) (f := cf G m) hma
  obtain ⟨jv, hjv⟩ := va_pl_get (X := []) (f := cf G m) hmv
  rw [List.nil_append] at hj hjv
  have hj' : (va_pl L (cf G m))[j]? = some (a, cell G.2.1 m k a) := by rw [hj]; simp only [cf, ht]
  have hjv' : (va_pl L (cf G m))[jv]? = some (v, cell G.2.1 m kv v) := by rw [hjv]; simp only [cf, htv]
  have hj2 := hj'
  rw [hce] at hj2
  rw [hcv] at hjv'
  exact va_astq E.1 E.2.1 E.2.2.2.2.2.1.2.1 hP hD hS j t0 jv ci hj2 hty hjv' hc hin hdg (fun H1 locs1 hP1 hD1 hS1 => kk _ rfl H1 locs1 (pic_upd hL ht hk hD hj' hP1 hD1 (fun _ => rfl) ((hce' _ _).trans (by rw [ro_pos hv0])) (fun t b hb => co_wR t hb)) hS1)
theorem mp_newa (E : En G own cc mL p s mt args meth c) (hp : pic G m H) (hS : va_S (fr G) s.heap H locs) (hk : k ≠ 0) {atype : ArrayType} {ty : FieldType} (hat : newarray.typeOf atype = ty) (harr : Cond.arrayClass (newarray.typeOf atype) ∈ lw_good) {t0 : Nat} (hfc : ∀ cA : ClassId, s.vm.findClass ("[" ++ ty.toString) = some cA → cA = G.2.1 t0) (he : ∀ q n', cell G.2.1 (nA m k q n') k q = .inl (G.2.1 t0, n', .inl (fun _ => 0))) (hdv : defaultValue ty = .int 0) (hra : ∀ cA, va_RA s cA ty → s.vm.findClass ("[" ++ ty.toString) = some cA)
    {n : Int32} {N' : Nat} (hn : ¬ n < 0) (hN : n.toNatClampNeg = N') (hbytes : N' * componentBytes ty ≤ 536870912) (hcells : cells + 1 ≤ R.cells) (hslots : slots + N' ≤ R.slots) (hdg : decode cc pc = .ok (.newarray atype, 2))
    (kk : ∀ (q : Nat), tg m q = 0 → q ≠ 0 → ∀ m' : Mm, m' = nA m k q N' → ∀ (H1 : Heap), pic G m' H1 → va_S (fr G) s.heap H1 locs → W p l e R s mt args below meth c H1 locs (cells + 1) (slots + N') Q (F0 mt (pc + 2) ls (rn q :: rest))) : W p l e R s mt args below meth c H locs cells slots Q (F0 mt pc ls (.int n :: rest)) := by
  obtain ⟨L, hL, hP, hD⟩ := hp
  refine va_newa (a0 := (N', .inl (fun _ => 0))) E.1 E.2.1 (E.2.2.2.2.1 _ harr) hat E.2.2.2.2.2.1.2.1 hP hD hS (fun q hq => Nat.le_trans E.2.2.2.2.2.1.2.2.1 hq) (fun cA => by rw [hdv]; rfl) hn hN hbytes hcells hslots hdg (fun q cA H1 hK1 hP1 hD1 hS1 => ?_)
  have hcA : cA = G.2.1 t0 := hfc cA (hra cA (hK1.2 (tys G.2.1).length (cA, ty) (by simp)).2)
  subst hcA
  have hq0 : q ≠ 0 := by
    have h1 : G.2.2.2.1 ≤ q := by
      have := hD1.2 L.length (q, .inl (G.2.1 t0, N', .inl (fun _ => 0))) (by simp [va_pl])
      exact this
    have h2 : 0 < G.2.2.2.1 := E.2.2.2.2.2.1.1
    omega
  have hk' := kk q (pic_fresh hL hD1) hq0 _ rfl H1 (pic_push hL hk hP1 hD1 (by simp [tg, nA, va_up]) (fun b hb => by simp [tg, nA, va_up, hb]) (he q _) (fun t b hb => co_nA t hb)) hS1
  rw [rn_pos hq0] at hk'
  exact hk'
theorem mp_newq (E : En G own cc mL p s mt args meth c) (hp : pic G m H) (hS : va_S (fr G) s.heap H locs) (hk : k ≠ 0) {C : String} {idx : Nat} (hcl : Cond.classLink own idx C ∈ lw_good) (hao : va_AO C s) {t0 : Nat} (hfc : ∀ cA : ClassId, va_RA s cA (.object C) → cA = G.2.1 t0) (he : ∀ q n', cell G.2.1 (nA m k q n') k q = .inl (G.2.1 t0, n', .inr (.inr (.inr (.inr (fun _ => none))))))
    {n : Int32} {N' : Nat} (hn : ¬ n < 0) (hN : n.toNatClampNeg = N') (hbytes : N' * 4 ≤ 536870912) (hcells : cells + 1 ≤ R.cells) (hslots : slots + N' ≤ R.slots) (hdg : decode cc pc = .ok (.anewarray idx, 3))
    (kk : ∀ (q : Nat), tg m q = 0 → q ≠ 0 → ∀ m' : Mm, m' = nA m k q N' → ∀ (H1 : Heap), pic G m' H1 → va_S (fr G) s.heap H1 locs → W p l e R s mt args below meth c H1 locs (cells + 1) (slots + N') Q (F0 mt (pc + 3) ls (rn q :: rest))) : W p l e R s mt args below meth c H locs cells slots Q (F0 mt pc ls (.int n :: rest)) := by
  obtain ⟨L, hL, hP, hD⟩ := hp
  refine va_newq E.1 E.2.1 E.2.2.2.1 (E.2.2.2.2.1 _ hcl) hao E.2.2.2.2.2.1.2.1 hP hD hS (fun q hq => Nat.le_trans E.2.2.2.2.2.1.2.2.1 hq) hn hN hbytes hcells hslots hdg (fun q cA H1 hK1 hP1 hD1 hS1 => ?_)
  have hcA : cA = G.2.1 t0 := hfc cA (hK1.2 (tys G.2.1).length (cA, .object C) (by simp)).2
  subst hcA
  have hq0 : q ≠ 0 := by
    have h1 : G.2.2.2.1 ≤ q := by
      have := hD1.2 L.length (q, .inl (G.2.1 t0, N', .inr (.inr (.inr (.inr (fun _ => none)))))) (by simp [va_pl])
      exact this
    have h2 : 0 < G.2.2.2.1 := E.2.2.2.2.2.1.1
    omega
  have hk' := kk q (pic_fresh hL hD1) hq0 _ rfl H1 (pic_push hL hk hP1 hD1 (by simp [tg, nA, va_up]) (fun b hb => by simp [tg, nA, va_up, hb]) (he q _) (fun t b hb => co_nA t hb)) hS1
  rw [rn_pos hq0] at hk'
  exact hk'
theorem mp_copyi (E : En G own cc mL p s mt args meth c) (hp : pic G m H) (hS : va_S (fr G) s.heap H locs) (hsz : ls.size = mL) {idx : Nat} (hl : Cond.methodLink own idx arraycopyName ∈ lw_good ∧ Cond.native arraycopyName ∈ lw_good ∧ Cond.static arraycopyName ∈ lw_good ∧ Cond.initialized "java/lang/System" ∈ lw_good) {a0 a1 k0 k1 t0 : Nat} (ht0 : tg m a0 = k0) (hk0 : k0 ≠ 0) (hce0 : cell G.2.1 m k0 a0 = .inl (G.2.1 t0, ln m a0, .inl (fun j => aI m k0 a0 j))) (ht1 : tg m a1 = k1) (hk1 : k1 ≠ 0) (hce1 : cell G.2.1 m k1 a1 = .inl (G.2.1 t0, ln m a1, .inl (fun j => aI m k1 a1 j))) (hcc : ∀ f, cell G.2.1 (wC m k1 a1 f) k1 a1 = .inl (G.2.1 t0, ln m a1, .inl f)) (hty : (tys G.2.1)[t0]? = some (G.2.1 t0, .int)) (hprim : refKind .int = false)
    {sp dp n : Int32} (h1 : ¬ sp < 0) (h2 : ¬ dp < 0) (h3 : ¬ n < 0) (h4 : sp.toNatClampNeg + n.toNatClampNeg ≤ ln m a0) (h5 : dp.toNatClampNeg + n.toNatClampNeg ≤ ln m a1) (hframes : 1 ≤ R.frames) (hlocals : (rest.map fun v => v.category).sum + (nativeFrameWords "java/lang/System" "arraycopy" 5 + 11) ≤ R.locals) (hdg : decode cc pc = .ok (.invokestatic idx, 3))
    (kk : ∀ m' : Mm, m' = wC m k1 a1 (va_cpy (fun j => aI m k0 a0 j) (fun j => aI m k1 a1 j) sp.toNatClampNeg dp.toNatClampNeg n.toNatClampNeg) → ∀ (H1 : Heap) (locs1 : List Loc), pic G m' H1 → va_S (fr G) s.heap H1 locs1 → W p l e R s mt args below meth c H1 locs1 cells slots Q (F0 mt (pc + 3) ls rest)) : W p l e R s mt args below meth c H locs cells slots Q (F0 mt pc ls (.int n :: .int dp :: rn a1 :: .int sp :: rn a0 :: rest)) := by
  rw [rn_pos (E.pos hp ht0 hk0), rn_pos (E.pos hp ht1 hk1)]
  obtain ⟨L, hL, hP, hD⟩ := id hp
  have hm0 : a0 ∈ L := (hL a0).mpr (by rw [ht0]; exact hk0)
  have hm1 : a1 ∈ L := (hL a1).mpr (by rw [ht1]; exact hk1)
  obtain ⟨j, hj⟩ := va_pl_get (X := []) (f := cf G m) hm0
  obtain ⟨j1, hj1⟩ := va_pl_get (X := []) (f := cf G m) hm1
  rw [List.nil_append] at hj hj1
  have hj' : (va_pl L (cf G m))[j]? = some (a0, cell G.2.1 m k0 a0) := by rw [hj]; simp only [cf, ht0]
  have hj1' : (va_pl L (cf G m))[j1]? = some (a1, cell G.2.1 m k1 a1) := by rw [hj1]; simp only [cf, ht1]
  have hj2 := hj1'
  rw [hce0] at hj'
  rw [hce1] at hj1'
  exact va_copyi E.1 E.2.1 (E.2.2.1.trans hsz.symm) E.2.2.2.1 (E.2.2.2.2.1 _ hl.1) (E.2.2.2.2.1 _ hl.2.1) (E.2.2.2.2.1 _ hl.2.2.1) (E.2.2.2.2.1 _ hl.2.2.2) E.2.2.2.2.2.1.2.1 hP hD hS j j1 t0 t0 hj' hj1' hty hty hprim h1 h2 h3 h4 h5 (fun _ _ => rfl) hframes hlocals hdg (fun H1 locs1 hP1 hD1 hS1 => kk _ rfl H1 locs1 (pic_upd hL ht1 hk1 hD hj2 hP1 hD1 (fun _ => rfl) (hcc _) (fun t b hb => co_wC t hb)) hS1)
/-- a return -/
theorem mp_iret (E : En G own cc mL p s mt args meth c) (hr : meth.sig.returnType = some .int) (hp : pic G m H) (hS : va_S (fr G) s.heap H locs) {P : Int32 → Mm → Prop} {v : Int32} (h : P v m) (hdg : decode cc pc = .ok (.ireturn, 1)) : W p l e R s mt args below meth c H locs cells slots (MQ below (PoI G P) args s cells slots (fr G)) (F0 mt pc ls [.int v]) :=
  W.iret (Qc := PoI G P) E.1 E.2.1 hr (fun t ht hW => ⟨⟨v, m, rfl, h, by show pic G m t.heap; rw [ht]; exact hp⟩, hS.F ht⟩) hS.2.2 hdg E.2.2.2.2.2.2
theorem mp_zret (E : En G own cc mL p s mt args meth c) {ty : FieldType} (hr : meth.sig.returnType = some ty) (hp : pic G m H) (hS : va_S (fr G) s.heap H locs) {P : Int32 → Mm → Prop} {v : Int32} (hn : narrow ty (.int v) = .int v) (h : P v m) (hdg : decode cc pc = .ok (.ireturn, 1)) : W p l e R s mt args below meth c H locs cells slots (MQ below (PoI G P) args s cells slots (fr G)) (F0 mt pc ls [.int v]) :=
  W.zret (Qc := PoI G P) E.1 E.2.1 hr hn (fun t ht hW => ⟨⟨v, m, rfl, h, by show pic G m t.heap; rw [ht]; exact hp⟩, hS.F ht⟩) hS.2.2 hdg E.2.2.2.2.2.2
theorem mp_vret (E : En G own cc mL p s mt args meth c) (hr : meth.sig.returnType = none) (hp : pic G m H) (hS : va_S (fr G) s.heap H locs) {P : Mm → Prop} (h : P m) (hdg : decode cc pc = .ok (.return_, 1)) : W p l e R s mt args below meth c H locs cells slots (MQ below (PoV G P) args s cells slots (fr G)) (F0 mt pc ls []) :=
  W.vret (Qc := PoV G P) E.1 E.2.1 hr (fun t ht hW => ⟨⟨m, rfl, h, by show pic G m t.heap; rw [ht]; exact hp⟩, hS.F ht⟩) hS.2.2 hdg E.2.2.2.2.2.2
theorem mp_aret (E : En G own cc mL p s mt args meth c) {rt : FieldType} (hr : meth.sig.returnType = some rt) (hrt : (∃ n, rt = .object n) ∨ ∃ t, rt = .array t) (hp : pic G m H) (hS : va_S (fr G) s.heap H locs) {P : Nat → Mm → Prop} {v : Nat} (h : P v m) (hdg : decode cc pc = .ok (.areturn, 1)) : W p l e R s mt args below meth c H locs cells slots (MQ below (PoR G P) args s cells slots (fr G)) (F0 mt pc ls [rn v]) :=
  W.aret (Qc := PoR G P) E.1 E.2.1 hr hrt (va_rf_or (ro v)) (fun t ht hW => ⟨⟨ro v, m, rfl, ⟨v, rfl, h⟩, by show pic G m t.heap; rw [ht]; exact hp⟩, hS.F ht⟩) hS.2.2 hdg E.2.2.2.2.2.2
end MP
/-! CALLS -/
theorem good_in : GoodIn lw_good lw_good := fun w h => ⟨h, good_of_word (List.mem_filter.mp h).2⟩
theorem good_cons {w : Cond} (hw : w ∈ lw_good) {ws : List Cond} (h : GoodIn lw_good ws) : GoodIn lw_good (w :: ws) := fun v hv => by
  rcases List.mem_cons.mp hv with rfl | hv
  · exact good_in _ hw
  · exact h v hv
/-- what the tables say of a callee: its code, its class -/
def Wd (y : MethodName) (bytes : ByteArray) (maxL : Nat) (ret : Option FieldType) (n : Nat) : Prop := Cond.code y bytes maxL ret ∈ lw_good ∧ Cond.initialized y.cls ∈ lw_good ∧ y.cls ≠ "java/lang/invoke/MethodHandle" ∧ y.cls ≠ "java/lang/invoke/VarHandle" ∧ (parseMethodDescriptor y.desc).map (fun d => d.parameters.length) = some n
section MC
variable {p : Program} {l : Launch} {e : Env} {R : Room} {s : State} {mt : MethodId} {args : Array Value} {below : List Frame} {meth : Method} {c : Code} {H : Heap} {locs : List Loc} {cells slots : Nat} {Q : State → Prop} {cc : ByteArray} {pc mL : Nat} {ls : Array Slot} {rest st0 : List Value} {G : Gc} {own : String} {m : Mm} {b k : Nat}
variable {y : MethodName} {bytes : ByteArray} {maxL idx n mc ms : Nat} {ret : Option FieldType} {rm : Room} {As : List Value}
theorem En.pre (E : En G own cc mL p s mt args meth c) (hp : pic G m H) (hS : va_S (fr G) s.heap H locs) {av : List Value} (U : State) (hU : U.heap = H) (hW : s.WarmedH U.vm) : Pre9 G m av av.toArray U :=
  ⟨rfl, by rw [hU]; exact hp, Cx.moved hW.alike (by rw [hU]; exact hS.1) (fun q h1 h2 => by rw [hU]; exact hS.2.1 q h1 h2) (fun h => NwAll.warm hW h) E.2.2.2.2.2.1⟩
theorem mc_cb (E : En G own cc mL p s mt args meth c) (hw : Wd y bytes maxL ret n) (hl : Cond.methodLink own idx y ∈ lw_good) (hrc : rm.cells = mc) (hrs : rm.slots = ms) (hR : rm.frames + 1 ≤ R.frames ∧ 8 + (maxL + 11) + rm.locals ≤ R.locals) : CallB R s args own idx y bytes maxL ret (Cond.code y bytes maxL ret :: lw_good) rm mc ms n :=
  callB_of n E.2.2.2.2.1 (good_cons hw.1 good_in) rfl hrc hrs (E.2.2.2.2.1 _ hw.2.1) (E.2.2.2.2.1 _ hl) hw.2.2 hR
theorem mc_runV {Qc : Array Value → State → Outcome → State → Prop} (E : En G own cc mL p s mt args meth c) (hM : Met l y (Cond.code y bytes maxL ret :: lw_good) rm (Pre9 G m (rn b :: As)) Qc mc ms (fr G)) (hw : Wd y bytes maxL ret n) (hl : Cond.methodLink own idx y ∈ lw_good ∧ Cond.instanceMethod y ∈ lw_good ∧ Cond.selects y.cls y y ∈ lw_good) (hrc : rm.cells = mc) (hrs : rm.slots = ms) (hR : rm.frames + 1 ≤ R.frames ∧ 8 + (maxL + 11) + rm.locals ≤ R.locals)
    (hp : pic G m H) (hS : va_S (fr G) s.heap H locs) (ht : tg m b = k) (hk : k ≠ 0) {ci : Nat} {fs : List Value} (hce : cell G.2.1 m k b = .inr (ci, fs)) {T : u_T} {N : Nat} (hc : classes[ci]? = some (y.cls, T, N)) (hn : As.length = n) (hsize : ls.size = mL) (hst : st0 = As.reverse ++ rn b :: rest) (hW : 2 * (F0 mt pc ls st0).monitorRoom + (rest.map fun v => v.category).sum ≤ 8) (hdg : decode cc pc = .ok (.invokevirtual idx, 3)) (hf : cells + mc ≤ R.cells ∧ slots + ms ≤ R.slots) :
    va_Run p l e R s mt args below meth c H locs cells slots mc ms (F0 mt pc ls st0) rest (Qc (rn b :: As).toArray) (fr G) := by
  have hb0 : rn b = .ref b := rn_pos (E.pos hp ht hk)
  obtain ⟨L, j, hL, hP, hD, hj⟩ := pic_get hp ht hk
  rw [hce] at hj
  have hrec := va_recv E.2.2.2.2.2.1.2.1 hP hc hj
  rw [hb0] at hM hst ⊢
  refine va_runV (C := y.cls) (b := b) (As := As) (rest := rest) ⟨E.1, E.2.1, E.2.2.1, E.2.2.2.1, E.2.2.2.2.1⟩ hM ⟨mc_cb E hw hl.1 hrc hrs hR, E.2.2.2.2.1 _ hl.2.1, E.2.2.2.2.1 _ hl.2.2⟩ ⟨Pre9.blind G m _, hrec, fun U hU hW => E.pre hp hS U hU hW⟩ rfl hn hsize hst hW hdg hf
theorem mc_runS {Qc : Array Value → State → Outcome → State → Prop} (E : En G own cc mL p s mt args meth c) (hM : Met l y (Cond.code y bytes maxL ret :: lw_good) rm (Pre9 G m As) Qc mc ms (fr G)) (hw : Wd y bytes maxL ret n) (hl : Cond.methodLink own idx y ∈ lw_good ∧ Cond.static y ∈ lw_good) (hrc : rm.cells = mc) (hrs : rm.slots = ms) (hR : rm.frames + 1 ≤ R.frames ∧ 8 + (maxL + 11) + rm.locals ≤ R.locals)
    (hp : pic G m H) (hS : va_S (fr G) s.heap H locs) (hn : As.length = n) (hsize : ls.size = mL) (hst : st0 = As.reverse ++ rest) (hW : 2 * (F0 mt pc ls st0).monitorRoom + (rest.map fun v => v.category).sum ≤ 8) (hdg : decode cc pc = .ok (.invokestatic idx, 3)) (hf : cells + mc ≤ R.cells ∧ slots + ms ≤ R.slots) :
    va_Run p l e R s mt args below meth c H locs cells slots mc ms (F0 mt pc ls st0) rest (Qc As.toArray) (fr G) :=
  va_runS (As := As) (rest := rest) ⟨E.1, E.2.1, E.2.2.1, E.2.2.2.1, E.2.2.2.2.1⟩ hM ⟨mc_cb E hw hl.1 hrc hrs hR, E.2.2.2.2.1 _ hl.2⟩ ⟨Pre9.blind G m _, fun U hU hW => E.pre hp hS U hU hW⟩ rfl hn hsize hst hW hdg hf
theorem mc_runI {Qc : Array Value → State → Outcome → State → Prop} (E : En G own cc mL p s mt args meth c) (hM : Met l y (Cond.code y bytes maxL none :: lw_good) rm (Pre9 G m (rn b :: As)) Qc mc ms (fr G)) (hw : Wd y bytes maxL none n) (hl : Cond.methodLink own idx y ∈ lw_good ∧ Cond.instanceMethod y ∈ lw_good) (hy : y.name = "<init>") (hrc : rm.cells = mc) (hrs : rm.slots = ms) (hR : rm.frames + 1 ≤ R.frames ∧ 8 + (maxL + 11) + rm.locals ≤ R.locals)
    (hp : pic G m H) (hS : va_S (fr G) s.heap H locs) (hb0 : b ≠ 0) (hn : As.length = n) (hsize : ls.size = mL) (hst : st0 = As.reverse ++ rn b :: rest) (hW : 2 * (F0 mt pc ls st0).monitorRoom + (rest.map fun v => v.category).sum ≤ 8) (hdg : decode cc pc = .ok (.invokespecial idx, 3)) (hf : cells + mc ≤ R.cells ∧ slots + ms ≤ R.slots) :
    va_Run p l e R s mt args below meth c H locs cells slots mc ms (F0 mt pc ls st0) rest (Qc (rn b :: As).toArray) (fr G) := by
  rw [rn_pos hb0] at hM hst ⊢
  exact va_runI (b := b) (As := As) (rest := rest) ⟨E.1, E.2.1, E.2.2.1, E.2.2.2.1, E.2.2.2.2.1⟩ hM ⟨mc_cb E hw hl.1 hrc hrs hR, hy, E.2.2.2.2.1 _ hl.2⟩ ⟨Pre9.blind G m _, fun U hU hW => E.pre hp hS U hU hW⟩ rfl hn hsize hst hW hdg hf
/-- behind a call -/
theorem mc_i {P : Int32 → Mm → Prop} {a : Array Value} (hS : va_S (fr G) s.heap H locs) (hr : va_Run p l e R s mt args below meth c H locs cells slots mc ms (F0 mt pc ls st0) rest (PoI G P a) (fr G))
    (kk : ∀ (r : Int32) (m' : Mm), P r m' → ∀ (H1 : Heap) (locs1 : List Loc), pic G m' H1 → va_S (fr G) s.heap H1 locs1 → W p l e R s mt args below meth c H1 locs1 (cells + mc) (slots + ms) Q (F0 mt (pc + 3) ls (.int r :: rest))) : W p l e R s mt args below meth c H locs cells slots Q (F0 mt pc ls st0) :=
  va_calli hr hS (fun _ _ h => h) (fun _ h => h) (fun r u t H1 locs1 ht _ hw hB _ _ hS1 => kk r u hw H1 locs1 (by rw [← ht]; exact hB) hS1)
theorem mc_v {P : Mm → Prop} {a : Array Value} (hS : va_S (fr G) s.heap H locs) (hr : va_Run p l e R s mt args below meth c H locs cells slots mc ms (F0 mt pc ls st0) rest (PoV G P a) (fr G))
    (kk : ∀ (m' : Mm), P m' → ∀ (H1 : Heap) (locs1 : List Loc), pic G m' H1 → va_S (fr G) s.heap H1 locs1 → W p l e R s mt args below meth c H1 locs1 (cells + mc) (slots + ms) Q (F0 mt (pc + 3) ls rest)) : W p l e R s mt args below meth c H locs cells slots Q (F0 mt pc ls st0) :=
  va_callv hr hS (fun _ _ h => h) (fun _ h => h) (fun u t H1 locs1 ht _ hw hB _ _ hS1 => kk u hw H1 locs1 (by rw [← ht]; exact hB) hS1)
theorem mc_r {P : Nat → Mm → Prop} {a : Array Value} (hS : va_S (fr G) s.heap H locs) (hr : va_Run p l e R s mt args below meth c H locs cells slots mc ms (F0 mt pc ls st0) rest (PoR G P a) (fr G))
    (kk : ∀ (x : Nat) (m' : Mm), P x m' → ∀ (H1 : Heap) (locs1 : List Loc), pic G m' H1 → va_S (fr G) s.heap H1 locs1 → W p l e R s mt args below meth c H1 locs1 (cells + mc) (slots + ms) Q (F0 mt (pc + 3) ls (rn x :: rest))) : W p l e R s mt args below meth c H locs cells slots Q (F0 mt pc ls st0) :=
  va_callq hr hS (fun _ _ h => h) (fun _ h => h) (fun r u t H1 locs1 ht _ hw hB _ _ hS1 => by
    obtain ⟨x, rfl, hP⟩ := hw
    exact kk x u hP H1 locs1 (by rw [← ht]; exact hB) hS1)
/-- Object.<init> -/
theorem mc_obj (E : En G own cc mL p s mt args meth c) (hl : Cond.methodLink own idx Lib.objectInit ∈ lw_good ∧ Cond.instanceMethod Lib.objectInit ∈ lw_good ∧ Cond.code Lib.objectInit ⟨#[0xb1]⟩ 1 none ∈ lw_good) (hb0 : b ≠ 0) (hsize : ls.size = mL) (hdg : decode cc pc = .ok (.invokespecial idx, 3)) (hframes : 1 ≤ R.frames) (hlocals : 2 * (F0 mt pc ls (rn b :: rest)).monitorRoom + (rest.map fun v => v.category).sum + 12 ≤ R.locals)
    (kk : W p l e R s mt args below meth c H locs cells slots Q (F0 mt (pc + 3) ls rest)) : W p l e R s mt args below meth c H locs cells slots Q (F0 mt pc ls (rn b :: rest)) := by
  have hlocals' := hlocals
  rw [rn_pos hb0] at hlocals' ⊢
  exact W.objInit E.1 E.2.1 E.2.2.2.1 (E.2.2.2.2.1 _ hl.1) (E.2.2.2.2.1 _ hl.2.1) (E.2.2.2.2.1 _ hl.2.2) rfl (hsize.trans E.2.2.1.symm) rfl hdg hframes hlocals' kk
end MC
end
section
theorem wd_Device_init : Wd y_Device_init b_Device_init 2 none 0 := ⟨lk_530, lk_531, by decide, by decide, by decide +kernel⟩
theorem wd_Resources_init : Wd y_Resources_init b_Resources_init 2 none 0 := ⟨lk_532, lk_533, by decide, by decide, by decide +kernel⟩
theorem wd_Store_init : Wd y_Store_init b_Store_init 2 none 1 := ⟨lk_534, lk_535, by decide, by decide, by decide +kernel⟩
theorem wd_Handle_detach : Wd y_Handle_detach b_Handle_detach 1 none 0 := ⟨lk_536, lk_537, by decide, by decide, by decide +kernel⟩
theorem wd_Handle_init : Wd y_Handle_init b_Handle_init 1 none 0 := ⟨lk_538, lk_537, by decide, by decide, by decide +kernel⟩
theorem wd_Handle_attach : Wd y_Handle_attach b_Handle_attach 4 none 3 := ⟨lk_539, lk_537, by decide, by decide, by decide +kernel⟩
theorem wd_FileTree_init : Wd y_FileTree_init b_FileTree_init 3 none 0 := ⟨lk_540, lk_541, by decide, by decide, by decide +kernel⟩
theorem wd_Numbers_init : Wd y_Numbers_init b_Numbers_init 1 none 0 := ⟨lk_542, lk_543, by decide, by decide, by decide +kernel⟩
theorem wd_Plan_init : Wd y_Plan_init b_Plan_init 1 none 0 := ⟨lk_544, lk_545, by decide, by decide, by decide +kernel⟩
theorem wd_Machine_init : Wd y_Machine_init b_Machine_init 3 none 1 := ⟨lk_546, lk_547, by decide, by decide, by decide +kernel⟩
theorem wd_ML_init : Wd y_ML_init b_ML_init 3 none 1 := ⟨lk_548, lk_549, by decide, by decide, by decide +kernel⟩
theorem wd_Job_init : Wd y_Job_init b_Job_init 1 none 0 := ⟨lk_550, lk_551, by decide, by decide, by decide +kernel⟩
theorem wd_ML_job : Wd y_ML_job b_ML_job 1 (some .int) 0 := ⟨lk_552, lk_549, by decide, by decide, by decide +kernel⟩
theorem wd_ML_jobOrNull : Wd y_ML_jobOrNull b_ML_jobOrNull 2 (some (.object "MachineLoop$Job")) 1 := ⟨lk_553, lk_549, by decide, by decide, by decide +kernel⟩
theorem wd_Job_append : Wd y_Job_append b_Job_append 2 (some .int) 1 := ⟨lk_554, lk_551, by decide, by decide, by decide +kernel⟩
theorem wd_ML_add : Wd y_ML_add b_ML_add 4 (some .int) 2 := ⟨lk_555, lk_549, by decide, by decide, by decide +kernel⟩
theorem wd_Device_keep : Wd y_Device_keep b_Device_keep 1 none 0 := ⟨lk_556, lk_531, by decide, by decide, by decide +kernel⟩
theorem wd_Resources_keep : Wd y_Resources_keep b_Resources_keep 1 none 0 := ⟨lk_557, lk_533, by decide, by decide, by decide +kernel⟩
theorem wd_FileTree_handleOrNull : Wd y_FileTree_handleOrNull b_FileTree_handleOrNull 2 (some (.object "MachineLoop$Handle")) 1 := ⟨lk_558, lk_541, by decide, by decide, by decide +kernel⟩
theorem wd_Handle_keepFilters : Wd y_Handle_keepFilters b_Handle_keepFilters 1 none 0 := ⟨lk_559, lk_537, by decide, by decide, by decide +kernel⟩
theorem wd_FileTree_keep : Wd y_FileTree_keep b_FileTree_keep 3 none 0 := ⟨lk_560, lk_541, by decide, by decide, by decide +kernel⟩
theorem wd_Job_signAt : Wd y_Job_signAt b_Job_signAt 2 (some .int) 1 := ⟨lk_561, lk_551, by decide, by decide, by decide +kernel⟩
theorem wd_Plan_findDoneSigns : Wd y_Plan_findDoneSigns b_Plan_findDoneSigns 5 none 1 := ⟨lk_562, lk_545, by decide, by decide, by decide +kernel⟩
theorem wd_Plan_findMates : Wd y_Plan_findMates b_Plan_findMates 5 none 1 := ⟨lk_563, lk_545, by decide, by decide, by decide +kernel⟩
theorem wd_Plan_prepare : Wd y_Plan_prepare b_Plan_prepare 2 none 1 := ⟨lk_564, lk_545, by decide, by decide, by decide +kernel⟩
theorem wd_Numbers_clear : Wd y_Numbers_clear b_Numbers_clear 1 none 0 := ⟨lk_565, lk_543, by decide, by decide, by decide +kernel⟩
theorem wd_Plan_firstDoneFrom : Wd y_Plan_firstDoneFrom b_Plan_firstDoneFrom 2 (some .int) 1 := ⟨lk_566, lk_545, by decide, by decide, by decide +kernel⟩
theorem wd_Machine_begin : Wd y_Machine_begin b_Machine_begin 2 none 1 := ⟨lk_567, lk_547, by decide, by decide, by decide +kernel⟩
theorem wd_Numbers_lay : Wd y_Numbers_lay b_Numbers_lay 2 (some .int) 1 := ⟨lk_568, lk_543, by decide, by decide, by decide +kernel⟩
theorem wd_Machine_numbersWanted : Wd y_Machine_numbersWanted b_Machine_numbersWanted 1 (some .int) 1 := ⟨lk_569, lk_547, by decide, by decide, by decide +kernel⟩
theorem wd_Numbers_has : Wd y_Numbers_has b_Numbers_has 2 (some .boolean) 1 := ⟨lk_570, lk_543, by decide, by decide, by decide +kernel⟩
theorem wd_Numbers_take : Wd y_Numbers_take b_Numbers_take 1 (some .int) 0 := ⟨lk_571, lk_543, by decide, by decide, by decide +kernel⟩
theorem wd_Plan_mateOf : Wd y_Plan_mateOf b_Plan_mateOf 2 (some .int) 1 := ⟨lk_572, lk_545, by decide, by decide, by decide +kernel⟩
theorem wd_Machine_enterLoop : Wd y_Machine_enterLoop b_Machine_enterLoop 4 (some .int) 2 := ⟨lk_573, lk_547, by decide, by decide, by decide +kernel⟩
theorem wd_Machine_comeToLoopEnd : Wd y_Machine_comeToLoopEnd b_Machine_comeToLoopEnd 3 (some .int) 1 := ⟨lk_574, lk_547, by decide, by decide, by decide +kernel⟩
theorem wd_Device_copies : Wd y_Device_copies b_Device_copies 1 (some .int) 0 := ⟨lk_575, lk_531, by decide, by decide, by decide +kernel⟩
theorem wd_Job_show : Wd y_Job_show b_Job_show 4 (some .boolean) 2 := ⟨lk_576, lk_551, by decide, by decide, by decide +kernel⟩
theorem wd_Machine_showPage : Wd y_Machine_showPage b_Machine_showPage 2 (some .int) 1 := ⟨lk_577, lk_547, by decide, by decide, by decide +kernel⟩
theorem wd_Device_change : Wd y_Device_change b_Device_change 3 (some .boolean) 2 := ⟨lk_578, lk_531, by decide, by decide, by decide +kernel⟩
theorem wd_Device_passesOverWrongRequests : Wd y_Device_passesOverWrongRequests b_Device_passesOverWrongRequests 1 (some .boolean) 0 := ⟨lk_579, lk_531, by decide, by decide, by decide +kernel⟩
theorem wd_Machine_request : Wd y_Machine_request b_Machine_request 4 (some .int) 2 := ⟨lk_580, lk_547, by decide, by decide, by decide +kernel⟩
theorem wd_Resources_slotOf : Wd y_Resources_slotOf b_Resources_slotOf 2 (some .int) 2 := ⟨lk_581, lk_533, by decide, by decide, by decide +kernel⟩
theorem wd_Resources_valueAt : Wd y_Resources_valueAt b_Resources_valueAt 4 (some .int) 2 := ⟨lk_582, lk_533, by decide, by decide, by decide +kernel⟩
theorem wd_Machine_layUnlessRefused : Wd y_Machine_layUnlessRefused b_Machine_layUnlessRefused 3 (some .int) 2 := ⟨lk_583, lk_547, by decide, by decide, by decide +kernel⟩
theorem wd_Resources_put : Wd y_Resources_put b_Resources_put 5 (some .int) 3 := ⟨lk_584, lk_533, by decide, by decide, by decide +kernel⟩
theorem wd_Machine_errorIfRefused : Wd y_Machine_errorIfRefused b_Machine_errorIfRefused 2 (some .int) 2 := ⟨lk_585, lk_547, by decide, by decide, by decide +kernel⟩
theorem wd_FileTree_storeOrNull : Wd y_FileTree_storeOrNull b_FileTree_storeOrNull 2 (some (.object "MachineLoop$Store")) 1 := ⟨lk_586, lk_541, by decide, by decide, by decide +kernel⟩
theorem wd_FileTree_openOrNull : Wd y_FileTree_openOrNull b_FileTree_openOrNull 3 (some (.object "MachineLoop$Handle")) 1 := ⟨lk_587, lk_541, by decide, by decide, by decide +kernel⟩
theorem wd_FileTree_isHeldAgainst : Wd y_FileTree_isHeldAgainst b_FileTree_isHeldAgainst 5 (some .boolean) 2 := ⟨lk_588, lk_541, by decide, by decide, by decide +kernel⟩
theorem wd_FileTree_freeHandle : Wd y_FileTree_freeHandle b_FileTree_freeHandle 2 (some .int) 0 := ⟨lk_589, lk_541, by decide, by decide, by decide +kernel⟩
theorem wd_Store_makeEmpty : Wd y_Store_makeEmpty b_Store_makeEmpty 1 none 0 := ⟨lk_590, lk_535, by decide, by decide, by decide +kernel⟩
theorem wd_FileTree_open : Wd y_FileTree_open b_FileTree_open 7 (some .int) 3 := ⟨lk_591, lk_541, by decide, by decide, by decide +kernel⟩
theorem wd_FileTree_shut : Wd y_FileTree_shut b_FileTree_shut 3 (some .int) 1 := ⟨lk_592, lk_541, by decide, by decide, by decide +kernel⟩
theorem wd_FileTree_shutByJob : Wd y_FileTree_shutByJob b_FileTree_shutByJob 3 (some .int) 1 := ⟨lk_593, lk_541, by decide, by decide, by decide +kernel⟩
theorem wd_Store_isFull : Wd y_Store_isFull b_Store_isFull 1 (some .boolean) 0 := ⟨lk_594, lk_535, by decide, by decide, by decide +kernel⟩
theorem wd_Handle_throughFilter : Wd y_Handle_throughFilter b_Handle_throughFilter 3 (some .int) 3 := ⟨lk_595, lk_537, by decide, by decide, by decide +kernel⟩
theorem wd_Handle_asWritten : Wd y_Handle_asWritten b_Handle_asWritten 4 (some .int) 1 := ⟨lk_596, lk_537, by decide, by decide, by decide +kernel⟩
theorem wd_Store_append : Wd y_Store_append b_Store_append 2 none 1 := ⟨lk_597, lk_535, by decide, by decide, by decide +kernel⟩
theorem wd_FileTree_put : Wd y_FileTree_put b_FileTree_put 4 (some .int) 2 := ⟨lk_598, lk_541, by decide, by decide, by decide +kernel⟩
theorem wd_Handle_layFilter : Wd y_Handle_layFilter b_Handle_layFilter 2 (some .int) 1 := ⟨lk_599, lk_537, by decide, by decide, by decide +kernel⟩
theorem wd_FileTree_putFilter : Wd y_FileTree_putFilter b_FileTree_putFilter 4 (some .int) 2 := ⟨lk_600, lk_541, by decide, by decide, by decide +kernel⟩
theorem wd_Store_byteAt : Wd y_Store_byteAt b_Store_byteAt 2 (some .int) 1 := ⟨lk_601, lk_535, by decide, by decide, by decide +kernel⟩
theorem wd_Handle_nextByte : Wd y_Handle_nextByte b_Handle_nextByte 4 (some .int) 1 := ⟨lk_602, lk_537, by decide, by decide, by decide +kernel⟩
theorem wd_FileTree_take : Wd y_FileTree_take b_FileTree_take 3 (some .int) 1 := ⟨lk_603, lk_541, by decide, by decide, by decide +kernel⟩
theorem wd_Machine_layByte : Wd y_Machine_layByte b_Machine_layByte 2 (some .int) 1 := ⟨lk_604, lk_547, by decide, by decide, by decide +kernel⟩
theorem wd_Machine_doFileSign : Wd y_Machine_doFileSign b_Machine_doFileSign 4 (some .int) 3 := ⟨lk_605, lk_547, by decide, by decide, by decide +kernel⟩
theorem wd_Numbers_layTwo : Wd y_Numbers_layTwo b_Numbers_layTwo 4 (some .int) 2 := ⟨lk_606, lk_543, by decide, by decide, by decide +kernel⟩
theorem wd_Machine_doStackSign : Wd y_Machine_doStackSign b_Machine_doStackSign 4 (some .int) 3 := ⟨lk_607, lk_547, by decide, by decide, by decide +kernel⟩
theorem wd_Machine_doSign : Wd y_Machine_doSign b_Machine_doSign 8 (some .int) 3 := ⟨lk_608, lk_547, by decide, by decide, by decide +kernel⟩
theorem wd_Job_fail : Wd y_Job_fail b_Job_fail 3 none 2 := ⟨lk_609, lk_551, by decide, by decide, by decide +kernel⟩
theorem wd_Device_putBack : Wd y_Device_putBack b_Device_putBack 1 none 0 := ⟨lk_610, lk_531, by decide, by decide, by decide +kernel⟩
theorem wd_Resources_putBack : Wd y_Resources_putBack b_Resources_putBack 1 none 0 := ⟨lk_611, lk_533, by decide, by decide, by decide +kernel⟩
theorem wd_Handle_putBackFilters : Wd y_Handle_putBackFilters b_Handle_putBackFilters 1 none 0 := ⟨lk_612, lk_537, by decide, by decide, by decide +kernel⟩
theorem wd_FileTree_putBack : Wd y_FileTree_putBack b_FileTree_putBack 3 none 0 := ⟨lk_613, lk_541, by decide, by decide, by decide +kernel⟩
theorem wd_Machine_finish : Wd y_Machine_finish b_Machine_finish 1 none 0 := ⟨lk_614, lk_547, by decide, by decide, by decide +kernel⟩
theorem wd_Machine_execute : Wd y_Machine_execute b_Machine_execute 5 none 1 := ⟨lk_615, lk_547, by decide, by decide, by decide +kernel⟩
theorem wd_ML_run : Wd y_ML_run b_ML_run 4 (some .int) 0 := ⟨lk_616, lk_549, by decide, by decide, by decide +kernel⟩
theorem wd_ML_ended : Wd y_ML_ended b_ML_ended 4 (some .int) 2 := ⟨lk_617, lk_549, by decide, by decide, by decide +kernel⟩
theorem wd_Job_marksOf : Wd y_Job_marksOf b_Job_marksOf 2 (some .int) 1 := ⟨lk_618, lk_551, by decide, by decide, by decide +kernel⟩
theorem wd_ML_page : Wd y_ML_page b_ML_page 4 (some .int) 2 := ⟨lk_619, lk_549, by decide, by decide, by decide +kernel⟩
theorem wd_ML_device : Wd y_ML_device b_ML_device 3 (some .int) 2 := ⟨lk_620, lk_549, by decide, by decide, by decide +kernel⟩
theorem wd_ML_define : Wd y_ML_define b_ML_define 4 (some .int) 3 := ⟨lk_621, lk_549, by decide, by decide, by decide +kernel⟩
theorem wd_ML_resource : Wd y_ML_resource b_ML_resource 3 (some .int) 2 := ⟨lk_622, lk_549, by decide, by decide, by decide +kernel⟩
theorem wd_ML_file : Wd y_ML_file b_ML_file 3 (some .int) 2 := ⟨lk_623, lk_549, by decide, by decide, by decide +kernel⟩
theorem wd_ML_write : Wd y_ML_write b_ML_write 3 (some .int) 2 := ⟨lk_624, lk_549, by decide, by decide, by decide +kernel⟩
theorem wd_ML_read : Wd y_ML_read b_ML_read 2 (some .int) 1 := ⟨lk_625, lk_549, by decide, by decide, by decide +kernel⟩
theorem wd_ML_filter : Wd y_ML_filter b_ML_filter 3 (some .int) 2 := ⟨lk_626, lk_549, by decide, by decide, by decide +kernel⟩
theorem wd_ML_close : Wd y_ML_close b_ML_close 2 (some .int) 1 := ⟨lk_627, lk_549, by decide, by decide, by decide +kernel⟩
theorem wd_ML_startFails : Wd y_ML_startFails b_ML_startFails 3 (some .boolean) 1 := ⟨lk_628, lk_549, by decide, by decide, by decide +kernel⟩
theorem wd_FileTree_outputByte : Wd y_FileTree_outputByte b_FileTree_outputByte 2 (some .int) 1 := ⟨lk_629, lk_541, by decide, by decide, by decide +kernel⟩
theorem wd_ML_output : Wd y_ML_output b_ML_output 2 (some .int) 1 := ⟨lk_630, lk_549, by decide, by decide, by decide +kernel⟩
theorem wd_FileTree_fileByte : Wd y_FileTree_fileByte b_FileTree_fileByte 4 (some .int) 2 := ⟨lk_631, lk_541, by decide, by decide, by decide +kernel⟩
theorem wd_ML_lies : Wd y_ML_lies b_ML_lies 3 (some .int) 2 := ⟨lk_632, lk_549, by decide, by decide, by decide +kernel⟩
theorem wd_Mo_init : Wd y_Mo_init b_Mo_init 4 none 1 := ⟨lk_633, lk_634, by decide, by decide, by decide +kernel⟩
theorem wd_Mo_in : Wd y_Mo_in b_Mo_in 3 (some .boolean) 3 := ⟨lk_635, lk_634, by decide, by decide, by decide +kernel⟩
theorem wd_Mo_job : Wd y_Mo_job b_Mo_job 1 (some .int) 0 := ⟨lk_636, lk_634, by decide, by decide, by decide +kernel⟩
theorem wd_Mo_noJob : Wd y_Mo_noJob b_Mo_noJob 2 (some .boolean) 1 := ⟨lk_637, lk_634, by decide, by decide, by decide +kernel⟩
theorem wd_Mo_add : Wd y_Mo_add b_Mo_add 3 (some .int) 2 := ⟨lk_638, lk_634, by decide, by decide, by decide +kernel⟩
theorem wd_Mo_ended : Wd y_Mo_ended b_Mo_ended 3 (some .int) 2 := ⟨lk_639, lk_634, by decide, by decide, by decide +kernel⟩
theorem wd_Mo_page : Wd y_Mo_page b_Mo_page 3 (some .int) 2 := ⟨lk_640, lk_634, by decide, by decide, by decide +kernel⟩
theorem wd_Mo_isSetting : Wd y_Mo_isSetting b_Mo_isSetting 2 (some .boolean) 2 := ⟨lk_641, lk_634, by decide, by decide, by decide +kernel⟩
theorem wd_Mo_device : Wd y_Mo_device b_Mo_device 3 (some .int) 2 := ⟨lk_642, lk_634, by decide, by decide, by decide +kernel⟩
theorem wd_Mo_define : Wd y_Mo_define b_Mo_define 4 (some .int) 3 := ⟨lk_643, lk_634, by decide, by decide, by decide +kernel⟩
theorem wd_Mo_resource : Wd y_Mo_resource b_Mo_resource 3 (some .int) 2 := ⟨lk_644, lk_634, by decide, by decide, by decide +kernel⟩
theorem wd_Mo_opened : Wd y_Mo_opened b_Mo_opened 6 (some .int) 2 := ⟨lk_645, lk_634, by decide, by decide, by decide +kernel⟩
theorem wd_Mo_isOpen : Wd y_Mo_isOpen b_Mo_isOpen 2 (some .boolean) 1 := ⟨lk_646, lk_634, by decide, by decide, by decide +kernel⟩
theorem wd_Mo_half : Wd y_Mo_half b_Mo_half 1 (some .int) 1 := ⟨lk_647, lk_634, by decide, by decide, by decide +kernel⟩
theorem wd_Mo_written : Wd y_Mo_written b_Mo_written 6 (some .int) 2 := ⟨lk_648, lk_634, by decide, by decide, by decide +kernel⟩
theorem wd_Mo_taken : Wd y_Mo_taken b_Mo_taken 5 (some .int) 1 := ⟨lk_649, lk_634, by decide, by decide, by decide +kernel⟩
theorem wd_Mo_filtered : Wd y_Mo_filtered b_Mo_filtered 3 (some .int) 2 := ⟨lk_650, lk_634, by decide, by decide, by decide +kernel⟩
theorem wd_Mo_file : Wd y_Mo_file b_Mo_file 3 (some .int) 2 := ⟨lk_651, lk_634, by decide, by decide, by decide +kernel⟩
theorem wd_Mo_write : Wd y_Mo_write b_Mo_write 3 (some .int) 2 := ⟨lk_652, lk_634, by decide, by decide, by decide +kernel⟩
theorem wd_Mo_read : Wd y_Mo_read b_Mo_read 2 (some .int) 1 := ⟨lk_653, lk_634, by decide, by decide, by decide +kernel⟩
theorem wd_Mo_filter : Wd y_Mo_filter b_Mo_filter 3 (some .int) 2 := ⟨lk_654, lk_634, by decide, by decide, by decide +kernel⟩
theorem wd_Mo_close : Wd y_Mo_close b_Mo_close 2 (some .int) 1 := ⟨lk_655, lk_634, by decide, by decide, by decide +kernel⟩
theorem wd_Mo_startFails : Wd y_Mo_startFails b_Mo_startFails 3 (some .boolean) 1 := ⟨lk_656, lk_634, by decide, by decide, by decide +kernel⟩
theorem wd_Mo_output : Wd y_Mo_output b_Mo_output 2 (some .int) 1 := ⟨lk_657, lk_634, by decide, by decide, by decide +kernel⟩
theorem wd_Mo_lies : Wd y_Mo_lies b_Mo_lies 3 (some .int) 2 := ⟨lk_658, lk_634, by decide, by decide, by decide +kernel⟩
theorem wd_Mo_sign : Wd y_Mo_sign b_Mo_sign 2 (some .int) 1 := ⟨lk_659, lk_634, by decide, by decide, by decide +kernel⟩
theorem wd_Mo_behindRemark : Wd y_Mo_behindRemark b_Mo_behindRemark 3 (some .int) 1 := ⟨lk_660, lk_634, by decide, by decide, by decide +kernel⟩
theorem wd_Mo_endOf : Wd y_Mo_endOf b_Mo_endOf 5 (some .int) 1 := ⟨lk_661, lk_634, by decide, by decide, by decide +kernel⟩
theorem wd_Mo_lay : Wd y_Mo_lay b_Mo_lay 2 none 1 := ⟨lk_662, lk_634, by decide, by decide, by decide +kernel⟩
theorem wd_Mo_wants : Wd y_Mo_wants b_Mo_wants 1 (some .int) 1 := ⟨lk_663, lk_634, by decide, by decide, by decide +kernel⟩
theorem wd_Mo_show : Wd y_Mo_show b_Mo_show 2 none 0 := ⟨lk_664, lk_634, by decide, by decide, by decide +kernel⟩
theorem wd_Mo_beginLoop : Wd y_Mo_beginLoop b_Mo_beginLoop 3 none 1 := ⟨lk_665, lk_634, by decide, by decide, by decide +kernel⟩
theorem wd_Mo_endLoop : Wd y_Mo_endLoop b_Mo_endLoop 1 none 0 := ⟨lk_666, lk_634, by decide, by decide, by decide +kernel⟩
theorem wd_Mo_readResource : Wd y_Mo_readResource b_Mo_readResource 4 none 2 := ⟨lk_667, lk_634, by decide, by decide, by decide +kernel⟩
theorem wd_Mo_set : Wd y_Mo_set b_Mo_set 4 none 2 := ⟨lk_668, lk_634, by decide, by decide, by decide +kernel⟩
theorem wd_Mo_openFile : Wd y_Mo_openFile b_Mo_openFile 4 none 2 := ⟨lk_669, lk_634, by decide, by decide, by decide +kernel⟩
theorem wd_Mo_closeFile : Wd y_Mo_closeFile b_Mo_closeFile 2 none 1 := ⟨lk_670, lk_634, by decide, by decide, by decide +kernel⟩
theorem wd_Mo_readFile : Wd y_Mo_readFile b_Mo_readFile 3 none 1 := ⟨lk_671, lk_634, by decide, by decide, by decide +kernel⟩
theorem wd_Mo_act : Wd y_Mo_act b_Mo_act 6 none 1 := ⟨lk_672, lk_634, by decide, by decide, by decide +kernel⟩
theorem wd_Mo_runJob : Wd y_Mo_runJob b_Mo_runJob 3 none 0 := ⟨lk_673, lk_634, by decide, by decide, by decide +kernel⟩
theorem wd_Mo_run : Wd y_Mo_run b_Mo_run 4 (some .int) 0 := ⟨lk_674, lk_634, by decide, by decide, by decide +kernel⟩
theorem wd_Law_cell : Wd y_Law_cell b_Law_cell 2 (some .int) 2 := ⟨lk_675, lk_676, by decide, by decide, by decide +kernel⟩
section FR
variable {p : Program} {l : Launch} {e : Env} {R : Room} {s : State} {mt : MethodId} {args : Array Value} {below : List Frame} {meth : Method} {c : Code} {H : Heap} {locs : List Loc} {cells slots : Nat} {Q : State → Prop} {cc : ByteArray} {pc mL : Nat} {ls : Array Slot} {rest : List Value} {G : Gc} {own : String} {m : Mm} {a : Nat}
theorem rg_ML_jobs (E : En G own cc mL p s mt args meth c) (hp : pic G m H) (ht : tg m a = 1) {idx : Nat} (hl : Cond.fieldLink own idx "MachineLoop" "jobs" "[LMachineLoop$Job;" ∈ lw_good) (hdg : decode cc pc = .ok (.getfield idx, 3)) (kk : ∀ x : Nat, x = gR m 1 0 a → W p l e R s mt args below meth c H locs cells slots Q (F0 mt (pc + 3) ls (rn x :: rest))) : W p l e R s mt args below meth c H locs cells slots Q (F0 mt pc ls (rn a :: rest)) :=
  mp_get (ci := 0) E hp ht (by decide) (ck_1 _ _ _) rfl i_ML 0 (by decide) hl rfl hdg (kk _ rfl)
theorem rp_ML_jobs (E : En G R_ML cc mL p s mt args meth c) (hp : pic G m H) (hS : va_S (fr G) s.heap H locs) {v : Nat} (ht : tg m a = 1) {idx : Nat} (hl : Cond.fieldLink R_ML idx "MachineLoop" "jobs" "[LMachineLoop$Job;" ∈ lw_good) (hin : meth.name = "<init>") (hdg : decode cc pc = .ok (.putfield idx, 3)) (kk : ∀ m' : Mm, m' = sR m 1 0 a v → ∀ (H1 : Heap) (locs1 : List Loc), pic G m' H1 → va_S (fr G) s.heap H1 locs1 → W p l e R s mt args below meth c H1 locs1 cells slots Q (F0 mt (pc + 3) ls rest)) : W p l e R s mt args below meth c H locs cells slots Q (F0 mt pc ls (rn v :: rn a :: rest)) :=
  mp_putF (ci := 0) E hp hS ht (by decide) (ck_1 _ _ _) rfl i_ML t_ML t_ML_ok n_ML 0 (by decide) hl rfl hin rfl (ty := (.array (.object "MachineLoop$Job"))) (by decide +kernel) (nar_ra _ _) (fit_ra _ _) (Nat.le_of_ble_eq_true rfl) (m' := sR m 1 0 a v) (fun _ => rfl) (by rw [ck_1, gR_self m 1 0 a v]; rfl) (fun t b hb => co_sR t hb) hdg (kk _ rfl)
theorem rg_ML_machine (E : En G own cc mL p s mt args meth c) (hp : pic G m H) (ht : tg m a = 1) {idx : Nat} (hl : Cond.fieldLink own idx "MachineLoop" "machine" "LMachineLoop$Machine;" ∈ lw_good) (hdg : decode cc pc = .ok (.getfield idx, 3)) (kk : ∀ x : Nat, x = gR m 1 1 a → W p l e R s mt args below meth c H locs cells slots Q (F0 mt (pc + 3) ls (rn x :: rest))) : W p l e R s mt args below meth c H locs cells slots Q (F0 mt pc ls (rn a :: rest)) :=
  mp_get (ci := 0) E hp ht (by decide) (ck_1 _ _ _) rfl i_ML 1 (by decide) hl rfl hdg (kk _ rfl)
theorem rp_ML_machine (E : En G R_ML cc mL p s mt args meth c) (hp : pic G m H) (hS : va_S (fr G) s.heap H locs) {v : Nat} (ht : tg m a = 1) {idx : Nat} (hl : Cond.fieldLink R_ML idx "MachineLoop" "machine" "LMachineLoop$Machine;" ∈ lw_good) (hin : meth.name = "<init>") (hdg : decode cc pc = .ok (.putfield idx, 3)) (kk : ∀ m' : Mm, m' = sR m 1 1 a v → ∀ (H1 : Heap) (locs1 : List Loc), pic G m' H1 → va_S (fr G) s.heap H1 locs1 → W p l e R s mt args below meth c H1 locs1 cells slots Q (F0 mt (pc + 3) ls rest)) : W p l e R s mt args below meth c H locs cells slots Q (F0 mt pc ls (rn v :: rn a :: rest)) :=
  mp_putF (ci := 0) E hp hS ht (by decide) (ck_1 _ _ _) rfl i_ML t_ML t_ML_ok n_ML 1 (by decide) hl rfl hin rfl (ty := (.object "MachineLoop$Machine")) (by decide +kernel) (nar_rn _ _) (fit_rn _ _) (Nat.le_of_ble_eq_true rfl) (m' := sR m 1 1 a v) (fun _ => rfl) (by rw [ck_1, gR_self m 1 1 a v]; rfl) (fun t b hb => co_sR t hb) hdg (kk _ rfl)
theorem rg_ML_jobCount (E : En G own cc mL p s mt args meth c) (hp : pic G m H) (ht : tg m a = 1) {idx : Nat} (hl : Cond.fieldLink own idx "MachineLoop" "jobCount" "I" ∈ lw_good) (hdg : decode cc pc = .ok (.getfield idx, 3)) (kk : ∀ x : Int32, x = gI m 1 2 a → W p l e R s mt args below meth c H locs cells slots Q (F0 mt (pc + 3) ls (.int x :: rest))) : W p l e R s mt args below meth c H locs cells slots Q (F0 mt pc ls (rn a :: rest)) :=
  mp_get (ci := 0) E hp ht (by decide) (ck_1 _ _ _) rfl i_ML 2 (by decide) hl rfl hdg (kk _ rfl)
theorem rp_ML_jobCount (E : En G own cc mL p s mt args meth c) (hp : pic G m H) (hS : va_S (fr G) s.heap H locs) {v : Int32} (ht : tg m a = 1) {idx : Nat} (hl : Cond.fieldLink own idx "MachineLoop" "jobCount" "I" ∈ lw_good) (hdg : decode cc pc = .ok (.putfield idx, 3)) (kk : ∀ m' : Mm, m' = sI m 1 2 a v → ∀ (H1 : Heap) (locs1 : List Loc), pic G m' H1 → va_S (fr G) s.heap H1 locs1 → W p l e R s mt args below meth c H1 locs1 cells slots Q (F0 mt (pc + 3) ls rest)) : W p l e R s mt args below meth c H locs cells slots Q (F0 mt pc ls (.int v :: rn a :: rest)) :=
  mp_put (ci := 0) E hp hS ht (by decide) (ck_1 _ _ _) rfl i_ML t_ML t_ML_ok n_ML 2 (by decide) hl rfl (ty := .int) (by decide +kernel) rfl rfl (Nat.le_of_ble_eq_true rfl) (m' := sI m 1 2 a v) (fun _ => rfl) (by rw [ck_1, gI_self m 1 2 a v]; rfl) (fun t b hb => co_sI t hb) hdg (kk _ rfl)
theorem rg_ML_startsFail (E : En G own cc mL p s mt args meth c) (hp : pic G m H) (ht : tg m a = 1) {idx : Nat} (hl : Cond.fieldLink own idx "MachineLoop" "startsFail" "Z" ∈ lw_good) (hdg : decode cc pc = .ok (.getfield idx, 3)) (kk : ∀ x : Int32, x = gI m 1 3 a → W p l e R s mt args below meth c H locs cells slots Q (F0 mt (pc + 3) ls (.int x :: rest))) : W p l e R s mt args below meth c H locs cells slots Q (F0 mt pc ls (rn a :: rest)) :=
  mp_get (ci := 0) E hp ht (by decide) (ck_1 _ _ _) rfl i_ML 3 (by decide) hl rfl hdg (kk _ rfl)
theorem rp_ML_startsFail (E : En G own cc mL p s mt args meth c) (hp : pic G m H) (hS : va_S (fr G) s.heap H locs) {v : Int32} (ht : tg m a = 1) {idx : Nat} (hl : Cond.fieldLink own idx "MachineLoop" "startsFail" "Z" ∈ lw_good) (hz : v = 0 ∨ v = 1) (hdg : decode cc pc = .ok (.putfield idx, 3)) (kk : ∀ m' : Mm, m' = sI m 1 3 a v → ∀ (H1 : Heap) (locs1 : List Loc), pic G m' H1 → va_S (fr G) s.heap H1 locs1 → W p l e R s mt args below meth c H1 locs1 cells slots Q (F0 mt (pc + 3) ls rest)) : W p l e R s mt args below meth c H locs cells slots Q (F0 mt pc ls (.int v :: rn a :: rest)) :=
  mp_put (ci := 0) E hp hS ht (by decide) (ck_1 _ _ _) rfl i_ML t_ML t_ML_ok n_ML 3 (by decide) hl rfl (ty := .boolean) (by decide +kernel) (by rcases hz with rfl | rfl <;> rfl) (by rcases hz with rfl | rfl <;> rfl) (Nat.le_of_ble_eq_true rfl) (m' := sI m 1 3 a v) (fun _ => rfl) (by rw [ck_1, gI_self m 1 3 a v]; rfl) (fun t b hb => co_sI t hb) hdg (kk _ rfl)
theorem rn_ML (E : En G own cc mL p s mt args meth c) (hp : pic G m H) (hS : va_S (fr G) s.heap H locs) {idx : Nat} (hl : Cond.classLink own idx "MachineLoop" ∈ lw_good) (hcells : cells + 1 ≤ R.cells) (hslots : slots + 4 ≤ R.slots) (hdg : decode cc pc = .ok (.new idx, 3)) (kk : ∀ (q : Nat), tg m q = 0 → q ≠ 0 → ∀ m' : Mm, m' = nO m 1 q → ∀ (H1 : Heap), pic G m' H1 → va_S (fr G) s.heap H1 locs → W p l e R s mt args below meth c H1 locs (cells + 1) (slots + 4) Q (F0 mt (pc + 3) ls (rn q :: rest))) : W p l e R s mt args below meth c H locs cells slots Q (F0 mt pc ls rest) :=
  mp_new (ci := 0) E hp hS (by decide) rfl i_ML t_ML t_ML_ok hl lk_677 lk_549 (fs := [.null, .null, .int 0, .int 0]) (fun j hj => by rcases (show j = 0 ∨ j = 1 ∨ j = 2 ∨ j = 3 by omega) with rfl | rfl | rfl | rfl <;> rfl) (fun q => by rw [ck_1]; simp only [gI_nO, gR_nO, ↓reduceIte, rn_0]) hcells hslots hdg kk
theorem rg_Machine_device (E : En G own cc mL p s mt args meth c) (hp : pic G m H) (ht : tg m a = 2) {idx : Nat} (hl : Cond.fieldLink own idx "MachineLoop$Machine" "device" "LMachineLoop$Device;" ∈ lw_good) (hdg : decode cc pc = .ok (.getfield idx, 3)) (kk : ∀ x : Nat, x = gR m 2 0 a → W p l e R s mt args below meth c H locs cells slots Q (F0 mt (pc + 3) ls (rn x :: rest))) : W p l e R s mt args below meth c H locs cells slots Q (F0 mt pc ls (rn a :: rest)) :=
  mp_get (ci := 1) E hp ht (by decide) (ck_2 _ _ _) rfl i_Machine 0 (by decide) hl rfl hdg (kk _ rfl)
theorem rp_Machine_device (E : En G R_Machine cc mL p s mt args meth c) (hp : pic G m H) (hS : va_S (fr G) s.heap H locs) {v : Nat} (ht : tg m a = 2) {idx : Nat} (hl : Cond.fieldLink R_Machine idx "MachineLoop$Machine" "device" "LMachineLoop$Device;" ∈ lw_good) (hin : meth.name = "<init>") (hdg : decode cc pc = .ok (.putfield idx, 3)) (kk : ∀ m' : Mm, m' = sR m 2 0 a v → ∀ (H1 : Heap) (locs1 : List Loc), pic G m' H1 → va_S (fr G) s.heap H1 locs1 → W p l e R s mt args below meth c H1 locs1 cells slots Q (F0 mt (pc + 3) ls rest)) : W p l e R s mt args below meth c H locs cells slots Q (F0 mt pc ls (rn v :: rn a :: rest)) :=
  mp_putF (ci := 1) E hp hS ht (by decide) (ck_2 _ _ _) rfl i_Machine t_Machine t_Machine_ok n_Machine 0 (by decide) hl rfl hin rfl (ty := (.object "MachineLoop$Device")) (by decide +kernel) (nar_rn _ _) (fit_rn _ _) (Nat.le_of_ble_eq_true rfl) (m' := sR m 2 0 a v) (fun _ => rfl) (by rw [ck_2, gR_self m 2 0 a v]; rfl) (fun t b hb => co_sR t hb) hdg (kk _ rfl)
theorem rg_Machine_resources (E : En G own cc mL p s mt args meth c) (hp : pic G m H) (ht : tg m a = 2) {idx : Nat} (hl : Cond.fieldLink own idx "MachineLoop$Machine" "resources" "LMachineLoop$Resources;" ∈ lw_good) (hdg : decode cc pc = .ok (.getfield idx, 3)) (kk : ∀ x : Nat, x = gR m 2 1 a → W p l e R s mt args below meth c H locs cells slots Q (F0 mt (pc + 3) ls (rn x :: rest))) : W p l e R s mt args below meth c H locs cells slots Q (F0 mt pc ls (rn a :: rest)) :=
  mp_get (ci := 1) E hp ht (by decide) (ck_2 _ _ _) rfl i_Machine 1 (by decide) hl rfl hdg (kk _ rfl)
theorem rp_Machine_resources (E : En G R_Machine cc mL p s mt args meth c) (hp : pic G m H) (hS : va_S (fr G) s.heap H locs) {v : Nat} (ht : tg m a = 2) {idx : Nat} (hl : Cond.fieldLink R_Machine idx "MachineLoop$Machine" "resources" "LMachineLoop$Resources;" ∈ lw_good) (hin : meth.name = "<init>") (hdg : decode cc pc = .ok (.putfield idx, 3)) (kk : ∀ m' : Mm, m' = sR m 2 1 a v → ∀ (H1 : Heap) (locs1 : List Loc), pic G m' H1 → va_S (fr G) s.heap H1 locs1 → W p l e R s mt args below meth c H1 locs1 cells slots Q (F0 mt (pc + 3) ls rest)) : W p l e R s mt args below meth c H locs cells slots Q (F0 mt pc ls (rn v :: rn a :: rest)) :=
  mp_putF (ci := 1) E hp hS ht (by decide) (ck_2 _ _ _) rfl i_Machine t_Machine t_Machine_ok n_Machine 1 (by decide) hl rfl hin rfl (ty := (.object "MachineLoop$Resources")) (by decide +kernel) (nar_rn _ _) (fit_rn _ _) (Nat.le_of_ble_eq_true rfl) (m' := sR m 2 1 a v) (fun _ => rfl) (by rw [ck_2, gR_self m 2 1 a v]; rfl) (fun t b hb => co_sR t hb) hdg (kk _ rfl)
theorem rg_Machine_files (E : En G own cc mL p s mt args meth c) (hp : pic G m H) (ht : tg m a = 2) {idx : Nat} (hl : Cond.fieldLink own idx "MachineLoop$Machine" "files" "LMachineLoop$FileTree;" ∈ lw_good) (hdg : decode cc pc = .ok (.getfield idx, 3)) (kk : ∀ x : Nat, x = gR m 2 2 a → W p l e R s mt args below meth c H locs cells slots Q (F0 mt (pc + 3) ls (rn x :: rest))) : W p l e R s mt args below meth c H locs cells slots Q (F0 mt pc ls (rn a :: rest)) :=
  mp_get (ci := 1) E hp ht (by decide) (ck_2 _ _ _) rfl i_Machine 2 (by decide) hl rfl hdg (kk _ rfl)
theorem rp_Machine_files (E : En G R_Machine cc mL p s mt args meth c) (hp : pic G m H) (hS : va_S (fr G) s.heap H locs) {v : Nat} (ht : tg m a = 2) {idx : Nat} (hl : Cond.fieldLink R_Machine idx "MachineLoop$Machine" "files" "LMachineLoop$FileTree;" ∈ lw_good) (hin : meth.name = "<init>") (hdg : decode cc pc = .ok (.putfield idx, 3)) (kk : ∀ m' : Mm, m' = sR m 2 2 a v → ∀ (H1 : Heap) (locs1 : List Loc), pic G m' H1 → va_S (fr G) s.heap H1 locs1 → W p l e R s mt args below meth c H1 locs1 cells slots Q (F0 mt (pc + 3) ls rest)) : W p l e R s mt args below meth c H locs cells slots Q (F0 mt pc ls (rn v :: rn a :: rest)) :=
  mp_putF (ci := 1) E hp hS ht (by decide) (ck_2 _ _ _) rfl i_Machine t_Machine t_Machine_ok n_Machine 2 (by decide) hl rfl hin rfl (ty := (.object "MachineLoop$FileTree")) (by decide +kernel) (nar_rn _ _) (fit_rn _ _) (Nat.le_of_ble_eq_true rfl) (m' := sR m 2 2 a v) (fun _ => rfl) (by rw [ck_2, gR_self m 2 2 a v]; rfl) (fun t b hb => co_sR t hb) hdg (kk _ rfl)
theorem rg_Machine_stepLimit (E : En G own cc mL p s mt args meth c) (hp : pic G m H) (ht : tg m a = 2) {idx : Nat} (hl : Cond.fieldLink own idx "MachineLoop$Machine" "stepLimit" "I" ∈ lw_good) (hdg : decode cc pc = .ok (.getfield idx, 3)) (kk : ∀ x : Int32, x = gI m 2 3 a → W p l e R s mt args below meth c H locs cells slots Q (F0 mt (pc + 3) ls (.int x :: rest))) : W p l e R s mt args below meth c H locs cells slots Q (F0 mt pc ls (rn a :: rest)) :=
  mp_get (ci := 1) E hp ht (by decide) (ck_2 _ _ _) rfl i_Machine 3 (by decide) hl rfl hdg (kk _ rfl)
theorem rp_Machine_stepLimit (E : En G R_Machine cc mL p s mt args meth c) (hp : pic G m H) (hS : va_S (fr G) s.heap H locs) {v : Int32} (ht : tg m a = 2) {idx : Nat} (hl : Cond.fieldLink R_Machine idx "MachineLoop$Machine" "stepLimit" "I" ∈ lw_good) (hin : meth.name = "<init>") (hdg : decode cc pc = .ok (.putfield idx, 3)) (kk : ∀ m' : Mm, m' = sI m 2 3 a v → ∀ (H1 : Heap) (locs1 : List Loc), pic G m' H1 → va_S (fr G) s.heap H1 locs1 → W p l e R s mt args below meth c H1 locs1 cells slots Q (F0 mt (pc + 3) ls rest)) : W p l e R s mt args below meth c H locs cells slots Q (F0 mt pc ls (.int v :: rn a :: rest)) :=
  mp_putF (ci := 1) E hp hS ht (by decide) (ck_2 _ _ _) rfl i_Machine t_Machine t_Machine_ok n_Machine 3 (by decide) hl rfl hin rfl (ty := .int) (by decide +kernel) rfl rfl (Nat.le_of_ble_eq_true rfl) (m' := sI m 2 3 a v) (fun _ => rfl) (by rw [ck_2, gI_self m 2 3 a v]; rfl) (fun t b hb => co_sI t hb) hdg (kk _ rfl)
theorem rg_Machine_stack (E : En G own cc mL p s mt args meth c) (hp : pic G m H) (ht : tg m a = 2) {idx : Nat} (hl : Cond.fieldLink own idx "MachineLoop$Machine" "stack" "LMachineLoop$Numbers;" ∈ lw_good) (hdg : decode cc pc = .ok (.getfield idx, 3)) (kk : ∀ x : Nat, x = gR m 2 4 a → W p l e R s mt args below meth c H locs cells slots Q (F0 mt (pc + 3) ls (rn x :: rest))) : W p l e R s mt args below meth c H locs cells slots Q (F0 mt pc ls (rn a :: rest)) :=
  mp_get (ci := 1) E hp ht (by decide) (ck_2 _ _ _) rfl i_Machine 4 (by decide) hl rfl hdg (kk _ rfl)
theorem rp_Machine_stack (E : En G R_Machine cc mL p s mt args meth c) (hp : pic G m H) (hS : va_S (fr G) s.heap H locs) {v : Nat} (ht : tg m a = 2) {idx : Nat} (hl : Cond.fieldLink R_Machine idx "MachineLoop$Machine" "stack" "LMachineLoop$Numbers;" ∈ lw_good) (hin : meth.name = "<init>") (hdg : decode cc pc = .ok (.putfield idx, 3)) (kk : ∀ m' : Mm, m' = sR m 2 4 a v → ∀ (H1 : Heap) (locs1 : List Loc), pic G m' H1 → va_S (fr G) s.heap H1 locs1 → W p l e R s mt args below meth c H1 locs1 cells slots Q (F0 mt (pc + 3) ls rest)) : W p l e R s mt args below meth c H locs cells slots Q (F0 mt pc ls (rn v :: rn a :: rest)) :=
  mp_putF (ci := 1) E hp hS ht (by decide) (ck_2 _ _ _) rfl i_Machine t_Machine t_Machine_ok n_Machine 4 (by decide) hl rfl hin rfl (ty := (.object "MachineLoop$Numbers")) (by decide +kernel) (nar_rn _ _) (fit_rn _ _) (Nat.le_of_ble_eq_true rfl) (m' := sR m 2 4 a v) (fun _ => rfl) (by rw [ck_2, gR_self m 2 4 a v]; rfl) (fun t b hb => co_sR t hb) hdg (kk _ rfl)
theorem rg_Machine_plan (E : En G own cc mL p s mt args meth c) (hp : pic G m H) (ht : tg m a = 2) {idx : Nat} (hl : Cond.fieldLink own idx "MachineLoop$Machine" "plan" "LMachineLoop$Plan;" ∈ lw_good) (hdg : decode cc pc = .ok (.getfield idx, 3)) (kk : ∀ x : Nat, x = gR m 2 5 a → W p l e R s mt args below meth c H locs cells slots Q (F0 mt (pc + 3) ls (rn x :: rest))) : W p l e R s mt args below meth c H locs cells slots Q (F0 mt pc ls (rn a :: rest)) :=
  mp_get (ci := 1) E hp ht (by decide) (ck_2 _ _ _) rfl i_Machine 5 (by decide) hl rfl hdg (kk _ rfl)
theorem rp_Machine_plan (E : En G R_Machine cc mL p s mt args meth c) (hp : pic G m H) (hS : va_S (fr G) s.heap H locs) {v : Nat} (ht : tg m a = 2) {idx : Nat} (hl : Cond.fieldLink R_Machine idx "MachineLoop$Machine" "plan" "LMachineLoop$Plan;" ∈ lw_good) (hin : meth.name = "<init>") (hdg : decode cc pc = .ok (.putfield idx, 3)) (kk : ∀ m' : Mm, m' = sR m 2 5 a v → ∀ (H1 : Heap) (locs1 : List Loc), pic G m' H1 → va_S (fr G) s.heap H1 locs1 → W p l e R s mt args below meth c H1 locs1 cells slots Q (F0 mt (pc + 3) ls rest)) : W p l e R s mt args below meth c H locs cells slots Q (F0 mt pc ls (rn v :: rn a :: rest)) :=
  mp_putF (ci := 1) E hp hS ht (by decide) (ck_2 _ _ _) rfl i_Machine t_Machine t_Machine_ok n_Machine 5 (by decide) hl rfl hin rfl (ty := (.object "MachineLoop$Plan")) (by decide +kernel) (nar_rn _ _) (fit_rn _ _) (Nat.le_of_ble_eq_true rfl) (m' := sR m 2 5 a v) (fun _ => rfl) (by rw [ck_2, gR_self m 2 5 a v]; rfl) (fun t b hb => co_sR t hb) hdg (kk _ rfl)
theorem rg_Machine_timesLeft (E : En G own cc mL p s mt args meth c) (hp : pic G m H) (ht : tg m a = 2) {idx : Nat} (hl : Cond.fieldLink own idx "MachineLoop$Machine" "timesLeft" "[I" ∈ lw_good) (hdg : decode cc pc = .ok (.getfield idx, 3)) (kk : ∀ x : Nat, x = gR m 2 6 a → W p l e R s mt args below meth c H locs cells slots Q (F0 mt (pc + 3) ls (rn x :: rest))) : W p l e R s mt args below meth c H locs cells slots Q (F0 mt pc ls (rn a :: rest)) :=
  mp_get (ci := 1) E hp ht (by decide) (ck_2 _ _ _) rfl i_Machine 6 (by decide) hl rfl hdg (kk _ rfl)
theorem rp_Machine_timesLeft (E : En G R_Machine cc mL p s mt args meth c) (hp : pic G m H) (hS : va_S (fr G) s.heap H locs) {v : Nat} (ht : tg m a = 2) {idx : Nat} (hl : Cond.fieldLink R_Machine idx "MachineLoop$Machine" "timesLeft" "[I" ∈ lw_good) (hin : meth.name = "<init>") (hdg : decode cc pc = .ok (.putfield idx, 3)) (kk : ∀ m' : Mm, m' = sR m 2 6 a v → ∀ (H1 : Heap) (locs1 : List Loc), pic G m' H1 → va_S (fr G) s.heap H1 locs1 → W p l e R s mt args below meth c H1 locs1 cells slots Q (F0 mt (pc + 3) ls rest)) : W p l e R s mt args below meth c H locs cells slots Q (F0 mt pc ls (rn v :: rn a :: rest)) :=
  mp_putF (ci := 1) E hp hS ht (by decide) (ck_2 _ _ _) rfl i_Machine t_Machine t_Machine_ok n_Machine 6 (by decide) hl rfl hin rfl (ty := (.array .int)) (by decide +kernel) (nar_ra _ _) (fit_ra _ _) (Nat.le_of_ble_eq_true rfl) (m' := sR m 2 6 a v) (fun _ => rfl) (by rw [ck_2, gR_self m 2 6 a v]; rfl) (fun t b hb => co_sR t hb) hdg (kk _ rfl)
theorem rg_Machine_loopCount (E : En G own cc mL p s mt args meth c) (hp : pic G m H) (ht : tg m a = 2) {idx : Nat} (hl : Cond.fieldLink own idx "MachineLoop$Machine" "loopCount" "I" ∈ lw_good) (hdg : decode cc pc = .ok (.getfield idx, 3)) (kk : ∀ x : Int32, x = gI m 2 7 a → W p l e R s mt args below meth c H locs cells slots Q (F0 mt (pc + 3) ls (.int x :: rest))) : W p l e R s mt args below meth c H locs cells slots Q (F0 mt pc ls (rn a :: rest)) :=
  mp_get (ci := 1) E hp ht (by decide) (ck_2 _ _ _) rfl i_Machine 7 (by decide) hl rfl hdg (kk _ rfl)
theorem rp_Machine_loopCount (E : En G own cc mL p s mt args meth c) (hp : pic G m H) (hS : va_S (fr G) s.heap H locs) {v : Int32} (ht : tg m a = 2) {idx : Nat} (hl : Cond.fieldLink own idx "MachineLoop$Machine" "loopCount" "I" ∈ lw_good) (hdg : decode cc pc = .ok (.putfield idx, 3)) (kk : ∀ m' : Mm, m' = sI m 2 7 a v → ∀ (H1 : Heap) (locs1 : List Loc), pic G m' H1 → va_S (fr G) s.heap H1 locs1 → W p l e R s mt args below meth c H1 locs1 cells slots Q (F0 mt (pc + 3) ls rest)) : W p l e R s mt args below meth c H locs cells slots Q (F0 mt pc ls (.int v :: rn a :: rest)) :=
  mp_put (ci := 1) E hp hS ht (by decide) (ck_2 _ _ _) rfl i_Machine t_Machine t_Machine_ok n_Machine 7 (by decide) hl rfl (ty := .int) (by decide +kernel) rfl rfl (Nat.le_of_ble_eq_true rfl) (m' := sI m 2 7 a v) (fun _ => rfl) (by rw [ck_2, gI_self m 2 7 a v]; rfl) (fun t b hb => co_sI t hb) hdg (kk _ rfl)
theorem rg_Machine_marks (E : En G own cc mL p s mt args meth c) (hp : pic G m H) (ht : tg m a = 2) {idx : Nat} (hl : Cond.fieldLink own idx "MachineLoop$Machine" "marks" "I" ∈ lw_good) (hdg : decode cc pc = .ok (.getfield idx, 3)) (kk : ∀ x : Int32, x = gI m 2 8 a → W p l e R s mt args below meth c H locs cells slots Q (F0 mt (pc + 3) ls (.int x :: rest))) : W p l e R s mt args below meth c H locs cells slots Q (F0 mt pc ls (rn a :: rest)) :=
  mp_get (ci := 1) E hp ht (by decide) (ck_2 _ _ _) rfl i_Machine 8 (by decide) hl rfl hdg (kk _ rfl)
theorem rp_Machine_marks (E : En G own cc mL p s mt args meth c) (hp : pic G m H) (hS : va_S (fr G) s.heap H locs) {v : Int32} (ht : tg m a = 2) {idx : Nat} (hl : Cond.fieldLink own idx "MachineLoop$Machine" "marks" "I" ∈ lw_good) (hdg : decode cc pc = .ok (.putfield idx, 3)) (kk : ∀ m' : Mm, m' = sI m 2 8 a v → ∀ (H1 : Heap) (locs1 : List Loc), pic G m' H1 → va_S (fr G) s.heap H1 locs1 → W p l e R s mt args below meth c H1 locs1 cells slots Q (F0 mt (pc + 3) ls rest)) : W p l e R s mt args below meth c H locs cells slots Q (F0 mt pc ls (.int v :: rn a :: rest)) :=
  mp_put (ci := 1) E hp hS ht (by decide) (ck_2 _ _ _) rfl i_Machine t_Machine t_Machine_ok n_Machine 8 (by decide) hl rfl (ty := .int) (by decide +kernel) rfl rfl (Nat.le_of_ble_eq_true rfl) (m' := sI m 2 8 a v) (fun _ => rfl) (by rw [ck_2, gI_self m 2 8 a v]; rfl) (fun t b hb => co_sI t hb) hdg (kk _ rfl)
theorem rg_Machine_nextPlace (E : En G own cc mL p s mt args meth c) (hp : pic G m H) (ht : tg m a = 2) {idx : Nat} (hl : Cond.fieldLink own idx "MachineLoop$Machine" "nextPlace" "I" ∈ lw_good) (hdg : decode cc pc = .ok (.getfield idx, 3)) (kk : ∀ x : Int32, x = gI m 2 9 a → W p l e R s mt args below meth c H locs cells slots Q (F0 mt (pc + 3) ls (.int x :: rest))) : W p l e R s mt args below meth c H locs cells slots Q (F0 mt pc ls (rn a :: rest)) :=
  mp_get (ci := 1) E hp ht (by decide) (ck_2 _ _ _) rfl i_Machine 9 (by decide) hl rfl hdg (kk _ rfl)
theorem rp_Machine_nextPlace (E : En G own cc mL p s mt args meth c) (hp : pic G m H) (hS : va_S (fr G) s.heap H locs) {v : Int32} (ht : tg m a = 2) {idx : Nat} (hl : Cond.fieldLink own idx "MachineLoop$Machine" "nextPlace" "I" ∈ lw_good) (hdg : decode cc pc = .ok (.putfield idx, 3)) (kk : ∀ m' : Mm, m' = sI m 2 9 a v → ∀ (H1 : Heap) (locs1 : List Loc), pic G m' H1 → va_S (fr G) s.heap H1 locs1 → W p l e R s mt args below meth c H1 locs1 cells slots Q (F0 mt (pc + 3) ls rest)) : W p l e R s mt args below meth c H locs cells slots Q (F0 mt pc ls (.int v :: rn a :: rest)) :=
  mp_put (ci := 1) E hp hS ht (by decide) (ck_2 _ _ _) rfl i_Machine t_Machine t_Machine_ok n_Machine 9 (by decide) hl rfl (ty := .int) (by decide +kernel) rfl rfl (Nat.le_of_ble_eq_true rfl) (m' := sI m 2 9 a v) (fun _ => rfl) (by rw [ck_2, gI_self m 2 9 a v]; rfl) (fun t b hb => co_sI t hb) hdg (kk _ rfl)
theorem rn_Machine (E : En G own cc mL p s mt args meth c) (hp : pic G m H) (hS : va_S (fr G) s.heap H locs) {idx : Nat} (hl : Cond.classLink own idx "MachineLoop$Machine" ∈ lw_good) (hcells : cells + 1 ≤ R.cells) (hslots : slots + 10 ≤ R.slots) (hdg : decode cc pc = .ok (.new idx, 3)) (kk : ∀ (q : Nat), tg m q = 0 → q ≠ 0 → ∀ m' : Mm, m' = nO m 2 q → ∀ (H1 : Heap), pic G m' H1 → va_S (fr G) s.heap H1 locs → W p l e R s mt args below meth c H1 locs (cells + 1) (slots + 10) Q (F0 mt (pc + 3) ls (rn q :: rest))) : W p l e R s mt args below meth c H locs cells slots Q (F0 mt pc ls rest) :=
  mp_new (ci := 1) E hp hS (by decide) rfl i_Machine t_Machine t_Machine_ok hl lk_678 lk_547 (fs := [.null, .null, .null, .int 0, .null, .null, .null, .int 0, .int 0, .int 0]) (fun j hj => by rcases (show j = 0 ∨ j = 1 ∨ j = 2 ∨ j = 3 ∨ j = 4 ∨ j = 5 ∨ j = 6 ∨ j = 7 ∨ j = 8 ∨ j = 9 by omega) with rfl | rfl | rfl | rfl | rfl | rfl | rfl | rfl | rfl | rfl <;> rfl) (fun q => by rw [ck_2]; simp only [gI_nO, gR_nO, ↓reduceIte, rn_0]) hcells hslots hdg kk
theorem rg_Device_settings (E : En G own cc mL p s mt args meth c) (hp : pic G m H) (ht : tg m a = 3) {idx : Nat} (hl : Cond.fieldLink own idx "MachineLoop$Device" "settings" "[I" ∈ lw_good) (hdg : decode cc pc = .ok (.getfield idx, 3)) (kk : ∀ x : Nat, x = gR m 3 0 a → W p l e R s mt args below meth c H locs cells slots Q (F0 mt (pc + 3) ls (rn x :: rest))) : W p l e R s mt args below meth c H locs cells slots Q (F0 mt pc ls (rn a :: rest)) :=
  mp_get (ci := 2) E hp ht (by decide) (ck_3 _ _ _) rfl i_Device 0 (by decide) hl rfl hdg (kk _ rfl)
theorem rp_Device_settings (E : En G R_Device cc mL p s mt args meth c) (hp : pic G m H) (hS : va_S (fr G) s.heap H locs) {v : Nat} (ht : tg m a = 3) {idx : Nat} (hl : Cond.fieldLink R_Device idx "MachineLoop$Device" "settings" "[I" ∈ lw_good) (hin : meth.name = "<init>") (hdg : decode cc pc = .ok (.putfield idx, 3)) (kk : ∀ m' : Mm, m' = sR m 3 0 a v → ∀ (H1 : Heap) (locs1 : List Loc), pic G m' H1 → va_S (fr G) s.heap H1 locs1 → W p l e R s mt args below meth c H1 locs1 cells slots Q (F0 mt (pc + 3) ls rest)) : W p l e R s mt args below meth c H locs cells slots Q (F0 mt pc ls (rn v :: rn a :: rest)) :=
  mp_putF (ci := 2) E hp hS ht (by decide) (ck_3 _ _ _) rfl i_Device t_Device t_Device_ok n_Device 0 (by decide) hl rfl hin rfl (ty := (.array .int)) (by decide +kernel) (nar_ra _ _) (fit_ra _ _) (Nat.le_of_ble_eq_true rfl) (m' := sR m 3 0 a v) (fun _ => rfl) (by rw [ck_3, gR_self m 3 0 a v]; rfl) (fun t b hb => co_sR t hb) hdg (kk _ rfl)
theorem rg_Device_kept (E : En G own cc mL p s mt args meth c) (hp : pic G m H) (ht : tg m a = 3) {idx : Nat} (hl : Cond.fieldLink own idx "MachineLoop$Device" "kept" "[I" ∈ lw_good) (hdg : decode cc pc = .ok (.getfield idx, 3)) (kk : ∀ x : Nat, x = gR m 3 1 a → W p l e R s mt args below meth c H locs cells slots Q (F0 mt (pc + 3) ls (rn x :: rest))) : W p l e R s mt args below meth c H locs cells slots Q (F0 mt pc ls (rn a :: rest)) :=
  mp_get (ci := 2) E hp ht (by decide) (ck_3 _ _ _) rfl i_Device 1 (by decide) hl rfl hdg (kk _ rfl)
theorem rp_Device_kept (E : En G R_Device cc mL p s mt args meth c) (hp : pic G m H) (hS : va_S (fr G) s.heap H locs) {v : Nat} (ht : tg m a = 3) {idx : Nat} (hl : Cond.fieldLink R_Device idx "MachineLoop$Device" "kept" "[I" ∈ lw_good) (hin : meth.name = "<init>") (hdg : decode cc pc = .ok (.putfield idx, 3)) (kk : ∀ m' : Mm, m' = sR m 3 1 a v → ∀ (H1 : Heap) (locs1 : List Loc), pic G m' H1 → va_S (fr G) s.heap H1 locs1 → W p l e R s mt args below meth c H1 locs1 cells slots Q (F0 mt (pc + 3) ls rest)) : W p l e R s mt args below meth c H locs cells slots Q (F0 mt pc ls (rn v :: rn a :: rest)) :=
  mp_putF (ci := 2) E hp hS ht (by decide) (ck_3 _ _ _) rfl i_Device t_Device t_Device_ok n_Device 1 (by decide) hl rfl hin rfl (ty := (.array .int)) (by decide +kernel) (nar_ra _ _) (fit_ra _ _) (Nat.le_of_ble_eq_true rfl) (m' := sR m 3 1 a v) (fun _ => rfl) (by rw [ck_3, gR_self m 3 1 a v]; rfl) (fun t b hb => co_sR t hb) hdg (kk _ rfl)
theorem rn_Device (E : En G own cc mL p s mt args meth c) (hp : pic G m H) (hS : va_S (fr G) s.heap H locs) {idx : Nat} (hl : Cond.classLink own idx "MachineLoop$Device" ∈ lw_good) (hcells : cells + 1 ≤ R.cells) (hslots : slots + 2 ≤ R.slots) (hdg : decode cc pc = .ok (.new idx, 3)) (kk : ∀ (q : Nat), tg m q = 0 → q ≠ 0 → ∀ m' : Mm, m' = nO m 3 q → ∀ (H1 : Heap), pic G m' H1 → va_S (fr G) s.heap H1 locs → W p l e R s mt args below meth c H1 locs (cells + 1) (slots + 2) Q (F0 mt (pc + 3) ls (rn q :: rest))) : W p l e R s mt args below meth c H locs cells slots Q (F0 mt pc ls rest) :=
  mp_new (ci := 2) E hp hS (by decide) rfl i_Device t_Device t_Device_ok hl lk_679 lk_531 (fs := [.null, .null]) (fun j hj => by rcases (show j = 0 ∨ j = 1 by omega) with rfl | rfl <;> rfl) (fun q => by rw [ck_3]; simp only [gI_nO, gR_nO, ↓reduceIte, rn_0]) hcells hslots hdg kk
theorem rg_Resources_values (E : En G own cc mL p s mt args meth c) (hp : pic G m H) (ht : tg m a = 4) {idx : Nat} (hl : Cond.fieldLink own idx "MachineLoop$Resources" "values" "[I" ∈ lw_good) (hdg : decode cc pc = .ok (.getfield idx, 3)) (kk : ∀ x : Nat, x = gR m 4 0 a → W p l e R s mt args below meth c H locs cells slots Q (F0 mt (pc + 3) ls (rn x :: rest))) : W p l e R s mt args below meth c H locs cells slots Q (F0 mt pc ls (rn a :: rest)) :=
  mp_get (ci := 3) E hp ht (by decide) (ck_4 _ _ _) rfl i_Resources 0 (by decide) hl rfl hdg (kk _ rfl)
theorem rp_Resources_values (E : En G R_Resources cc mL p s mt args meth c) (hp : pic G m H) (hS : va_S (fr G) s.heap H locs) {v : Nat} (ht : tg m a = 4) {idx : Nat} (hl : Cond.fieldLink R_Resources idx "MachineLoop$Resources" "values" "[I" ∈ lw_good) (hin : meth.name = "<init>") (hdg : decode cc pc = .ok (.putfield idx, 3)) (kk : ∀ m' : Mm, m' = sR m 4 0 a v → ∀ (H1 : Heap) (locs1 : List Loc), pic G m' H1 → va_S (fr G) s.heap H1 locs1 → W p l e R s mt args below meth c H1 locs1 cells slots Q (F0 mt (pc + 3) ls rest)) : W p l e R s mt args below meth c H locs cells slots Q (F0 mt pc ls (rn v :: rn a :: rest)) :=
  mp_putF (ci := 3) E hp hS ht (by decide) (ck_4 _ _ _) rfl i_Resources t_Resources t_Resources_ok n_Resources 0 (by decide) hl rfl hin rfl (ty := (.array .int)) (by decide +kernel) (nar_ra _ _) (fit_ra _ _) (Nat.le_of_ble_eq_true rfl) (m' := sR m 4 0 a v) (fun _ => rfl) (by rw [ck_4, gR_self m 4 0 a v]; rfl) (fun t b hb => co_sR t hb) hdg (kk _ rfl)
theorem rg_Resources_kept (E : En G own cc mL p s mt args meth c) (hp : pic G m H) (ht : tg m a = 4) {idx : Nat} (hl : Cond.fieldLink own idx "MachineLoop$Resources" "kept" "[I" ∈ lw_good) (hdg : decode cc pc = .ok (.getfield idx, 3)) (kk : ∀ x : Nat, x = gR m 4 1 a → W p l e R s mt args below meth c H locs cells slots Q (F0 mt (pc + 3) ls (rn x :: rest))) : W p l e R s mt args below meth c H locs cells slots Q (F0 mt pc ls (rn a :: rest)) :=
  mp_get (ci := 3) E hp ht (by decide) (ck_4 _ _ _) rfl i_Resources 1 (by decide) hl rfl hdg (kk _ rfl)
theorem rp_Resources_kept (E : En G R_Resources cc mL p s mt args meth c) (hp : pic G m H) (hS : va_S (fr G) s.heap H locs) {v : Nat} (ht : tg m a = 4) {idx : Nat} (hl : Cond.fieldLink R_Resources idx "MachineLoop$Resources" "kept" "[I" ∈ lw_good) (hin : meth.name = "<init>") (hdg : decode cc pc = .ok (.putfield idx, 3)) (kk : ∀ m' : Mm, m' = sR m 4 1 a v → ∀ (H1 : Heap) (locs1 : List Loc), pic G m' H1 → va_S (fr G) s.heap H1 locs1 → W p l e R s mt args below meth c H1 locs1 cells slots Q (F0 mt (pc + 3) ls rest)) : W p l e R s mt args below meth c H locs cells slots Q (F0 mt pc ls (rn v :: rn a :: rest)) :=
  mp_putF (ci := 3) E hp hS ht (by decide) (ck_4 _ _ _) rfl i_Resources t_Resources t_Resources_ok n_Resources 1 (by decide) hl rfl hin rfl (ty := (.array .int)) (by decide +kernel) (nar_ra _ _) (fit_ra _ _) (Nat.le_of_ble_eq_true rfl) (m' := sR m 4 1 a v) (fun _ => rfl) (by rw [ck_4, gR_self m 4 1 a v]; rfl) (fun t b hb => co_sR t hb) hdg (kk _ rfl)
theorem rn_Resources (E : En G own cc mL p s mt args meth c) (hp : pic G m H) (hS : va_S (fr G) s.heap H locs) {idx : Nat} (hl : Cond.classLink own idx "MachineLoop$Resources" ∈ lw_good) (hcells : cells + 1 ≤ R.cells) (hslots : slots + 2 ≤ R.slots) (hdg : decode cc pc = .ok (.new idx, 3)) (kk : ∀ (q : Nat), tg m q = 0 → q ≠ 0 → ∀ m' : Mm, m' = nO m 4 q → ∀ (H1 : Heap), pic G m' H1 → va_S (fr G) s.heap H1 locs → W p l e R s mt args below meth c H1 locs (cells + 1) (slots + 2) Q (F0 mt (pc + 3) ls (rn q :: rest))) : W p l e R s mt args below meth c H locs cells slots Q (F0 mt pc ls rest) :=
  mp_new (ci := 3) E hp hS (by decide) rfl i_Resources t_Resources t_Resources_ok hl lk_680 lk_533 (fs := [.null, .null]) (fun j hj => by rcases (show j = 0 ∨ j = 1 by omega) with rfl | rfl <;> rfl) (fun q => by rw [ck_4]; simp only [gI_nO, gR_nO, ↓reduceIte, rn_0]) hcells hslots hdg kk
theorem rg_FileTree_stores (E : En G own cc mL p s mt args meth c) (hp : pic G m H) (ht : tg m a = 5) {idx : Nat} (hl : Cond.fieldLink own idx "MachineLoop$FileTree" "stores" "[LMachineLoop$Store;" ∈ lw_good) (hdg : decode cc pc = .ok (.getfield idx, 3)) (kk : ∀ x : Nat, x = gR m 5 0 a → W p l e R s mt args below meth c H locs cells slots Q (F0 mt (pc + 3) ls (rn x :: rest))) : W p l e R s mt args below meth c H locs cells slots Q (F0 mt pc ls (rn a :: rest)) :=
  mp_get (ci := 4) E hp ht (by decide) (ck_5 _ _ _) rfl i_FileTree 0 (by decide) hl rfl hdg (kk _ rfl)
theorem rp_FileTree_stores (E : En G R_FileTree cc mL p s mt args meth c) (hp : pic G m H) (hS : va_S (fr G) s.heap H locs) {v : Nat} (ht : tg m a = 5) {idx : Nat} (hl : Cond.fieldLink R_FileTree idx "MachineLoop$FileTree" "stores" "[LMachineLoop$Store;" ∈ lw_good) (hin : meth.name = "<init>") (hdg : decode cc pc = .ok (.putfield idx, 3)) (kk : ∀ m' : Mm, m' = sR m 5 0 a v → ∀ (H1 : Heap) (locs1 : List Loc), pic G m' H1 → va_S (fr G) s.heap H1 locs1 → W p l e R s mt args below meth c H1 locs1 cells slots Q (F0 mt (pc + 3) ls rest)) : W p l e R s mt args below meth c H locs cells slots Q (F0 mt pc ls (rn v :: rn a :: rest)) :=
  mp_putF (ci := 4) E hp hS ht (by decide) (ck_5 _ _ _) rfl i_FileTree t_FileTree t_FileTree_ok n_FileTree 0 (by decide) hl rfl hin rfl (ty := (.array (.object "MachineLoop$Store"))) (by decide +kernel) (nar_ra _ _) (fit_ra _ _) (Nat.le_of_ble_eq_true rfl) (m' := sR m 5 0 a v) (fun _ => rfl) (by rw [ck_5, gR_self m 5 0 a v]; rfl) (fun t b hb => co_sR t hb) hdg (kk _ rfl)
theorem rg_FileTree_output (E : En G own cc mL p s mt args meth c) (hp : pic G m H) (ht : tg m a = 5) {idx : Nat} (hl : Cond.fieldLink own idx "MachineLoop$FileTree" "output" "LMachineLoop$Store;" ∈ lw_good) (hdg : decode cc pc = .ok (.getfield idx, 3)) (kk : ∀ x : Nat, x = gR m 5 1 a → W p l e R s mt args below meth c H locs cells slots Q (F0 mt (pc + 3) ls (rn x :: rest))) : W p l e R s mt args below meth c H locs cells slots Q (F0 mt pc ls (rn a :: rest)) :=
  mp_get (ci := 4) E hp ht (by decide) (ck_5 _ _ _) rfl i_FileTree 1 (by decide) hl rfl hdg (kk _ rfl)
theorem rp_FileTree_output (E : En G R_FileTree cc mL p s mt args meth c) (hp : pic G m H) (hS : va_S (fr G) s.heap H locs) {v : Nat} (ht : tg m a = 5) {idx : Nat} (hl : Cond.fieldLink R_FileTree idx "MachineLoop$FileTree" "output" "LMachineLoop$Store;" ∈ lw_good) (hin : meth.name = "<init>") (hdg : decode cc pc = .ok (.putfield idx, 3)) (kk : ∀ m' : Mm, m' = sR m 5 1 a v → ∀ (H1 : Heap) (locs1 : List Loc), pic G m' H1 → va_S (fr G) s.heap H1 locs1 → W p l e R s mt args below meth c H1 locs1 cells slots Q (F0 mt (pc + 3) ls rest)) : W p l e R s mt args below meth c H locs cells slots Q (F0 mt pc ls (rn v :: rn a :: rest)) :=
  mp_putF (ci := 4) E hp hS ht (by decide) (ck_5 _ _ _) rfl i_FileTree t_FileTree t_FileTree_ok n_FileTree 1 (by decide) hl rfl hin rfl (ty := (.object "MachineLoop$Store")) (by decide +kernel) (nar_rn _ _) (fit_rn _ _) (Nat.le_of_ble_eq_true rfl) (m' := sR m 5 1 a v) (fun _ => rfl) (by rw [ck_5, gR_self m 5 1 a v]; rfl) (fun t b hb => co_sR t hb) hdg (kk _ rfl)
theorem rg_FileTree_handles (E : En G own cc mL p s mt args meth c) (hp : pic G m H) (ht : tg m a = 5) {idx : Nat} (hl : Cond.fieldLink own idx "MachineLoop$FileTree" "handles" "[LMachineLoop$Handle;" ∈ lw_good) (hdg : decode cc pc = .ok (.getfield idx, 3)) (kk : ∀ x : Nat, x = gR m 5 2 a → W p l e R s mt args below meth c H locs cells slots Q (F0 mt (pc + 3) ls (rn x :: rest))) : W p l e R s mt args below meth c H locs cells slots Q (F0 mt pc ls (rn a :: rest)) :=
  mp_get (ci := 4) E hp ht (by decide) (ck_5 _ _ _) rfl i_FileTree 2 (by decide) hl rfl hdg (kk _ rfl)
theorem rp_FileTree_handles (E : En G R_FileTree cc mL p s mt args meth c) (hp : pic G m H) (hS : va_S (fr G) s.heap H locs) {v : Nat} (ht : tg m a = 5) {idx : Nat} (hl : Cond.fieldLink R_FileTree idx "MachineLoop$FileTree" "handles" "[LMachineLoop$Handle;" ∈ lw_good) (hin : meth.name = "<init>") (hdg : decode cc pc = .ok (.putfield idx, 3)) (kk : ∀ m' : Mm, m' = sR m 5 2 a v → ∀ (H1 : Heap) (locs1 : List Loc), pic G m' H1 → va_S (fr G) s.heap H1 locs1 → W p l e R s mt args below meth c H1 locs1 cells slots Q (F0 mt (pc + 3) ls rest)) : W p l e R s mt args below meth c H locs cells slots Q (F0 mt pc ls (rn v :: rn a :: rest)) :=
  mp_putF (ci := 4) E hp hS ht (by decide) (ck_5 _ _ _) rfl i_FileTree t_FileTree t_FileTree_ok n_FileTree 2 (by decide) hl rfl hin rfl (ty := (.array (.object "MachineLoop$Handle"))) (by decide +kernel) (nar_ra _ _) (fit_ra _ _) (Nat.le_of_ble_eq_true rfl) (m' := sR m 5 2 a v) (fun _ => rfl) (by rw [ck_5, gR_self m 5 2 a v]; rfl) (fun t b hb => co_sR t hb) hdg (kk _ rfl)
theorem rn_FileTree (E : En G own cc mL p s mt args meth c) (hp : pic G m H) (hS : va_S (fr G) s.heap H locs) {idx : Nat} (hl : Cond.classLink own idx "MachineLoop$FileTree" ∈ lw_good) (hcells : cells + 1 ≤ R.cells) (hslots : slots + 3 ≤ R.slots) (hdg : decode cc pc = .ok (.new idx, 3)) (kk : ∀ (q : Nat), tg m q = 0 → q ≠ 0 → ∀ m' : Mm, m' = nO m 5 q → ∀ (H1 : Heap), pic G m' H1 → va_S (fr G) s.heap H1 locs → W p l e R s mt args below meth c H1 locs (cells + 1) (slots + 3) Q (F0 mt (pc + 3) ls (rn q :: rest))) : W p l e R s mt args below meth c H locs cells slots Q (F0 mt pc ls rest) :=
  mp_new (ci := 4) E hp hS (by decide) rfl i_FileTree t_FileTree t_FileTree_ok hl lk_681 lk_541 (fs := [.null, .null, .null]) (fun j hj => by rcases (show j = 0 ∨ j = 1 ∨ j = 2 by omega) with rfl | rfl | rfl <;> rfl) (fun q => by rw [ck_5]; simp only [gI_nO, gR_nO, ↓reduceIte, rn_0]) hcells hslots hdg kk
theorem rg_Numbers_numbers (E : En G own cc mL p s mt args meth c) (hp : pic G m H) (ht : tg m a = 6) {idx : Nat} (hl : Cond.fieldLink own idx "MachineLoop$Numbers" "numbers" "[I" ∈ lw_good) (hdg : decode cc pc = .ok (.getfield idx, 3)) (kk : ∀ x : Nat, x = gR m 6 0 a → W p l e R s mt args below meth c H locs cells slots Q (F0 mt (pc + 3) ls (rn x :: rest))) : W p l e R s mt args below meth c H locs cells slots Q (F0 mt pc ls (rn a :: rest)) :=
  mp_get (ci := 5) E hp ht (by decide) (ck_6 _ _ _) rfl i_Numbers 0 (by decide) hl rfl hdg (kk _ rfl)
theorem rp_Numbers_numbers (E : En G R_Numbers cc mL p s mt args meth c) (hp : pic G m H) (hS : va_S (fr G) s.heap H locs) {v : Nat} (ht : tg m a = 6) {idx : Nat} (hl : Cond.fieldLink R_Numbers idx "MachineLoop$Numbers" "numbers" "[I" ∈ lw_good) (hin : meth.name = "<init>") (hdg : decode cc pc = .ok (.putfield idx, 3)) (kk : ∀ m' : Mm, m' = sR m 6 0 a v → ∀ (H1 : Heap) (locs1 : List Loc), pic G m' H1 → va_S (fr G) s.heap H1 locs1 → W p l e R s mt args below meth c H1 locs1 cells slots Q (F0 mt (pc + 3) ls rest)) : W p l e R s mt args below meth c H locs cells slots Q (F0 mt pc ls (rn v :: rn a :: rest)) :=
  mp_putF (ci := 5) E hp hS ht (by decide) (ck_6 _ _ _) rfl i_Numbers t_Numbers t_Numbers_ok n_Numbers 0 (by decide) hl rfl hin rfl (ty := (.array .int)) (by decide +kernel) (nar_ra _ _) (fit_ra _ _) (Nat.le_of_ble_eq_true rfl) (m' := sR m 6 0 a v) (fun _ => rfl) (by rw [ck_6, gR_self m 6 0 a v]; rfl) (fun t b hb => co_sR t hb) hdg (kk _ rfl)
theorem rg_Numbers_height (E : En G own cc mL p s mt args meth c) (hp : pic G m H) (ht : tg m a = 6) {idx : Nat} (hl : Cond.fieldLink own idx "MachineLoop$Numbers" "height" "I" ∈ lw_good) (hdg : decode cc pc = .ok (.getfield idx, 3)) (kk : ∀ x : Int32, x = gI m 6 1 a → W p l e R s mt args below meth c H locs cells slots Q (F0 mt (pc + 3) ls (.int x :: rest))) : W p l e R s mt args below meth c H locs cells slots Q (F0 mt pc ls (rn a :: rest)) :=
  mp_get (ci := 5) E hp ht (by decide) (ck_6 _ _ _) rfl i_Numbers 1 (by decide) hl rfl hdg (kk _ rfl)
theorem rp_Numbers_height (E : En G own cc mL p s mt args meth c) (hp : pic G m H) (hS : va_S (fr G) s.heap H locs) {v : Int32} (ht : tg m a = 6) {idx : Nat} (hl : Cond.fieldLink own idx "MachineLoop$Numbers" "height" "I" ∈ lw_good) (hdg : decode cc pc = .ok (.putfield idx, 3)) (kk : ∀ m' : Mm, m' = sI m 6 1 a v → ∀ (H1 : Heap) (locs1 : List Loc), pic G m' H1 → va_S (fr G) s.heap H1 locs1 → W p l e R s mt args below meth c H1 locs1 cells slots Q (F0 mt (pc + 3) ls rest)) : W p l e R s mt args below meth c H locs cells slots Q (F0 mt pc ls (.int v :: rn a :: rest)) :=
  mp_put (ci := 5) E hp hS ht (by decide) (ck_6 _ _ _) rfl i_Numbers t_Numbers t_Numbers_ok n_Numbers 1 (by decide) hl rfl (ty := .int) (by decide +kernel) rfl rfl (Nat.le_of_ble_eq_true rfl) (m' := sI m 6 1 a v) (fun _ => rfl) (by rw [ck_6, gI_self m 6 1 a v]; rfl) (fun t b hb => co_sI t hb) hdg (kk _ rfl)
theorem rn_Numbers (E : En G own cc mL p s mt args meth c) (hp : pic G m H) (hS : va_S (fr G) s.heap H locs) {idx : Nat} (hl : Cond.classLink own idx "MachineLoop$Numbers" ∈ lw_good) (hcells : cells + 1 ≤ R.cells) (hslots : slots + 2 ≤ R.slots) (hdg : decode cc pc = .ok (.new idx, 3)) (kk : ∀ (q : Nat), tg m q = 0 → q ≠ 0 → ∀ m' : Mm, m' = nO m 6 q → ∀ (H1 : Heap), pic G m' H1 → va_S (fr G) s.heap H1 locs → W p l e R s mt args below meth c H1 locs (cells + 1) (slots + 2) Q (F0 mt (pc + 3) ls (rn q :: rest))) : W p l e R s mt args below meth c H locs cells slots Q (F0 mt pc ls rest) :=
  mp_new (ci := 5) E hp hS (by decide) rfl i_Numbers t_Numbers t_Numbers_ok hl lk_682 lk_543 (fs := [.null, .int 0]) (fun j hj => by rcases (show j = 0 ∨ j = 1 by omega) with rfl | rfl <;> rfl) (fun q => by rw [ck_6]; simp only [gI_nO, gR_nO, ↓reduceIte, rn_0]) hcells hslots hdg kk
theorem rg_Plan_doneFrom (E : En G own cc mL p s mt args meth c) (hp : pic G m H) (ht : tg m a = 7) {idx : Nat} (hl : Cond.fieldLink own idx "MachineLoop$Plan" "doneFrom" "[I" ∈ lw_good) (hdg : decode cc pc = .ok (.getfield idx, 3)) (kk : ∀ x : Nat, x = gR m 7 0 a → W p l e R s mt args below meth c H locs cells slots Q (F0 mt (pc + 3) ls (rn x :: rest))) : W p l e R s mt args below meth c H locs cells slots Q (F0 mt pc ls (rn a :: rest)) :=
  mp_get (ci := 6) E hp ht (by decide) (ck_7 _ _ _) rfl i_Plan 0 (by decide) hl rfl hdg (kk _ rfl)
theorem rp_Plan_doneFrom (E : En G R_Plan cc mL p s mt args meth c) (hp : pic G m H) (hS : va_S (fr G) s.heap H locs) {v : Nat} (ht : tg m a = 7) {idx : Nat} (hl : Cond.fieldLink R_Plan idx "MachineLoop$Plan" "doneFrom" "[I" ∈ lw_good) (hin : meth.name = "<init>") (hdg : decode cc pc = .ok (.putfield idx, 3)) (kk : ∀ m' : Mm, m' = sR m 7 0 a v → ∀ (H1 : Heap) (locs1 : List Loc), pic G m' H1 → va_S (fr G) s.heap H1 locs1 → W p l e R s mt args below meth c H1 locs1 cells slots Q (F0 mt (pc + 3) ls rest)) : W p l e R s mt args below meth c H locs cells slots Q (F0 mt pc ls (rn v :: rn a :: rest)) :=
  mp_putF (ci := 6) E hp hS ht (by decide) (ck_7 _ _ _) rfl i_Plan t_Plan t_Plan_ok n_Plan 0 (by decide) hl rfl hin rfl (ty := (.array .int)) (by decide +kernel) (nar_ra _ _) (fit_ra _ _) (Nat.le_of_ble_eq_true rfl) (m' := sR m 7 0 a v) (fun _ => rfl) (by rw [ck_7, gR_self m 7 0 a v]; rfl) (fun t b hb => co_sR t hb) hdg (kk _ rfl)
theorem rg_Plan_mates (E : En G own cc mL p s mt args meth c) (hp : pic G m H) (ht : tg m a = 7) {idx : Nat} (hl : Cond.fieldLink own idx "MachineLoop$Plan" "mates" "[I" ∈ lw_good) (hdg : decode cc pc = .ok (.getfield idx, 3)) (kk : ∀ x : Nat, x = gR m 7 1 a → W p l e R s mt args below meth c H locs cells slots Q (F0 mt (pc + 3) ls (rn x :: rest))) : W p l e R s mt args below meth c H locs cells slots Q (F0 mt pc ls (rn a :: rest)) :=
  mp_get (ci := 6) E hp ht (by decide) (ck_7 _ _ _) rfl i_Plan 1 (by decide) hl rfl hdg (kk _ rfl)
theorem rp_Plan_mates (E : En G R_Plan cc mL p s mt args meth c) (hp : pic G m H) (hS : va_S (fr G) s.heap H locs) {v : Nat} (ht : tg m a = 7) {idx : Nat} (hl : Cond.fieldLink R_Plan idx "MachineLoop$Plan" "mates" "[I" ∈ lw_good) (hin : meth.name = "<init>") (hdg : decode cc pc = .ok (.putfield idx, 3)) (kk : ∀ m' : Mm, m' = sR m 7 1 a v → ∀ (H1 : Heap) (locs1 : List Loc), pic G m' H1 → va_S (fr G) s.heap H1 locs1 → W p l e R s mt args below meth c H1 locs1 cells slots Q (F0 mt (pc + 3) ls rest)) : W p l e R s mt args below meth c H locs cells slots Q (F0 mt pc ls (rn v :: rn a :: rest)) :=
  mp_putF (ci := 6) E hp hS ht (by decide) (ck_7 _ _ _) rfl i_Plan t_Plan t_Plan_ok n_Plan 1 (by decide) hl rfl hin rfl (ty := (.array .int)) (by decide +kernel) (nar_ra _ _) (fit_ra _ _) (Nat.le_of_ble_eq_true rfl) (m' := sR m 7 1 a v) (fun _ => rfl) (by rw [ck_7, gR_self m 7 1 a v]; rfl) (fun t b hb => co_sR t hb) hdg (kk _ rfl)
theorem rg_Plan_openBraces (E : En G own cc mL p s mt args meth c) (hp : pic G m H) (ht : tg m a = 7) {idx : Nat} (hl : Cond.fieldLink own idx "MachineLoop$Plan" "openBraces" "[I" ∈ lw_good) (hdg : decode cc pc = .ok (.getfield idx, 3)) (kk : ∀ x : Nat, x = gR m 7 2 a → W p l e R s mt args below meth c H locs cells slots Q (F0 mt (pc + 3) ls (rn x :: rest))) : W p l e R s mt args below meth c H locs cells slots Q (F0 mt pc ls (rn a :: rest)) :=
  mp_get (ci := 6) E hp ht (by decide) (ck_7 _ _ _) rfl i_Plan 2 (by decide) hl rfl hdg (kk _ rfl)
theorem rp_Plan_openBraces (E : En G R_Plan cc mL p s mt args meth c) (hp : pic G m H) (hS : va_S (fr G) s.heap H locs) {v : Nat} (ht : tg m a = 7) {idx : Nat} (hl : Cond.fieldLink R_Plan idx "MachineLoop$Plan" "openBraces" "[I" ∈ lw_good) (hin : meth.name = "<init>") (hdg : decode cc pc = .ok (.putfield idx, 3)) (kk : ∀ m' : Mm, m' = sR m 7 2 a v → ∀ (H1 : Heap) (locs1 : List Loc), pic G m' H1 → va_S (fr G) s.heap H1 locs1 → W p l e R s mt args below meth c H1 locs1 cells slots Q (F0 mt (pc + 3) ls rest)) : W p l e R s mt args below meth c H locs cells slots Q (F0 mt pc ls (rn v :: rn a :: rest)) :=
  mp_putF (ci := 6) E hp hS ht (by decide) (ck_7 _ _ _) rfl i_Plan t_Plan t_Plan_ok n_Plan 2 (by decide) hl rfl hin rfl (ty := (.array .int)) (by decide +kernel) (nar_ra _ _) (fit_ra _ _) (Nat.le_of_ble_eq_true rfl) (m' := sR m 7 2 a v) (fun _ => rfl) (by rw [ck_7, gR_self m 7 2 a v]; rfl) (fun t b hb => co_sR t hb) hdg (kk _ rfl)
theorem rg_Plan_length (E : En G own cc mL p s mt args meth c) (hp : pic G m H) (ht : tg m a = 7) {idx : Nat} (hl : Cond.fieldLink own idx "MachineLoop$Plan" "length" "I" ∈ lw_good) (hdg : decode cc pc = .ok (.getfield idx, 3)) (kk : ∀ x : Int32, x = gI m 7 3 a → W p l e R s mt args below meth c H locs cells slots Q (F0 mt (pc + 3) ls (.int x :: rest))) : W p l e R s mt args below meth c H locs cells slots Q (F0 mt pc ls (rn a :: rest)) :=
  mp_get (ci := 6) E hp ht (by decide) (ck_7 _ _ _) rfl i_Plan 3 (by decide) hl rfl hdg (kk _ rfl)
theorem rp_Plan_length (E : En G own cc mL p s mt args meth c) (hp : pic G m H) (hS : va_S (fr G) s.heap H locs) {v : Int32} (ht : tg m a = 7) {idx : Nat} (hl : Cond.fieldLink own idx "MachineLoop$Plan" "length" "I" ∈ lw_good) (hdg : decode cc pc = .ok (.putfield idx, 3)) (kk : ∀ m' : Mm, m' = sI m 7 3 a v → ∀ (H1 : Heap) (locs1 : List Loc), pic G m' H1 → va_S (fr G) s.heap H1 locs1 → W p l e R s mt args below meth c H1 locs1 cells slots Q (F0 mt (pc + 3) ls rest)) : W p l e R s mt args below meth c H locs cells slots Q (F0 mt pc ls (.int v :: rn a :: rest)) :=
  mp_put (ci := 6) E hp hS ht (by decide) (ck_7 _ _ _) rfl i_Plan t_Plan t_Plan_ok n_Plan 3 (by decide) hl rfl (ty := .int) (by decide +kernel) rfl rfl (Nat.le_of_ble_eq_true rfl) (m' := sI m 7 3 a v) (fun _ => rfl) (by rw [ck_7, gI_self m 7 3 a v]; rfl) (fun t b hb => co_sI t hb) hdg (kk _ rfl)
theorem rn_Plan (E : En G own cc mL p s mt args meth c) (hp : pic G m H) (hS : va_S (fr G) s.heap H locs) {idx : Nat} (hl : Cond.classLink own idx "MachineLoop$Plan" ∈ lw_good) (hcells : cells + 1 ≤ R.cells) (hslots : slots + 4 ≤ R.slots) (hdg : decode cc pc = .ok (.new idx, 3)) (kk : ∀ (q : Nat), tg m q = 0 → q ≠ 0 → ∀ m' : Mm, m' = nO m 7 q → ∀ (H1 : Heap), pic G m' H1 → va_S (fr G) s.heap H1 locs → W p l e R s mt args below meth c H1 locs (cells + 1) (slots + 4) Q (F0 mt (pc + 3) ls (rn q :: rest))) : W p l e R s mt args below meth c H locs cells slots Q (F0 mt pc ls rest) :=
  mp_new (ci := 6) E hp hS (by decide) rfl i_Plan t_Plan t_Plan_ok hl lk_683 lk_545 (fs := [.null, .null, .null, .int 0]) (fun j hj => by rcases (show j = 0 ∨ j = 1 ∨ j = 2 ∨ j = 3 by omega) with rfl | rfl | rfl | rfl <;> rfl) (fun q => by rw [ck_7]; simp only [gI_nO, gR_nO, ↓reduceIte, rn_0]) hcells hslots hdg kk
theorem rg_Job_signs (E : En G own cc mL p s mt args meth c) (hp : pic G m H) (ht : tg m a = 8) {idx : Nat} (hl : Cond.fieldLink own idx "MachineLoop$Job" "signs" "[B" ∈ lw_good) (hdg : decode cc pc = .ok (.getfield idx, 3)) (kk : ∀ x : Nat, x = gR m 8 0 a → W p l e R s mt args below meth c H locs cells slots Q (F0 mt (pc + 3) ls (rn x :: rest))) : W p l e R s mt args below meth c H locs cells slots Q (F0 mt pc ls (rn a :: rest)) :=
  mp_get (ci := 7) E hp ht (by decide) (ck_8 _ _ _) rfl i_Job 0 (by decide) hl rfl hdg (kk _ rfl)
theorem rp_Job_signs (E : En G R_Job cc mL p s mt args meth c) (hp : pic G m H) (hS : va_S (fr G) s.heap H locs) {v : Nat} (ht : tg m a = 8) {idx : Nat} (hl : Cond.fieldLink R_Job idx "MachineLoop$Job" "signs" "[B" ∈ lw_good) (hin : meth.name = "<init>") (hdg : decode cc pc = .ok (.putfield idx, 3)) (kk : ∀ m' : Mm, m' = sR m 8 0 a v → ∀ (H1 : Heap) (locs1 : List Loc), pic G m' H1 → va_S (fr G) s.heap H1 locs1 → W p l e R s mt args below meth c H1 locs1 cells slots Q (F0 mt (pc + 3) ls rest)) : W p l e R s mt args below meth c H locs cells slots Q (F0 mt pc ls (rn v :: rn a :: rest)) :=
  mp_putF (ci := 7) E hp hS ht (by decide) (ck_8 _ _ _) rfl i_Job t_Job t_Job_ok n_Job 0 (by decide) hl rfl hin rfl (ty := (.array .byte)) (by decide +kernel) (nar_ra _ _) (fit_ra _ _) (Nat.le_of_ble_eq_true rfl) (m' := sR m 8 0 a v) (fun _ => rfl) (by rw [ck_8, gR_self m 8 0 a v]; rfl) (fun t b hb => co_sR t hb) hdg (kk _ rfl)
theorem rg_Job_pages (E : En G own cc mL p s mt args meth c) (hp : pic G m H) (ht : tg m a = 8) {idx : Nat} (hl : Cond.fieldLink own idx "MachineLoop$Job" "pages" "[I" ∈ lw_good) (hdg : decode cc pc = .ok (.getfield idx, 3)) (kk : ∀ x : Nat, x = gR m 8 1 a → W p l e R s mt args below meth c H locs cells slots Q (F0 mt (pc + 3) ls (rn x :: rest))) : W p l e R s mt args below meth c H locs cells slots Q (F0 mt pc ls (rn a :: rest)) :=
  mp_get (ci := 7) E hp ht (by decide) (ck_8 _ _ _) rfl i_Job 1 (by decide) hl rfl hdg (kk _ rfl)
theorem rp_Job_pages (E : En G R_Job cc mL p s mt args meth c) (hp : pic G m H) (hS : va_S (fr G) s.heap H locs) {v : Nat} (ht : tg m a = 8) {idx : Nat} (hl : Cond.fieldLink R_Job idx "MachineLoop$Job" "pages" "[I" ∈ lw_good) (hin : meth.name = "<init>") (hdg : decode cc pc = .ok (.putfield idx, 3)) (kk : ∀ m' : Mm, m' = sR m 8 1 a v → ∀ (H1 : Heap) (locs1 : List Loc), pic G m' H1 → va_S (fr G) s.heap H1 locs1 → W p l e R s mt args below meth c H1 locs1 cells slots Q (F0 mt (pc + 3) ls rest)) : W p l e R s mt args below meth c H locs cells slots Q (F0 mt pc ls (rn v :: rn a :: rest)) :=
  mp_putF (ci := 7) E hp hS ht (by decide) (ck_8 _ _ _) rfl i_Job t_Job t_Job_ok n_Job 1 (by decide) hl rfl hin rfl (ty := (.array .int)) (by decide +kernel) (nar_ra _ _) (fit_ra _ _) (Nat.le_of_ble_eq_true rfl) (m' := sR m 8 1 a v) (fun _ => rfl) (by rw [ck_8, gR_self m 8 1 a v]; rfl) (fun t b hb => co_sR t hb) hdg (kk _ rfl)
theorem rg_Job_length (E : En G own cc mL p s mt args meth c) (hp : pic G m H) (ht : tg m a = 8) {idx : Nat} (hl : Cond.fieldLink own idx "MachineLoop$Job" "length" "I" ∈ lw_good) (hdg : decode cc pc = .ok (.getfield idx, 3)) (kk : ∀ x : Int32, x = gI m 8 2 a → W p l e R s mt args below meth c H locs cells slots Q (F0 mt (pc + 3) ls (.int x :: rest))) : W p l e R s mt args below meth c H locs cells slots Q (F0 mt pc ls (rn a :: rest)) :=
  mp_get (ci := 7) E hp ht (by decide) (ck_8 _ _ _) rfl i_Job 2 (by decide) hl rfl hdg (kk _ rfl)
theorem rp_Job_length (E : En G own cc mL p s mt args meth c) (hp : pic G m H) (hS : va_S (fr G) s.heap H locs) {v : Int32} (ht : tg m a = 8) {idx : Nat} (hl : Cond.fieldLink own idx "MachineLoop$Job" "length" "I" ∈ lw_good) (hdg : decode cc pc = .ok (.putfield idx, 3)) (kk : ∀ m' : Mm, m' = sI m 8 2 a v → ∀ (H1 : Heap) (locs1 : List Loc), pic G m' H1 → va_S (fr G) s.heap H1 locs1 → W p l e R s mt args below meth c H1 locs1 cells slots Q (F0 mt (pc + 3) ls rest)) : W p l e R s mt args below meth c H locs cells slots Q (F0 mt pc ls (.int v :: rn a :: rest)) :=
  mp_put (ci := 7) E hp hS ht (by decide) (ck_8 _ _ _) rfl i_Job t_Job t_Job_ok n_Job 2 (by decide) hl rfl (ty := .int) (by decide +kernel) rfl rfl (Nat.le_of_ble_eq_true rfl) (m' := sI m 8 2 a v) (fun _ => rfl) (by rw [ck_8, gI_self m 8 2 a v]; rfl) (fun t b hb => co_sI t hb) hdg (kk _ rfl)
theorem rg_Job_pageCount (E : En G own cc mL p s mt args meth c) (hp : pic G m H) (ht : tg m a = 8) {idx : Nat} (hl : Cond.fieldLink own idx "MachineLoop$Job" "pageCount" "I" ∈ lw_good) (hdg : decode cc pc = .ok (.getfield idx, 3)) (kk : ∀ x : Int32, x = gI m 8 3 a → W p l e R s mt args below meth c H locs cells slots Q (F0 mt (pc + 3) ls (.int x :: rest))) : W p l e R s mt args below meth c H locs cells slots Q (F0 mt pc ls (rn a :: rest)) :=
  mp_get (ci := 7) E hp ht (by decide) (ck_8 _ _ _) rfl i_Job 3 (by decide) hl rfl hdg (kk _ rfl)
theorem rp_Job_pageCount (E : En G own cc mL p s mt args meth c) (hp : pic G m H) (hS : va_S (fr G) s.heap H locs) {v : Int32} (ht : tg m a = 8) {idx : Nat} (hl : Cond.fieldLink own idx "MachineLoop$Job" "pageCount" "I" ∈ lw_good) (hdg : decode cc pc = .ok (.putfield idx, 3)) (kk : ∀ m' : Mm, m' = sI m 8 3 a v → ∀ (H1 : Heap) (locs1 : List Loc), pic G m' H1 → va_S (fr G) s.heap H1 locs1 → W p l e R s mt args below meth c H1 locs1 cells slots Q (F0 mt (pc + 3) ls rest)) : W p l e R s mt args below meth c H locs cells slots Q (F0 mt pc ls (.int v :: rn a :: rest)) :=
  mp_put (ci := 7) E hp hS ht (by decide) (ck_8 _ _ _) rfl i_Job t_Job t_Job_ok n_Job 3 (by decide) hl rfl (ty := .int) (by decide +kernel) rfl rfl (Nat.le_of_ble_eq_true rfl) (m' := sI m 8 3 a v) (fun _ => rfl) (by rw [ck_8, gI_self m 8 3 a v]; rfl) (fun t b hb => co_sI t hb) hdg (kk _ rfl)
theorem rg_Job_outcome (E : En G own cc mL p s mt args meth c) (hp : pic G m H) (ht : tg m a = 8) {idx : Nat} (hl : Cond.fieldLink own idx "MachineLoop$Job" "outcome" "I" ∈ lw_good) (hdg : decode cc pc = .ok (.getfield idx, 3)) (kk : ∀ x : Int32, x = gI m 8 4 a → W p l e R s mt args below meth c H locs cells slots Q (F0 mt (pc + 3) ls (.int x :: rest))) : W p l e R s mt args below meth c H locs cells slots Q (F0 mt pc ls (rn a :: rest)) :=
  mp_get (ci := 7) E hp ht (by decide) (ck_8 _ _ _) rfl i_Job 4 (by decide) hl rfl hdg (kk _ rfl)
theorem rp_Job_outcome (E : En G own cc mL p s mt args meth c) (hp : pic G m H) (hS : va_S (fr G) s.heap H locs) {v : Int32} (ht : tg m a = 8) {idx : Nat} (hl : Cond.fieldLink own idx "MachineLoop$Job" "outcome" "I" ∈ lw_good) (hdg : decode cc pc = .ok (.putfield idx, 3)) (kk : ∀ m' : Mm, m' = sI m 8 4 a v → ∀ (H1 : Heap) (locs1 : List Loc), pic G m' H1 → va_S (fr G) s.heap H1 locs1 → W p l e R s mt args below meth c H1 locs1 cells slots Q (F0 mt (pc + 3) ls rest)) : W p l e R s mt args below meth c H locs cells slots Q (F0 mt pc ls (.int v :: rn a :: rest)) :=
  mp_put (ci := 7) E hp hS ht (by decide) (ck_8 _ _ _) rfl i_Job t_Job t_Job_ok n_Job 4 (by decide) hl rfl (ty := .int) (by decide +kernel) rfl rfl (Nat.le_of_ble_eq_true rfl) (m' := sI m 8 4 a v) (fun _ => rfl) (by rw [ck_8, gI_self m 8 4 a v]; rfl) (fun t b hb => co_sI t hb) hdg (kk _ rfl)
theorem rg_Job_error (E : En G own cc mL p s mt args meth c) (hp : pic G m H) (ht : tg m a = 8) {idx : Nat} (hl : Cond.fieldLink own idx "MachineLoop$Job" "error" "I" ∈ lw_good) (hdg : decode cc pc = .ok (.getfield idx, 3)) (kk : ∀ x : Int32, x = gI m 8 5 a → W p l e R s mt args below meth c H locs cells slots Q (F0 mt (pc + 3) ls (.int x :: rest))) : W p l e R s mt args below meth c H locs cells slots Q (F0 mt pc ls (rn a :: rest)) :=
  mp_get (ci := 7) E hp ht (by decide) (ck_8 _ _ _) rfl i_Job 5 (by decide) hl rfl hdg (kk _ rfl)
theorem rp_Job_error (E : En G own cc mL p s mt args meth c) (hp : pic G m H) (hS : va_S (fr G) s.heap H locs) {v : Int32} (ht : tg m a = 8) {idx : Nat} (hl : Cond.fieldLink own idx "MachineLoop$Job" "error" "I" ∈ lw_good) (hdg : decode cc pc = .ok (.putfield idx, 3)) (kk : ∀ m' : Mm, m' = sI m 8 5 a v → ∀ (H1 : Heap) (locs1 : List Loc), pic G m' H1 → va_S (fr G) s.heap H1 locs1 → W p l e R s mt args below meth c H1 locs1 cells slots Q (F0 mt (pc + 3) ls rest)) : W p l e R s mt args below meth c H locs cells slots Q (F0 mt pc ls (.int v :: rn a :: rest)) :=
  mp_put (ci := 7) E hp hS ht (by decide) (ck_8 _ _ _) rfl i_Job t_Job t_Job_ok n_Job 5 (by decide) hl rfl (ty := .int) (by decide +kernel) rfl rfl (Nat.le_of_ble_eq_true rfl) (m' := sI m 8 5 a v) (fun _ => rfl) (by rw [ck_8, gI_self m 8 5 a v]; rfl) (fun t b hb => co_sI t hb) hdg (kk _ rfl)
theorem rg_Job_errorPlace (E : En G own cc mL p s mt args meth c) (hp : pic G m H) (ht : tg m a = 8) {idx : Nat} (hl : Cond.fieldLink own idx "MachineLoop$Job" "errorPlace" "I" ∈ lw_good) (hdg : decode cc pc = .ok (.getfield idx, 3)) (kk : ∀ x : Int32, x = gI m 8 6 a → W p l e R s mt args below meth c H locs cells slots Q (F0 mt (pc + 3) ls (.int x :: rest))) : W p l e R s mt args below meth c H locs cells slots Q (F0 mt pc ls (rn a :: rest)) :=
  mp_get (ci := 7) E hp ht (by decide) (ck_8 _ _ _) rfl i_Job 6 (by decide) hl rfl hdg (kk _ rfl)
theorem rp_Job_errorPlace (E : En G own cc mL p s mt args meth c) (hp : pic G m H) (hS : va_S (fr G) s.heap H locs) {v : Int32} (ht : tg m a = 8) {idx : Nat} (hl : Cond.fieldLink own idx "MachineLoop$Job" "errorPlace" "I" ∈ lw_good) (hdg : decode cc pc = .ok (.putfield idx, 3)) (kk : ∀ m' : Mm, m' = sI m 8 6 a v → ∀ (H1 : Heap) (locs1 : List Loc), pic G m' H1 → va_S (fr G) s.heap H1 locs1 → W p l e R s mt args below meth c H1 locs1 cells slots Q (F0 mt (pc + 3) ls rest)) : W p l e R s mt args below meth c H locs cells slots Q (F0 mt pc ls (.int v :: rn a :: rest)) :=
  mp_put (ci := 7) E hp hS ht (by decide) (ck_8 _ _ _) rfl i_Job t_Job t_Job_ok n_Job 6 (by decide) hl rfl (ty := .int) (by decide +kernel) rfl rfl (Nat.le_of_ble_eq_true rfl) (m' := sI m 8 6 a v) (fun _ => rfl) (by rw [ck_8, gI_self m 8 6 a v]; rfl) (fun t b hb => co_sI t hb) hdg (kk _ rfl)
theorem rg_Job_steps (E : En G own cc mL p s mt args meth c) (hp : pic G m H) (ht : tg m a = 8) {idx : Nat} (hl : Cond.fieldLink own idx "MachineLoop$Job" "steps" "I" ∈ lw_good) (hdg : decode cc pc = .ok (.getfield idx, 3)) (kk : ∀ x : Int32, x = gI m 8 7 a → W p l e R s mt args below meth c H locs cells slots Q (F0 mt (pc + 3) ls (.int x :: rest))) : W p l e R s mt args below meth c H locs cells slots Q (F0 mt pc ls (rn a :: rest)) :=
  mp_get (ci := 7) E hp ht (by decide) (ck_8 _ _ _) rfl i_Job 7 (by decide) hl rfl hdg (kk _ rfl)
theorem rp_Job_steps (E : En G own cc mL p s mt args meth c) (hp : pic G m H) (hS : va_S (fr G) s.heap H locs) {v : Int32} (ht : tg m a = 8) {idx : Nat} (hl : Cond.fieldLink own idx "MachineLoop$Job" "steps" "I" ∈ lw_good) (hdg : decode cc pc = .ok (.putfield idx, 3)) (kk : ∀ m' : Mm, m' = sI m 8 7 a v → ∀ (H1 : Heap) (locs1 : List Loc), pic G m' H1 → va_S (fr G) s.heap H1 locs1 → W p l e R s mt args below meth c H1 locs1 cells slots Q (F0 mt (pc + 3) ls rest)) : W p l e R s mt args below meth c H locs cells slots Q (F0 mt pc ls (.int v :: rn a :: rest)) :=
  mp_put (ci := 7) E hp hS ht (by decide) (ck_8 _ _ _) rfl i_Job t_Job t_Job_ok n_Job 7 (by decide) hl rfl (ty := .int) (by decide +kernel) rfl rfl (Nat.le_of_ble_eq_true rfl) (m' := sI m 8 7 a v) (fun _ => rfl) (by rw [ck_8, gI_self m 8 7 a v]; rfl) (fun t b hb => co_sI t hb) hdg (kk _ rfl)
theorem rg_Job_flushed (E : En G own cc mL p s mt args meth c) (hp : pic G m H) (ht : tg m a = 8) {idx : Nat} (hl : Cond.fieldLink own idx "MachineLoop$Job" "flushed" "I" ∈ lw_good) (hdg : decode cc pc = .ok (.getfield idx, 3)) (kk : ∀ x : Int32, x = gI m 8 8 a → W p l e R s mt args below meth c H locs cells slots Q (F0 mt (pc + 3) ls (.int x :: rest))) : W p l e R s mt args below meth c H locs cells slots Q (F0 mt pc ls (rn a :: rest)) :=
  mp_get (ci := 7) E hp ht (by decide) (ck_8 _ _ _) rfl i_Job 8 (by decide) hl rfl hdg (kk _ rfl)
theorem rp_Job_flushed (E : En G own cc mL p s mt args meth c) (hp : pic G m H) (hS : va_S (fr G) s.heap H locs) {v : Int32} (ht : tg m a = 8) {idx : Nat} (hl : Cond.fieldLink own idx "MachineLoop$Job" "flushed" "I" ∈ lw_good) (hdg : decode cc pc = .ok (.putfield idx, 3)) (kk : ∀ m' : Mm, m' = sI m 8 8 a v → ∀ (H1 : Heap) (locs1 : List Loc), pic G m' H1 → va_S (fr G) s.heap H1 locs1 → W p l e R s mt args below meth c H1 locs1 cells slots Q (F0 mt (pc + 3) ls rest)) : W p l e R s mt args below meth c H locs cells slots Q (F0 mt pc ls (.int v :: rn a :: rest)) :=
  mp_put (ci := 7) E hp hS ht (by decide) (ck_8 _ _ _) rfl i_Job t_Job t_Job_ok n_Job 8 (by decide) hl rfl (ty := .int) (by decide +kernel) rfl rfl (Nat.le_of_ble_eq_true rfl) (m' := sI m 8 8 a v) (fun _ => rfl) (by rw [ck_8, gI_self m 8 8 a v]; rfl) (fun t b hb => co_sI t hb) hdg (kk _ rfl)
theorem rn_Job (E : En G own cc mL p s mt args meth c) (hp : pic G m H) (hS : va_S (fr G) s.heap H locs) {idx : Nat} (hl : Cond.classLink own idx "MachineLoop$Job" ∈ lw_good) (hcells : cells + 1 ≤ R.cells) (hslots : slots + 9 ≤ R.slots) (hdg : decode cc pc = .ok (.new idx, 3)) (kk : ∀ (q : Nat), tg m q = 0 → q ≠ 0 → ∀ m' : Mm, m' = nO m 8 q → ∀ (H1 : Heap), pic G m' H1 → va_S (fr G) s.heap H1 locs → W p l e R s mt args below meth c H1 locs (cells + 1) (slots + 9) Q (F0 mt (pc + 3) ls (rn q :: rest))) : W p l e R s mt args below meth c H locs cells slots Q (F0 mt pc ls rest) :=
  mp_new (ci := 7) E hp hS (by decide) rfl i_Job t_Job t_Job_ok hl lk_684 lk_551 (fs := [.null, .null, .int 0, .int 0, .int 0, .int 0, .int 0, .int 0, .int 0]) (fun j hj => by rcases (show j = 0 ∨ j = 1 ∨ j = 2 ∨ j = 3 ∨ j = 4 ∨ j = 5 ∨ j = 6 ∨ j = 7 ∨ j = 8 by omega) with rfl | rfl | rfl | rfl | rfl | rfl | rfl | rfl | rfl <;> rfl) (fun q => by rw [ck_8]; simp only [gI_nO, gR_nO, ↓reduceIte, rn_0]) hcells hslots hdg kk
theorem rg_Store_bytes (E : En G own cc mL p s mt args meth c) (hp : pic G m H) (ht : tg m a = 9) {idx : Nat} (hl : Cond.fieldLink own idx "MachineLoop$Store" "bytes" "[B" ∈ lw_good) (hdg : decode cc pc = .ok (.getfield idx, 3)) (kk : ∀ x : Nat, x = gR m 9 0 a → W p l e R s mt args below meth c H locs cells slots Q (F0 mt (pc + 3) ls (rn x :: rest))) : W p l e R s mt args below meth c H locs cells slots Q (F0 mt pc ls (rn a :: rest)) :=
  mp_get (ci := 8) E hp ht (by decide) (ck_9 _ _ _) rfl i_Store 0 (by decide) hl rfl hdg (kk _ rfl)
theorem rp_Store_bytes (E : En G R_Store cc mL p s mt args meth c) (hp : pic G m H) (hS : va_S (fr G) s.heap H locs) {v : Nat} (ht : tg m a = 9) {idx : Nat} (hl : Cond.fieldLink R_Store idx "MachineLoop$Store" "bytes" "[B" ∈ lw_good) (hin : meth.name = "<init>") (hdg : decode cc pc = .ok (.putfield idx, 3)) (kk : ∀ m' : Mm, m' = sR m 9 0 a v → ∀ (H1 : Heap) (locs1 : List Loc), pic G m' H1 → va_S (fr G) s.heap H1 locs1 → W p l e R s mt args below meth c H1 locs1 cells slots Q (F0 mt (pc + 3) ls rest)) : W p l e R s mt args below meth c H locs cells slots Q (F0 mt pc ls (rn v :: rn a :: rest)) :=
  mp_putF (ci := 8) E hp hS ht (by decide) (ck_9 _ _ _) rfl i_Store t_Store t_Store_ok n_Store 0 (by decide) hl rfl hin rfl (ty := (.array .byte)) (by decide +kernel) (nar_ra _ _) (fit_ra _ _) (Nat.le_of_ble_eq_true rfl) (m' := sR m 9 0 a v) (fun _ => rfl) (by rw [ck_9, gR_self m 9 0 a v]; rfl) (fun t b hb => co_sR t hb) hdg (kk _ rfl)
theorem rg_Store_size (E : En G own cc mL p s mt args meth c) (hp : pic G m H) (ht : tg m a = 9) {idx : Nat} (hl : Cond.fieldLink own idx "MachineLoop$Store" "size" "I" ∈ lw_good) (hdg : decode cc pc = .ok (.getfield idx, 3)) (kk : ∀ x : Int32, x = gI m 9 1 a → W p l e R s mt args below meth c H locs cells slots Q (F0 mt (pc + 3) ls (.int x :: rest))) : W p l e R s mt args below meth c H locs cells slots Q (F0 mt pc ls (rn a :: rest)) :=
  mp_get (ci := 8) E hp ht (by decide) (ck_9 _ _ _) rfl i_Store 1 (by decide) hl rfl hdg (kk _ rfl)
theorem rp_Store_size (E : En G own cc mL p s mt args meth c) (hp : pic G m H) (hS : va_S (fr G) s.heap H locs) {v : Int32} (ht : tg m a = 9) {idx : Nat} (hl : Cond.fieldLink own idx "MachineLoop$Store" "size" "I" ∈ lw_good) (hdg : decode cc pc = .ok (.putfield idx, 3)) (kk : ∀ m' : Mm, m' = sI m 9 1 a v → ∀ (H1 : Heap) (locs1 : List Loc), pic G m' H1 → va_S (fr G) s.heap H1 locs1 → W p l e R s mt args below meth c H1 locs1 cells slots Q (F0 mt (pc + 3) ls rest)) : W p l e R s mt args below meth c H locs cells slots Q (F0 mt pc ls (.int v :: rn a :: rest)) :=
  mp_put (ci := 8) E hp hS ht (by decide) (ck_9 _ _ _) rfl i_Store t_Store t_Store_ok n_Store 1 (by decide) hl rfl (ty := .int) (by decide +kernel) rfl rfl (Nat.le_of_ble_eq_true rfl) (m' := sI m 9 1 a v) (fun _ => rfl) (by rw [ck_9, gI_self m 9 1 a v]; rfl) (fun t b hb => co_sI t hb) hdg (kk _ rfl)
theorem rg_Store_isThere (E : En G own cc mL p s mt args meth c) (hp : pic G m H) (ht : tg m a = 9) {idx : Nat} (hl : Cond.fieldLink own idx "MachineLoop$Store" "isThere" "Z" ∈ lw_good) (hdg : decode cc pc = .ok (.getfield idx, 3)) (kk : ∀ x : Int32, x = gI m 9 2 a → W p l e R s mt args below meth c H locs cells slots Q (F0 mt (pc + 3) ls (.int x :: rest))) : W p l e R s mt args below meth c H locs cells slots Q (F0 mt pc ls (rn a :: rest)) :=
  mp_get (ci := 8) E hp ht (by decide) (ck_9 _ _ _) rfl i_Store 2 (by decide) hl rfl hdg (kk _ rfl)
theorem rp_Store_isThere (E : En G own cc mL p s mt args meth c) (hp : pic G m H) (hS : va_S (fr G) s.heap H locs) {v : Int32} (ht : tg m a = 9) {idx : Nat} (hl : Cond.fieldLink own idx "MachineLoop$Store" "isThere" "Z" ∈ lw_good) (hz : v = 0 ∨ v = 1) (hdg : decode cc pc = .ok (.putfield idx, 3)) (kk : ∀ m' : Mm, m' = sI m 9 2 a v → ∀ (H1 : Heap) (locs1 : List Loc), pic G m' H1 → va_S (fr G) s.heap H1 locs1 → W p l e R s mt args below meth c H1 locs1 cells slots Q (F0 mt (pc + 3) ls rest)) : W p l e R s mt args below meth c H locs cells slots Q (F0 mt pc ls (.int v :: rn a :: rest)) :=
  mp_put (ci := 8) E hp hS ht (by decide) (ck_9 _ _ _) rfl i_Store t_Store t_Store_ok n_Store 2 (by decide) hl rfl (ty := .boolean) (by decide +kernel) (by rcases hz with rfl | rfl <;> rfl) (by rcases hz with rfl | rfl <;> rfl) (Nat.le_of_ble_eq_true rfl) (m' := sI m 9 2 a v) (fun _ => rfl) (by rw [ck_9, gI_self m 9 2 a v]; rfl) (fun t b hb => co_sI t hb) hdg (kk _ rfl)
theorem rn_Store (E : En G own cc mL p s mt args meth c) (hp : pic G m H) (hS : va_S (fr G) s.heap H locs) {idx : Nat} (hl : Cond.classLink own idx "MachineLoop$Store" ∈ lw_good) (hcells : cells + 1 ≤ R.cells) (hslots : slots + 3 ≤ R.slots) (hdg : decode cc pc = .ok (.new idx, 3)) (kk : ∀ (q : Nat), tg m q = 0 → q ≠ 0 → ∀ m' : Mm, m' = nO m 9 q → ∀ (H1 : Heap), pic G m' H1 → va_S (fr G) s.heap H1 locs → W p l e R s mt args below meth c H1 locs (cells + 1) (slots + 3) Q (F0 mt (pc + 3) ls (rn q :: rest))) : W p l e R s mt args below meth c H locs cells slots Q (F0 mt pc ls rest) :=
  mp_new (ci := 8) E hp hS (by decide) rfl i_Store t_Store t_Store_ok hl lk_685 lk_535 (fs := [.null, .int 0, .int 0]) (fun j hj => by rcases (show j = 0 ∨ j = 1 ∨ j = 2 by omega) with rfl | rfl | rfl <;> rfl) (fun q => by rw [ck_9]; simp only [gI_nO, gR_nO, ↓reduceIte, rn_0]) hcells hslots hdg kk
theorem rg_Handle_filters (E : En G own cc mL p s mt args meth c) (hp : pic G m H) (ht : tg m a = 10) {idx : Nat} (hl : Cond.fieldLink own idx "MachineLoop$Handle" "filters" "[I" ∈ lw_good) (hdg : decode cc pc = .ok (.getfield idx, 3)) (kk : ∀ x : Nat, x = gR m 10 0 a → W p l e R s mt args below meth c H locs cells slots Q (F0 mt (pc + 3) ls (rn x :: rest))) : W p l e R s mt args below meth c H locs cells slots Q (F0 mt pc ls (rn a :: rest)) :=
  mp_get (ci := 9) E hp ht (by decide) (ck_10 _ _ _) rfl i_Handle 0 (by decide) hl rfl hdg (kk _ rfl)
theorem rp_Handle_filters (E : En G R_Handle cc mL p s mt args meth c) (hp : pic G m H) (hS : va_S (fr G) s.heap H locs) {v : Nat} (ht : tg m a = 10) {idx : Nat} (hl : Cond.fieldLink R_Handle idx "MachineLoop$Handle" "filters" "[I" ∈ lw_good) (hin : meth.name = "<init>") (hdg : decode cc pc = .ok (.putfield idx, 3)) (kk : ∀ m' : Mm, m' = sR m 10 0 a v → ∀ (H1 : Heap) (locs1 : List Loc), pic G m' H1 → va_S (fr G) s.heap H1 locs1 → W p l e R s mt args below meth c H1 locs1 cells slots Q (F0 mt (pc + 3) ls rest)) : W p l e R s mt args below meth c H locs cells slots Q (F0 mt pc ls (rn v :: rn a :: rest)) :=
  mp_putF (ci := 9) E hp hS ht (by decide) (ck_10 _ _ _) rfl i_Handle t_Handle t_Handle_ok n_Handle 0 (by decide) hl rfl hin rfl (ty := (.array .int)) (by decide +kernel) (nar_ra _ _) (fit_ra _ _) (Nat.le_of_ble_eq_true rfl) (m' := sR m 10 0 a v) (fun _ => rfl) (by rw [ck_10, gR_self m 10 0 a v]; rfl) (fun t b hb => co_sR t hb) hdg (kk _ rfl)
theorem rg_Handle_filterCount (E : En G own cc mL p s mt args meth c) (hp : pic G m H) (ht : tg m a = 10) {idx : Nat} (hl : Cond.fieldLink own idx "MachineLoop$Handle" "filterCount" "I" ∈ lw_good) (hdg : decode cc pc = .ok (.getfield idx, 3)) (kk : ∀ x : Int32, x = gI m 10 1 a → W p l e R s mt args below meth c H locs cells slots Q (F0 mt (pc + 3) ls (.int x :: rest))) : W p l e R s mt args below meth c H locs cells slots Q (F0 mt pc ls (rn a :: rest)) :=
  mp_get (ci := 9) E hp ht (by decide) (ck_10 _ _ _) rfl i_Handle 1 (by decide) hl rfl hdg (kk _ rfl)
theorem rp_Handle_filterCount (E : En G own cc mL p s mt args meth c) (hp : pic G m H) (hS : va_S (fr G) s.heap H locs) {v : Int32} (ht : tg m a = 10) {idx : Nat} (hl : Cond.fieldLink own idx "MachineLoop$Handle" "filterCount" "I" ∈ lw_good) (hdg : decode cc pc = .ok (.putfield idx, 3)) (kk : ∀ m' : Mm, m' = sI m 10 1 a v → ∀ (H1 : Heap) (locs1 : List Loc), pic G m' H1 → va_S (fr G) s.heap H1 locs1 → W p l e R s mt args below meth c H1 locs1 cells slots Q (F0 mt (pc + 3) ls rest)) : W p l e R s mt args below meth c H locs cells slots Q (F0 mt pc ls (.int v :: rn a :: rest)) :=
  mp_put (ci := 9) E hp hS ht (by decide) (ck_10 _ _ _) rfl i_Handle t_Handle t_Handle_ok n_Handle 1 (by decide) hl rfl (ty := .int) (by decide +kernel) rfl rfl (Nat.le_of_ble_eq_true rfl) (m' := sI m 10 1 a v) (fun _ => rfl) (by rw [ck_10, gI_self m 10 1 a v]; rfl) (fun t b hb => co_sI t hb) hdg (kk _ rfl)
theorem rg_Handle_keptFilterCount (E : En G own cc mL p s mt args meth c) (hp : pic G m H) (ht : tg m a = 10) {idx : Nat} (hl : Cond.fieldLink own idx "MachineLoop$Handle" "keptFilterCount" "I" ∈ lw_good) (hdg : decode cc pc = .ok (.getfield idx, 3)) (kk : ∀ x : Int32, x = gI m 10 2 a → W p l e R s mt args below meth c H locs cells slots Q (F0 mt (pc + 3) ls (.int x :: rest))) : W p l e R s mt args below meth c H locs cells slots Q (F0 mt pc ls (rn a :: rest)) :=
  mp_get (ci := 9) E hp ht (by decide) (ck_10 _ _ _) rfl i_Handle 2 (by decide) hl rfl hdg (kk _ rfl)
theorem rp_Handle_keptFilterCount (E : En G own cc mL p s mt args meth c) (hp : pic G m H) (hS : va_S (fr G) s.heap H locs) {v : Int32} (ht : tg m a = 10) {idx : Nat} (hl : Cond.fieldLink own idx "MachineLoop$Handle" "keptFilterCount" "I" ∈ lw_good) (hdg : decode cc pc = .ok (.putfield idx, 3)) (kk : ∀ m' : Mm, m' = sI m 10 2 a v → ∀ (H1 : Heap) (locs1 : List Loc), pic G m' H1 → va_S (fr G) s.heap H1 locs1 → W p l e R s mt args below meth c H1 locs1 cells slots Q (F0 mt (pc + 3) ls rest)) : W p l e R s mt args below meth c H locs cells slots Q (F0 mt pc ls (.int v :: rn a :: rest)) :=
  mp_put (ci := 9) E hp hS ht (by decide) (ck_10 _ _ _) rfl i_Handle t_Handle t_Handle_ok n_Handle 2 (by decide) hl rfl (ty := .int) (by decide +kernel) rfl rfl (Nat.le_of_ble_eq_true rfl) (m' := sI m 10 2 a v) (fun _ => rfl) (by rw [ck_10, gI_self m 10 2 a v]; rfl) (fun t b hb => co_sI t hb) hdg (kk _ rfl)
theorem rg_Handle_place (E : En G own cc mL p s mt args meth c) (hp : pic G m H) (ht : tg m a = 10) {idx : Nat} (hl : Cond.fieldLink own idx "MachineLoop$Handle" "place" "I" ∈ lw_good) (hdg : decode cc pc = .ok (.getfield idx, 3)) (kk : ∀ x : Int32, x = gI m 10 3 a → W p l e R s mt args below meth c H locs cells slots Q (F0 mt (pc + 3) ls (.int x :: rest))) : W p l e R s mt args below meth c H locs cells slots Q (F0 mt pc ls (rn a :: rest)) :=
  mp_get (ci := 9) E hp ht (by decide) (ck_10 _ _ _) rfl i_Handle 3 (by decide) hl rfl hdg (kk _ rfl)
theorem rp_Handle_place (E : En G own cc mL p s mt args meth c) (hp : pic G m H) (hS : va_S (fr G) s.heap H locs) {v : Int32} (ht : tg m a = 10) {idx : Nat} (hl : Cond.fieldLink own idx "MachineLoop$Handle" "place" "I" ∈ lw_good) (hdg : decode cc pc = .ok (.putfield idx, 3)) (kk : ∀ m' : Mm, m' = sI m 10 3 a v → ∀ (H1 : Heap) (locs1 : List Loc), pic G m' H1 → va_S (fr G) s.heap H1 locs1 → W p l e R s mt args below meth c H1 locs1 cells slots Q (F0 mt (pc + 3) ls rest)) : W p l e R s mt args below meth c H locs cells slots Q (F0 mt pc ls (.int v :: rn a :: rest)) :=
  mp_put (ci := 9) E hp hS ht (by decide) (ck_10 _ _ _) rfl i_Handle t_Handle t_Handle_ok n_Handle 3 (by decide) hl rfl (ty := .int) (by decide +kernel) rfl rfl (Nat.le_of_ble_eq_true rfl) (m' := sI m 10 3 a v) (fun _ => rfl) (by rw [ck_10, gI_self m 10 3 a v]; rfl) (fun t b hb => co_sI t hb) hdg (kk _ rfl)
theorem rg_Handle_store (E : En G own cc mL p s mt args meth c) (hp : pic G m H) (ht : tg m a = 10) {idx : Nat} (hl : Cond.fieldLink own idx "MachineLoop$Handle" "store" "LMachineLoop$Store;" ∈ lw_good) (hdg : decode cc pc = .ok (.getfield idx, 3)) (kk : ∀ x : Nat, x = gR m 10 4 a → W p l e R s mt args below meth c H locs cells slots Q (F0 mt (pc + 3) ls (rn x :: rest))) : W p l e R s mt args below meth c H locs cells slots Q (F0 mt pc ls (rn a :: rest)) :=
  mp_get (ci := 9) E hp ht (by decide) (ck_10 _ _ _) rfl i_Handle 4 (by decide) hl rfl hdg (kk _ rfl)
theorem rp_Handle_store (E : En G own cc mL p s mt args meth c) (hp : pic G m H) (hS : va_S (fr G) s.heap H locs) {v : Nat} (ht : tg m a = 10) {idx : Nat} (hl : Cond.fieldLink own idx "MachineLoop$Handle" "store" "LMachineLoop$Store;" ∈ lw_good) (hdg : decode cc pc = .ok (.putfield idx, 3)) (kk : ∀ m' : Mm, m' = sR m 10 4 a v → ∀ (H1 : Heap) (locs1 : List Loc), pic G m' H1 → va_S (fr G) s.heap H1 locs1 → W p l e R s mt args below meth c H1 locs1 cells slots Q (F0 mt (pc + 3) ls rest)) : W p l e R s mt args below meth c H locs cells slots Q (F0 mt pc ls (rn v :: rn a :: rest)) :=
  mp_put (ci := 9) E hp hS ht (by decide) (ck_10 _ _ _) rfl i_Handle t_Handle t_Handle_ok n_Handle 4 (by decide) hl rfl (ty := (.object "MachineLoop$Store")) (by decide +kernel) (nar_rn _ _) (fit_rn _ _) (Nat.le_of_ble_eq_true rfl) (m' := sR m 10 4 a v) (fun _ => rfl) (by rw [ck_10, gR_self m 10 4 a v]; rfl) (fun t b hb => co_sR t hb) hdg (kk _ rfl)
theorem rg_Handle_mode (E : En G own cc mL p s mt args meth c) (hp : pic G m H) (ht : tg m a = 10) {idx : Nat} (hl : Cond.fieldLink own idx "MachineLoop$Handle" "mode" "I" ∈ lw_good) (hdg : decode cc pc = .ok (.getfield idx, 3)) (kk : ∀ x : Int32, x = gI m 10 5 a → W p l e R s mt args below meth c H locs cells slots Q (F0 mt (pc + 3) ls (.int x :: rest))) : W p l e R s mt args below meth c H locs cells slots Q (F0 mt pc ls (rn a :: rest)) :=
  mp_get (ci := 9) E hp ht (by decide) (ck_10 _ _ _) rfl i_Handle 5 (by decide) hl rfl hdg (kk _ rfl)
theorem rp_Handle_mode (E : En G own cc mL p s mt args meth c) (hp : pic G m H) (hS : va_S (fr G) s.heap H locs) {v : Int32} (ht : tg m a = 10) {idx : Nat} (hl : Cond.fieldLink own idx "MachineLoop$Handle" "mode" "I" ∈ lw_good) (hdg : decode cc pc = .ok (.putfield idx, 3)) (kk : ∀ m' : Mm, m' = sI m 10 5 a v → ∀ (H1 : Heap) (locs1 : List Loc), pic G m' H1 → va_S (fr G) s.heap H1 locs1 → W p l e R s mt args below meth c H1 locs1 cells slots Q (F0 mt (pc + 3) ls rest)) : W p l e R s mt args below meth c H locs cells slots Q (F0 mt pc ls (.int v :: rn a :: rest)) :=
  mp_put (ci := 9) E hp hS ht (by decide) (ck_10 _ _ _) rfl i_Handle t_Handle t_Handle_ok n_Handle 5 (by decide) hl rfl (ty := .int) (by decide +kernel) rfl rfl (Nat.le_of_ble_eq_true rfl) (m' := sI m 10 5 a v) (fun _ => rfl) (by rw [ck_10, gI_self m 10 5 a v]; rfl) (fun t b hb => co_sI t hb) hdg (kk _ rfl)
theorem rg_Handle_isOfJob (E : En G own cc mL p s mt args meth c) (hp : pic G m H) (ht : tg m a = 10) {idx : Nat} (hl : Cond.fieldLink own idx "MachineLoop$Handle" "isOfJob" "Z" ∈ lw_good) (hdg : decode cc pc = .ok (.getfield idx, 3)) (kk : ∀ x : Int32, x = gI m 10 6 a → W p l e R s mt args below meth c H locs cells slots Q (F0 mt (pc + 3) ls (.int x :: rest))) : W p l e R s mt args below meth c H locs cells slots Q (F0 mt pc ls (rn a :: rest)) :=
  mp_get (ci := 9) E hp ht (by decide) (ck_10 _ _ _) rfl i_Handle 6 (by decide) hl rfl hdg (kk _ rfl)
theorem rp_Handle_isOfJob (E : En G own cc mL p s mt args meth c) (hp : pic G m H) (hS : va_S (fr G) s.heap H locs) {v : Int32} (ht : tg m a = 10) {idx : Nat} (hl : Cond.fieldLink own idx "MachineLoop$Handle" "isOfJob" "Z" ∈ lw_good) (hz : v = 0 ∨ v = 1) (hdg : decode cc pc = .ok (.putfield idx, 3)) (kk : ∀ m' : Mm, m' = sI m 10 6 a v → ∀ (H1 : Heap) (locs1 : List Loc), pic G m' H1 → va_S (fr G) s.heap H1 locs1 → W p l e R s mt args below meth c H1 locs1 cells slots Q (F0 mt (pc + 3) ls rest)) : W p l e R s mt args below meth c H locs cells slots Q (F0 mt pc ls (.int v :: rn a :: rest)) :=
  mp_put (ci := 9) E hp hS ht (by decide) (ck_10 _ _ _) rfl i_Handle t_Handle t_Handle_ok n_Handle 6 (by decide) hl rfl (ty := .boolean) (by decide +kernel) (by rcases hz with rfl | rfl <;> rfl) (by rcases hz with rfl | rfl <;> rfl) (Nat.le_of_ble_eq_true rfl) (m' := sI m 10 6 a v) (fun _ => rfl) (by rw [ck_10, gI_self m 10 6 a v]; rfl) (fun t b hb => co_sI t hb) hdg (kk _ rfl)
theorem rn_Handle (E : En G own cc mL p s mt args meth c) (hp : pic G m H) (hS : va_S (fr G) s.heap H locs) {idx : Nat} (hl : Cond.classLink own idx "MachineLoop$Handle" ∈ lw_good) (hcells : cells + 1 ≤ R.cells) (hslots : slots + 7 ≤ R.slots) (hdg : decode cc pc = .ok (.new idx, 3)) (kk : ∀ (q : Nat), tg m q = 0 → q ≠ 0 → ∀ m' : Mm, m' = nO m 10 q → ∀ (H1 : Heap), pic G m' H1 → va_S (fr G) s.heap H1 locs → W p l e R s mt args below meth c H1 locs (cells + 1) (slots + 7) Q (F0 mt (pc + 3) ls (rn q :: rest))) : W p l e R s mt args below meth c H locs cells slots Q (F0 mt pc ls rest) :=
  mp_new (ci := 9) E hp hS (by decide) rfl i_Handle t_Handle t_Handle_ok hl lk_686 lk_537 (fs := [.null, .int 0, .int 0, .int 0, .null, .int 0, .int 0]) (fun j hj => by rcases (show j = 0 ∨ j = 1 ∨ j = 2 ∨ j = 3 ∨ j = 4 ∨ j = 5 ∨ j = 6 by omega) with rfl | rfl | rfl | rfl | rfl | rfl | rfl <;> rfl) (fun q => by rw [ck_10]; simp only [gI_nO, gR_nO, ↓reduceIte, rn_0]) hcells hslots hdg kk
theorem rg_Mo_code (E : En G own cc mL p s mt args meth c) (hp : pic G m H) (ht : tg m a = 11) {idx : Nat} (hl : Cond.fieldLink own idx "MachineLoopModel" "code" "I" ∈ lw_good) (hdg : decode cc pc = .ok (.getfield idx, 3)) (kk : ∀ x : Int32, x = gI m 11 0 a → W p l e R s mt args below meth c H locs cells slots Q (F0 mt (pc + 3) ls (.int x :: rest))) : W p l e R s mt args below meth c H locs cells slots Q (F0 mt pc ls (rn a :: rest)) :=
  mp_get (ci := 10) E hp ht (by decide) (ck_11 _ _ _) rfl i_Mo 0 (by decide) hl rfl hdg (kk _ rfl)
theorem rp_Mo_code (E : En G own cc mL p s mt args meth c) (hp : pic G m H) (hS : va_S (fr G) s.heap H locs) {v : Int32} (ht : tg m a = 11) {idx : Nat} (hl : Cond.fieldLink own idx "MachineLoopModel" "code" "I" ∈ lw_good) (hdg : decode cc pc = .ok (.putfield idx, 3)) (kk : ∀ m' : Mm, m' = sI m 11 0 a v → ∀ (H1 : Heap) (locs1 : List Loc), pic G m' H1 → va_S (fr G) s.heap H1 locs1 → W p l e R s mt args below meth c H1 locs1 cells slots Q (F0 mt (pc + 3) ls rest)) : W p l e R s mt args below meth c H locs cells slots Q (F0 mt pc ls (.int v :: rn a :: rest)) :=
  mp_put (ci := 10) E hp hS ht (by decide) (ck_11 _ _ _) rfl i_Mo t_Mo t_Mo_ok n_Mo 0 (by decide) hl rfl (ty := .int) (by decide +kernel) rfl rfl (Nat.le_of_ble_eq_true rfl) (m' := sI m 11 0 a v) (fun _ => rfl) (by rw [ck_11, gI_self m 11 0 a v]; rfl) (fun t b hb => co_sI t hb) hdg (kk _ rfl)
theorem rg_Mo_most (E : En G own cc mL p s mt args meth c) (hp : pic G m H) (ht : tg m a = 11) {idx : Nat} (hl : Cond.fieldLink own idx "MachineLoopModel" "most" "I" ∈ lw_good) (hdg : decode cc pc = .ok (.getfield idx, 3)) (kk : ∀ x : Int32, x = gI m 11 1 a → W p l e R s mt args below meth c H locs cells slots Q (F0 mt (pc + 3) ls (.int x :: rest))) : W p l e R s mt args below meth c H locs cells slots Q (F0 mt pc ls (rn a :: rest)) :=
  mp_get (ci := 10) E hp ht (by decide) (ck_11 _ _ _) rfl i_Mo 1 (by decide) hl rfl hdg (kk _ rfl)
theorem rp_Mo_most (E : En G R_Mo cc mL p s mt args meth c) (hp : pic G m H) (hS : va_S (fr G) s.heap H locs) {v : Int32} (ht : tg m a = 11) {idx : Nat} (hl : Cond.fieldLink R_Mo idx "MachineLoopModel" "most" "I" ∈ lw_good) (hin : meth.name = "<init>") (hdg : decode cc pc = .ok (.putfield idx, 3)) (kk : ∀ m' : Mm, m' = sI m 11 1 a v → ∀ (H1 : Heap) (locs1 : List Loc), pic G m' H1 → va_S (fr G) s.heap H1 locs1 → W p l e R s mt args below meth c H1 locs1 cells slots Q (F0 mt (pc + 3) ls rest)) : W p l e R s mt args below meth c H locs cells slots Q (F0 mt pc ls (.int v :: rn a :: rest)) :=
  mp_putF (ci := 10) E hp hS ht (by decide) (ck_11 _ _ _) rfl i_Mo t_Mo t_Mo_ok n_Mo 1 (by decide) hl rfl hin rfl (ty := .int) (by decide +kernel) rfl rfl (Nat.le_of_ble_eq_true rfl) (m' := sI m 11 1 a v) (fun _ => rfl) (by rw [ck_11, gI_self m 11 1 a v]; rfl) (fun t b hb => co_sI t hb) hdg (kk _ rfl)
theorem rg_Mo_jobs (E : En G own cc mL p s mt args meth c) (hp : pic G m H) (ht : tg m a = 11) {idx : Nat} (hl : Cond.fieldLink own idx "MachineLoopModel" "jobs" "I" ∈ lw_good) (hdg : decode cc pc = .ok (.getfield idx, 3)) (kk : ∀ x : Int32, x = gI m 11 2 a → W p l e R s mt args below meth c H locs cells slots Q (F0 mt (pc + 3) ls (.int x :: rest))) : W p l e R s mt args below meth c H locs cells slots Q (F0 mt pc ls (rn a :: rest)) :=
  mp_get (ci := 10) E hp ht (by decide) (ck_11 _ _ _) rfl i_Mo 2 (by decide) hl rfl hdg (kk _ rfl)
theorem rp_Mo_jobs (E : En G own cc mL p s mt args meth c) (hp : pic G m H) (hS : va_S (fr G) s.heap H locs) {v : Int32} (ht : tg m a = 11) {idx : Nat} (hl : Cond.fieldLink own idx "MachineLoopModel" "jobs" "I" ∈ lw_good) (hdg : decode cc pc = .ok (.putfield idx, 3)) (kk : ∀ m' : Mm, m' = sI m 11 2 a v → ∀ (H1 : Heap) (locs1 : List Loc), pic G m' H1 → va_S (fr G) s.heap H1 locs1 → W p l e R s mt args below meth c H1 locs1 cells slots Q (F0 mt (pc + 3) ls rest)) : W p l e R s mt args below meth c H locs cells slots Q (F0 mt pc ls (.int v :: rn a :: rest)) :=
  mp_put (ci := 10) E hp hS ht (by decide) (ck_11 _ _ _) rfl i_Mo t_Mo t_Mo_ok n_Mo 2 (by decide) hl rfl (ty := .int) (by decide +kernel) rfl rfl (Nat.le_of_ble_eq_true rfl) (m' := sI m 11 2 a v) (fun _ => rfl) (by rw [ck_11, gI_self m 11 2 a v]; rfl) (fun t b hb => co_sI t hb) hdg (kk _ rfl)
theorem rg_Mo_signs (E : En G own cc mL p s mt args meth c) (hp : pic G m H) (ht : tg m a = 11) {idx : Nat} (hl : Cond.fieldLink own idx "MachineLoopModel" "signs" "[B" ∈ lw_good) (hdg : decode cc pc = .ok (.getfield idx, 3)) (kk : ∀ x : Nat, x = gR m 11 3 a → W p l e R s mt args below meth c H locs cells slots Q (F0 mt (pc + 3) ls (rn x :: rest))) : W p l e R s mt args below meth c H locs cells slots Q (F0 mt pc ls (rn a :: rest)) :=
  mp_get (ci := 10) E hp ht (by decide) (ck_11 _ _ _) rfl i_Mo 3 (by decide) hl rfl hdg (kk _ rfl)
theorem rp_Mo_signs (E : En G R_Mo cc mL p s mt args meth c) (hp : pic G m H) (hS : va_S (fr G) s.heap H locs) {v : Nat} (ht : tg m a = 11) {idx : Nat} (hl : Cond.fieldLink R_Mo idx "MachineLoopModel" "signs" "[B" ∈ lw_good) (hin : meth.name = "<init>") (hdg : decode cc pc = .ok (.putfield idx, 3)) (kk : ∀ m' : Mm, m' = sR m 11 3 a v → ∀ (H1 : Heap) (locs1 : List Loc), pic G m' H1 → va_S (fr G) s.heap H1 locs1 → W p l e R s mt args below meth c H1 locs1 cells slots Q (F0 mt (pc + 3) ls rest)) : W p l e R s mt args below meth c H locs cells slots Q (F0 mt pc ls (rn v :: rn a :: rest)) :=
  mp_putF (ci := 10) E hp hS ht (by decide) (ck_11 _ _ _) rfl i_Mo t_Mo t_Mo_ok n_Mo 3 (by decide) hl rfl hin rfl (ty := (.array .byte)) (by decide +kernel) (nar_ra _ _) (fit_ra _ _) (Nat.le_of_ble_eq_true rfl) (m' := sR m 11 3 a v) (fun _ => rfl) (by rw [ck_11, gR_self m 11 3 a v]; rfl) (fun t b hb => co_sR t hb) hdg (kk _ rfl)
theorem rg_Mo_size (E : En G own cc mL p s mt args meth c) (hp : pic G m H) (ht : tg m a = 11) {idx : Nat} (hl : Cond.fieldLink own idx "MachineLoopModel" "size" "[I" ∈ lw_good) (hdg : decode cc pc = .ok (.getfield idx, 3)) (kk : ∀ x : Nat, x = gR m 11 4 a → W p l e R s mt args below meth c H locs cells slots Q (F0 mt (pc + 3) ls (rn x :: rest))) : W p l e R s mt args below meth c H locs cells slots Q (F0 mt pc ls (rn a :: rest)) :=
  mp_get (ci := 10) E hp ht (by decide) (ck_11 _ _ _) rfl i_Mo 4 (by decide) hl rfl hdg (kk _ rfl)
theorem rp_Mo_size (E : En G R_Mo cc mL p s mt args meth c) (hp : pic G m H) (hS : va_S (fr G) s.heap H locs) {v : Nat} (ht : tg m a = 11) {idx : Nat} (hl : Cond.fieldLink R_Mo idx "MachineLoopModel" "size" "[I" ∈ lw_good) (hin : meth.name = "<init>") (hdg : decode cc pc = .ok (.putfield idx, 3)) (kk : ∀ m' : Mm, m' = sR m 11 4 a v → ∀ (H1 : Heap) (locs1 : List Loc), pic G m' H1 → va_S (fr G) s.heap H1 locs1 → W p l e R s mt args below meth c H1 locs1 cells slots Q (F0 mt (pc + 3) ls rest)) : W p l e R s mt args below meth c H locs cells slots Q (F0 mt pc ls (rn v :: rn a :: rest)) :=
  mp_putF (ci := 10) E hp hS ht (by decide) (ck_11 _ _ _) rfl i_Mo t_Mo t_Mo_ok n_Mo 4 (by decide) hl rfl hin rfl (ty := (.array .int)) (by decide +kernel) (nar_ra _ _) (fit_ra _ _) (Nat.le_of_ble_eq_true rfl) (m' := sR m 11 4 a v) (fun _ => rfl) (by rw [ck_11, gR_self m 11 4 a v]; rfl) (fun t b hb => co_sR t hb) hdg (kk _ rfl)
theorem rg_Mo_told (E : En G own cc mL p s mt args meth c) (hp : pic G m H) (ht : tg m a = 11) {idx : Nat} (hl : Cond.fieldLink own idx "MachineLoopModel" "told" "[I" ∈ lw_good) (hdg : decode cc pc = .ok (.getfield idx, 3)) (kk : ∀ x : Nat, x = gR m 11 5 a → W p l e R s mt args below meth c H locs cells slots Q (F0 mt (pc + 3) ls (rn x :: rest))) : W p l e R s mt args below meth c H locs cells slots Q (F0 mt pc ls (rn a :: rest)) :=
  mp_get (ci := 10) E hp ht (by decide) (ck_11 _ _ _) rfl i_Mo 5 (by decide) hl rfl hdg (kk _ rfl)
theorem rp_Mo_told (E : En G R_Mo cc mL p s mt args meth c) (hp : pic G m H) (hS : va_S (fr G) s.heap H locs) {v : Nat} (ht : tg m a = 11) {idx : Nat} (hl : Cond.fieldLink R_Mo idx "MachineLoopModel" "told" "[I" ∈ lw_good) (hin : meth.name = "<init>") (hdg : decode cc pc = .ok (.putfield idx, 3)) (kk : ∀ m' : Mm, m' = sR m 11 5 a v → ∀ (H1 : Heap) (locs1 : List Loc), pic G m' H1 → va_S (fr G) s.heap H1 locs1 → W p l e R s mt args below meth c H1 locs1 cells slots Q (F0 mt (pc + 3) ls rest)) : W p l e R s mt args below meth c H locs cells slots Q (F0 mt pc ls (rn v :: rn a :: rest)) :=
  mp_putF (ci := 10) E hp hS ht (by decide) (ck_11 _ _ _) rfl i_Mo t_Mo t_Mo_ok n_Mo 5 (by decide) hl rfl hin rfl (ty := (.array .int)) (by decide +kernel) (nar_ra _ _) (fit_ra _ _) (Nat.le_of_ble_eq_true rfl) (m' := sR m 11 5 a v) (fun _ => rfl) (by rw [ck_11, gR_self m 11 5 a v]; rfl) (fun t b hb => co_sR t hb) hdg (kk _ rfl)
theorem rg_Mo_pages (E : En G own cc mL p s mt args meth c) (hp : pic G m H) (ht : tg m a = 11) {idx : Nat} (hl : Cond.fieldLink own idx "MachineLoopModel" "pages" "[I" ∈ lw_good) (hdg : decode cc pc = .ok (.getfield idx, 3)) (kk : ∀ x : Nat, x = gR m 11 6 a → W p l e R s mt args below meth c H locs cells slots Q (F0 mt (pc + 3) ls (rn x :: rest))) : W p l e R s mt args below meth c H locs cells slots Q (F0 mt pc ls (rn a :: rest)) :=
  mp_get (ci := 10) E hp ht (by decide) (ck_11 _ _ _) rfl i_Mo 6 (by decide) hl rfl hdg (kk _ rfl)
theorem rp_Mo_pages (E : En G R_Mo cc mL p s mt args meth c) (hp : pic G m H) (hS : va_S (fr G) s.heap H locs) {v : Nat} (ht : tg m a = 11) {idx : Nat} (hl : Cond.fieldLink R_Mo idx "MachineLoopModel" "pages" "[I" ∈ lw_good) (hin : meth.name = "<init>") (hdg : decode cc pc = .ok (.putfield idx, 3)) (kk : ∀ m' : Mm, m' = sR m 11 6 a v → ∀ (H1 : Heap) (locs1 : List Loc), pic G m' H1 → va_S (fr G) s.heap H1 locs1 → W p l e R s mt args below meth c H1 locs1 cells slots Q (F0 mt (pc + 3) ls rest)) : W p l e R s mt args below meth c H locs cells slots Q (F0 mt pc ls (rn v :: rn a :: rest)) :=
  mp_putF (ci := 10) E hp hS ht (by decide) (ck_11 _ _ _) rfl i_Mo t_Mo t_Mo_ok n_Mo 6 (by decide) hl rfl hin rfl (ty := (.array .int)) (by decide +kernel) (nar_ra _ _) (fit_ra _ _) (Nat.le_of_ble_eq_true rfl) (m' := sR m 11 6 a v) (fun _ => rfl) (by rw [ck_11, gR_self m 11 6 a v]; rfl) (fun t b hb => co_sR t hb) hdg (kk _ rfl)
theorem rg_Mo_setting (E : En G own cc mL p s mt args meth c) (hp : pic G m H) (ht : tg m a = 11) {idx : Nat} (hl : Cond.fieldLink own idx "MachineLoopModel" "setting" "[I" ∈ lw_good) (hdg : decode cc pc = .ok (.getfield idx, 3)) (kk : ∀ x : Nat, x = gR m 11 7 a → W p l e R s mt args below meth c H locs cells slots Q (F0 mt (pc + 3) ls (rn x :: rest))) : W p l e R s mt args below meth c H locs cells slots Q (F0 mt pc ls (rn a :: rest)) :=
  mp_get (ci := 10) E hp ht (by decide) (ck_11 _ _ _) rfl i_Mo 7 (by decide) hl rfl hdg (kk _ rfl)
theorem rp_Mo_setting (E : En G R_Mo cc mL p s mt args meth c) (hp : pic G m H) (hS : va_S (fr G) s.heap H locs) {v : Nat} (ht : tg m a = 11) {idx : Nat} (hl : Cond.fieldLink R_Mo idx "MachineLoopModel" "setting" "[I" ∈ lw_good) (hin : meth.name = "<init>") (hdg : decode cc pc = .ok (.putfield idx, 3)) (kk : ∀ m' : Mm, m' = sR m 11 7 a v → ∀ (H1 : Heap) (locs1 : List Loc), pic G m' H1 → va_S (fr G) s.heap H1 locs1 → W p l e R s mt args below meth c H1 locs1 cells slots Q (F0 mt (pc + 3) ls rest)) : W p l e R s mt args below meth c H locs cells slots Q (F0 mt pc ls (rn v :: rn a :: rest)) :=
  mp_putF (ci := 10) E hp hS ht (by decide) (ck_11 _ _ _) rfl i_Mo t_Mo t_Mo_ok n_Mo 7 (by decide) hl rfl hin rfl (ty := (.array .int)) (by decide +kernel) (nar_ra _ _) (fit_ra _ _) (Nat.le_of_ble_eq_true rfl) (m' := sR m 11 7 a v) (fun _ => rfl) (by rw [ck_11, gR_self m 11 7 a v]; rfl) (fun t b hb => co_sR t hb) hdg (kk _ rfl)
theorem rg_Mo_resource (E : En G own cc mL p s mt args meth c) (hp : pic G m H) (ht : tg m a = 11) {idx : Nat} (hl : Cond.fieldLink own idx "MachineLoopModel" "resource" "[I" ∈ lw_good) (hdg : decode cc pc = .ok (.getfield idx, 3)) (kk : ∀ x : Nat, x = gR m 11 8 a → W p l e R s mt args below meth c H locs cells slots Q (F0 mt (pc + 3) ls (rn x :: rest))) : W p l e R s mt args below meth c H locs cells slots Q (F0 mt pc ls (rn a :: rest)) :=
  mp_get (ci := 10) E hp ht (by decide) (ck_11 _ _ _) rfl i_Mo 8 (by decide) hl rfl hdg (kk _ rfl)
theorem rp_Mo_resource (E : En G R_Mo cc mL p s mt args meth c) (hp : pic G m H) (hS : va_S (fr G) s.heap H locs) {v : Nat} (ht : tg m a = 11) {idx : Nat} (hl : Cond.fieldLink R_Mo idx "MachineLoopModel" "resource" "[I" ∈ lw_good) (hin : meth.name = "<init>") (hdg : decode cc pc = .ok (.putfield idx, 3)) (kk : ∀ m' : Mm, m' = sR m 11 8 a v → ∀ (H1 : Heap) (locs1 : List Loc), pic G m' H1 → va_S (fr G) s.heap H1 locs1 → W p l e R s mt args below meth c H1 locs1 cells slots Q (F0 mt (pc + 3) ls rest)) : W p l e R s mt args below meth c H locs cells slots Q (F0 mt pc ls (rn v :: rn a :: rest)) :=
  mp_putF (ci := 10) E hp hS ht (by decide) (ck_11 _ _ _) rfl i_Mo t_Mo t_Mo_ok n_Mo 8 (by decide) hl rfl hin rfl (ty := (.array .int)) (by decide +kernel) (nar_ra _ _) (fit_ra _ _) (Nat.le_of_ble_eq_true rfl) (m' := sR m 11 8 a v) (fun _ => rfl) (by rw [ck_11, gR_self m 11 8 a v]; rfl) (fun t b hb => co_sR t hb) hdg (kk _ rfl)
theorem rg_Mo_settingWas (E : En G own cc mL p s mt args meth c) (hp : pic G m H) (ht : tg m a = 11) {idx : Nat} (hl : Cond.fieldLink own idx "MachineLoopModel" "settingWas" "[I" ∈ lw_good) (hdg : decode cc pc = .ok (.getfield idx, 3)) (kk : ∀ x : Nat, x = gR m 11 9 a → W p l e R s mt args below meth c H locs cells slots Q (F0 mt (pc + 3) ls (rn x :: rest))) : W p l e R s mt args below meth c H locs cells slots Q (F0 mt pc ls (rn a :: rest)) :=
  mp_get (ci := 10) E hp ht (by decide) (ck_11 _ _ _) rfl i_Mo 9 (by decide) hl rfl hdg (kk _ rfl)
theorem rp_Mo_settingWas (E : En G R_Mo cc mL p s mt args meth c) (hp : pic G m H) (hS : va_S (fr G) s.heap H locs) {v : Nat} (ht : tg m a = 11) {idx : Nat} (hl : Cond.fieldLink R_Mo idx "MachineLoopModel" "settingWas" "[I" ∈ lw_good) (hin : meth.name = "<init>") (hdg : decode cc pc = .ok (.putfield idx, 3)) (kk : ∀ m' : Mm, m' = sR m 11 9 a v → ∀ (H1 : Heap) (locs1 : List Loc), pic G m' H1 → va_S (fr G) s.heap H1 locs1 → W p l e R s mt args below meth c H1 locs1 cells slots Q (F0 mt (pc + 3) ls rest)) : W p l e R s mt args below meth c H locs cells slots Q (F0 mt pc ls (rn v :: rn a :: rest)) :=
  mp_putF (ci := 10) E hp hS ht (by decide) (ck_11 _ _ _) rfl i_Mo t_Mo t_Mo_ok n_Mo 9 (by decide) hl rfl hin rfl (ty := (.array .int)) (by decide +kernel) (nar_ra _ _) (fit_ra _ _) (Nat.le_of_ble_eq_true rfl) (m' := sR m 11 9 a v) (fun _ => rfl) (by rw [ck_11, gR_self m 11 9 a v]; rfl) (fun t b hb => co_sR t hb) hdg (kk _ rfl)
theorem rg_Mo_resourceWas (E : En G own cc mL p s mt args meth c) (hp : pic G m H) (ht : tg m a = 11) {idx : Nat} (hl : Cond.fieldLink own idx "MachineLoopModel" "resourceWas" "[I" ∈ lw_good) (hdg : decode cc pc = .ok (.getfield idx, 3)) (kk : ∀ x : Nat, x = gR m 11 10 a → W p l e R s mt args below meth c H locs cells slots Q (F0 mt (pc + 3) ls (rn x :: rest))) : W p l e R s mt args below meth c H locs cells slots Q (F0 mt pc ls (rn a :: rest)) :=
  mp_get (ci := 10) E hp ht (by decide) (ck_11 _ _ _) rfl i_Mo 10 (by decide) hl rfl hdg (kk _ rfl)
theorem rp_Mo_resourceWas (E : En G R_Mo cc mL p s mt args meth c) (hp : pic G m H) (hS : va_S (fr G) s.heap H locs) {v : Nat} (ht : tg m a = 11) {idx : Nat} (hl : Cond.fieldLink R_Mo idx "MachineLoopModel" "resourceWas" "[I" ∈ lw_good) (hin : meth.name = "<init>") (hdg : decode cc pc = .ok (.putfield idx, 3)) (kk : ∀ m' : Mm, m' = sR m 11 10 a v → ∀ (H1 : Heap) (locs1 : List Loc), pic G m' H1 → va_S (fr G) s.heap H1 locs1 → W p l e R s mt args below meth c H1 locs1 cells slots Q (F0 mt (pc + 3) ls rest)) : W p l e R s mt args below meth c H locs cells slots Q (F0 mt pc ls (rn v :: rn a :: rest)) :=
  mp_putF (ci := 10) E hp hS ht (by decide) (ck_11 _ _ _) rfl i_Mo t_Mo t_Mo_ok n_Mo 10 (by decide) hl rfl hin rfl (ty := (.array .int)) (by decide +kernel) (nar_ra _ _) (fit_ra _ _) (Nat.le_of_ble_eq_true rfl) (m' := sR m 11 10 a v) (fun _ => rfl) (by rw [ck_11, gR_self m 11 10 a v]; rfl) (fun t b hb => co_sR t hb) hdg (kk _ rfl)
theorem rg_Mo_there (E : En G own cc mL p s mt args meth c) (hp : pic G m H) (ht : tg m a = 11) {idx : Nat} (hl : Cond.fieldLink own idx "MachineLoopModel" "there" "[Z" ∈ lw_good) (hdg : decode cc pc = .ok (.getfield idx, 3)) (kk : ∀ x : Nat, x = gR m 11 11 a → W p l e R s mt args below meth c H locs cells slots Q (F0 mt (pc + 3) ls (rn x :: rest))) : W p l e R s mt args below meth c H locs cells slots Q (F0 mt pc ls (rn a :: rest)) :=
  mp_get (ci := 10) E hp ht (by decide) (ck_11 _ _ _) rfl i_Mo 11 (by decide) hl rfl hdg (kk _ rfl)
theorem rp_Mo_there (E : En G R_Mo cc mL p s mt args meth c) (hp : pic G m H) (hS : va_S (fr G) s.heap H locs) {v : Nat} (ht : tg m a = 11) {idx : Nat} (hl : Cond.fieldLink R_Mo idx "MachineLoopModel" "there" "[Z" ∈ lw_good) (hin : meth.name = "<init>") (hdg : decode cc pc = .ok (.putfield idx, 3)) (kk : ∀ m' : Mm, m' = sR m 11 11 a v → ∀ (H1 : Heap) (locs1 : List Loc), pic G m' H1 → va_S (fr G) s.heap H1 locs1 → W p l e R s mt args below meth c H1 locs1 cells slots Q (F0 mt (pc + 3) ls rest)) : W p l e R s mt args below meth c H locs cells slots Q (F0 mt pc ls (rn v :: rn a :: rest)) :=
  mp_putF (ci := 10) E hp hS ht (by decide) (ck_11 _ _ _) rfl i_Mo t_Mo t_Mo_ok n_Mo 11 (by decide) hl rfl hin rfl (ty := (.array .boolean)) (by decide +kernel) (nar_ra _ _) (fit_ra _ _) (Nat.le_of_ble_eq_true rfl) (m' := sR m 11 11 a v) (fun _ => rfl) (by rw [ck_11, gR_self m 11 11 a v]; rfl) (fun t b hb => co_sR t hb) hdg (kk _ rfl)
theorem rg_Mo_length (E : En G own cc mL p s mt args meth c) (hp : pic G m H) (ht : tg m a = 11) {idx : Nat} (hl : Cond.fieldLink own idx "MachineLoopModel" "length" "[I" ∈ lw_good) (hdg : decode cc pc = .ok (.getfield idx, 3)) (kk : ∀ x : Nat, x = gR m 11 12 a → W p l e R s mt args below meth c H locs cells slots Q (F0 mt (pc + 3) ls (rn x :: rest))) : W p l e R s mt args below meth c H locs cells slots Q (F0 mt pc ls (rn a :: rest)) :=
  mp_get (ci := 10) E hp ht (by decide) (ck_11 _ _ _) rfl i_Mo 12 (by decide) hl rfl hdg (kk _ rfl)
theorem rp_Mo_length (E : En G R_Mo cc mL p s mt args meth c) (hp : pic G m H) (hS : va_S (fr G) s.heap H locs) {v : Nat} (ht : tg m a = 11) {idx : Nat} (hl : Cond.fieldLink R_Mo idx "MachineLoopModel" "length" "[I" ∈ lw_good) (hin : meth.name = "<init>") (hdg : decode cc pc = .ok (.putfield idx, 3)) (kk : ∀ m' : Mm, m' = sR m 11 12 a v → ∀ (H1 : Heap) (locs1 : List Loc), pic G m' H1 → va_S (fr G) s.heap H1 locs1 → W p l e R s mt args below meth c H1 locs1 cells slots Q (F0 mt (pc + 3) ls rest)) : W p l e R s mt args below meth c H locs cells slots Q (F0 mt pc ls (rn v :: rn a :: rest)) :=
  mp_putF (ci := 10) E hp hS ht (by decide) (ck_11 _ _ _) rfl i_Mo t_Mo t_Mo_ok n_Mo 12 (by decide) hl rfl hin rfl (ty := (.array .int)) (by decide +kernel) (nar_ra _ _) (fit_ra _ _) (Nat.le_of_ble_eq_true rfl) (m' := sR m 11 12 a v) (fun _ => rfl) (by rw [ck_11, gR_self m 11 12 a v]; rfl) (fun t b hb => co_sR t hb) hdg (kk _ rfl)
theorem rg_Mo_lies (E : En G own cc mL p s mt args meth c) (hp : pic G m H) (ht : tg m a = 11) {idx : Nat} (hl : Cond.fieldLink own idx "MachineLoopModel" "lies" "[B" ∈ lw_good) (hdg : decode cc pc = .ok (.getfield idx, 3)) (kk : ∀ x : Nat, x = gR m 11 13 a → W p l e R s mt args below meth c H locs cells slots Q (F0 mt (pc + 3) ls (rn x :: rest))) : W p l e R s mt args below meth c H locs cells slots Q (F0 mt pc ls (rn a :: rest)) :=
  mp_get (ci := 10) E hp ht (by decide) (ck_11 _ _ _) rfl i_Mo 13 (by decide) hl rfl hdg (kk _ rfl)
theorem rp_Mo_lies (E : En G R_Mo cc mL p s mt args meth c) (hp : pic G m H) (hS : va_S (fr G) s.heap H locs) {v : Nat} (ht : tg m a = 11) {idx : Nat} (hl : Cond.fieldLink R_Mo idx "MachineLoopModel" "lies" "[B" ∈ lw_good) (hin : meth.name = "<init>") (hdg : decode cc pc = .ok (.putfield idx, 3)) (kk : ∀ m' : Mm, m' = sR m 11 13 a v → ∀ (H1 : Heap) (locs1 : List Loc), pic G m' H1 → va_S (fr G) s.heap H1 locs1 → W p l e R s mt args below meth c H1 locs1 cells slots Q (F0 mt (pc + 3) ls rest)) : W p l e R s mt args below meth c H locs cells slots Q (F0 mt pc ls (rn v :: rn a :: rest)) :=
  mp_putF (ci := 10) E hp hS ht (by decide) (ck_11 _ _ _) rfl i_Mo t_Mo t_Mo_ok n_Mo 13 (by decide) hl rfl hin rfl (ty := (.array .byte)) (by decide +kernel) (nar_ra _ _) (fit_ra _ _) (Nat.le_of_ble_eq_true rfl) (m' := sR m 11 13 a v) (fun _ => rfl) (by rw [ck_11, gR_self m 11 13 a v]; rfl) (fun t b hb => co_sR t hb) hdg (kk _ rfl)
theorem rg_Mo_out (E : En G own cc mL p s mt args meth c) (hp : pic G m H) (ht : tg m a = 11) {idx : Nat} (hl : Cond.fieldLink own idx "MachineLoopModel" "out" "[B" ∈ lw_good) (hdg : decode cc pc = .ok (.getfield idx, 3)) (kk : ∀ x : Nat, x = gR m 11 14 a → W p l e R s mt args below meth c H locs cells slots Q (F0 mt (pc + 3) ls (rn x :: rest))) : W p l e R s mt args below meth c H locs cells slots Q (F0 mt pc ls (rn a :: rest)) :=
  mp_get (ci := 10) E hp ht (by decide) (ck_11 _ _ _) rfl i_Mo 14 (by decide) hl rfl hdg (kk _ rfl)
theorem rp_Mo_out (E : En G R_Mo cc mL p s mt args meth c) (hp : pic G m H) (hS : va_S (fr G) s.heap H locs) {v : Nat} (ht : tg m a = 11) {idx : Nat} (hl : Cond.fieldLink R_Mo idx "MachineLoopModel" "out" "[B" ∈ lw_good) (hin : meth.name = "<init>") (hdg : decode cc pc = .ok (.putfield idx, 3)) (kk : ∀ m' : Mm, m' = sR m 11 14 a v → ∀ (H1 : Heap) (locs1 : List Loc), pic G m' H1 → va_S (fr G) s.heap H1 locs1 → W p l e R s mt args below meth c H1 locs1 cells slots Q (F0 mt (pc + 3) ls rest)) : W p l e R s mt args below meth c H locs cells slots Q (F0 mt pc ls (rn v :: rn a :: rest)) :=
  mp_putF (ci := 10) E hp hS ht (by decide) (ck_11 _ _ _) rfl i_Mo t_Mo t_Mo_ok n_Mo 14 (by decide) hl rfl hin rfl (ty := (.array .byte)) (by decide +kernel) (nar_ra _ _) (fit_ra _ _) (Nat.le_of_ble_eq_true rfl) (m' := sR m 11 14 a v) (fun _ => rfl) (by rw [ck_11, gR_self m 11 14 a v]; rfl) (fun t b hb => co_sR t hb) hdg (kk _ rfl)
theorem rg_Mo_outSize (E : En G own cc mL p s mt args meth c) (hp : pic G m H) (ht : tg m a = 11) {idx : Nat} (hl : Cond.fieldLink own idx "MachineLoopModel" "outSize" "I" ∈ lw_good) (hdg : decode cc pc = .ok (.getfield idx, 3)) (kk : ∀ x : Int32, x = gI m 11 15 a → W p l e R s mt args below meth c H locs cells slots Q (F0 mt (pc + 3) ls (.int x :: rest))) : W p l e R s mt args below meth c H locs cells slots Q (F0 mt pc ls (rn a :: rest)) :=
  mp_get (ci := 10) E hp ht (by decide) (ck_11 _ _ _) rfl i_Mo 15 (by decide) hl rfl hdg (kk _ rfl)
theorem rp_Mo_outSize (E : En G own cc mL p s mt args meth c) (hp : pic G m H) (hS : va_S (fr G) s.heap H locs) {v : Int32} (ht : tg m a = 11) {idx : Nat} (hl : Cond.fieldLink own idx "MachineLoopModel" "outSize" "I" ∈ lw_good) (hdg : decode cc pc = .ok (.putfield idx, 3)) (kk : ∀ m' : Mm, m' = sI m 11 15 a v → ∀ (H1 : Heap) (locs1 : List Loc), pic G m' H1 → va_S (fr G) s.heap H1 locs1 → W p l e R s mt args below meth c H1 locs1 cells slots Q (F0 mt (pc + 3) ls rest)) : W p l e R s mt args below meth c H locs cells slots Q (F0 mt pc ls (.int v :: rn a :: rest)) :=
  mp_put (ci := 10) E hp hS ht (by decide) (ck_11 _ _ _) rfl i_Mo t_Mo t_Mo_ok n_Mo 15 (by decide) hl rfl (ty := .int) (by decide +kernel) rfl rfl (Nat.le_of_ble_eq_true rfl) (m' := sI m 11 15 a v) (fun _ => rfl) (by rw [ck_11, gI_self m 11 15 a v]; rfl) (fun t b hb => co_sI t hb) hdg (kk _ rfl)
theorem rg_Mo_open (E : En G own cc mL p s mt args meth c) (hp : pic G m H) (ht : tg m a = 11) {idx : Nat} (hl : Cond.fieldLink own idx "MachineLoopModel" "open" "[Z" ∈ lw_good) (hdg : decode cc pc = .ok (.getfield idx, 3)) (kk : ∀ x : Nat, x = gR m 11 16 a → W p l e R s mt args below meth c H locs cells slots Q (F0 mt (pc + 3) ls (rn x :: rest))) : W p l e R s mt args below meth c H locs cells slots Q (F0 mt pc ls (rn a :: rest)) :=
  mp_get (ci := 10) E hp ht (by decide) (ck_11 _ _ _) rfl i_Mo 16 (by decide) hl rfl hdg (kk _ rfl)
theorem rp_Mo_open (E : En G R_Mo cc mL p s mt args meth c) (hp : pic G m H) (hS : va_S (fr G) s.heap H locs) {v : Nat} (ht : tg m a = 11) {idx : Nat} (hl : Cond.fieldLink R_Mo idx "MachineLoopModel" "open" "[Z" ∈ lw_good) (hin : meth.name = "<init>") (hdg : decode cc pc = .ok (.putfield idx, 3)) (kk : ∀ m' : Mm, m' = sR m 11 16 a v → ∀ (H1 : Heap) (locs1 : List Loc), pic G m' H1 → va_S (fr G) s.heap H1 locs1 → W p l e R s mt args below meth c H1 locs1 cells slots Q (F0 mt (pc + 3) ls rest)) : W p l e R s mt args below meth c H locs cells slots Q (F0 mt pc ls (rn v :: rn a :: rest)) :=
  mp_putF (ci := 10) E hp hS ht (by decide) (ck_11 _ _ _) rfl i_Mo t_Mo t_Mo_ok n_Mo 16 (by decide) hl rfl hin rfl (ty := (.array .boolean)) (by decide +kernel) (nar_ra _ _) (fit_ra _ _) (Nat.le_of_ble_eq_true rfl) (m' := sR m 11 16 a v) (fun _ => rfl) (by rw [ck_11, gR_self m 11 16 a v]; rfl) (fun t b hb => co_sR t hb) hdg (kk _ rfl)
theorem rg_Mo_name (E : En G own cc mL p s mt args meth c) (hp : pic G m H) (ht : tg m a = 11) {idx : Nat} (hl : Cond.fieldLink own idx "MachineLoopModel" "name" "[I" ∈ lw_good) (hdg : decode cc pc = .ok (.getfield idx, 3)) (kk : ∀ x : Nat, x = gR m 11 17 a → W p l e R s mt args below meth c H locs cells slots Q (F0 mt (pc + 3) ls (rn x :: rest))) : W p l e R s mt args below meth c H locs cells slots Q (F0 mt pc ls (rn a :: rest)) :=
  mp_get (ci := 10) E hp ht (by decide) (ck_11 _ _ _) rfl i_Mo 17 (by decide) hl rfl hdg (kk _ rfl)
theorem rp_Mo_name (E : En G R_Mo cc mL p s mt args meth c) (hp : pic G m H) (hS : va_S (fr G) s.heap H locs) {v : Nat} (ht : tg m a = 11) {idx : Nat} (hl : Cond.fieldLink R_Mo idx "MachineLoopModel" "name" "[I" ∈ lw_good) (hin : meth.name = "<init>") (hdg : decode cc pc = .ok (.putfield idx, 3)) (kk : ∀ m' : Mm, m' = sR m 11 17 a v → ∀ (H1 : Heap) (locs1 : List Loc), pic G m' H1 → va_S (fr G) s.heap H1 locs1 → W p l e R s mt args below meth c H1 locs1 cells slots Q (F0 mt (pc + 3) ls rest)) : W p l e R s mt args below meth c H locs cells slots Q (F0 mt pc ls (rn v :: rn a :: rest)) :=
  mp_putF (ci := 10) E hp hS ht (by decide) (ck_11 _ _ _) rfl i_Mo t_Mo t_Mo_ok n_Mo 17 (by decide) hl rfl hin rfl (ty := (.array .int)) (by decide +kernel) (nar_ra _ _) (fit_ra _ _) (Nat.le_of_ble_eq_true rfl) (m' := sR m 11 17 a v) (fun _ => rfl) (by rw [ck_11, gR_self m 11 17 a v]; rfl) (fun t b hb => co_sR t hb) hdg (kk _ rfl)
theorem rg_Mo_mode (E : En G own cc mL p s mt args meth c) (hp : pic G m H) (ht : tg m a = 11) {idx : Nat} (hl : Cond.fieldLink own idx "MachineLoopModel" "mode" "[I" ∈ lw_good) (hdg : decode cc pc = .ok (.getfield idx, 3)) (kk : ∀ x : Nat, x = gR m 11 18 a → W p l e R s mt args below meth c H locs cells slots Q (F0 mt (pc + 3) ls (rn x :: rest))) : W p l e R s mt args below meth c H locs cells slots Q (F0 mt pc ls (rn a :: rest)) :=
  mp_get (ci := 10) E hp ht (by decide) (ck_11 _ _ _) rfl i_Mo 18 (by decide) hl rfl hdg (kk _ rfl)
theorem rp_Mo_mode (E : En G R_Mo cc mL p s mt args meth c) (hp : pic G m H) (hS : va_S (fr G) s.heap H locs) {v : Nat} (ht : tg m a = 11) {idx : Nat} (hl : Cond.fieldLink R_Mo idx "MachineLoopModel" "mode" "[I" ∈ lw_good) (hin : meth.name = "<init>") (hdg : decode cc pc = .ok (.putfield idx, 3)) (kk : ∀ m' : Mm, m' = sR m 11 18 a v → ∀ (H1 : Heap) (locs1 : List Loc), pic G m' H1 → va_S (fr G) s.heap H1 locs1 → W p l e R s mt args below meth c H1 locs1 cells slots Q (F0 mt (pc + 3) ls rest)) : W p l e R s mt args below meth c H locs cells slots Q (F0 mt pc ls (rn v :: rn a :: rest)) :=
  mp_putF (ci := 10) E hp hS ht (by decide) (ck_11 _ _ _) rfl i_Mo t_Mo t_Mo_ok n_Mo 18 (by decide) hl rfl hin rfl (ty := (.array .int)) (by decide +kernel) (nar_ra _ _) (fit_ra _ _) (Nat.le_of_ble_eq_true rfl) (m' := sR m 11 18 a v) (fun _ => rfl) (by rw [ck_11, gR_self m 11 18 a v]; rfl) (fun t b hb => co_sR t hb) hdg (kk _ rfl)
theorem rg_Mo_place (E : En G own cc mL p s mt args meth c) (hp : pic G m H) (ht : tg m a = 11) {idx : Nat} (hl : Cond.fieldLink own idx "MachineLoopModel" "place" "[I" ∈ lw_good) (hdg : decode cc pc = .ok (.getfield idx, 3)) (kk : ∀ x : Nat, x = gR m 11 19 a → W p l e R s mt args below meth c H locs cells slots Q (F0 mt (pc + 3) ls (rn x :: rest))) : W p l e R s mt args below meth c H locs cells slots Q (F0 mt pc ls (rn a :: rest)) :=
  mp_get (ci := 10) E hp ht (by decide) (ck_11 _ _ _) rfl i_Mo 19 (by decide) hl rfl hdg (kk _ rfl)
theorem rp_Mo_place (E : En G R_Mo cc mL p s mt args meth c) (hp : pic G m H) (hS : va_S (fr G) s.heap H locs) {v : Nat} (ht : tg m a = 11) {idx : Nat} (hl : Cond.fieldLink R_Mo idx "MachineLoopModel" "place" "[I" ∈ lw_good) (hin : meth.name = "<init>") (hdg : decode cc pc = .ok (.putfield idx, 3)) (kk : ∀ m' : Mm, m' = sR m 11 19 a v → ∀ (H1 : Heap) (locs1 : List Loc), pic G m' H1 → va_S (fr G) s.heap H1 locs1 → W p l e R s mt args below meth c H1 locs1 cells slots Q (F0 mt (pc + 3) ls rest)) : W p l e R s mt args below meth c H locs cells slots Q (F0 mt pc ls (rn v :: rn a :: rest)) :=
  mp_putF (ci := 10) E hp hS ht (by decide) (ck_11 _ _ _) rfl i_Mo t_Mo t_Mo_ok n_Mo 19 (by decide) hl rfl hin rfl (ty := (.array .int)) (by decide +kernel) (nar_ra _ _) (fit_ra _ _) (Nat.le_of_ble_eq_true rfl) (m' := sR m 11 19 a v) (fun _ => rfl) (by rw [ck_11, gR_self m 11 19 a v]; rfl) (fun t b hb => co_sR t hb) hdg (kk _ rfl)
theorem rg_Mo_filters (E : En G own cc mL p s mt args meth c) (hp : pic G m H) (ht : tg m a = 11) {idx : Nat} (hl : Cond.fieldLink own idx "MachineLoopModel" "filters" "[I" ∈ lw_good) (hdg : decode cc pc = .ok (.getfield idx, 3)) (kk : ∀ x : Nat, x = gR m 11 20 a → W p l e R s mt args below meth c H locs cells slots Q (F0 mt (pc + 3) ls (rn x :: rest))) : W p l e R s mt args below meth c H locs cells slots Q (F0 mt pc ls (rn a :: rest)) :=
  mp_get (ci := 10) E hp ht (by decide) (ck_11 _ _ _) rfl i_Mo 20 (by decide) hl rfl hdg (kk _ rfl)
theorem rp_Mo_filters (E : En G R_Mo cc mL p s mt args meth c) (hp : pic G m H) (hS : va_S (fr G) s.heap H locs) {v : Nat} (ht : tg m a = 11) {idx : Nat} (hl : Cond.fieldLink R_Mo idx "MachineLoopModel" "filters" "[I" ∈ lw_good) (hin : meth.name = "<init>") (hdg : decode cc pc = .ok (.putfield idx, 3)) (kk : ∀ m' : Mm, m' = sR m 11 20 a v → ∀ (H1 : Heap) (locs1 : List Loc), pic G m' H1 → va_S (fr G) s.heap H1 locs1 → W p l e R s mt args below meth c H1 locs1 cells slots Q (F0 mt (pc + 3) ls rest)) : W p l e R s mt args below meth c H locs cells slots Q (F0 mt pc ls (rn v :: rn a :: rest)) :=
  mp_putF (ci := 10) E hp hS ht (by decide) (ck_11 _ _ _) rfl i_Mo t_Mo t_Mo_ok n_Mo 20 (by decide) hl rfl hin rfl (ty := (.array .int)) (by decide +kernel) (nar_ra _ _) (fit_ra _ _) (Nat.le_of_ble_eq_true rfl) (m' := sR m 11 20 a v) (fun _ => rfl) (by rw [ck_11, gR_self m 11 20 a v]; rfl) (fun t b hb => co_sR t hb) hdg (kk _ rfl)
theorem rg_Mo_filter (E : En G own cc mL p s mt args meth c) (hp : pic G m H) (ht : tg m a = 11) {idx : Nat} (hl : Cond.fieldLink own idx "MachineLoopModel" "filter" "[I" ∈ lw_good) (hdg : decode cc pc = .ok (.getfield idx, 3)) (kk : ∀ x : Nat, x = gR m 11 21 a → W p l e R s mt args below meth c H locs cells slots Q (F0 mt (pc + 3) ls (rn x :: rest))) : W p l e R s mt args below meth c H locs cells slots Q (F0 mt pc ls (rn a :: rest)) :=
  mp_get (ci := 10) E hp ht (by decide) (ck_11 _ _ _) rfl i_Mo 21 (by decide) hl rfl hdg (kk _ rfl)
theorem rp_Mo_filter (E : En G R_Mo cc mL p s mt args meth c) (hp : pic G m H) (hS : va_S (fr G) s.heap H locs) {v : Nat} (ht : tg m a = 11) {idx : Nat} (hl : Cond.fieldLink R_Mo idx "MachineLoopModel" "filter" "[I" ∈ lw_good) (hin : meth.name = "<init>") (hdg : decode cc pc = .ok (.putfield idx, 3)) (kk : ∀ m' : Mm, m' = sR m 11 21 a v → ∀ (H1 : Heap) (locs1 : List Loc), pic G m' H1 → va_S (fr G) s.heap H1 locs1 → W p l e R s mt args below meth c H1 locs1 cells slots Q (F0 mt (pc + 3) ls rest)) : W p l e R s mt args below meth c H locs cells slots Q (F0 mt pc ls (rn v :: rn a :: rest)) :=
  mp_putF (ci := 10) E hp hS ht (by decide) (ck_11 _ _ _) rfl i_Mo t_Mo t_Mo_ok n_Mo 21 (by decide) hl rfl hin rfl (ty := (.array .int)) (by decide +kernel) (nar_ra _ _) (fit_ra _ _) (Nat.le_of_ble_eq_true rfl) (m' := sR m 11 21 a v) (fun _ => rfl) (by rw [ck_11, gR_self m 11 21 a v]; rfl) (fun t b hb => co_sR t hb) hdg (kk _ rfl)
theorem rg_Mo_filtersWas (E : En G own cc mL p s mt args meth c) (hp : pic G m H) (ht : tg m a = 11) {idx : Nat} (hl : Cond.fieldLink own idx "MachineLoopModel" "filtersWas" "[I" ∈ lw_good) (hdg : decode cc pc = .ok (.getfield idx, 3)) (kk : ∀ x : Nat, x = gR m 11 22 a → W p l e R s mt args below meth c H locs cells slots Q (F0 mt (pc + 3) ls (rn x :: rest))) : W p l e R s mt args below meth c H locs cells slots Q (F0 mt pc ls (rn a :: rest)) :=
  mp_get (ci := 10) E hp ht (by decide) (ck_11 _ _ _) rfl i_Mo 22 (by decide) hl rfl hdg (kk _ rfl)
theorem rp_Mo_filtersWas (E : En G R_Mo cc mL p s mt args meth c) (hp : pic G m H) (hS : va_S (fr G) s.heap H locs) {v : Nat} (ht : tg m a = 11) {idx : Nat} (hl : Cond.fieldLink R_Mo idx "MachineLoopModel" "filtersWas" "[I" ∈ lw_good) (hin : meth.name = "<init>") (hdg : decode cc pc = .ok (.putfield idx, 3)) (kk : ∀ m' : Mm, m' = sR m 11 22 a v → ∀ (H1 : Heap) (locs1 : List Loc), pic G m' H1 → va_S (fr G) s.heap H1 locs1 → W p l e R s mt args below meth c H1 locs1 cells slots Q (F0 mt (pc + 3) ls rest)) : W p l e R s mt args below meth c H locs cells slots Q (F0 mt pc ls (rn v :: rn a :: rest)) :=
  mp_putF (ci := 10) E hp hS ht (by decide) (ck_11 _ _ _) rfl i_Mo t_Mo t_Mo_ok n_Mo 22 (by decide) hl rfl hin rfl (ty := (.array .int)) (by decide +kernel) (nar_ra _ _) (fit_ra _ _) (Nat.le_of_ble_eq_true rfl) (m' := sR m 11 22 a v) (fun _ => rfl) (by rw [ck_11, gR_self m 11 22 a v]; rfl) (fun t b hb => co_sR t hb) hdg (kk _ rfl)
theorem rg_Mo_own (E : En G own cc mL p s mt args meth c) (hp : pic G m H) (ht : tg m a = 11) {idx : Nat} (hl : Cond.fieldLink own idx "MachineLoopModel" "own" "[Z" ∈ lw_good) (hdg : decode cc pc = .ok (.getfield idx, 3)) (kk : ∀ x : Nat, x = gR m 11 23 a → W p l e R s mt args below meth c H locs cells slots Q (F0 mt (pc + 3) ls (rn x :: rest))) : W p l e R s mt args below meth c H locs cells slots Q (F0 mt pc ls (rn a :: rest)) :=
  mp_get (ci := 10) E hp ht (by decide) (ck_11 _ _ _) rfl i_Mo 23 (by decide) hl rfl hdg (kk _ rfl)
theorem rp_Mo_own (E : En G R_Mo cc mL p s mt args meth c) (hp : pic G m H) (hS : va_S (fr G) s.heap H locs) {v : Nat} (ht : tg m a = 11) {idx : Nat} (hl : Cond.fieldLink R_Mo idx "MachineLoopModel" "own" "[Z" ∈ lw_good) (hin : meth.name = "<init>") (hdg : decode cc pc = .ok (.putfield idx, 3)) (kk : ∀ m' : Mm, m' = sR m 11 23 a v → ∀ (H1 : Heap) (locs1 : List Loc), pic G m' H1 → va_S (fr G) s.heap H1 locs1 → W p l e R s mt args below meth c H1 locs1 cells slots Q (F0 mt (pc + 3) ls rest)) : W p l e R s mt args below meth c H locs cells slots Q (F0 mt pc ls (rn v :: rn a :: rest)) :=
  mp_putF (ci := 10) E hp hS ht (by decide) (ck_11 _ _ _) rfl i_Mo t_Mo t_Mo_ok n_Mo 23 (by decide) hl rfl hin rfl (ty := (.array .boolean)) (by decide +kernel) (nar_ra _ _) (fit_ra _ _) (Nat.le_of_ble_eq_true rfl) (m' := sR m 11 23 a v) (fun _ => rfl) (by rw [ck_11, gR_self m 11 23 a v]; rfl) (fun t b hb => co_sR t hb) hdg (kk _ rfl)
theorem rg_Mo_fails (E : En G own cc mL p s mt args meth c) (hp : pic G m H) (ht : tg m a = 11) {idx : Nat} (hl : Cond.fieldLink own idx "MachineLoopModel" "fails" "Z" ∈ lw_good) (hdg : decode cc pc = .ok (.getfield idx, 3)) (kk : ∀ x : Int32, x = gI m 11 24 a → W p l e R s mt args below meth c H locs cells slots Q (F0 mt (pc + 3) ls (.int x :: rest))) : W p l e R s mt args below meth c H locs cells slots Q (F0 mt pc ls (rn a :: rest)) :=
  mp_get (ci := 10) E hp ht (by decide) (ck_11 _ _ _) rfl i_Mo 24 (by decide) hl rfl hdg (kk _ rfl)
theorem rp_Mo_fails (E : En G own cc mL p s mt args meth c) (hp : pic G m H) (hS : va_S (fr G) s.heap H locs) {v : Int32} (ht : tg m a = 11) {idx : Nat} (hl : Cond.fieldLink own idx "MachineLoopModel" "fails" "Z" ∈ lw_good) (hz : v = 0 ∨ v = 1) (hdg : decode cc pc = .ok (.putfield idx, 3)) (kk : ∀ m' : Mm, m' = sI m 11 24 a v → ∀ (H1 : Heap) (locs1 : List Loc), pic G m' H1 → va_S (fr G) s.heap H1 locs1 → W p l e R s mt args below meth c H1 locs1 cells slots Q (F0 mt (pc + 3) ls rest)) : W p l e R s mt args below meth c H locs cells slots Q (F0 mt pc ls (.int v :: rn a :: rest)) :=
  mp_put (ci := 10) E hp hS ht (by decide) (ck_11 _ _ _) rfl i_Mo t_Mo t_Mo_ok n_Mo 24 (by decide) hl rfl (ty := .boolean) (by decide +kernel) (by rcases hz with rfl | rfl <;> rfl) (by rcases hz with rfl | rfl <;> rfl) (Nat.le_of_ble_eq_true rfl) (m' := sI m 11 24 a v) (fun _ => rfl) (by rw [ck_11, gI_self m 11 24 a v]; rfl) (fun t b hb => co_sI t hb) hdg (kk _ rfl)
theorem rg_Mo_job (E : En G own cc mL p s mt args meth c) (hp : pic G m H) (ht : tg m a = 11) {idx : Nat} (hl : Cond.fieldLink own idx "MachineLoopModel" "job" "I" ∈ lw_good) (hdg : decode cc pc = .ok (.getfield idx, 3)) (kk : ∀ x : Int32, x = gI m 11 25 a → W p l e R s mt args below meth c H locs cells slots Q (F0 mt (pc + 3) ls (.int x :: rest))) : W p l e R s mt args below meth c H locs cells slots Q (F0 mt pc ls (rn a :: rest)) :=
  mp_get (ci := 10) E hp ht (by decide) (ck_11 _ _ _) rfl i_Mo 25 (by decide) hl rfl hdg (kk _ rfl)
theorem rp_Mo_job (E : En G own cc mL p s mt args meth c) (hp : pic G m H) (hS : va_S (fr G) s.heap H locs) {v : Int32} (ht : tg m a = 11) {idx : Nat} (hl : Cond.fieldLink own idx "MachineLoopModel" "job" "I" ∈ lw_good) (hdg : decode cc pc = .ok (.putfield idx, 3)) (kk : ∀ m' : Mm, m' = sI m 11 25 a v → ∀ (H1 : Heap) (locs1 : List Loc), pic G m' H1 → va_S (fr G) s.heap H1 locs1 → W p l e R s mt args below meth c H1 locs1 cells slots Q (F0 mt (pc + 3) ls rest)) : W p l e R s mt args below meth c H locs cells slots Q (F0 mt pc ls (.int v :: rn a :: rest)) :=
  mp_put (ci := 10) E hp hS ht (by decide) (ck_11 _ _ _) rfl i_Mo t_Mo t_Mo_ok n_Mo 25 (by decide) hl rfl (ty := .int) (by decide +kernel) rfl rfl (Nat.le_of_ble_eq_true rfl) (m' := sI m 11 25 a v) (fun _ => rfl) (by rw [ck_11, gI_self m 11 25 a v]; rfl) (fun t b hb => co_sI t hb) hdg (kk _ rfl)
theorem rg_Mo_at (E : En G own cc mL p s mt args meth c) (hp : pic G m H) (ht : tg m a = 11) {idx : Nat} (hl : Cond.fieldLink own idx "MachineLoopModel" "at" "I" ∈ lw_good) (hdg : decode cc pc = .ok (.getfield idx, 3)) (kk : ∀ x : Int32, x = gI m 11 26 a → W p l e R s mt args below meth c H locs cells slots Q (F0 mt (pc + 3) ls (.int x :: rest))) : W p l e R s mt args below meth c H locs cells slots Q (F0 mt pc ls (rn a :: rest)) :=
  mp_get (ci := 10) E hp ht (by decide) (ck_11 _ _ _) rfl i_Mo 26 (by decide) hl rfl hdg (kk _ rfl)
theorem rp_Mo_at (E : En G own cc mL p s mt args meth c) (hp : pic G m H) (hS : va_S (fr G) s.heap H locs) {v : Int32} (ht : tg m a = 11) {idx : Nat} (hl : Cond.fieldLink own idx "MachineLoopModel" "at" "I" ∈ lw_good) (hdg : decode cc pc = .ok (.putfield idx, 3)) (kk : ∀ m' : Mm, m' = sI m 11 26 a v → ∀ (H1 : Heap) (locs1 : List Loc), pic G m' H1 → va_S (fr G) s.heap H1 locs1 → W p l e R s mt args below meth c H1 locs1 cells slots Q (F0 mt (pc + 3) ls rest)) : W p l e R s mt args below meth c H locs cells slots Q (F0 mt pc ls (.int v :: rn a :: rest)) :=
  mp_put (ci := 10) E hp hS ht (by decide) (ck_11 _ _ _) rfl i_Mo t_Mo t_Mo_ok n_Mo 26 (by decide) hl rfl (ty := .int) (by decide +kernel) rfl rfl (Nat.le_of_ble_eq_true rfl) (m' := sI m 11 26 a v) (fun _ => rfl) (by rw [ck_11, gI_self m 11 26 a v]; rfl) (fun t b hb => co_sI t hb) hdg (kk _ rfl)
theorem rg_Mo_steps (E : En G own cc mL p s mt args meth c) (hp : pic G m H) (ht : tg m a = 11) {idx : Nat} (hl : Cond.fieldLink own idx "MachineLoopModel" "steps" "I" ∈ lw_good) (hdg : decode cc pc = .ok (.getfield idx, 3)) (kk : ∀ x : Int32, x = gI m 11 27 a → W p l e R s mt args below meth c H locs cells slots Q (F0 mt (pc + 3) ls (.int x :: rest))) : W p l e R s mt args below meth c H locs cells slots Q (F0 mt pc ls (rn a :: rest)) :=
  mp_get (ci := 10) E hp ht (by decide) (ck_11 _ _ _) rfl i_Mo 27 (by decide) hl rfl hdg (kk _ rfl)
theorem rp_Mo_steps (E : En G own cc mL p s mt args meth c) (hp : pic G m H) (hS : va_S (fr G) s.heap H locs) {v : Int32} (ht : tg m a = 11) {idx : Nat} (hl : Cond.fieldLink own idx "MachineLoopModel" "steps" "I" ∈ lw_good) (hdg : decode cc pc = .ok (.putfield idx, 3)) (kk : ∀ m' : Mm, m' = sI m 11 27 a v → ∀ (H1 : Heap) (locs1 : List Loc), pic G m' H1 → va_S (fr G) s.heap H1 locs1 → W p l e R s mt args below meth c H1 locs1 cells slots Q (F0 mt (pc + 3) ls rest)) : W p l e R s mt args below meth c H locs cells slots Q (F0 mt pc ls (.int v :: rn a :: rest)) :=
  mp_put (ci := 10) E hp hS ht (by decide) (ck_11 _ _ _) rfl i_Mo t_Mo t_Mo_ok n_Mo 27 (by decide) hl rfl (ty := .int) (by decide +kernel) rfl rfl (Nat.le_of_ble_eq_true rfl) (m' := sI m 11 27 a v) (fun _ => rfl) (by rw [ck_11, gI_self m 11 27 a v]; rfl) (fun t b hb => co_sI t hb) hdg (kk _ rfl)
theorem rg_Mo_high (E : En G own cc mL p s mt args meth c) (hp : pic G m H) (ht : tg m a = 11) {idx : Nat} (hl : Cond.fieldLink own idx "MachineLoopModel" "high" "I" ∈ lw_good) (hdg : decode cc pc = .ok (.getfield idx, 3)) (kk : ∀ x : Int32, x = gI m 11 28 a → W p l e R s mt args below meth c H locs cells slots Q (F0 mt (pc + 3) ls (.int x :: rest))) : W p l e R s mt args below meth c H locs cells slots Q (F0 mt pc ls (rn a :: rest)) :=
  mp_get (ci := 10) E hp ht (by decide) (ck_11 _ _ _) rfl i_Mo 28 (by decide) hl rfl hdg (kk _ rfl)
theorem rp_Mo_high (E : En G own cc mL p s mt args meth c) (hp : pic G m H) (hS : va_S (fr G) s.heap H locs) {v : Int32} (ht : tg m a = 11) {idx : Nat} (hl : Cond.fieldLink own idx "MachineLoopModel" "high" "I" ∈ lw_good) (hdg : decode cc pc = .ok (.putfield idx, 3)) (kk : ∀ m' : Mm, m' = sI m 11 28 a v → ∀ (H1 : Heap) (locs1 : List Loc), pic G m' H1 → va_S (fr G) s.heap H1 locs1 → W p l e R s mt args below meth c H1 locs1 cells slots Q (F0 mt (pc + 3) ls rest)) : W p l e R s mt args below meth c H locs cells slots Q (F0 mt pc ls (.int v :: rn a :: rest)) :=
  mp_put (ci := 10) E hp hS ht (by decide) (ck_11 _ _ _) rfl i_Mo t_Mo t_Mo_ok n_Mo 28 (by decide) hl rfl (ty := .int) (by decide +kernel) rfl rfl (Nat.le_of_ble_eq_true rfl) (m' := sI m 11 28 a v) (fun _ => rfl) (by rw [ck_11, gI_self m 11 28 a v]; rfl) (fun t b hb => co_sI t hb) hdg (kk _ rfl)
theorem rg_Mo_stack (E : En G own cc mL p s mt args meth c) (hp : pic G m H) (ht : tg m a = 11) {idx : Nat} (hl : Cond.fieldLink own idx "MachineLoopModel" "stack" "[I" ∈ lw_good) (hdg : decode cc pc = .ok (.getfield idx, 3)) (kk : ∀ x : Nat, x = gR m 11 29 a → W p l e R s mt args below meth c H locs cells slots Q (F0 mt (pc + 3) ls (rn x :: rest))) : W p l e R s mt args below meth c H locs cells slots Q (F0 mt pc ls (rn a :: rest)) :=
  mp_get (ci := 10) E hp ht (by decide) (ck_11 _ _ _) rfl i_Mo 29 (by decide) hl rfl hdg (kk _ rfl)
theorem rp_Mo_stack (E : En G R_Mo cc mL p s mt args meth c) (hp : pic G m H) (hS : va_S (fr G) s.heap H locs) {v : Nat} (ht : tg m a = 11) {idx : Nat} (hl : Cond.fieldLink R_Mo idx "MachineLoopModel" "stack" "[I" ∈ lw_good) (hin : meth.name = "<init>") (hdg : decode cc pc = .ok (.putfield idx, 3)) (kk : ∀ m' : Mm, m' = sR m 11 29 a v → ∀ (H1 : Heap) (locs1 : List Loc), pic G m' H1 → va_S (fr G) s.heap H1 locs1 → W p l e R s mt args below meth c H1 locs1 cells slots Q (F0 mt (pc + 3) ls rest)) : W p l e R s mt args below meth c H locs cells slots Q (F0 mt pc ls (rn v :: rn a :: rest)) :=
  mp_putF (ci := 10) E hp hS ht (by decide) (ck_11 _ _ _) rfl i_Mo t_Mo t_Mo_ok n_Mo 29 (by decide) hl rfl hin rfl (ty := (.array .int)) (by decide +kernel) (nar_ra _ _) (fit_ra _ _) (Nat.le_of_ble_eq_true rfl) (m' := sR m 11 29 a v) (fun _ => rfl) (by rw [ck_11, gR_self m 11 29 a v]; rfl) (fun t b hb => co_sR t hb) hdg (kk _ rfl)
theorem rg_Mo_marks (E : En G own cc mL p s mt args meth c) (hp : pic G m H) (ht : tg m a = 11) {idx : Nat} (hl : Cond.fieldLink own idx "MachineLoopModel" "marks" "I" ∈ lw_good) (hdg : decode cc pc = .ok (.getfield idx, 3)) (kk : ∀ x : Int32, x = gI m 11 30 a → W p l e R s mt args below meth c H locs cells slots Q (F0 mt (pc + 3) ls (.int x :: rest))) : W p l e R s mt args below meth c H locs cells slots Q (F0 mt pc ls (rn a :: rest)) :=
  mp_get (ci := 10) E hp ht (by decide) (ck_11 _ _ _) rfl i_Mo 30 (by decide) hl rfl hdg (kk _ rfl)
theorem rp_Mo_marks (E : En G own cc mL p s mt args meth c) (hp : pic G m H) (hS : va_S (fr G) s.heap H locs) {v : Int32} (ht : tg m a = 11) {idx : Nat} (hl : Cond.fieldLink own idx "MachineLoopModel" "marks" "I" ∈ lw_good) (hdg : decode cc pc = .ok (.putfield idx, 3)) (kk : ∀ m' : Mm, m' = sI m 11 30 a v → ∀ (H1 : Heap) (locs1 : List Loc), pic G m' H1 → va_S (fr G) s.heap H1 locs1 → W p l e R s mt args below meth c H1 locs1 cells slots Q (F0 mt (pc + 3) ls rest)) : W p l e R s mt args below meth c H locs cells slots Q (F0 mt pc ls (.int v :: rn a :: rest)) :=
  mp_put (ci := 10) E hp hS ht (by decide) (ck_11 _ _ _) rfl i_Mo t_Mo t_Mo_ok n_Mo 30 (by decide) hl rfl (ty := .int) (by decide +kernel) rfl rfl (Nat.le_of_ble_eq_true rfl) (m' := sI m 11 30 a v) (fun _ => rfl) (by rw [ck_11, gI_self m 11 30 a v]; rfl) (fun t b hb => co_sI t hb) hdg (kk _ rfl)
theorem rg_Mo_shown (E : En G own cc mL p s mt args meth c) (hp : pic G m H) (ht : tg m a = 11) {idx : Nat} (hl : Cond.fieldLink own idx "MachineLoopModel" "shown" "I" ∈ lw_good) (hdg : decode cc pc = .ok (.getfield idx, 3)) (kk : ∀ x : Int32, x = gI m 11 31 a → W p l e R s mt args below meth c H locs cells slots Q (F0 mt (pc + 3) ls (.int x :: rest))) : W p l e R s mt args below meth c H locs cells slots Q (F0 mt pc ls (rn a :: rest)) :=
  mp_get (ci := 10) E hp ht (by decide) (ck_11 _ _ _) rfl i_Mo 31 (by decide) hl rfl hdg (kk _ rfl)
theorem rp_Mo_shown (E : En G own cc mL p s mt args meth c) (hp : pic G m H) (hS : va_S (fr G) s.heap H locs) {v : Int32} (ht : tg m a = 11) {idx : Nat} (hl : Cond.fieldLink own idx "MachineLoopModel" "shown" "I" ∈ lw_good) (hdg : decode cc pc = .ok (.putfield idx, 3)) (kk : ∀ m' : Mm, m' = sI m 11 31 a v → ∀ (H1 : Heap) (locs1 : List Loc), pic G m' H1 → va_S (fr G) s.heap H1 locs1 → W p l e R s mt args below meth c H1 locs1 cells slots Q (F0 mt (pc + 3) ls rest)) : W p l e R s mt args below meth c H locs cells slots Q (F0 mt pc ls (.int v :: rn a :: rest)) :=
  mp_put (ci := 10) E hp hS ht (by decide) (ck_11 _ _ _) rfl i_Mo t_Mo t_Mo_ok n_Mo 31 (by decide) hl rfl (ty := .int) (by decide +kernel) rfl rfl (Nat.le_of_ble_eq_true rfl) (m' := sI m 11 31 a v) (fun _ => rfl) (by rw [ck_11, gI_self m 11 31 a v]; rfl) (fun t b hb => co_sI t hb) hdg (kk _ rfl)
theorem rg_Mo_loops (E : En G own cc mL p s mt args meth c) (hp : pic G m H) (ht : tg m a = 11) {idx : Nat} (hl : Cond.fieldLink own idx "MachineLoopModel" "loops" "I" ∈ lw_good) (hdg : decode cc pc = .ok (.getfield idx, 3)) (kk : ∀ x : Int32, x = gI m 11 32 a → W p l e R s mt args below meth c H locs cells slots Q (F0 mt (pc + 3) ls (.int x :: rest))) : W p l e R s mt args below meth c H locs cells slots Q (F0 mt pc ls (rn a :: rest)) :=
  mp_get (ci := 10) E hp ht (by decide) (ck_11 _ _ _) rfl i_Mo 32 (by decide) hl rfl hdg (kk _ rfl)
theorem rp_Mo_loops (E : En G own cc mL p s mt args meth c) (hp : pic G m H) (hS : va_S (fr G) s.heap H locs) {v : Int32} (ht : tg m a = 11) {idx : Nat} (hl : Cond.fieldLink own idx "MachineLoopModel" "loops" "I" ∈ lw_good) (hdg : decode cc pc = .ok (.putfield idx, 3)) (kk : ∀ m' : Mm, m' = sI m 11 32 a v → ∀ (H1 : Heap) (locs1 : List Loc), pic G m' H1 → va_S (fr G) s.heap H1 locs1 → W p l e R s mt args below meth c H1 locs1 cells slots Q (F0 mt (pc + 3) ls rest)) : W p l e R s mt args below meth c H locs cells slots Q (F0 mt pc ls (.int v :: rn a :: rest)) :=
  mp_put (ci := 10) E hp hS ht (by decide) (ck_11 _ _ _) rfl i_Mo t_Mo t_Mo_ok n_Mo 32 (by decide) hl rfl (ty := .int) (by decide +kernel) rfl rfl (Nat.le_of_ble_eq_true rfl) (m' := sI m 11 32 a v) (fun _ => rfl) (by rw [ck_11, gI_self m 11 32 a v]; rfl) (fun t b hb => co_sI t hb) hdg (kk _ rfl)
theorem rg_Mo_begin (E : En G own cc mL p s mt args meth c) (hp : pic G m H) (ht : tg m a = 11) {idx : Nat} (hl : Cond.fieldLink own idx "MachineLoopModel" "begin" "[I" ∈ lw_good) (hdg : decode cc pc = .ok (.getfield idx, 3)) (kk : ∀ x : Nat, x = gR m 11 33 a → W p l e R s mt args below meth c H locs cells slots Q (F0 mt (pc + 3) ls (rn x :: rest))) : W p l e R s mt args below meth c H locs cells slots Q (F0 mt pc ls (rn a :: rest)) :=
  mp_get (ci := 10) E hp ht (by decide) (ck_11 _ _ _) rfl i_Mo 33 (by decide) hl rfl hdg (kk _ rfl)
theorem rp_Mo_begin (E : En G R_Mo cc mL p s mt args meth c) (hp : pic G m H) (hS : va_S (fr G) s.heap H locs) {v : Nat} (ht : tg m a = 11) {idx : Nat} (hl : Cond.fieldLink R_Mo idx "MachineLoopModel" "begin" "[I" ∈ lw_good) (hin : meth.name = "<init>") (hdg : decode cc pc = .ok (.putfield idx, 3)) (kk : ∀ m' : Mm, m' = sR m 11 33 a v → ∀ (H1 : Heap) (locs1 : List Loc), pic G m' H1 → va_S (fr G) s.heap H1 locs1 → W p l e R s mt args below meth c H1 locs1 cells slots Q (F0 mt (pc + 3) ls rest)) : W p l e R s mt args below meth c H locs cells slots Q (F0 mt pc ls (rn v :: rn a :: rest)) :=
  mp_putF (ci := 10) E hp hS ht (by decide) (ck_11 _ _ _) rfl i_Mo t_Mo t_Mo_ok n_Mo 33 (by decide) hl rfl hin rfl (ty := (.array .int)) (by decide +kernel) (nar_ra _ _) (fit_ra _ _) (Nat.le_of_ble_eq_true rfl) (m' := sR m 11 33 a v) (fun _ => rfl) (by rw [ck_11, gR_self m 11 33 a v]; rfl) (fun t b hb => co_sR t hb) hdg (kk _ rfl)
theorem rg_Mo_left (E : En G own cc mL p s mt args meth c) (hp : pic G m H) (ht : tg m a = 11) {idx : Nat} (hl : Cond.fieldLink own idx "MachineLoopModel" "left" "[I" ∈ lw_good) (hdg : decode cc pc = .ok (.getfield idx, 3)) (kk : ∀ x : Nat, x = gR m 11 34 a → W p l e R s mt args below meth c H locs cells slots Q (F0 mt (pc + 3) ls (rn x :: rest))) : W p l e R s mt args below meth c H locs cells slots Q (F0 mt pc ls (rn a :: rest)) :=
  mp_get (ci := 10) E hp ht (by decide) (ck_11 _ _ _) rfl i_Mo 34 (by decide) hl rfl hdg (kk _ rfl)
theorem rp_Mo_left (E : En G R_Mo cc mL p s mt args meth c) (hp : pic G m H) (hS : va_S (fr G) s.heap H locs) {v : Nat} (ht : tg m a = 11) {idx : Nat} (hl : Cond.fieldLink R_Mo idx "MachineLoopModel" "left" "[I" ∈ lw_good) (hin : meth.name = "<init>") (hdg : decode cc pc = .ok (.putfield idx, 3)) (kk : ∀ m' : Mm, m' = sR m 11 34 a v → ∀ (H1 : Heap) (locs1 : List Loc), pic G m' H1 → va_S (fr G) s.heap H1 locs1 → W p l e R s mt args below meth c H1 locs1 cells slots Q (F0 mt (pc + 3) ls rest)) : W p l e R s mt args below meth c H locs cells slots Q (F0 mt pc ls (rn v :: rn a :: rest)) :=
  mp_putF (ci := 10) E hp hS ht (by decide) (ck_11 _ _ _) rfl i_Mo t_Mo t_Mo_ok n_Mo 34 (by decide) hl rfl hin rfl (ty := (.array .int)) (by decide +kernel) (nar_ra _ _) (fit_ra _ _) (Nat.le_of_ble_eq_true rfl) (m' := sR m 11 34 a v) (fun _ => rfl) (by rw [ck_11, gR_self m 11 34 a v]; rfl) (fun t b hb => co_sR t hb) hdg (kk _ rfl)
theorem rg_Mo_error (E : En G own cc mL p s mt args meth c) (hp : pic G m H) (ht : tg m a = 11) {idx : Nat} (hl : Cond.fieldLink own idx "MachineLoopModel" "error" "I" ∈ lw_good) (hdg : decode cc pc = .ok (.getfield idx, 3)) (kk : ∀ x : Int32, x = gI m 11 35 a → W p l e R s mt args below meth c H locs cells slots Q (F0 mt (pc + 3) ls (.int x :: rest))) : W p l e R s mt args below meth c H locs cells slots Q (F0 mt pc ls (rn a :: rest)) :=
  mp_get (ci := 10) E hp ht (by decide) (ck_11 _ _ _) rfl i_Mo 35 (by decide) hl rfl hdg (kk _ rfl)
theorem rp_Mo_error (E : En G own cc mL p s mt args meth c) (hp : pic G m H) (hS : va_S (fr G) s.heap H locs) {v : Int32} (ht : tg m a = 11) {idx : Nat} (hl : Cond.fieldLink own idx "MachineLoopModel" "error" "I" ∈ lw_good) (hdg : decode cc pc = .ok (.putfield idx, 3)) (kk : ∀ m' : Mm, m' = sI m 11 35 a v → ∀ (H1 : Heap) (locs1 : List Loc), pic G m' H1 → va_S (fr G) s.heap H1 locs1 → W p l e R s mt args below meth c H1 locs1 cells slots Q (F0 mt (pc + 3) ls rest)) : W p l e R s mt args below meth c H locs cells slots Q (F0 mt pc ls (.int v :: rn a :: rest)) :=
  mp_put (ci := 10) E hp hS ht (by decide) (ck_11 _ _ _) rfl i_Mo t_Mo t_Mo_ok n_Mo 35 (by decide) hl rfl (ty := .int) (by decide +kernel) rfl rfl (Nat.le_of_ble_eq_true rfl) (m' := sI m 11 35 a v) (fun _ => rfl) (by rw [ck_11, gI_self m 11 35 a v]; rfl) (fun t b hb => co_sI t hb) hdg (kk _ rfl)
theorem rg_Mo_done (E : En G own cc mL p s mt args meth c) (hp : pic G m H) (ht : tg m a = 11) {idx : Nat} (hl : Cond.fieldLink own idx "MachineLoopModel" "done" "Z" ∈ lw_good) (hdg : decode cc pc = .ok (.getfield idx, 3)) (kk : ∀ x : Int32, x = gI m 11 36 a → W p l e R s mt args below meth c H locs cells slots Q (F0 mt (pc + 3) ls (.int x :: rest))) : W p l e R s mt args below meth c H locs cells slots Q (F0 mt pc ls (rn a :: rest)) :=
  mp_get (ci := 10) E hp ht (by decide) (ck_11 _ _ _) rfl i_Mo 36 (by decide) hl rfl hdg (kk _ rfl)
theorem rp_Mo_done (E : En G own cc mL p s mt args meth c) (hp : pic G m H) (hS : va_S (fr G) s.heap H locs) {v : Int32} (ht : tg m a = 11) {idx : Nat} (hl : Cond.fieldLink own idx "MachineLoopModel" "done" "Z" ∈ lw_good) (hz : v = 0 ∨ v = 1) (hdg : decode cc pc = .ok (.putfield idx, 3)) (kk : ∀ m' : Mm, m' = sI m 11 36 a v → ∀ (H1 : Heap) (locs1 : List Loc), pic G m' H1 → va_S (fr G) s.heap H1 locs1 → W p l e R s mt args below meth c H1 locs1 cells slots Q (F0 mt (pc + 3) ls rest)) : W p l e R s mt args below meth c H locs cells slots Q (F0 mt pc ls (.int v :: rn a :: rest)) :=
  mp_put (ci := 10) E hp hS ht (by decide) (ck_11 _ _ _) rfl i_Mo t_Mo t_Mo_ok n_Mo 36 (by decide) hl rfl (ty := .boolean) (by decide +kernel) (by rcases hz with rfl | rfl <;> rfl) (by rcases hz with rfl | rfl <;> rfl) (Nat.le_of_ble_eq_true rfl) (m' := sI m 11 36 a v) (fun _ => rfl) (by rw [ck_11, gI_self m 11 36 a v]; rfl) (fun t b hb => co_sI t hb) hdg (kk _ rfl)
theorem rn_Mo (E : En G own cc mL p s mt args meth c) (hp : pic G m H) (hS : va_S (fr G) s.heap H locs) {idx : Nat} (hl : Cond.classLink own idx "MachineLoopModel" ∈ lw_good) (hcells : cells + 1 ≤ R.cells) (hslots : slots + 37 ≤ R.slots) (hdg : decode cc pc = .ok (.new idx, 3)) (kk : ∀ (q : Nat), tg m q = 0 → q ≠ 0 → ∀ m' : Mm, m' = nO m 11 q → ∀ (H1 : Heap), pic G m' H1 → va_S (fr G) s.heap H1 locs → W p l e R s mt args below meth c H1 locs (cells + 1) (slots + 37) Q (F0 mt (pc + 3) ls (rn q :: rest))) : W p l e R s mt args below meth c H locs cells slots Q (F0 mt pc ls rest) :=
  mp_new (ci := 10) E hp hS (by decide) rfl i_Mo t_Mo t_Mo_ok hl lk_687 lk_634 (fs := [.int 0, .int 0, .int 0, .null, .null, .null, .null, .null, .null, .null, .null, .null, .null, .null, .null, .int 0, .null, .null, .null, .null, .null, .null, .null, .null, .int 0, .int 0, .int 0, .int 0, .int 0, .null, .int 0, .int 0, .int 0, .null, .null, .int 0, .int 0]) (fun j hj => by rcases (show j = 0 ∨ j = 1 ∨ j = 2 ∨ j = 3 ∨ j = 4 ∨ j = 5 ∨ j = 6 ∨ j = 7 ∨ j = 8 ∨ j = 9 ∨ j = 10 ∨ j = 11 ∨ j = 12 ∨ j = 13 ∨ j = 14 ∨ j = 15 ∨ j = 16 ∨ j = 17 ∨ j = 18 ∨ j = 19 ∨ j = 20 ∨ j = 21 ∨ j = 22 ∨ j = 23 ∨ j = 24 ∨ j = 25 ∨ j = 26 ∨ j = 27 ∨ j = 28 ∨ j = 29 ∨ j = 30 ∨ j = 31 ∨ j = 32 ∨ j = 33 ∨ j = 34 ∨ j = 35 ∨ j = 36 by omega) with rfl | rfl | rfl | rfl | rfl | rfl | rfl | rfl | rfl | rfl | rfl | rfl | rfl | rfl | rfl | rfl | rfl | rfl | rfl | rfl | rfl | rfl | rfl | rfl | rfl | rfl | rfl | rfl | rfl | rfl | rfl | rfl | rfl | rfl | rfl | rfl | rfl <;> rfl) (fun q => by rw [ck_11]; simp only [gI_nO, gR_nO, ↓reduceIte, rn_0]) hcells hslots hdg kk
theorem cw_12 {dA : Nat → ClassId} (j v : Nat) : cell dA (wR m 12 a j v) 12 a = .inl (dA 0, ln m a, .inr (.inr (.inr (.inr (va_up (fun j => ro (aR m 12 a j)) j (ro v)))))) := by
  rw [ck_12]
  simp only [ln_wR, aR_wR]
  congr 7
  funext x
  by_cases hx : x = j <;> simp [va_up, hx]
theorem na_12 (E : En G own cc mL p s mt args meth c) (hp : pic G m H) (hS : va_S (fr G) s.heap H locs) {idx : Nat} (hl : Cond.classLink own idx "MachineLoop$Job" ∈ lw_good) {n : Int32} {N' : Nat} (hn : ¬ n < 0) (hN : n.toNatClampNeg = N') (hbytes : N' * 4 ≤ 536870912) (hcells : cells + 1 ≤ R.cells) (hslots : slots + N' ≤ R.slots) (hdg : decode cc pc = .ok (.anewarray idx, 3)) (kk : ∀ (q : Nat), tg m q = 0 → q ≠ 0 → ∀ m' : Mm, m' = nA m 12 q N' → ∀ (H1 : Heap), pic G m' H1 → va_S (fr G) s.heap H1 locs → W p l e R s mt args below meth c H1 locs (cells + 1) (slots + N') Q (F0 mt (pc + 3) ls (rn q :: rest))) : W p l e R s mt args below meth c H locs cells slots Q (F0 mt pc ls (.int n :: rest)) :=
  mp_newq (t0 := 0) E hp hS (by decide) hl (Cx_ao0 E.2.2.2.2.2.1) (fun cA h => by
    obtain ⟨_, _, _, _, _, h1⟩ := h
    obtain ⟨_, _, _, _, _, h2⟩ := (E.2.2.2.2.2.1.2.1.2 0 _ rfl).2
    exact Option.some.inj (h1.symm.trans h2)) (fun q n' => by rw [ck_12]; simp only [ln_nA, aR_nA, ↓reduceIte]; rfl) hn hN hbytes hcells hslots hdg kk
theorem cw_13 {dA : Nat → ClassId} (j : Nat) (v : Int32) : cell dA (wI m 13 a j v) 13 a = .inl (dA 1, ln m a, .inl (upd (fun j => aI m 13 a j) j v)) := by
  rw [ck_13]
  simp only [ln_wI, aI_wI]
  congr 4
  funext x
  simp [upd]
theorem cc_13 {dA : Nat → ClassId} (f : Nat → Int32) : cell dA (wC m 13 a f) 13 a = .inl (dA 1, ln m a, .inl f) := by
  rw [ck_13]
  simp only [ln_wC, aI_wC, and_self, ↓reduceIte]
theorem na_13 (E : En G own cc mL p s mt args meth c) (hp : pic G m H) (hS : va_S (fr G) s.heap H locs) {n : Int32} {N' : Nat} (hn : ¬ n < 0) (hN : n.toNatClampNeg = N') (hbytes : N' * componentBytes .int ≤ 536870912) (hcells : cells + 1 ≤ R.cells) (hslots : slots + N' ≤ R.slots) (hdg : decode cc pc = .ok (.newarray .int, 2)) (kk : ∀ (q : Nat), tg m q = 0 → q ≠ 0 → ∀ m' : Mm, m' = nA m 13 q N' → ∀ (H1 : Heap), pic G m' H1 → va_S (fr G) s.heap H1 locs → W p l e R s mt args below meth c H1 locs (cells + 1) (slots + N') Q (F0 mt (pc + 2) ls (rn q :: rest))) : W p l e R s mt args below meth c H locs cells slots Q (F0 mt pc ls (.int n :: rest)) :=
  mp_newa (t0 := 1) (atype := .int) (ty := .int) E hp hS (by decide) rfl lk_688 (fun cA h => Option.some.inj (h.symm.trans (E.2.2.2.2.2.1.2.1.2 1 _ rfl).2)) (fun q n' => by rw [ck_13]; simp only [ln_nA, aI_nA, ↓reduceIte]) rfl (fun _ h => h) hn hN hbytes hcells hslots hdg kk
theorem cw_14 {dA : Nat → ClassId} (j : Nat) (v : Int32) : cell dA (wI m 14 a j v) 14 a = .inl (dA 1, ln m a, .inl (upd (fun j => aI m 14 a j) j v)) := by
  rw [ck_14]
  simp only [ln_wI, aI_wI]
  congr 4
  funext x
  simp [upd]
theorem cc_14 {dA : Nat → ClassId} (f : Nat → Int32) : cell dA (wC m 14 a f) 14 a = .inl (dA 1, ln m a, .inl f) := by
  rw [ck_14]
  simp only [ln_wC, aI_wC, and_self, ↓reduceIte]
theorem na_14 (E : En G own cc mL p s mt args meth c) (hp : pic G m H) (hS : va_S (fr G) s.heap H locs) {n : Int32} {N' : Nat} (hn : ¬ n < 0) (hN : n.toNatClampNeg = N') (hbytes : N' * componentBytes .int ≤ 536870912) (hcells : cells + 1 ≤ R.cells) (hslots : slots + N' ≤ R.slots) (hdg : decode cc pc = .ok (.newarray .int, 2)) (kk : ∀ (q : Nat), tg m q = 0 → q ≠ 0 → ∀ m' : Mm, m' = nA m 14 q N' → ∀ (H1 : Heap), pic G m' H1 → va_S (fr G) s.heap H1 locs → W p l e R s mt args below meth c H1 locs (cells + 1) (slots + N') Q (F0 mt (pc + 2) ls (rn q :: rest))) : W p l e R s mt args below meth c H locs cells slots Q (F0 mt pc ls (.int n :: rest)) :=
  mp_newa (t0 := 1) (atype := .int) (ty := .int) E hp hS (by decide) rfl lk_688 (fun cA h => Option.some.inj (h.symm.trans (E.2.2.2.2.2.1.2.1.2 1 _ rfl).2)) (fun q n' => by rw [ck_14]; simp only [ln_nA, aI_nA, ↓reduceIte]) rfl (fun _ h => h) hn hN hbytes hcells hslots hdg kk
theorem cw_15 {dA : Nat → ClassId} (j : Nat) (v : Int32) : cell dA (wI m 15 a j v) 15 a = .inl (dA 1, ln m a, .inl (upd (fun j => aI m 15 a j) j v)) := by
  rw [ck_15]
  simp only [ln_wI, aI_wI]
  congr 4
  funext x
  simp [upd]
theorem cc_15 {dA : Nat → ClassId} (f : Nat → Int32) : cell dA (wC m 15 a f) 15 a = .inl (dA 1, ln m a, .inl f) := by
  rw [ck_15]
  simp only [ln_wC, aI_wC, and_self, ↓reduceIte]
theorem na_15 (E : En G own cc mL p s mt args meth c) (hp : pic G m H) (hS : va_S (fr G) s.heap H locs) {n : Int32} {N' : Nat} (hn : ¬ n < 0) (hN : n.toNatClampNeg = N') (hbytes : N' * componentBytes .int ≤ 536870912) (hcells : cells + 1 ≤ R.cells) (hslots : slots + N' ≤ R.slots) (hdg : decode cc pc = .ok (.newarray .int, 2)) (kk : ∀ (q : Nat), tg m q = 0 → q ≠ 0 → ∀ m' : Mm, m' = nA m 15 q N' → ∀ (H1 : Heap), pic G m' H1 → va_S (fr G) s.heap H1 locs → W p l e R s mt args below meth c H1 locs (cells + 1) (slots + N') Q (F0 mt (pc + 2) ls (rn q :: rest))) : W p l e R s mt args below meth c H locs cells slots Q (F0 mt pc ls (.int n :: rest)) :=
  mp_newa (t0 := 1) (atype := .int) (ty := .int) E hp hS (by decide) rfl lk_688 (fun cA h => Option.some.inj (h.symm.trans (E.2.2.2.2.2.1.2.1.2 1 _ rfl).2)) (fun q n' => by rw [ck_15]; simp only [ln_nA, aI_nA, ↓reduceIte]) rfl (fun _ h => h) hn hN hbytes hcells hslots hdg kk
theorem cw_16 {dA : Nat → ClassId} (j : Nat) (v : Int32) : cell dA (wI m 16 a j v) 16 a = .inl (dA 1, ln m a, .inl (upd (fun j => aI m 16 a j) j v)) := by
  rw [ck_16]
  simp only [ln_wI, aI_wI]
  congr 4
  funext x
  simp [upd]
theorem cc_16 {dA : Nat → ClassId} (f : Nat → Int32) : cell dA (wC m 16 a f) 16 a = .inl (dA 1, ln m a, .inl f) := by
  rw [ck_16]
  simp only [ln_wC, aI_wC, and_self, ↓reduceIte]
theorem na_16 (E : En G own cc mL p s mt args meth c) (hp : pic G m H) (hS : va_S (fr G) s.heap H locs) {n : Int32} {N' : Nat} (hn : ¬ n < 0) (hN : n.toNatClampNeg = N') (hbytes : N' * componentBytes .int ≤ 536870912) (hcells : cells + 1 ≤ R.cells) (hslots : slots + N' ≤ R.slots) (hdg : decode cc pc = .ok (.newarray .int, 2)) (kk : ∀ (q : Nat), tg m q = 0 → q ≠ 0 → ∀ m' : Mm, m' = nA m 16 q N' → ∀ (H1 : Heap), pic G m' H1 → va_S (fr G) s.heap H1 locs → W p l e R s mt args below meth c H1 locs (cells + 1) (slots + N') Q (F0 mt (pc + 2) ls (rn q :: rest))) : W p l e R s mt args below meth c H locs cells slots Q (F0 mt pc ls (.int n :: rest)) :=
  mp_newa (t0 := 1) (atype := .int) (ty := .int) E hp hS (by decide) rfl lk_688 (fun cA h => Option.some.inj (h.symm.trans (E.2.2.2.2.2.1.2.1.2 1 _ rfl).2)) (fun q n' => by rw [ck_16]; simp only [ln_nA, aI_nA, ↓reduceIte]) rfl (fun _ h => h) hn hN hbytes hcells hslots hdg kk
theorem cw_17 {dA : Nat → ClassId} (j : Nat) (v : Int32) : cell dA (wI m 17 a j v) 17 a = .inl (dA 1, ln m a, .inl (upd (fun j => aI m 17 a j) j v)) := by
  rw [ck_17]
  simp only [ln_wI, aI_wI]
  congr 4
  funext x
  simp [upd]
theorem cc_17 {dA : Nat → ClassId} (f : Nat → Int32) : cell dA (wC m 17 a f) 17 a = .inl (dA 1, ln m a, .inl f) := by
  rw [ck_17]
  simp only [ln_wC, aI_wC, and_self, ↓reduceIte]
theorem na_17 (E : En G own cc mL p s mt args meth c) (hp : pic G m H) (hS : va_S (fr G) s.heap H locs) {n : Int32} {N' : Nat} (hn : ¬ n < 0) (hN : n.toNatClampNeg = N') (hbytes : N' * componentBytes .int ≤ 536870912) (hcells : cells + 1 ≤ R.cells) (hslots : slots + N' ≤ R.slots) (hdg : decode cc pc = .ok (.newarray .int, 2)) (kk : ∀ (q : Nat), tg m q = 0 → q ≠ 0 → ∀ m' : Mm, m' = nA m 17 q N' → ∀ (H1 : Heap), pic G m' H1 → va_S (fr G) s.heap H1 locs → W p l e R s mt args below meth c H1 locs (cells + 1) (slots + N') Q (F0 mt (pc + 2) ls (rn q :: rest))) : W p l e R s mt args below meth c H locs cells slots Q (F0 mt pc ls (.int n :: rest)) :=
  mp_newa (t0 := 1) (atype := .int) (ty := .int) E hp hS (by decide) rfl lk_688 (fun cA h => Option.some.inj (h.symm.trans (E.2.2.2.2.2.1.2.1.2 1 _ rfl).2)) (fun q n' => by rw [ck_17]; simp only [ln_nA, aI_nA, ↓reduceIte]) rfl (fun _ h => h) hn hN hbytes hcells hslots hdg kk
theorem cw_18 {dA : Nat → ClassId} (j v : Nat) : cell dA (wR m 18 a j v) 18 a = .inl (dA 2, ln m a, .inr (.inr (.inr (.inr (va_up (fun j => ro (aR m 18 a j)) j (ro v)))))) := by
  rw [ck_18]
  simp only [ln_wR, aR_wR]
  congr 7
  funext x
  by_cases hx : x = j <;> simp [va_up, hx]
theorem na_18 (E : En G own cc mL p s mt args meth c) (hp : pic G m H) (hS : va_S (fr G) s.heap H locs) {idx : Nat} (hl : Cond.classLink own idx "MachineLoop$Store" ∈ lw_good) {n : Int32} {N' : Nat} (hn : ¬ n < 0) (hN : n.toNatClampNeg = N') (hbytes : N' * 4 ≤ 536870912) (hcells : cells + 1 ≤ R.cells) (hslots : slots + N' ≤ R.slots) (hdg : decode cc pc = .ok (.anewarray idx, 3)) (kk : ∀ (q : Nat), tg m q = 0 → q ≠ 0 → ∀ m' : Mm, m' = nA m 18 q N' → ∀ (H1 : Heap), pic G m' H1 → va_S (fr G) s.heap H1 locs → W p l e R s mt args below meth c H1 locs (cells + 1) (slots + N') Q (F0 mt (pc + 3) ls (rn q :: rest))) : W p l e R s mt args below meth c H locs cells slots Q (F0 mt pc ls (.int n :: rest)) :=
  mp_newq (t0 := 2) E hp hS (by decide) hl (Cx_ao1 E.2.2.2.2.2.1) (fun cA h => by
    obtain ⟨_, _, _, _, _, h1⟩ := h
    obtain ⟨_, _, _, _, _, h2⟩ := (E.2.2.2.2.2.1.2.1.2 2 _ rfl).2
    exact Option.some.inj (h1.symm.trans h2)) (fun q n' => by rw [ck_18]; simp only [ln_nA, aR_nA, ↓reduceIte]; rfl) hn hN hbytes hcells hslots hdg kk
theorem cw_19 {dA : Nat → ClassId} (j v : Nat) : cell dA (wR m 19 a j v) 19 a = .inl (dA 3, ln m a, .inr (.inr (.inr (.inr (va_up (fun j => ro (aR m 19 a j)) j (ro v)))))) := by
  rw [ck_19]
  simp only [ln_wR, aR_wR]
  congr 7
  funext x
  by_cases hx : x = j <;> simp [va_up, hx]
theorem na_19 (E : En G own cc mL p s mt args meth c) (hp : pic G m H) (hS : va_S (fr G) s.heap H locs) {idx : Nat} (hl : Cond.classLink own idx "MachineLoop$Handle" ∈ lw_good) {n : Int32} {N' : Nat} (hn : ¬ n < 0) (hN : n.toNatClampNeg = N') (hbytes : N' * 4 ≤ 536870912) (hcells : cells + 1 ≤ R.cells) (hslots : slots + N' ≤ R.slots) (hdg : decode cc pc = .ok (.anewarray idx, 3)) (kk : ∀ (q : Nat), tg m q = 0 → q ≠ 0 → ∀ m' : Mm, m' = nA m 19 q N' → ∀ (H1 : Heap), pic G m' H1 → va_S (fr G) s.heap H1 locs → W p l e R s mt args below meth c H1 locs (cells + 1) (slots + N') Q (F0 mt (pc + 3) ls (rn q :: rest))) : W p l e R s mt args below meth c H locs cells slots Q (F0 mt pc ls (.int n :: rest)) :=
  mp_newq (t0 := 3) E hp hS (by decide) hl (Cx_ao2 E.2.2.2.2.2.1) (fun cA h => by
    obtain ⟨_, _, _, _, _, h1⟩ := h
    obtain ⟨_, _, _, _, _, h2⟩ := (E.2.2.2.2.2.1.2.1.2 3 _ rfl).2
    exact Option.some.inj (h1.symm.trans h2)) (fun q n' => by rw [ck_19]; simp only [ln_nA, aR_nA, ↓reduceIte]; rfl) hn hN hbytes hcells hslots hdg kk
theorem cw_20 {dA : Nat → ClassId} (j : Nat) (v : Int32) : cell dA (wI m 20 a j v) 20 a = .inl (dA 1, ln m a, .inl (upd (fun j => aI m 20 a j) j v)) := by
  rw [ck_20]
  simp only [ln_wI, aI_wI]
  congr 4
  funext x
  simp [upd]
theorem cc_20 {dA : Nat → ClassId} (f : Nat → Int32) : cell dA (wC m 20 a f) 20 a = .inl (dA 1, ln m a, .inl f) := by
  rw [ck_20]
  simp only [ln_wC, aI_wC, and_self, ↓reduceIte]
theorem na_20 (E : En G own cc mL p s mt args meth c) (hp : pic G m H) (hS : va_S (fr G) s.heap H locs) {n : Int32} {N' : Nat} (hn : ¬ n < 0) (hN : n.toNatClampNeg = N') (hbytes : N' * componentBytes .int ≤ 536870912) (hcells : cells + 1 ≤ R.cells) (hslots : slots + N' ≤ R.slots) (hdg : decode cc pc = .ok (.newarray .int, 2)) (kk : ∀ (q : Nat), tg m q = 0 → q ≠ 0 → ∀ m' : Mm, m' = nA m 20 q N' → ∀ (H1 : Heap), pic G m' H1 → va_S (fr G) s.heap H1 locs → W p l e R s mt args below meth c H1 locs (cells + 1) (slots + N') Q (F0 mt (pc + 2) ls (rn q :: rest))) : W p l e R s mt args below meth c H locs cells slots Q (F0 mt pc ls (.int n :: rest)) :=
  mp_newa (t0 := 1) (atype := .int) (ty := .int) E hp hS (by decide) rfl lk_688 (fun cA h => Option.some.inj (h.symm.trans (E.2.2.2.2.2.1.2.1.2 1 _ rfl).2)) (fun q n' => by rw [ck_20]; simp only [ln_nA, aI_nA, ↓reduceIte]) rfl (fun _ h => h) hn hN hbytes hcells hslots hdg kk
theorem cw_21 {dA : Nat → ClassId} (j : Nat) (v : Int32) : cell dA (wI m 21 a j v) 21 a = .inl (dA 1, ln m a, .inl (upd (fun j => aI m 21 a j) j v)) := by
  rw [ck_21]
  simp only [ln_wI, aI_wI]
  congr 4
  funext x
  simp [upd]
theorem cc_21 {dA : Nat → ClassId} (f : Nat → Int32) : cell dA (wC m 21 a f) 21 a = .inl (dA 1, ln m a, .inl f) := by
  rw [ck_21]
  simp only [ln_wC, aI_wC, and_self, ↓reduceIte]
theorem na_21 (E : En G own cc mL p s mt args meth c) (hp : pic G m H) (hS : va_S (fr G) s.heap H locs) {n : Int32} {N' : Nat} (hn : ¬ n < 0) (hN : n.toNatClampNeg = N') (hbytes : N' * componentBytes .int ≤ 536870912) (hcells : cells + 1 ≤ R.cells) (hslots : slots + N' ≤ R.slots) (hdg : decode cc pc = .ok (.newarray .int, 2)) (kk : ∀ (q : Nat), tg m q = 0 → q ≠ 0 → ∀ m' : Mm, m' = nA m 21 q N' → ∀ (H1 : Heap), pic G m' H1 → va_S (fr G) s.heap H1 locs → W p l e R s mt args below meth c H1 locs (cells + 1) (slots + N') Q (F0 mt (pc + 2) ls (rn q :: rest))) : W p l e R s mt args below meth c H locs cells slots Q (F0 mt pc ls (.int n :: rest)) :=
  mp_newa (t0 := 1) (atype := .int) (ty := .int) E hp hS (by decide) rfl lk_688 (fun cA h => Option.some.inj (h.symm.trans (E.2.2.2.2.2.1.2.1.2 1 _ rfl).2)) (fun q n' => by rw [ck_21]; simp only [ln_nA, aI_nA, ↓reduceIte]) rfl (fun _ h => h) hn hN hbytes hcells hslots hdg kk
theorem cw_22 {dA : Nat → ClassId} (j : Nat) (v : Int32) : cell dA (wI m 22 a j v) 22 a = .inl (dA 1, ln m a, .inl (upd (fun j => aI m 22 a j) j v)) := by
  rw [ck_22]
  simp only [ln_wI, aI_wI]
  congr 4
  funext x
  simp [upd]
theorem cc_22 {dA : Nat → ClassId} (f : Nat → Int32) : cell dA (wC m 22 a f) 22 a = .inl (dA 1, ln m a, .inl f) := by
  rw [ck_22]
  simp only [ln_wC, aI_wC, and_self, ↓reduceIte]
theorem na_22 (E : En G own cc mL p s mt args meth c) (hp : pic G m H) (hS : va_S (fr G) s.heap H locs) {n : Int32} {N' : Nat} (hn : ¬ n < 0) (hN : n.toNatClampNeg = N') (hbytes : N' * componentBytes .int ≤ 536870912) (hcells : cells + 1 ≤ R.cells) (hslots : slots + N' ≤ R.slots) (hdg : decode cc pc = .ok (.newarray .int, 2)) (kk : ∀ (q : Nat), tg m q = 0 → q ≠ 0 → ∀ m' : Mm, m' = nA m 22 q N' → ∀ (H1 : Heap), pic G m' H1 → va_S (fr G) s.heap H1 locs → W p l e R s mt args below meth c H1 locs (cells + 1) (slots + N') Q (F0 mt (pc + 2) ls (rn q :: rest))) : W p l e R s mt args below meth c H locs cells slots Q (F0 mt pc ls (.int n :: rest)) :=
  mp_newa (t0 := 1) (atype := .int) (ty := .int) E hp hS (by decide) rfl lk_688 (fun cA h => Option.some.inj (h.symm.trans (E.2.2.2.2.2.1.2.1.2 1 _ rfl).2)) (fun q n' => by rw [ck_22]; simp only [ln_nA, aI_nA, ↓reduceIte]) rfl (fun _ h => h) hn hN hbytes hcells hslots hdg kk
theorem cw_23 {dA : Nat → ClassId} (j : Nat) (v : Int32) : cell dA (wI m 23 a j v) 23 a = .inl (dA 1, ln m a, .inl (upd (fun j => aI m 23 a j) j v)) := by
  rw [ck_23]
  simp only [ln_wI, aI_wI]
  congr 4
  funext x
  simp [upd]
theorem cc_23 {dA : Nat → ClassId} (f : Nat → Int32) : cell dA (wC m 23 a f) 23 a = .inl (dA 1, ln m a, .inl f) := by
  rw [ck_23]
  simp only [ln_wC, aI_wC, and_self, ↓reduceIte]
theorem na_23 (E : En G own cc mL p s mt args meth c) (hp : pic G m H) (hS : va_S (fr G) s.heap H locs) {n : Int32} {N' : Nat} (hn : ¬ n < 0) (hN : n.toNatClampNeg = N') (hbytes : N' * componentBytes .int ≤ 536870912) (hcells : cells + 1 ≤ R.cells) (hslots : slots + N' ≤ R.slots) (hdg : decode cc pc = .ok (.newarray .int, 2)) (kk : ∀ (q : Nat), tg m q = 0 → q ≠ 0 → ∀ m' : Mm, m' = nA m 23 q N' → ∀ (H1 : Heap), pic G m' H1 → va_S (fr G) s.heap H1 locs → W p l e R s mt args below meth c H1 locs (cells + 1) (slots + N') Q (F0 mt (pc + 2) ls (rn q :: rest))) : W p l e R s mt args below meth c H locs cells slots Q (F0 mt pc ls (.int n :: rest)) :=
  mp_newa (t0 := 1) (atype := .int) (ty := .int) E hp hS (by decide) rfl lk_688 (fun cA h => Option.some.inj (h.symm.trans (E.2.2.2.2.2.1.2.1.2 1 _ rfl).2)) (fun q n' => by rw [ck_23]; simp only [ln_nA, aI_nA, ↓reduceIte]) rfl (fun _ h => h) hn hN hbytes hcells hslots hdg kk
theorem cw_24 {dA : Nat → ClassId} (j : Nat) (v : Int32) : cell dA (wI m 24 a j v) 24 a = .inl (dA 4, ln m a, .inl (upd (fun j => aI m 24 a j) j v)) := by
  rw [ck_24]
  simp only [ln_wI, aI_wI]
  congr 4
  funext x
  simp [upd]
theorem cc_24 {dA : Nat → ClassId} (f : Nat → Int32) : cell dA (wC m 24 a f) 24 a = .inl (dA 4, ln m a, .inl f) := by
  rw [ck_24]
  simp only [ln_wC, aI_wC, and_self, ↓reduceIte]
theorem na_24 (E : En G own cc mL p s mt args meth c) (hp : pic G m H) (hS : va_S (fr G) s.heap H locs) {n : Int32} {N' : Nat} (hn : ¬ n < 0) (hN : n.toNatClampNeg = N') (hbytes : N' * componentBytes .byte ≤ 536870912) (hcells : cells + 1 ≤ R.cells) (hslots : slots + N' ≤ R.slots) (hdg : decode cc pc = .ok (.newarray .byte, 2)) (kk : ∀ (q : Nat), tg m q = 0 → q ≠ 0 → ∀ m' : Mm, m' = nA m 24 q N' → ∀ (H1 : Heap), pic G m' H1 → va_S (fr G) s.heap H1 locs → W p l e R s mt args below meth c H1 locs (cells + 1) (slots + N') Q (F0 mt (pc + 2) ls (rn q :: rest))) : W p l e R s mt args below meth c H locs cells slots Q (F0 mt pc ls (.int n :: rest)) :=
  mp_newa (t0 := 4) (atype := .byte) (ty := .byte) E hp hS (by decide) rfl lk_689 (fun cA h => Option.some.inj (h.symm.trans (E.2.2.2.2.2.1.2.1.2 4 _ rfl).2)) (fun q n' => by rw [ck_24]; simp only [ln_nA, aI_nA, ↓reduceIte]) rfl (fun _ h => h) hn hN hbytes hcells hslots hdg kk
theorem cw_25 {dA : Nat → ClassId} (j : Nat) (v : Int32) : cell dA (wI m 25 a j v) 25 a = .inl (dA 1, ln m a, .inl (upd (fun j => aI m 25 a j) j v)) := by
  rw [ck_25]
  simp only [ln_wI, aI_wI]
  congr 4
  funext x
  simp [upd]
theorem cc_25 {dA : Nat → ClassId} (f : Nat → Int32) : cell dA (wC m 25 a f) 25 a = .inl (dA 1, ln m a, .inl f) := by
  rw [ck_25]
  simp only [ln_wC, aI_wC, and_self, ↓reduceIte]
theorem na_25 (E : En G own cc mL p s mt args meth c) (hp : pic G m H) (hS : va_S (fr G) s.heap H locs) {n : Int32} {N' : Nat} (hn : ¬ n < 0) (hN : n.toNatClampNeg = N') (hbytes : N' * componentBytes .int ≤ 536870912) (hcells : cells + 1 ≤ R.cells) (hslots : slots + N' ≤ R.slots) (hdg : decode cc pc = .ok (.newarray .int, 2)) (kk : ∀ (q : Nat), tg m q = 0 → q ≠ 0 → ∀ m' : Mm, m' = nA m 25 q N' → ∀ (H1 : Heap), pic G m' H1 → va_S (fr G) s.heap H1 locs → W p l e R s mt args below meth c H1 locs (cells + 1) (slots + N') Q (F0 mt (pc + 2) ls (rn q :: rest))) : W p l e R s mt args below meth c H locs cells slots Q (F0 mt pc ls (.int n :: rest)) :=
  mp_newa (t0 := 1) (atype := .int) (ty := .int) E hp hS (by decide) rfl lk_688 (fun cA h => Option.some.inj (h.symm.trans (E.2.2.2.2.2.1.2.1.2 1 _ rfl).2)) (fun q n' => by rw [ck_25]; simp only [ln_nA, aI_nA, ↓reduceIte]) rfl (fun _ h => h) hn hN hbytes hcells hslots hdg kk
theorem cw_26 {dA : Nat → ClassId} (j : Nat) (v : Int32) : cell dA (wI m 26 a j v) 26 a = .inl (dA 4, ln m a, .inl (upd (fun j => aI m 26 a j) j v)) := by
  rw [ck_26]
  simp only [ln_wI, aI_wI]
  congr 4
  funext x
  simp [upd]
theorem cc_26 {dA : Nat → ClassId} (f : Nat → Int32) : cell dA (wC m 26 a f) 26 a = .inl (dA 4, ln m a, .inl f) := by
  rw [ck_26]
  simp only [ln_wC, aI_wC, and_self, ↓reduceIte]
theorem na_26 (E : En G own cc mL p s mt args meth c) (hp : pic G m H) (hS : va_S (fr G) s.heap H locs) {n : Int32} {N' : Nat} (hn : ¬ n < 0) (hN : n.toNatClampNeg = N') (hbytes : N' * componentBytes .byte ≤ 536870912) (hcells : cells + 1 ≤ R.cells) (hslots : slots + N' ≤ R.slots) (hdg : decode cc pc = .ok (.newarray .byte, 2)) (kk : ∀ (q : Nat), tg m q = 0 → q ≠ 0 → ∀ m' : Mm, m' = nA m 26 q N' → ∀ (H1 : Heap), pic G m' H1 → va_S (fr G) s.heap H1 locs → W p l e R s mt args below meth c H1 locs (cells + 1) (slots + N') Q (F0 mt (pc + 2) ls (rn q :: rest))) : W p l e R s mt args below meth c H locs cells slots Q (F0 mt pc ls (.int n :: rest)) :=
  mp_newa (t0 := 4) (atype := .byte) (ty := .byte) E hp hS (by decide) rfl lk_689 (fun cA h => Option.some.inj (h.symm.trans (E.2.2.2.2.2.1.2.1.2 4 _ rfl).2)) (fun q n' => by rw [ck_26]; simp only [ln_nA, aI_nA, ↓reduceIte]) rfl (fun _ h => h) hn hN hbytes hcells hslots hdg kk
theorem cw_27 {dA : Nat → ClassId} (j : Nat) (v : Int32) : cell dA (wI m 27 a j v) 27 a = .inl (dA 1, ln m a, .inl (upd (fun j => aI m 27 a j) j v)) := by
  rw [ck_27]
  simp only [ln_wI, aI_wI]
  congr 4
  funext x
  simp [upd]
theorem cc_27 {dA : Nat → ClassId} (f : Nat → Int32) : cell dA (wC m 27 a f) 27 a = .inl (dA 1, ln m a, .inl f) := by
  rw [ck_27]
  simp only [ln_wC, aI_wC, and_self, ↓reduceIte]
theorem na_27 (E : En G own cc mL p s mt args meth c) (hp : pic G m H) (hS : va_S (fr G) s.heap H locs) {n : Int32} {N' : Nat} (hn : ¬ n < 0) (hN : n.toNatClampNeg = N') (hbytes : N' * componentBytes .int ≤ 536870912) (hcells : cells + 1 ≤ R.cells) (hslots : slots + N' ≤ R.slots) (hdg : decode cc pc = .ok (.newarray .int, 2)) (kk : ∀ (q : Nat), tg m q = 0 → q ≠ 0 → ∀ m' : Mm, m' = nA m 27 q N' → ∀ (H1 : Heap), pic G m' H1 → va_S (fr G) s.heap H1 locs → W p l e R s mt args below meth c H1 locs (cells + 1) (slots + N') Q (F0 mt (pc + 2) ls (rn q :: rest))) : W p l e R s mt args below meth c H locs cells slots Q (F0 mt pc ls (.int n :: rest)) :=
  mp_newa (t0 := 1) (atype := .int) (ty := .int) E hp hS (by decide) rfl lk_688 (fun cA h => Option.some.inj (h.symm.trans (E.2.2.2.2.2.1.2.1.2 1 _ rfl).2)) (fun q n' => by rw [ck_27]; simp only [ln_nA, aI_nA, ↓reduceIte]) rfl (fun _ h => h) hn hN hbytes hcells hslots hdg kk
theorem cw_28 {dA : Nat → ClassId} (j : Nat) (v : Int32) : cell dA (wI m 28 a j v) 28 a = .inl (dA 4, ln m a, .inl (upd (fun j => aI m 28 a j) j v)) := by
  rw [ck_28]
  simp only [ln_wI, aI_wI]
  congr 4
  funext x
  simp [upd]
theorem cc_28 {dA : Nat → ClassId} (f : Nat → Int32) : cell dA (wC m 28 a f) 28 a = .inl (dA 4, ln m a, .inl f) := by
  rw [ck_28]
  simp only [ln_wC, aI_wC, and_self, ↓reduceIte]
theorem na_28 (E : En G own cc mL p s mt args meth c) (hp : pic G m H) (hS : va_S (fr G) s.heap H locs) {n : Int32} {N' : Nat} (hn : ¬ n < 0) (hN : n.toNatClampNeg = N') (hbytes : N' * componentBytes .byte ≤ 536870912) (hcells : cells + 1 ≤ R.cells) (hslots : slots + N' ≤ R.slots) (hdg : decode cc pc = .ok (.newarray .byte, 2)) (kk : ∀ (q : Nat), tg m q = 0 → q ≠ 0 → ∀ m' : Mm, m' = nA m 28 q N' → ∀ (H1 : Heap), pic G m' H1 → va_S (fr G) s.heap H1 locs → W p l e R s mt args below meth c H1 locs (cells + 1) (slots + N') Q (F0 mt (pc + 2) ls (rn q :: rest))) : W p l e R s mt args below meth c H locs cells slots Q (F0 mt pc ls (.int n :: rest)) :=
  mp_newa (t0 := 4) (atype := .byte) (ty := .byte) E hp hS (by decide) rfl lk_689 (fun cA h => Option.some.inj (h.symm.trans (E.2.2.2.2.2.1.2.1.2 4 _ rfl).2)) (fun q n' => by rw [ck_28]; simp only [ln_nA, aI_nA, ↓reduceIte]) rfl (fun _ h => h) hn hN hbytes hcells hslots hdg kk
theorem cw_29 {dA : Nat → ClassId} (j : Nat) (v : Int32) : cell dA (wI m 29 a j v) 29 a = .inl (dA 1, ln m a, .inl (upd (fun j => aI m 29 a j) j v)) := by
  rw [ck_29]
  simp only [ln_wI, aI_wI]
  congr 4
  funext x
  simp [upd]
theorem cc_29 {dA : Nat → ClassId} (f : Nat → Int32) : cell dA (wC m 29 a f) 29 a = .inl (dA 1, ln m a, .inl f) := by
  rw [ck_29]
  simp only [ln_wC, aI_wC, and_self, ↓reduceIte]
theorem na_29 (E : En G own cc mL p s mt args meth c) (hp : pic G m H) (hS : va_S (fr G) s.heap H locs) {n : Int32} {N' : Nat} (hn : ¬ n < 0) (hN : n.toNatClampNeg = N') (hbytes : N' * componentBytes .int ≤ 536870912) (hcells : cells + 1 ≤ R.cells) (hslots : slots + N' ≤ R.slots) (hdg : decode cc pc = .ok (.newarray .int, 2)) (kk : ∀ (q : Nat), tg m q = 0 → q ≠ 0 → ∀ m' : Mm, m' = nA m 29 q N' → ∀ (H1 : Heap), pic G m' H1 → va_S (fr G) s.heap H1 locs → W p l e R s mt args below meth c H1 locs (cells + 1) (slots + N') Q (F0 mt (pc + 2) ls (rn q :: rest))) : W p l e R s mt args below meth c H locs cells slots Q (F0 mt pc ls (.int n :: rest)) :=
  mp_newa (t0 := 1) (atype := .int) (ty := .int) E hp hS (by decide) rfl lk_688 (fun cA h => Option.some.inj (h.symm.trans (E.2.2.2.2.2.1.2.1.2 1 _ rfl).2)) (fun q n' => by rw [ck_29]; simp only [ln_nA, aI_nA, ↓reduceIte]) rfl (fun _ h => h) hn hN hbytes hcells hslots hdg kk
theorem cw_30 {dA : Nat → ClassId} (j : Nat) (v : Int32) : cell dA (wI m 30 a j v) 30 a = .inl (dA 1, ln m a, .inl (upd (fun j => aI m 30 a j) j v)) := by
  rw [ck_30]
  simp only [ln_wI, aI_wI]
  congr 4
  funext x
  simp [upd]
theorem cc_30 {dA : Nat → ClassId} (f : Nat → Int32) : cell dA (wC m 30 a f) 30 a = .inl (dA 1, ln m a, .inl f) := by
  rw [ck_30]
  simp only [ln_wC, aI_wC, and_self, ↓reduceIte]
theorem na_30 (E : En G own cc mL p s mt args meth c) (hp : pic G m H) (hS : va_S (fr G) s.heap H locs) {n : Int32} {N' : Nat} (hn : ¬ n < 0) (hN : n.toNatClampNeg = N') (hbytes : N' * componentBytes .int ≤ 536870912) (hcells : cells + 1 ≤ R.cells) (hslots : slots + N' ≤ R.slots) (hdg : decode cc pc = .ok (.newarray .int, 2)) (kk : ∀ (q : Nat), tg m q = 0 → q ≠ 0 → ∀ m' : Mm, m' = nA m 30 q N' → ∀ (H1 : Heap), pic G m' H1 → va_S (fr G) s.heap H1 locs → W p l e R s mt args below meth c H1 locs (cells + 1) (slots + N') Q (F0 mt (pc + 2) ls (rn q :: rest))) : W p l e R s mt args below meth c H locs cells slots Q (F0 mt pc ls (.int n :: rest)) :=
  mp_newa (t0 := 1) (atype := .int) (ty := .int) E hp hS (by decide) rfl lk_688 (fun cA h => Option.some.inj (h.symm.trans (E.2.2.2.2.2.1.2.1.2 1 _ rfl).2)) (fun q n' => by rw [ck_30]; simp only [ln_nA, aI_nA, ↓reduceIte]) rfl (fun _ h => h) hn hN hbytes hcells hslots hdg kk
theorem cw_31 {dA : Nat → ClassId} (j : Nat) (v : Int32) : cell dA (wI m 31 a j v) 31 a = .inl (dA 1, ln m a, .inl (upd (fun j => aI m 31 a j) j v)) := by
  rw [ck_31]
  simp only [ln_wI, aI_wI]
  congr 4
  funext x
  simp [upd]
theorem cc_31 {dA : Nat → ClassId} (f : Nat → Int32) : cell dA (wC m 31 a f) 31 a = .inl (dA 1, ln m a, .inl f) := by
  rw [ck_31]
  simp only [ln_wC, aI_wC, and_self, ↓reduceIte]
theorem na_31 (E : En G own cc mL p s mt args meth c) (hp : pic G m H) (hS : va_S (fr G) s.heap H locs) {n : Int32} {N' : Nat} (hn : ¬ n < 0) (hN : n.toNatClampNeg = N') (hbytes : N' * componentBytes .int ≤ 536870912) (hcells : cells + 1 ≤ R.cells) (hslots : slots + N' ≤ R.slots) (hdg : decode cc pc = .ok (.newarray .int, 2)) (kk : ∀ (q : Nat), tg m q = 0 → q ≠ 0 → ∀ m' : Mm, m' = nA m 31 q N' → ∀ (H1 : Heap), pic G m' H1 → va_S (fr G) s.heap H1 locs → W p l e R s mt args below meth c H1 locs (cells + 1) (slots + N') Q (F0 mt (pc + 2) ls (rn q :: rest))) : W p l e R s mt args below meth c H locs cells slots Q (F0 mt pc ls (.int n :: rest)) :=
  mp_newa (t0 := 1) (atype := .int) (ty := .int) E hp hS (by decide) rfl lk_688 (fun cA h => Option.some.inj (h.symm.trans (E.2.2.2.2.2.1.2.1.2 1 _ rfl).2)) (fun q n' => by rw [ck_31]; simp only [ln_nA, aI_nA, ↓reduceIte]) rfl (fun _ h => h) hn hN hbytes hcells hslots hdg kk
theorem cw_32 {dA : Nat → ClassId} (j : Nat) (v : Int32) : cell dA (wI m 32 a j v) 32 a = .inl (dA 1, ln m a, .inl (upd (fun j => aI m 32 a j) j v)) := by
  rw [ck_32]
  simp only [ln_wI, aI_wI]
  congr 4
  funext x
  simp [upd]
theorem cc_32 {dA : Nat → ClassId} (f : Nat → Int32) : cell dA (wC m 32 a f) 32 a = .inl (dA 1, ln m a, .inl f) := by
  rw [ck_32]
  simp only [ln_wC, aI_wC, and_self, ↓reduceIte]
theorem na_32 (E : En G own cc mL p s mt args meth c) (hp : pic G m H) (hS : va_S (fr G) s.heap H locs) {n : Int32} {N' : Nat} (hn : ¬ n < 0) (hN : n.toNatClampNeg = N') (hbytes : N' * componentBytes .int ≤ 536870912) (hcells : cells + 1 ≤ R.cells) (hslots : slots + N' ≤ R.slots) (hdg : decode cc pc = .ok (.newarray .int, 2)) (kk : ∀ (q : Nat), tg m q = 0 → q ≠ 0 → ∀ m' : Mm, m' = nA m 32 q N' → ∀ (H1 : Heap), pic G m' H1 → va_S (fr G) s.heap H1 locs → W p l e R s mt args below meth c H1 locs (cells + 1) (slots + N') Q (F0 mt (pc + 2) ls (rn q :: rest))) : W p l e R s mt args below meth c H locs cells slots Q (F0 mt pc ls (.int n :: rest)) :=
  mp_newa (t0 := 1) (atype := .int) (ty := .int) E hp hS (by decide) rfl lk_688 (fun cA h => Option.some.inj (h.symm.trans (E.2.2.2.2.2.1.2.1.2 1 _ rfl).2)) (fun q n' => by rw [ck_32]; simp only [ln_nA, aI_nA, ↓reduceIte]) rfl (fun _ h => h) hn hN hbytes hcells hslots hdg kk
theorem cw_33 {dA : Nat → ClassId} (j : Nat) (v : Int32) : cell dA (wI m 33 a j v) 33 a = .inl (dA 1, ln m a, .inl (upd (fun j => aI m 33 a j) j v)) := by
  rw [ck_33]
  simp only [ln_wI, aI_wI]
  congr 4
  funext x
  simp [upd]
theorem cc_33 {dA : Nat → ClassId} (f : Nat → Int32) : cell dA (wC m 33 a f) 33 a = .inl (dA 1, ln m a, .inl f) := by
  rw [ck_33]
  simp only [ln_wC, aI_wC, and_self, ↓reduceIte]
theorem na_33 (E : En G own cc mL p s mt args meth c) (hp : pic G m H) (hS : va_S (fr G) s.heap H locs) {n : Int32} {N' : Nat} (hn : ¬ n < 0) (hN : n.toNatClampNeg = N') (hbytes : N' * componentBytes .int ≤ 536870912) (hcells : cells + 1 ≤ R.cells) (hslots : slots + N' ≤ R.slots) (hdg : decode cc pc = .ok (.newarray .int, 2)) (kk : ∀ (q : Nat), tg m q = 0 → q ≠ 0 → ∀ m' : Mm, m' = nA m 33 q N' → ∀ (H1 : Heap), pic G m' H1 → va_S (fr G) s.heap H1 locs → W p l e R s mt args below meth c H1 locs (cells + 1) (slots + N') Q (F0 mt (pc + 2) ls (rn q :: rest))) : W p l e R s mt args below meth c H locs cells slots Q (F0 mt pc ls (.int n :: rest)) :=
  mp_newa (t0 := 1) (atype := .int) (ty := .int) E hp hS (by decide) rfl lk_688 (fun cA h => Option.some.inj (h.symm.trans (E.2.2.2.2.2.1.2.1.2 1 _ rfl).2)) (fun q n' => by rw [ck_33]; simp only [ln_nA, aI_nA, ↓reduceIte]) rfl (fun _ h => h) hn hN hbytes hcells hslots hdg kk
theorem cw_34 {dA : Nat → ClassId} (j : Nat) (v : Int32) : cell dA (wI m 34 a j v) 34 a = .inl (dA 1, ln m a, .inl (upd (fun j => aI m 34 a j) j v)) := by
  rw [ck_34]
  simp only [ln_wI, aI_wI]
  congr 4
  funext x
  simp [upd]
theorem cc_34 {dA : Nat → ClassId} (f : Nat → Int32) : cell dA (wC m 34 a f) 34 a = .inl (dA 1, ln m a, .inl f) := by
  rw [ck_34]
  simp only [ln_wC, aI_wC, and_self, ↓reduceIte]
theorem na_34 (E : En G own cc mL p s mt args meth c) (hp : pic G m H) (hS : va_S (fr G) s.heap H locs) {n : Int32} {N' : Nat} (hn : ¬ n < 0) (hN : n.toNatClampNeg = N') (hbytes : N' * componentBytes .int ≤ 536870912) (hcells : cells + 1 ≤ R.cells) (hslots : slots + N' ≤ R.slots) (hdg : decode cc pc = .ok (.newarray .int, 2)) (kk : ∀ (q : Nat), tg m q = 0 → q ≠ 0 → ∀ m' : Mm, m' = nA m 34 q N' → ∀ (H1 : Heap), pic G m' H1 → va_S (fr G) s.heap H1 locs → W p l e R s mt args below meth c H1 locs (cells + 1) (slots + N') Q (F0 mt (pc + 2) ls (rn q :: rest))) : W p l e R s mt args below meth c H locs cells slots Q (F0 mt pc ls (.int n :: rest)) :=
  mp_newa (t0 := 1) (atype := .int) (ty := .int) E hp hS (by decide) rfl lk_688 (fun cA h => Option.some.inj (h.symm.trans (E.2.2.2.2.2.1.2.1.2 1 _ rfl).2)) (fun q n' => by rw [ck_34]; simp only [ln_nA, aI_nA, ↓reduceIte]) rfl (fun _ h => h) hn hN hbytes hcells hslots hdg kk
theorem cw_35 {dA : Nat → ClassId} (j : Nat) (v : Int32) : cell dA (wI m 35 a j v) 35 a = .inl (dA 1, ln m a, .inl (upd (fun j => aI m 35 a j) j v)) := by
  rw [ck_35]
  simp only [ln_wI, aI_wI]
  congr 4
  funext x
  simp [upd]
theorem cc_35 {dA : Nat → ClassId} (f : Nat → Int32) : cell dA (wC m 35 a f) 35 a = .inl (dA 1, ln m a, .inl f) := by
  rw [ck_35]
  simp only [ln_wC, aI_wC, and_self, ↓reduceIte]
theorem na_35 (E : En G own cc mL p s mt args meth c) (hp : pic G m H) (hS : va_S (fr G) s.heap H locs) {n : Int32} {N' : Nat} (hn : ¬ n < 0) (hN : n.toNatClampNeg = N') (hbytes : N' * componentBytes .int ≤ 536870912) (hcells : cells + 1 ≤ R.cells) (hslots : slots + N' ≤ R.slots) (hdg : decode cc pc = .ok (.newarray .int, 2)) (kk : ∀ (q : Nat), tg m q = 0 → q ≠ 0 → ∀ m' : Mm, m' = nA m 35 q N' → ∀ (H1 : Heap), pic G m' H1 → va_S (fr G) s.heap H1 locs → W p l e R s mt args below meth c H1 locs (cells + 1) (slots + N') Q (F0 mt (pc + 2) ls (rn q :: rest))) : W p l e R s mt args below meth c H locs cells slots Q (F0 mt pc ls (.int n :: rest)) :=
  mp_newa (t0 := 1) (atype := .int) (ty := .int) E hp hS (by decide) rfl lk_688 (fun cA h => Option.some.inj (h.symm.trans (E.2.2.2.2.2.1.2.1.2 1 _ rfl).2)) (fun q n' => by rw [ck_35]; simp only [ln_nA, aI_nA, ↓reduceIte]) rfl (fun _ h => h) hn hN hbytes hcells hslots hdg kk
theorem cw_36 {dA : Nat → ClassId} (j : Nat) (v : Int32) : cell dA (wI m 36 a j v) 36 a = .inl (dA 5, ln m a, .inl (upd (fun j => aI m 36 a j) j v)) := by
  rw [ck_36]
  simp only [ln_wI, aI_wI]
  congr 4
  funext x
  simp [upd]
theorem cc_36 {dA : Nat → ClassId} (f : Nat → Int32) : cell dA (wC m 36 a f) 36 a = .inl (dA 5, ln m a, .inl f) := by
  rw [ck_36]
  simp only [ln_wC, aI_wC, and_self, ↓reduceIte]
theorem na_36 (E : En G own cc mL p s mt args meth c) (hp : pic G m H) (hS : va_S (fr G) s.heap H locs) {n : Int32} {N' : Nat} (hn : ¬ n < 0) (hN : n.toNatClampNeg = N') (hbytes : N' * componentBytes .boolean ≤ 536870912) (hcells : cells + 1 ≤ R.cells) (hslots : slots + N' ≤ R.slots) (hdg : decode cc pc = .ok (.newarray .boolean, 2)) (kk : ∀ (q : Nat), tg m q = 0 → q ≠ 0 → ∀ m' : Mm, m' = nA m 36 q N' → ∀ (H1 : Heap), pic G m' H1 → va_S (fr G) s.heap H1 locs → W p l e R s mt args below meth c H1 locs (cells + 1) (slots + N') Q (F0 mt (pc + 2) ls (rn q :: rest))) : W p l e R s mt args below meth c H locs cells slots Q (F0 mt pc ls (.int n :: rest)) :=
  mp_newa (t0 := 5) (atype := .boolean) (ty := .boolean) E hp hS (by decide) rfl lk_690 (fun cA h => Option.some.inj (h.symm.trans (E.2.2.2.2.2.1.2.1.2 5 _ rfl).2)) (fun q n' => by rw [ck_36]; simp only [ln_nA, aI_nA, ↓reduceIte]) rfl (fun _ h => h) hn hN hbytes hcells hslots hdg kk
theorem cw_37 {dA : Nat → ClassId} (j : Nat) (v : Int32) : cell dA (wI m 37 a j v) 37 a = .inl (dA 1, ln m a, .inl (upd (fun j => aI m 37 a j) j v)) := by
  rw [ck_37]
  simp only [ln_wI, aI_wI]
  congr 4
  funext x
  simp [upd]
theorem cc_37 {dA : Nat → ClassId} (f : Nat → Int32) : cell dA (wC m 37 a f) 37 a = .inl (dA 1, ln m a, .inl f) := by
  rw [ck_37]
  simp only [ln_wC, aI_wC, and_self, ↓reduceIte]
theorem na_37 (E : En G own cc mL p s mt args meth c) (hp : pic G m H) (hS : va_S (fr G) s.heap H locs) {n : Int32} {N' : Nat} (hn : ¬ n < 0) (hN : n.toNatClampNeg = N') (hbytes : N' * componentBytes .int ≤ 536870912) (hcells : cells + 1 ≤ R.cells) (hslots : slots + N' ≤ R.slots) (hdg : decode cc pc = .ok (.newarray .int, 2)) (kk : ∀ (q : Nat), tg m q = 0 → q ≠ 0 → ∀ m' : Mm, m' = nA m 37 q N' → ∀ (H1 : Heap), pic G m' H1 → va_S (fr G) s.heap H1 locs → W p l e R s mt args below meth c H1 locs (cells + 1) (slots + N') Q (F0 mt (pc + 2) ls (rn q :: rest))) : W p l e R s mt args below meth c H locs cells slots Q (F0 mt pc ls (.int n :: rest)) :=
  mp_newa (t0 := 1) (atype := .int) (ty := .int) E hp hS (by decide) rfl lk_688 (fun cA h => Option.some.inj (h.symm.trans (E.2.2.2.2.2.1.2.1.2 1 _ rfl).2)) (fun q n' => by rw [ck_37]; simp only [ln_nA, aI_nA, ↓reduceIte]) rfl (fun _ h => h) hn hN hbytes hcells hslots hdg kk
theorem cw_38 {dA : Nat → ClassId} (j : Nat) (v : Int32) : cell dA (wI m 38 a j v) 38 a = .inl (dA 4, ln m a, .inl (upd (fun j => aI m 38 a j) j v)) := by
  rw [ck_38]
  simp only [ln_wI, aI_wI]
  congr 4
  funext x
  simp [upd]
theorem cc_38 {dA : Nat → ClassId} (f : Nat → Int32) : cell dA (wC m 38 a f) 38 a = .inl (dA 4, ln m a, .inl f) := by
  rw [ck_38]
  simp only [ln_wC, aI_wC, and_self, ↓reduceIte]
theorem na_38 (E : En G own cc mL p s mt args meth c) (hp : pic G m H) (hS : va_S (fr G) s.heap H locs) {n : Int32} {N' : Nat} (hn : ¬ n < 0) (hN : n.toNatClampNeg = N') (hbytes : N' * componentBytes .byte ≤ 536870912) (hcells : cells + 1 ≤ R.cells) (hslots : slots + N' ≤ R.slots) (hdg : decode cc pc = .ok (.newarray .byte, 2)) (kk : ∀ (q : Nat), tg m q = 0 → q ≠ 0 → ∀ m' : Mm, m' = nA m 38 q N' → ∀ (H1 : Heap), pic G m' H1 → va_S (fr G) s.heap H1 locs → W p l e R s mt args below meth c H1 locs (cells + 1) (slots + N') Q (F0 mt (pc + 2) ls (rn q :: rest))) : W p l e R s mt args below meth c H locs cells slots Q (F0 mt pc ls (.int n :: rest)) :=
  mp_newa (t0 := 4) (atype := .byte) (ty := .byte) E hp hS (by decide) rfl lk_689 (fun cA h => Option.some.inj (h.symm.trans (E.2.2.2.2.2.1.2.1.2 4 _ rfl).2)) (fun q n' => by rw [ck_38]; simp only [ln_nA, aI_nA, ↓reduceIte]) rfl (fun _ h => h) hn hN hbytes hcells hslots hdg kk
theorem cw_39 {dA : Nat → ClassId} (j : Nat) (v : Int32) : cell dA (wI m 39 a j v) 39 a = .inl (dA 4, ln m a, .inl (upd (fun j => aI m 39 a j) j v)) := by
  rw [ck_39]
  simp only [ln_wI, aI_wI]
  congr 4
  funext x
  simp [upd]
theorem cc_39 {dA : Nat → ClassId} (f : Nat → Int32) : cell dA (wC m 39 a f) 39 a = .inl (dA 4, ln m a, .inl f) := by
  rw [ck_39]
  simp only [ln_wC, aI_wC, and_self, ↓reduceIte]
theorem na_39 (E : En G own cc mL p s mt args meth c) (hp : pic G m H) (hS : va_S (fr G) s.heap H locs) {n : Int32} {N' : Nat} (hn : ¬ n < 0) (hN : n.toNatClampNeg = N') (hbytes : N' * componentBytes .byte ≤ 536870912) (hcells : cells + 1 ≤ R.cells) (hslots : slots + N' ≤ R.slots) (hdg : decode cc pc = .ok (.newarray .byte, 2)) (kk : ∀ (q : Nat), tg m q = 0 → q ≠ 0 → ∀ m' : Mm, m' = nA m 39 q N' → ∀ (H1 : Heap), pic G m' H1 → va_S (fr G) s.heap H1 locs → W p l e R s mt args below meth c H1 locs (cells + 1) (slots + N') Q (F0 mt (pc + 2) ls (rn q :: rest))) : W p l e R s mt args below meth c H locs cells slots Q (F0 mt pc ls (.int n :: rest)) :=
  mp_newa (t0 := 4) (atype := .byte) (ty := .byte) E hp hS (by decide) rfl lk_689 (fun cA h => Option.some.inj (h.symm.trans (E.2.2.2.2.2.1.2.1.2 4 _ rfl).2)) (fun q n' => by rw [ck_39]; simp only [ln_nA, aI_nA, ↓reduceIte]) rfl (fun _ h => h) hn hN hbytes hcells hslots hdg kk
theorem cw_40 {dA : Nat → ClassId} (j : Nat) (v : Int32) : cell dA (wI m 40 a j v) 40 a = .inl (dA 5, ln m a, .inl (upd (fun j => aI m 40 a j) j v)) := by
  rw [ck_40]
  simp only [ln_wI, aI_wI]
  congr 4
  funext x
  simp [upd]
theorem cc_40 {dA : Nat → ClassId} (f : Nat → Int32) : cell dA (wC m 40 a f) 40 a = .inl (dA 5, ln m a, .inl f) := by
  rw [ck_40]
  simp only [ln_wC, aI_wC, and_self, ↓reduceIte]
theorem na_40 (E : En G own cc mL p s mt args meth c) (hp : pic G m H) (hS : va_S (fr G) s.heap H locs) {n : Int32} {N' : Nat} (hn : ¬ n < 0) (hN : n.toNatClampNeg = N') (hbytes : N' * componentBytes .boolean ≤ 536870912) (hcells : cells + 1 ≤ R.cells) (hslots : slots + N' ≤ R.slots) (hdg : decode cc pc = .ok (.newarray .boolean, 2)) (kk : ∀ (q : Nat), tg m q = 0 → q ≠ 0 → ∀ m' : Mm, m' = nA m 40 q N' → ∀ (H1 : Heap), pic G m' H1 → va_S (fr G) s.heap H1 locs → W p l e R s mt args below meth c H1 locs (cells + 1) (slots + N') Q (F0 mt (pc + 2) ls (rn q :: rest))) : W p l e R s mt args below meth c H locs cells slots Q (F0 mt pc ls (.int n :: rest)) :=
  mp_newa (t0 := 5) (atype := .boolean) (ty := .boolean) E hp hS (by decide) rfl lk_690 (fun cA h => Option.some.inj (h.symm.trans (E.2.2.2.2.2.1.2.1.2 5 _ rfl).2)) (fun q n' => by rw [ck_40]; simp only [ln_nA, aI_nA, ↓reduceIte]) rfl (fun _ h => h) hn hN hbytes hcells hslots hdg kk
theorem cw_41 {dA : Nat → ClassId} (j : Nat) (v : Int32) : cell dA (wI m 41 a j v) 41 a = .inl (dA 1, ln m a, .inl (upd (fun j => aI m 41 a j) j v)) := by
  rw [ck_41]
  simp only [ln_wI, aI_wI]
  congr 4
  funext x
  simp [upd]
theorem cc_41 {dA : Nat → ClassId} (f : Nat → Int32) : cell dA (wC m 41 a f) 41 a = .inl (dA 1, ln m a, .inl f) := by
  rw [ck_41]
  simp only [ln_wC, aI_wC, and_self, ↓reduceIte]
theorem na_41 (E : En G own cc mL p s mt args meth c) (hp : pic G m H) (hS : va_S (fr G) s.heap H locs) {n : Int32} {N' : Nat} (hn : ¬ n < 0) (hN : n.toNatClampNeg = N') (hbytes : N' * componentBytes .int ≤ 536870912) (hcells : cells + 1 ≤ R.cells) (hslots : slots + N' ≤ R.slots) (hdg : decode cc pc = .ok (.newarray .int, 2)) (kk : ∀ (q : Nat), tg m q = 0 → q ≠ 0 → ∀ m' : Mm, m' = nA m 41 q N' → ∀ (H1 : Heap), pic G m' H1 → va_S (fr G) s.heap H1 locs → W p l e R s mt args below meth c H1 locs (cells + 1) (slots + N') Q (F0 mt (pc + 2) ls (rn q :: rest))) : W p l e R s mt args below meth c H locs cells slots Q (F0 mt pc ls (.int n :: rest)) :=
  mp_newa (t0 := 1) (atype := .int) (ty := .int) E hp hS (by decide) rfl lk_688 (fun cA h => Option.some.inj (h.symm.trans (E.2.2.2.2.2.1.2.1.2 1 _ rfl).2)) (fun q n' => by rw [ck_41]; simp only [ln_nA, aI_nA, ↓reduceIte]) rfl (fun _ h => h) hn hN hbytes hcells hslots hdg kk
theorem cw_42 {dA : Nat → ClassId} (j : Nat) (v : Int32) : cell dA (wI m 42 a j v) 42 a = .inl (dA 1, ln m a, .inl (upd (fun j => aI m 42 a j) j v)) := by
  rw [ck_42]
  simp only [ln_wI, aI_wI]
  congr 4
  funext x
  simp [upd]
theorem cc_42 {dA : Nat → ClassId} (f : Nat → Int32) : cell dA (wC m 42 a f) 42 a = .inl (dA 1, ln m a, .inl f) := by
  rw [ck_42]
  simp only [ln_wC, aI_wC, and_self, ↓reduceIte]
theorem na_42 (E : En G own cc mL p s mt args meth c) (hp : pic G m H) (hS : va_S (fr G) s.heap H locs) {n : Int32} {N' : Nat} (hn : ¬ n < 0) (hN : n.toNatClampNeg = N') (hbytes : N' * componentBytes .int ≤ 536870912) (hcells : cells + 1 ≤ R.cells) (hslots : slots + N' ≤ R.slots) (hdg : decode cc pc = .ok (.newarray .int, 2)) (kk : ∀ (q : Nat), tg m q = 0 → q ≠ 0 → ∀ m' : Mm, m' = nA m 42 q N' → ∀ (H1 : Heap), pic G m' H1 → va_S (fr G) s.heap H1 locs → W p l e R s mt args below meth c H1 locs (cells + 1) (slots + N') Q (F0 mt (pc + 2) ls (rn q :: rest))) : W p l e R s mt args below meth c H locs cells slots Q (F0 mt pc ls (.int n :: rest)) :=
  mp_newa (t0 := 1) (atype := .int) (ty := .int) E hp hS (by decide) rfl lk_688 (fun cA h => Option.some.inj (h.symm.trans (E.2.2.2.2.2.1.2.1.2 1 _ rfl).2)) (fun q n' => by rw [ck_42]; simp only [ln_nA, aI_nA, ↓reduceIte]) rfl (fun _ h => h) hn hN hbytes hcells hslots hdg kk
theorem cw_43 {dA : Nat → ClassId} (j : Nat) (v : Int32) : cell dA (wI m 43 a j v) 43 a = .inl (dA 1, ln m a, .inl (upd (fun j => aI m 43 a j) j v)) := by
  rw [ck_43]
  simp only [ln_wI, aI_wI]
  congr 4
  funext x
  simp [upd]
theorem cc_43 {dA : Nat → ClassId} (f : Nat → Int32) : cell dA (wC m 43 a f) 43 a = .inl (dA 1, ln m a, .inl f) := by
  rw [ck_43]
  simp only [ln_wC, aI_wC, and_self, ↓reduceIte]
theorem na_43 (E : En G own cc mL p s mt args meth c) (hp : pic G m H) (hS : va_S (fr G) s.heap H locs) {n : Int32} {N' : Nat} (hn : ¬ n < 0) (hN : n.toNatClampNeg = N') (hbytes : N' * componentBytes .int ≤ 536870912) (hcells : cells + 1 ≤ R.cells) (hslots : slots + N' ≤ R.slots) (hdg : decode cc pc = .ok (.newarray .int, 2)) (kk : ∀ (q : Nat), tg m q = 0 → q ≠ 0 → ∀ m' : Mm, m' = nA m 43 q N' → ∀ (H1 : Heap), pic G m' H1 → va_S (fr G) s.heap H1 locs → W p l e R s mt args below meth c H1 locs (cells + 1) (slots + N') Q (F0 mt (pc + 2) ls (rn q :: rest))) : W p l e R s mt args below meth c H locs cells slots Q (F0 mt pc ls (.int n :: rest)) :=
  mp_newa (t0 := 1) (atype := .int) (ty := .int) E hp hS (by decide) rfl lk_688 (fun cA h => Option.some.inj (h.symm.trans (E.2.2.2.2.2.1.2.1.2 1 _ rfl).2)) (fun q n' => by rw [ck_43]; simp only [ln_nA, aI_nA, ↓reduceIte]) rfl (fun _ h => h) hn hN hbytes hcells hslots hdg kk
theorem cw_44 {dA : Nat → ClassId} (j : Nat) (v : Int32) : cell dA (wI m 44 a j v) 44 a = .inl (dA 1, ln m a, .inl (upd (fun j => aI m 44 a j) j v)) := by
  rw [ck_44]
  simp only [ln_wI, aI_wI]
  congr 4
  funext x
  simp [upd]
theorem cc_44 {dA : Nat → ClassId} (f : Nat → Int32) : cell dA (wC m 44 a f) 44 a = .inl (dA 1, ln m a, .inl f) := by
  rw [ck_44]
  simp only [ln_wC, aI_wC, and_self, ↓reduceIte]
theorem na_44 (E : En G own cc mL p s mt args meth c) (hp : pic G m H) (hS : va_S (fr G) s.heap H locs) {n : Int32} {N' : Nat} (hn : ¬ n < 0) (hN : n.toNatClampNeg = N') (hbytes : N' * componentBytes .int ≤ 536870912) (hcells : cells + 1 ≤ R.cells) (hslots : slots + N' ≤ R.slots) (hdg : decode cc pc = .ok (.newarray .int, 2)) (kk : ∀ (q : Nat), tg m q = 0 → q ≠ 0 → ∀ m' : Mm, m' = nA m 44 q N' → ∀ (H1 : Heap), pic G m' H1 → va_S (fr G) s.heap H1 locs → W p l e R s mt args below meth c H1 locs (cells + 1) (slots + N') Q (F0 mt (pc + 2) ls (rn q :: rest))) : W p l e R s mt args below meth c H locs cells slots Q (F0 mt pc ls (.int n :: rest)) :=
  mp_newa (t0 := 1) (atype := .int) (ty := .int) E hp hS (by decide) rfl lk_688 (fun cA h => Option.some.inj (h.symm.trans (E.2.2.2.2.2.1.2.1.2 1 _ rfl).2)) (fun q n' => by rw [ck_44]; simp only [ln_nA, aI_nA, ↓reduceIte]) rfl (fun _ h => h) hn hN hbytes hcells hslots hdg kk
theorem cw_45 {dA : Nat → ClassId} (j : Nat) (v : Int32) : cell dA (wI m 45 a j v) 45 a = .inl (dA 1, ln m a, .inl (upd (fun j => aI m 45 a j) j v)) := by
  rw [ck_45]
  simp only [ln_wI, aI_wI]
  congr 4
  funext x
  simp [upd]
theorem cc_45 {dA : Nat → ClassId} (f : Nat → Int32) : cell dA (wC m 45 a f) 45 a = .inl (dA 1, ln m a, .inl f) := by
  rw [ck_45]
  simp only [ln_wC, aI_wC, and_self, ↓reduceIte]
theorem na_45 (E : En G own cc mL p s mt args meth c) (hp : pic G m H) (hS : va_S (fr G) s.heap H locs) {n : Int32} {N' : Nat} (hn : ¬ n < 0) (hN : n.toNatClampNeg = N') (hbytes : N' * componentBytes .int ≤ 536870912) (hcells : cells + 1 ≤ R.cells) (hslots : slots + N' ≤ R.slots) (hdg : decode cc pc = .ok (.newarray .int, 2)) (kk : ∀ (q : Nat), tg m q = 0 → q ≠ 0 → ∀ m' : Mm, m' = nA m 45 q N' → ∀ (H1 : Heap), pic G m' H1 → va_S (fr G) s.heap H1 locs → W p l e R s mt args below meth c H1 locs (cells + 1) (slots + N') Q (F0 mt (pc + 2) ls (rn q :: rest))) : W p l e R s mt args below meth c H locs cells slots Q (F0 mt pc ls (.int n :: rest)) :=
  mp_newa (t0 := 1) (atype := .int) (ty := .int) E hp hS (by decide) rfl lk_688 (fun cA h => Option.some.inj (h.symm.trans (E.2.2.2.2.2.1.2.1.2 1 _ rfl).2)) (fun q n' => by rw [ck_45]; simp only [ln_nA, aI_nA, ↓reduceIte]) rfl (fun _ h => h) hn hN hbytes hcells hslots hdg kk
theorem cw_46 {dA : Nat → ClassId} (j : Nat) (v : Int32) : cell dA (wI m 46 a j v) 46 a = .inl (dA 1, ln m a, .inl (upd (fun j => aI m 46 a j) j v)) := by
  rw [ck_46]
  simp only [ln_wI, aI_wI]
  congr 4
  funext x
  simp [upd]
theorem cc_46 {dA : Nat → ClassId} (f : Nat → Int32) : cell dA (wC m 46 a f) 46 a = .inl (dA 1, ln m a, .inl f) := by
  rw [ck_46]
  simp only [ln_wC, aI_wC, and_self, ↓reduceIte]
theorem na_46 (E : En G own cc mL p s mt args meth c) (hp : pic G m H) (hS : va_S (fr G) s.heap H locs) {n : Int32} {N' : Nat} (hn : ¬ n < 0) (hN : n.toNatClampNeg = N') (hbytes : N' * componentBytes .int ≤ 536870912) (hcells : cells + 1 ≤ R.cells) (hslots : slots + N' ≤ R.slots) (hdg : decode cc pc = .ok (.newarray .int, 2)) (kk : ∀ (q : Nat), tg m q = 0 → q ≠ 0 → ∀ m' : Mm, m' = nA m 46 q N' → ∀ (H1 : Heap), pic G m' H1 → va_S (fr G) s.heap H1 locs → W p l e R s mt args below meth c H1 locs (cells + 1) (slots + N') Q (F0 mt (pc + 2) ls (rn q :: rest))) : W p l e R s mt args below meth c H locs cells slots Q (F0 mt pc ls (.int n :: rest)) :=
  mp_newa (t0 := 1) (atype := .int) (ty := .int) E hp hS (by decide) rfl lk_688 (fun cA h => Option.some.inj (h.symm.trans (E.2.2.2.2.2.1.2.1.2 1 _ rfl).2)) (fun q n' => by rw [ck_46]; simp only [ln_nA, aI_nA, ↓reduceIte]) rfl (fun _ h => h) hn hN hbytes hcells hslots hdg kk
theorem cw_47 {dA : Nat → ClassId} (j : Nat) (v : Int32) : cell dA (wI m 47 a j v) 47 a = .inl (dA 5, ln m a, .inl (upd (fun j => aI m 47 a j) j v)) := by
  rw [ck_47]
  simp only [ln_wI, aI_wI]
  congr 4
  funext x
  simp [upd]
theorem cc_47 {dA : Nat → ClassId} (f : Nat → Int32) : cell dA (wC m 47 a f) 47 a = .inl (dA 5, ln m a, .inl f) := by
  rw [ck_47]
  simp only [ln_wC, aI_wC, and_self, ↓reduceIte]
theorem na_47 (E : En G own cc mL p s mt args meth c) (hp : pic G m H) (hS : va_S (fr G) s.heap H locs) {n : Int32} {N' : Nat} (hn : ¬ n < 0) (hN : n.toNatClampNeg = N') (hbytes : N' * componentBytes .boolean ≤ 536870912) (hcells : cells + 1 ≤ R.cells) (hslots : slots + N' ≤ R.slots) (hdg : decode cc pc = .ok (.newarray .boolean, 2)) (kk : ∀ (q : Nat), tg m q = 0 → q ≠ 0 → ∀ m' : Mm, m' = nA m 47 q N' → ∀ (H1 : Heap), pic G m' H1 → va_S (fr G) s.heap H1 locs → W p l e R s mt args below meth c H1 locs (cells + 1) (slots + N') Q (F0 mt (pc + 2) ls (rn q :: rest))) : W p l e R s mt args below meth c H locs cells slots Q (F0 mt pc ls (.int n :: rest)) :=
  mp_newa (t0 := 5) (atype := .boolean) (ty := .boolean) E hp hS (by decide) rfl lk_690 (fun cA h => Option.some.inj (h.symm.trans (E.2.2.2.2.2.1.2.1.2 5 _ rfl).2)) (fun q n' => by rw [ck_47]; simp only [ln_nA, aI_nA, ↓reduceIte]) rfl (fun _ h => h) hn hN hbytes hcells hslots hdg kk
theorem cw_48 {dA : Nat → ClassId} (j : Nat) (v : Int32) : cell dA (wI m 48 a j v) 48 a = .inl (dA 1, ln m a, .inl (upd (fun j => aI m 48 a j) j v)) := by
  rw [ck_48]
  simp only [ln_wI, aI_wI]
  congr 4
  funext x
  simp [upd]
theorem cc_48 {dA : Nat → ClassId} (f : Nat → Int32) : cell dA (wC m 48 a f) 48 a = .inl (dA 1, ln m a, .inl f) := by
  rw [ck_48]
  simp only [ln_wC, aI_wC, and_self, ↓reduceIte]
theorem na_48 (E : En G own cc mL p s mt args meth c) (hp : pic G m H) (hS : va_S (fr G) s.heap H locs) {n : Int32} {N' : Nat} (hn : ¬ n < 0) (hN : n.toNatClampNeg = N') (hbytes : N' * componentBytes .int ≤ 536870912) (hcells : cells + 1 ≤ R.cells) (hslots : slots + N' ≤ R.slots) (hdg : decode cc pc = .ok (.newarray .int, 2)) (kk : ∀ (q : Nat), tg m q = 0 → q ≠ 0 → ∀ m' : Mm, m' = nA m 48 q N' → ∀ (H1 : Heap), pic G m' H1 → va_S (fr G) s.heap H1 locs → W p l e R s mt args below meth c H1 locs (cells + 1) (slots + N') Q (F0 mt (pc + 2) ls (rn q :: rest))) : W p l e R s mt args below meth c H locs cells slots Q (F0 mt pc ls (.int n :: rest)) :=
  mp_newa (t0 := 1) (atype := .int) (ty := .int) E hp hS (by decide) rfl lk_688 (fun cA h => Option.some.inj (h.symm.trans (E.2.2.2.2.2.1.2.1.2 1 _ rfl).2)) (fun q n' => by rw [ck_48]; simp only [ln_nA, aI_nA, ↓reduceIte]) rfl (fun _ h => h) hn hN hbytes hcells hslots hdg kk
theorem cw_49 {dA : Nat → ClassId} (j : Nat) (v : Int32) : cell dA (wI m 49 a j v) 49 a = .inl (dA 1, ln m a, .inl (upd (fun j => aI m 49 a j) j v)) := by
  rw [ck_49]
  simp only [ln_wI, aI_wI]
  congr 4
  funext x
  simp [upd]
theorem cc_49 {dA : Nat → ClassId} (f : Nat → Int32) : cell dA (wC m 49 a f) 49 a = .inl (dA 1, ln m a, .inl f) := by
  rw [ck_49]
  simp only [ln_wC, aI_wC, and_self, ↓reduceIte]
theorem na_49 (E : En G own cc mL p s mt args meth c) (hp : pic G m H) (hS : va_S (fr G) s.heap H locs) {n : Int32} {N' : Nat} (hn : ¬ n < 0) (hN : n.toNatClampNeg = N') (hbytes : N' * componentBytes .int ≤ 536870912) (hcells : cells + 1 ≤ R.cells) (hslots : slots + N' ≤ R.slots) (hdg : decode cc pc = .ok (.newarray .int, 2)) (kk : ∀ (q : Nat), tg m q = 0 → q ≠ 0 → ∀ m' : Mm, m' = nA m 49 q N' → ∀ (H1 : Heap), pic G m' H1 → va_S (fr G) s.heap H1 locs → W p l e R s mt args below meth c H1 locs (cells + 1) (slots + N') Q (F0 mt (pc + 2) ls (rn q :: rest))) : W p l e R s mt args below meth c H locs cells slots Q (F0 mt pc ls (.int n :: rest)) :=
  mp_newa (t0 := 1) (atype := .int) (ty := .int) E hp hS (by decide) rfl lk_688 (fun cA h => Option.some.inj (h.symm.trans (E.2.2.2.2.2.1.2.1.2 1 _ rfl).2)) (fun q n' => by rw [ck_49]; simp only [ln_nA, aI_nA, ↓reduceIte]) rfl (fun _ h => h) hn hN hbytes hcells hslots hdg kk
theorem cw_50 {dA : Nat → ClassId} (j : Nat) (v : Int32) : cell dA (wI m 50 a j v) 50 a = .inl (dA 1, ln m a, .inl (upd (fun j => aI m 50 a j) j v)) := by
  rw [ck_50]
  simp only [ln_wI, aI_wI]
  congr 4
  funext x
  simp [upd]
theorem cc_50 {dA : Nat → ClassId} (f : Nat → Int32) : cell dA (wC m 50 a f) 50 a = .inl (dA 1, ln m a, .inl f) := by
  rw [ck_50]
  simp only [ln_wC, aI_wC, and_self, ↓reduceIte]
theorem na_50 (E : En G own cc mL p s mt args meth c) (hp : pic G m H) (hS : va_S (fr G) s.heap H locs) {n : Int32} {N' : Nat} (hn : ¬ n < 0) (hN : n.toNatClampNeg = N') (hbytes : N' * componentBytes .int ≤ 536870912) (hcells : cells + 1 ≤ R.cells) (hslots : slots + N' ≤ R.slots) (hdg : decode cc pc = .ok (.newarray .int, 2)) (kk : ∀ (q : Nat), tg m q = 0 → q ≠ 0 → ∀ m' : Mm, m' = nA m 50 q N' → ∀ (H1 : Heap), pic G m' H1 → va_S (fr G) s.heap H1 locs → W p l e R s mt args below meth c H1 locs (cells + 1) (slots + N') Q (F0 mt (pc + 2) ls (rn q :: rest))) : W p l e R s mt args below meth c H locs cells slots Q (F0 mt pc ls (.int n :: rest)) :=
  mp_newa (t0 := 1) (atype := .int) (ty := .int) E hp hS (by decide) rfl lk_688 (fun cA h => Option.some.inj (h.symm.trans (E.2.2.2.2.2.1.2.1.2 1 _ rfl).2)) (fun q n' => by rw [ck_50]; simp only [ln_nA, aI_nA, ↓reduceIte]) rfl (fun _ h => h) hn hN hbytes hcells hslots hdg kk
theorem cw_51 {dA : Nat → ClassId} (j : Nat) (v : Int32) : cell dA (wI m 51 a j v) 51 a = .inl (dA 1, ln m a, .inl (upd (fun j => aI m 51 a j) j v)) := by
  rw [ck_51]
  simp only [ln_wI, aI_wI]
  congr 4
  funext x
  simp [upd]
theorem cc_51 {dA : Nat → ClassId} (f : Nat → Int32) : cell dA (wC m 51 a f) 51 a = .inl (dA 1, ln m a, .inl f) := by
  rw [ck_51]
  simp only [ln_wC, aI_wC, and_self, ↓reduceIte]
theorem na_51 (E : En G own cc mL p s mt args meth c) (hp : pic G m H) (hS : va_S (fr G) s.heap H locs) {n : Int32} {N' : Nat} (hn : ¬ n < 0) (hN : n.toNatClampNeg = N') (hbytes : N' * componentBytes .int ≤ 536870912) (hcells : cells + 1 ≤ R.cells) (hslots : slots + N' ≤ R.slots) (hdg : decode cc pc = .ok (.newarray .int, 2)) (kk : ∀ (q : Nat), tg m q = 0 → q ≠ 0 → ∀ m' : Mm, m' = nA m 51 q N' → ∀ (H1 : Heap), pic G m' H1 → va_S (fr G) s.heap H1 locs → W p l e R s mt args below meth c H1 locs (cells + 1) (slots + N') Q (F0 mt (pc + 2) ls (rn q :: rest))) : W p l e R s mt args below meth c H locs cells slots Q (F0 mt pc ls (.int n :: rest)) :=
  mp_newa (t0 := 1) (atype := .int) (ty := .int) E hp hS (by decide) rfl lk_688 (fun cA h => Option.some.inj (h.symm.trans (E.2.2.2.2.2.1.2.1.2 1 _ rfl).2)) (fun q n' => by rw [ck_51]; simp only [ln_nA, aI_nA, ↓reduceIte]) rfl (fun _ h => h) hn hN hbytes hcells hslots hdg kk
end FR
section SR
variable {p : Program} {l : Launch} {e : Env} {R : Room} {s : State} {mt : MethodId} {args : Array Value} {below : List Frame} {meth : Method} {c : Code} {H : Heap} {locs : List Loc} {cells slots : Nat} {Q : State → Prop} {cc : ByteArray} {pc mL : Nat} {ls : Array Slot} {rest : List Value} {G : Gc} {own : String} {m : Mm} {a : Nat}
theorem rs_0 (E : En G own cc mL p s mt args meth c) (hS : va_S (fr G) s.heap H locs) {idx : Nat} (hl : Cond.fieldLink own idx "MachineLoop" "SETTING_AT_FIRST" "[I" ∈ lw_good) (hdg : decode cc pc = .ok (.getstatic idx, 3)) (kk : W p l e R s mt args below meth c H locs cells slots Q (F0 mt (pc + 3) ls (.ref (G.2.2.1 0) :: rest))) : W p l e R s mt args below meth c H locs cells slots Q (F0 mt pc ls rest) :=
  va_gets E.1 E.2.1 (Cx_z0 E.2.2.2.2.2.1) hS E.2.2.2.1 (E.2.2.2.2.1 _ hl) (fun _ h9 => h9) hdg kk
theorem rsN_0 (E : En G own cc mL p s mt args meth c) (hS : va_S (fr G) s.heap H locs) {idx : Nat} {host : String} (hl : va_Nw (.fieldLinkNest own idx "MachineLoop" "SETTING_AT_FIRST" "[I" host) s) (hdg : decode cc pc = .ok (.getstatic idx, 3)) (kk : W p l e R s mt args below meth c H locs cells slots Q (F0 mt (pc + 3) ls (.ref (G.2.2.1 0) :: rest))) : W p l e R s mt args below meth c H locs cells slots Q (F0 mt pc ls rest) :=
  va_getsN E.1 E.2.1 (Cx_z0 E.2.2.2.2.2.1) hS E.2.2.2.1 (va_Nw.use rfl hl) (fun _ h9 => h9) hdg kk
theorem rt_0 (E : En G own cc mL p s mt args meth c) (hS : va_S (fr G) s.heap H locs) {i : Int32} (hin : vp_in i 4) (hdg : decode cc pc = .ok (.iaload, 1)) (kk : ∀ x : Int32, x = tab_0 i.toNatClampNeg → W p l e R s mt args below meth c H locs cells slots Q (F0 mt (pc + 1) ls (.int x :: rest))) : W p l e R s mt args below meth c H locs cells slots Q (F0 mt pc ls (.int i :: .ref (G.2.2.1 0) :: rest)) :=
  va_ti E.1 E.2.1 (Cx_t0 E.2.2.2.2.2.1) hS hin rfl hdg (kk _ rfl)
theorem rs_1 (E : En G own cc mL p s mt args meth c) (hS : va_S (fr G) s.heap H locs) {idx : Nat} (hl : Cond.fieldLink own idx "MachineLoop" "SETTING_LEAST" "[I" ∈ lw_good) (hdg : decode cc pc = .ok (.getstatic idx, 3)) (kk : W p l e R s mt args below meth c H locs cells slots Q (F0 mt (pc + 3) ls (.ref (G.2.2.1 1) :: rest))) : W p l e R s mt args below meth c H locs cells slots Q (F0 mt pc ls rest) :=
  va_gets E.1 E.2.1 (Cx_z1 E.2.2.2.2.2.1) hS E.2.2.2.1 (E.2.2.2.2.1 _ hl) (fun _ h9 => h9) hdg kk
theorem rsN_1 (E : En G own cc mL p s mt args meth c) (hS : va_S (fr G) s.heap H locs) {idx : Nat} {host : String} (hl : va_Nw (.fieldLinkNest own idx "MachineLoop" "SETTING_LEAST" "[I" host) s) (hdg : decode cc pc = .ok (.getstatic idx, 3)) (kk : W p l e R s mt args below meth c H locs cells slots Q (F0 mt (pc + 3) ls (.ref (G.2.2.1 1) :: rest))) : W p l e R s mt args below meth c H locs cells slots Q (F0 mt pc ls rest) :=
  va_getsN E.1 E.2.1 (Cx_z1 E.2.2.2.2.2.1) hS E.2.2.2.1 (va_Nw.use rfl hl) (fun _ h9 => h9) hdg kk
theorem rt_1 (E : En G own cc mL p s mt args meth c) (hS : va_S (fr G) s.heap H locs) {i : Int32} (hin : vp_in i 4) (hdg : decode cc pc = .ok (.iaload, 1)) (kk : ∀ x : Int32, x = tab_1 i.toNatClampNeg → W p l e R s mt args below meth c H locs cells slots Q (F0 mt (pc + 1) ls (.int x :: rest))) : W p l e R s mt args below meth c H locs cells slots Q (F0 mt pc ls (.int i :: .ref (G.2.2.1 1) :: rest)) :=
  va_ti E.1 E.2.1 (Cx_t1 E.2.2.2.2.2.1) hS hin rfl hdg (kk _ rfl)
theorem rs_2 (E : En G own cc mL p s mt args meth c) (hS : va_S (fr G) s.heap H locs) {idx : Nat} (hl : Cond.fieldLink own idx "MachineLoop" "SETTING_MOST" "[I" ∈ lw_good) (hdg : decode cc pc = .ok (.getstatic idx, 3)) (kk : W p l e R s mt args below meth c H locs cells slots Q (F0 mt (pc + 3) ls (.ref (G.2.2.1 2) :: rest))) : W p l e R s mt args below meth c H locs cells slots Q (F0 mt pc ls rest) :=
  va_gets E.1 E.2.1 (Cx_z2 E.2.2.2.2.2.1) hS E.2.2.2.1 (E.2.2.2.2.1 _ hl) (fun _ h9 => h9) hdg kk
theorem rsN_2 (E : En G own cc mL p s mt args meth c) (hS : va_S (fr G) s.heap H locs) {idx : Nat} {host : String} (hl : va_Nw (.fieldLinkNest own idx "MachineLoop" "SETTING_MOST" "[I" host) s) (hdg : decode cc pc = .ok (.getstatic idx, 3)) (kk : W p l e R s mt args below meth c H locs cells slots Q (F0 mt (pc + 3) ls (.ref (G.2.2.1 2) :: rest))) : W p l e R s mt args below meth c H locs cells slots Q (F0 mt pc ls rest) :=
  va_getsN E.1 E.2.1 (Cx_z2 E.2.2.2.2.2.1) hS E.2.2.2.1 (va_Nw.use rfl hl) (fun _ h9 => h9) hdg kk
theorem rt_2 (E : En G own cc mL p s mt args meth c) (hS : va_S (fr G) s.heap H locs) {i : Int32} (hin : vp_in i 4) (hdg : decode cc pc = .ok (.iaload, 1)) (kk : ∀ x : Int32, x = tab_2 i.toNatClampNeg → W p l e R s mt args below meth c H locs cells slots Q (F0 mt (pc + 1) ls (.int x :: rest))) : W p l e R s mt args below meth c H locs cells slots Q (F0 mt pc ls (.int i :: .ref (G.2.2.1 2) :: rest)) :=
  va_ti E.1 E.2.1 (Cx_t2 E.2.2.2.2.2.1) hS hin rfl hdg (kk _ rfl)
end SR
end
