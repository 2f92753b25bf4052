section
-- ===== PART A: goes FIRST, ahead of the names: the tables' words, and 'selects' of the private methods out of them =====
/-- a private method of a class that the tables say can be made, by its rows of tables_1 -/
def lw_okq (q : MethodName × Nat) : Prop := (q.1.cls ≠ "java/lang/invoke/MethodHandle" ∧ q.1.cls ≠ "java/lang/invoke/VarHandle") ∧ Cond.instantiable q.1.cls q.2 ∈ tables_1 ∧ Cond.privateMethod q.1 ∈ tables_1 ∧ Cond.instanceMethod q.1 ∈ tables_1
theorem lw_p0 : lw_okq (⟨"WhoIsThere", "stayingHelper", "(I)LWhoIsThere$Host;"⟩, 13) := ⟨⟨by decide +kernel, by decide +kernel⟩, List.mem_of_getElem? (i := 12) (by decide +kernel), List.mem_of_getElem? (i := 260) (by decide +kernel), List.mem_of_getElem? (i := 261) (by decide +kernel)⟩
theorem lw_p1 : lw_okq (⟨"WhoIsThere", "stayingHost", "(I)LWhoIsThere$Host;"⟩, 13) := ⟨⟨by decide +kernel, by decide +kernel⟩, List.mem_of_getElem? (i := 12) (by decide +kernel), List.mem_of_getElem? (i := 264) (by decide +kernel), List.mem_of_getElem? (i := 265) (by decide +kernel)⟩
theorem lw_p2 : lw_okq (⟨"WhoIsThere", "hostAt", "(I)LWhoIsThere$Host;"⟩, 13) := ⟨⟨by decide +kernel, by decide +kernel⟩, List.mem_of_getElem? (i := 12) (by decide +kernel), List.mem_of_getElem? (i := 268) (by decide +kernel), List.mem_of_getElem? (i := 269) (by decide +kernel)⟩
theorem lw_p3 : lw_okq (⟨"WhoIsThere", "addService", "(LWhoIsThere$Host;IIIIZ)I"⟩, 13) := ⟨⟨by decide +kernel, by decide +kernel⟩, List.mem_of_getElem? (i := 12) (by decide +kernel), List.mem_of_getElem? (i := 276) (by decide +kernel), List.mem_of_getElem? (i := 277) (by decide +kernel)⟩
theorem lw_p4 : lw_okq (⟨"WhoIsThere", "liveServicesOf", "(LWhoIsThere$Host;)I"⟩, 13) := ⟨⟨by decide +kernel, by decide +kernel⟩, List.mem_of_getElem? (i := 12) (by decide +kernel), List.mem_of_getElem? (i := 286) (by decide +kernel), List.mem_of_getElem? (i := 287) (by decide +kernel)⟩
theorem lw_p5 : lw_okq (⟨"WhoIsThere", "isNameTaken", "(LWhoIsThere$Host;I)Z"⟩, 13) := ⟨⟨by decide +kernel, by decide +kernel⟩, List.mem_of_getElem? (i := 12) (by decide +kernel), List.mem_of_getElem? (i := 290) (by decide +kernel), List.mem_of_getElem? (i := 291) (by decide +kernel)⟩
theorem lw_p6 : lw_okq (⟨"WhoIsThere", "serviceInCare", "(I)LWhoIsThere$Service;"⟩, 13) := ⟨⟨by decide +kernel, by decide +kernel⟩, List.mem_of_getElem? (i := 12) (by decide +kernel), List.mem_of_getElem? (i := 360) (by decide +kernel), List.mem_of_getElem? (i := 361) (by decide +kernel)⟩
theorem lw_p7 : lw_okq (⟨"WhoIsThere", "serviceAt", "(I)LWhoIsThere$Service;"⟩, 13) := ⟨⟨by decide +kernel, by decide +kernel⟩, List.mem_of_getElem? (i := 12) (by decide +kernel), List.mem_of_getElem? (i := 364) (by decide +kernel), List.mem_of_getElem? (i := 365) (by decide +kernel)⟩
theorem lw_p8 : lw_okq (⟨"WhoIsThere", "lotOf", "(LWhoIsThere$Host;)I"⟩, 13) := ⟨⟨by decide +kernel, by decide +kernel⟩, List.mem_of_getElem? (i := 12) (by decide +kernel), List.mem_of_getElem? (i := 387) (by decide +kernel), List.mem_of_getElem? (i := 388) (by decide +kernel)⟩
theorem lw_p9 : lw_okq (⟨"WhoIsThere", "rouse", "(LWhoIsThere$Host;)V"⟩, 13) := ⟨⟨by decide +kernel, by decide +kernel⟩, List.mem_of_getElem? (i := 12) (by decide +kernel), List.mem_of_getElem? (i := 427) (by decide +kernel), List.mem_of_getElem? (i := 428) (by decide +kernel)⟩
theorem lw_p10 : lw_okq (⟨"WhoIsThere", "hasHadServices", "(LWhoIsThere$Host;)Z"⟩, 13) := ⟨⟨by decide +kernel, by decide +kernel⟩, List.mem_of_getElem? (i := 12) (by decide +kernel), List.mem_of_getElem? (i := 444) (by decide +kernel), List.mem_of_getElem? (i := 445) (by decide +kernel)⟩
theorem lw_p11 : lw_okq (⟨"WhoIsThere", "isProxyOfASleeper", "(LWhoIsThere$Host;)Z"⟩, 13) := ⟨⟨by decide +kernel, by decide +kernel⟩, List.mem_of_getElem? (i := 12) (by decide +kernel), List.mem_of_getElem? (i := 448) (by decide +kernel), List.mem_of_getElem? (i := 449) (by decide +kernel)⟩
theorem lw_p12 : lw_okq (⟨"WhoIsThere", "holdClaimedNames", "()V"⟩, 13) := ⟨⟨by decide +kernel, by decide +kernel⟩, List.mem_of_getElem? (i := 12) (by decide +kernel), List.mem_of_getElem? (i := 504) (by decide +kernel), List.mem_of_getElem? (i := 505) (by decide +kernel)⟩
theorem lw_p13 : lw_okq (⟨"WhoIsThere", "writeLetters", "()V"⟩, 13) := ⟨⟨by decide +kernel, by decide +kernel⟩, List.mem_of_getElem? (i := 12) (by decide +kernel), List.mem_of_getElem? (i := 508) (by decide +kernel), List.mem_of_getElem? (i := 509) (by decide +kernel)⟩
theorem lw_p14 : lw_okq (⟨"WhoIsThere", "writeByes", "(LWhoIsThere$Host;)V"⟩, 13) := ⟨⟨by decide +kernel, by decide +kernel⟩, List.mem_of_getElem? (i := 12) (by decide +kernel), List.mem_of_getElem? (i := 520) (by decide +kernel), List.mem_of_getElem? (i := 521) (by decide +kernel)⟩
theorem lw_p15 : lw_okq (⟨"WhoIsThere", "post", "(LWhoIsThere$Host;LWhoIsThere$Letter;I)V"⟩, 13) := ⟨⟨by decide +kernel, by decide +kernel⟩, List.mem_of_getElem? (i := 12) (by decide +kernel), List.mem_of_getElem? (i := 528) (by decide +kernel), List.mem_of_getElem? (i := 529) (by decide +kernel)⟩
def lw_privs_1 : List (MethodName × Nat) := [(⟨"WhoIsThere", "stayingHelper", "(I)LWhoIsThere$Host;"⟩, 13), (⟨"WhoIsThere", "stayingHost", "(I)LWhoIsThere$Host;"⟩, 13), (⟨"WhoIsThere", "hostAt", "(I)LWhoIsThere$Host;"⟩, 13), (⟨"WhoIsThere", "addService", "(LWhoIsThere$Host;IIIIZ)I"⟩, 13), (⟨"WhoIsThere", "liveServicesOf", "(LWhoIsThere$Host;)I"⟩, 13), (⟨"WhoIsThere", "isNameTaken", "(LWhoIsThere$Host;I)Z"⟩, 13), (⟨"WhoIsThere", "serviceInCare", "(I)LWhoIsThere$Service;"⟩, 13), (⟨"WhoIsThere", "serviceAt", "(I)LWhoIsThere$Service;"⟩, 13), (⟨"WhoIsThere", "lotOf", "(LWhoIsThere$Host;)I"⟩, 13), (⟨"WhoIsThere", "rouse", "(LWhoIsThere$Host;)V"⟩, 13), (⟨"WhoIsThere", "hasHadServices", "(LWhoIsThere$Host;)Z"⟩, 13), (⟨"WhoIsThere", "isProxyOfASleeper", "(LWhoIsThere$Host;)Z"⟩, 13), (⟨"WhoIsThere", "holdClaimedNames", "()V"⟩, 13), (⟨"WhoIsThere", "writeLetters", "()V"⟩, 13), (⟨"WhoIsThere", "writeByes", "(LWhoIsThere$Host;)V"⟩, 13), (⟨"WhoIsThere", "post", "(LWhoIsThere$Host;LWhoIsThere$Letter;I)V"⟩, 13)]
theorem lw_r1 : ∀ q ∈ lw_privs_1, lw_okq q := List.forall_mem_cons.mpr ⟨lw_p0, List.forall_mem_cons.mpr ⟨lw_p1, List.forall_mem_cons.mpr ⟨lw_p2, List.forall_mem_cons.mpr ⟨lw_p3, List.forall_mem_cons.mpr ⟨lw_p4, List.forall_mem_cons.mpr ⟨lw_p5, List.forall_mem_cons.mpr ⟨lw_p6, List.forall_mem_cons.mpr ⟨lw_p7, List.forall_mem_cons.mpr ⟨lw_p8, List.forall_mem_cons.mpr ⟨lw_p9, List.forall_mem_cons.mpr ⟨lw_p10, List.forall_mem_cons.mpr ⟨lw_p11, List.forall_mem_cons.mpr ⟨lw_p12, List.forall_mem_cons.mpr ⟨lw_p13, List.forall_mem_cons.mpr ⟨lw_p14, List.forall_mem_cons.mpr ⟨lw_p15, fun _ h => absurd h List.not_mem_nil⟩⟩⟩⟩⟩⟩⟩⟩⟩⟩⟩⟩⟩⟩⟩⟩
theorem lw_p16 : lw_okq (⟨"WhoIsThere", "writeCarried", "(LWhoIsThere$Host;LWhoIsThere$Bridge;)V"⟩, 13) := ⟨⟨by decide +kernel, by decide +kernel⟩, List.mem_of_getElem? (i := 12) (by decide +kernel), List.mem_of_getElem? (i := 536) (by decide +kernel), List.mem_of_getElem? (i := 537) (by decide +kernel)⟩
theorem lw_p17 : lw_okq (⟨"WhoIsThere", "writeAsks", "(LWhoIsThere$Host;)V"⟩, 13) := ⟨⟨by decide +kernel, by decide +kernel⟩, List.mem_of_getElem? (i := 12) (by decide +kernel), List.mem_of_getElem? (i := 540) (by decide +kernel), List.mem_of_getElem? (i := 541) (by decide +kernel)⟩
theorem lw_p18 : lw_okq (⟨"WhoIsThere", "knownTo", "(LWhoIsThere$Host;I)I"⟩, 13) := ⟨⟨by decide +kernel, by decide +kernel⟩, List.mem_of_getElem? (i := 12) (by decide +kernel), List.mem_of_getElem? (i := 549) (by decide +kernel), List.mem_of_getElem? (i := 550) (by decide +kernel)⟩
theorem lw_p19 : lw_okq (⟨"WhoIsThere", "writeClaims", "(LWhoIsThere$Host;)V"⟩, 13) := ⟨⟨by decide +kernel, by decide +kernel⟩, List.mem_of_getElem? (i := 12) (by decide +kernel), List.mem_of_getElem? (i := 566) (by decide +kernel), List.mem_of_getElem? (i := 567) (by decide +kernel)⟩
theorem lw_p20 : lw_okq (⟨"WhoIsThere", "writeTellings", "(LWhoIsThere$Host;)V"⟩, 13) := ⟨⟨by decide +kernel, by decide +kernel⟩, List.mem_of_getElem? (i := 12) (by decide +kernel), List.mem_of_getElem? (i := 574) (by decide +kernel), List.mem_of_getElem? (i := 575) (by decide +kernel)⟩
theorem lw_p21 : lw_okq (⟨"WhoIsThere", "writeTelling", "(LWhoIsThere$Host;LWhoIsThere$Service;Z)V"⟩, 13) := ⟨⟨by decide +kernel, by decide +kernel⟩, List.mem_of_getElem? (i := 12) (by decide +kernel), List.mem_of_getElem? (i := 583) (by decide +kernel), List.mem_of_getElem? (i := 584) (by decide +kernel)⟩
theorem lw_p22 : lw_okq (⟨"WhoIsThere", "speaksFor", "(LWhoIsThere$Host;LWhoIsThere$Service;)Z"⟩, 13) := ⟨⟨by decide +kernel, by decide +kernel⟩, List.mem_of_getElem? (i := 12) (by decide +kernel), List.mem_of_getElem? (i := 587) (by decide +kernel), List.mem_of_getElem? (i := 588) (by decide +kernel)⟩
theorem lw_p23 : lw_okq (⟨"WhoIsThere", "hearLetters", "()V"⟩, 13) := ⟨⟨by decide +kernel, by decide +kernel⟩, List.mem_of_getElem? (i := 12) (by decide +kernel), List.mem_of_getElem? (i := 607) (by decide +kernel), List.mem_of_getElem? (i := 608) (by decide +kernel)⟩
theorem lw_p24 : lw_okq (⟨"WhoIsThere", "sendOut", "(LWhoIsThere$Host;LWhoIsThere$Letter;)V"⟩, 13) := ⟨⟨by decide +kernel, by decide +kernel⟩, List.mem_of_getElem? (i := 12) (by decide +kernel), List.mem_of_getElem? (i := 611) (by decide +kernel), List.mem_of_getElem? (i := 612) (by decide +kernel)⟩
theorem lw_p25 : lw_okq (⟨"WhoIsThere", "takeUp", "(LWhoIsThere$Host;LWhoIsThere$Bridge;LWhoIsThere$Letter;)V"⟩, 13) := ⟨⟨by decide +kernel, by decide +kernel⟩, List.mem_of_getElem? (i := 12) (by decide +kernel), List.mem_of_getElem? (i := 619) (by decide +kernel), List.mem_of_getElem? (i := 620) (by decide +kernel)⟩
theorem lw_p26 : lw_okq (⟨"WhoIsThere", "hearLetter", "(LWhoIsThere$Host;LWhoIsThere$Host;LWhoIsThere$Letter;)V"⟩, 13) := ⟨⟨by decide +kernel, by decide +kernel⟩, List.mem_of_getElem? (i := 12) (by decide +kernel), List.mem_of_getElem? (i := 676) (by decide +kernel), List.mem_of_getElem? (i := 677) (by decide +kernel)⟩
theorem lw_p27 : lw_okq (⟨"WhoIsThere", "hearAsk", "(LWhoIsThere$Host;LWhoIsThere$Host;LWhoIsThere$Letter;I)V"⟩, 13) := ⟨⟨by decide +kernel, by decide +kernel⟩, List.mem_of_getElem? (i := 12) (by decide +kernel), List.mem_of_getElem? (i := 681) (by decide +kernel), List.mem_of_getElem? (i := 682) (by decide +kernel)⟩
theorem lw_p28 : lw_okq (⟨"WhoIsThere", "leastKeeperOn", "(ILWhoIsThere$Host;)LWhoIsThere$Host;"⟩, 13) := ⟨⟨by decide +kernel, by decide +kernel⟩, List.mem_of_getElem? (i := 12) (by decide +kernel), List.mem_of_getElem? (i := 685) (by decide +kernel), List.mem_of_getElem? (i := 686) (by decide +kernel)⟩
theorem lw_p29 : lw_okq (⟨"WhoIsThere", "canAnswer", "(LWhoIsThere$Host;II)Z"⟩, 13) := ⟨⟨by decide +kernel, by decide +kernel⟩, List.mem_of_getElem? (i := 12) (by decide +kernel), List.mem_of_getElem? (i := 689) (by decide +kernel), List.mem_of_getElem? (i := 690) (by decide +kernel)⟩
theorem lw_p30 : lw_okq (⟨"WhoIsThere", "contend", "(LWhoIsThere$Host;LWhoIsThere$Service;IZ)V"⟩, 13) := ⟨⟨by decide +kernel, by decide +kernel⟩, List.mem_of_getElem? (i := 12) (by decide +kernel), List.mem_of_getElem? (i := 698) (by decide +kernel), List.mem_of_getElem? (i := 699) (by decide +kernel)⟩
theorem lw_p31 : lw_okq (⟨"WhoIsThere", "isStronger", "(LWhoIsThere$Service;LWhoIsThere$Service;)Z"⟩, 13) := ⟨⟨by decide +kernel, by decide +kernel⟩, List.mem_of_getElem? (i := 12) (by decide +kernel), List.mem_of_getElem? (i := 702) (by decide +kernel), List.mem_of_getElem? (i := 703) (by decide +kernel)⟩
def lw_privs_2 : List (MethodName × Nat) := [(⟨"WhoIsThere", "writeCarried", "(LWhoIsThere$Host;LWhoIsThere$Bridge;)V"⟩, 13), (⟨"WhoIsThere", "writeAsks", "(LWhoIsThere$Host;)V"⟩, 13), (⟨"WhoIsThere", "knownTo", "(LWhoIsThere$Host;I)I"⟩, 13), (⟨"WhoIsThere", "writeClaims", "(LWhoIsThere$Host;)V"⟩, 13), (⟨"WhoIsThere", "writeTellings", "(LWhoIsThere$Host;)V"⟩, 13), (⟨"WhoIsThere", "writeTelling", "(LWhoIsThere$Host;LWhoIsThere$Service;Z)V"⟩, 13), (⟨"WhoIsThere", "speaksFor", "(LWhoIsThere$Host;LWhoIsThere$Service;)Z"⟩, 13), (⟨"WhoIsThere", "hearLetters", "()V"⟩, 13), (⟨"WhoIsThere", "sendOut", "(LWhoIsThere$Host;LWhoIsThere$Letter;)V"⟩, 13), (⟨"WhoIsThere", "takeUp", "(LWhoIsThere$Host;LWhoIsThere$Bridge;LWhoIsThere$Letter;)V"⟩, 13), (⟨"WhoIsThere", "hearLetter", "(LWhoIsThere$Host;LWhoIsThere$Host;LWhoIsThere$Letter;)V"⟩, 13), (⟨"WhoIsThere", "hearAsk", "(LWhoIsThere$Host;LWhoIsThere$Host;LWhoIsThere$Letter;I)V"⟩, 13), (⟨"WhoIsThere", "leastKeeperOn", "(ILWhoIsThere$Host;)LWhoIsThere$Host;"⟩, 13), (⟨"WhoIsThere", "canAnswer", "(LWhoIsThere$Host;II)Z"⟩, 13), (⟨"WhoIsThere", "contend", "(LWhoIsThere$Host;LWhoIsThere$Service;IZ)V"⟩, 13), (⟨"WhoIsThere", "isStronger", "(LWhoIsThere$Service;LWhoIsThere$Service;)Z"⟩, 13)]
theorem lw_r2 : ∀ q ∈ lw_privs_2, lw_okq q := List.forall_mem_cons.mpr ⟨lw_p16, List.forall_mem_cons.mpr ⟨lw_p17, List.forall_mem_cons.mpr ⟨lw_p18, List.forall_mem_cons.mpr ⟨lw_p19, List.forall_mem_cons.mpr ⟨lw_p20, List.forall_mem_cons.mpr ⟨lw_p21, List.forall_mem_cons.mpr ⟨lw_p22, List.forall_mem_cons.mpr ⟨lw_p23, List.forall_mem_cons.mpr ⟨lw_p24, List.forall_mem_cons.mpr ⟨lw_p25, List.forall_mem_cons.mpr ⟨lw_p26, List.forall_mem_cons.mpr ⟨lw_p27, List.forall_mem_cons.mpr ⟨lw_p28, List.forall_mem_cons.mpr ⟨lw_p29, List.forall_mem_cons.mpr ⟨lw_p30, List.forall_mem_cons.mpr ⟨lw_p31, fun _ h => absurd h List.not_mem_nil⟩⟩⟩⟩⟩⟩⟩⟩⟩⟩⟩⟩⟩⟩⟩⟩
theorem lw_p32 : lw_okq (⟨"WhoIsThere", "giveWay", "(LWhoIsThere$Service;)V"⟩, 13) := ⟨⟨by decide +kernel, by decide +kernel⟩, List.mem_of_getElem? (i := 12) (by decide +kernel), List.mem_of_getElem? (i := 706) (by decide +kernel), List.mem_of_getElem? (i := 707) (by decide +kernel)⟩
theorem lw_p33 : lw_okq (⟨"WhoIsThere", "hearTelling", "(LWhoIsThere$Host;LWhoIsThere$Service;LWhoIsThere$Letter;)V"⟩, 13) := ⟨⟨by decide +kernel, by decide +kernel⟩, List.mem_of_getElem? (i := 12) (by decide +kernel), List.mem_of_getElem? (i := 719) (by decide +kernel), List.mem_of_getElem? (i := 720) (by decide +kernel)⟩
theorem lw_p34 : lw_okq (⟨"WhoIsThere", "otherRecorded", "(LWhoIsThere$Store;LWhoIsThere$Service;I)LWhoIsThere$Service;"⟩, 13) := ⟨⟨by decide +kernel, by decide +kernel⟩, List.mem_of_getElem? (i := 12) (by decide +kernel), List.mem_of_getElem? (i := 723) (by decide +kernel), List.mem_of_getElem? (i := 724) (by decide +kernel)⟩
theorem lw_p35 : lw_okq (⟨"WhoIsThere", "forgetWhatEnds", "()V"⟩, 13) := ⟨⟨by decide +kernel, by decide +kernel⟩, List.mem_of_getElem? (i := 12) (by decide +kernel), List.mem_of_getElem? (i := 735) (by decide +kernel), List.mem_of_getElem? (i := 736) (by decide +kernel)⟩
theorem lw_p36 : lw_okq (⟨"WhoIsThere", "isFound", "(LWhoIsThere$Store;III)Z"⟩, 13) := ⟨⟨by decide +kernel, by decide +kernel⟩, List.mem_of_getElem? (i := 12) (by decide +kernel), List.mem_of_getElem? (i := 749) (by decide +kernel), List.mem_of_getElem? (i := 750) (by decide +kernel)⟩
theorem lw_p37 : lw_okq (⟨"WhoIsThere", "hasProxyAwake", "(LWhoIsThere$Host;)Z"⟩, 13) := ⟨⟨by decide +kernel, by decide +kernel⟩, List.mem_of_getElem? (i := 12) (by decide +kernel), List.mem_of_getElem? (i := 765) (by decide +kernel), List.mem_of_getElem? (i := 766) (by decide +kernel)⟩
theorem lw_p38 : lw_okq (⟨"WhoIsThere", "isSpokenForOn", "(LWhoIsThere$Service;I)Z"⟩, 13) := ⟨⟨by decide +kernel, by decide +kernel⟩, List.mem_of_getElem? (i := 12) (by decide +kernel), List.mem_of_getElem? (i := 792) (by decide +kernel), List.mem_of_getElem? (i := 793) (by decide +kernel)⟩
theorem lw_p39 : lw_okq (⟨"WhoIsThereModel", "mayOffer", "(IIII)Z"⟩, 60) := ⟨⟨by decide +kernel, by decide +kernel⟩, List.mem_of_getElem? (i := 800) (by decide +kernel), List.mem_of_getElem? (i := 999) (by decide +kernel), List.mem_of_getElem? (i := 1000) (by decide +kernel)⟩
theorem lw_p40 : lw_okq (⟨"WhoIsThereModel", "isUp", "(I)Z"⟩, 60) := ⟨⟨by decide +kernel, by decide +kernel⟩, List.mem_of_getElem? (i := 800) (by decide +kernel), List.mem_of_getElem? (i := 1003) (by decide +kernel), List.mem_of_getElem? (i := 1004) (by decide +kernel)⟩
theorem lw_p41 : lw_okq (⟨"WhoIsThereModel", "isAwake", "(I)Z"⟩, 60) := ⟨⟨by decide +kernel, by decide +kernel⟩, List.mem_of_getElem? (i := 800) (by decide +kernel), List.mem_of_getElem? (i := 1007) (by decide +kernel), List.mem_of_getElem? (i := 1008) (by decide +kernel)⟩
theorem lw_p42 : lw_okq (⟨"WhoIsThereModel", "isHost", "(I)Z"⟩, 60) := ⟨⟨by decide +kernel, by decide +kernel⟩, List.mem_of_getElem? (i := 800) (by decide +kernel), List.mem_of_getElem? (i := 1011) (by decide +kernel), List.mem_of_getElem? (i := 1012) (by decide +kernel)⟩
theorem lw_p43 : lw_okq (⟨"WhoIsThereModel", "many", "(I)I"⟩, 60) := ⟨⟨by decide +kernel, by decide +kernel⟩, List.mem_of_getElem? (i := 800) (by decide +kernel), List.mem_of_getElem? (i := 1015) (by decide +kernel), List.mem_of_getElem? (i := 1016) (by decide +kernel)⟩
theorem lw_p44 : lw_okq (⟨"WhoIsThereModel", "isNamed", "(III)Z"⟩, 60) := ⟨⟨by decide +kernel, by decide +kernel⟩, List.mem_of_getElem? (i := 800) (by decide +kernel), List.mem_of_getElem? (i := 1019) (by decide +kernel), List.mem_of_getElem? (i := 1020) (by decide +kernel)⟩
theorem lw_p45 : lw_okq (⟨"WhoIsThereModel", "comes", "(IIIII)I"⟩, 60) := ⟨⟨by decide +kernel, by decide +kernel⟩, List.mem_of_getElem? (i := 800) (by decide +kernel), List.mem_of_getElem? (i := 1023) (by decide +kernel), List.mem_of_getElem? (i := 1024) (by decide +kernel)⟩
theorem lw_p46 : lw_okq (⟨"WhoIsThereModel", "isOpen", "(I)Z"⟩, 60) := ⟨⟨by decide +kernel, by decide +kernel⟩, List.mem_of_getElem? (i := 800) (by decide +kernel), List.mem_of_getElem? (i := 1035) (by decide +kernel), List.mem_of_getElem? (i := 1036) (by decide +kernel)⟩
theorem lw_p47 : lw_okq (⟨"WhoIsThereModel", "isService", "(I)Z"⟩, 60) := ⟨⟨by decide +kernel, by decide +kernel⟩, List.mem_of_getElem? (i := 800) (by decide +kernel), List.mem_of_getElem? (i := 1039) (by decide +kernel), List.mem_of_getElem? (i := 1040) (by decide +kernel)⟩
def lw_privs_3 : List (MethodName × Nat) := [(⟨"WhoIsThere", "giveWay", "(LWhoIsThere$Service;)V"⟩, 13), (⟨"WhoIsThere", "hearTelling", "(LWhoIsThere$Host;LWhoIsThere$Service;LWhoIsThere$Letter;)V"⟩, 13), (⟨"WhoIsThere", "otherRecorded", "(LWhoIsThere$Store;LWhoIsThere$Service;I)LWhoIsThere$Service;"⟩, 13), (⟨"WhoIsThere", "forgetWhatEnds", "()V"⟩, 13), (⟨"WhoIsThere", "isFound", "(LWhoIsThere$Store;III)Z"⟩, 13), (⟨"WhoIsThere", "hasProxyAwake", "(LWhoIsThere$Host;)Z"⟩, 13), (⟨"WhoIsThere", "isSpokenForOn", "(LWhoIsThere$Service;I)Z"⟩, 13), (⟨"WhoIsThereModel", "mayOffer", "(IIII)Z"⟩, 60), (⟨"WhoIsThereModel", "isUp", "(I)Z"⟩, 60), (⟨"WhoIsThereModel", "isAwake", "(I)Z"⟩, 60), (⟨"WhoIsThereModel", "isHost", "(I)Z"⟩, 60), (⟨"WhoIsThereModel", "many", "(I)I"⟩, 60), (⟨"WhoIsThereModel", "isNamed", "(III)Z"⟩, 60), (⟨"WhoIsThereModel", "comes", "(IIIII)I"⟩, 60), (⟨"WhoIsThereModel", "isOpen", "(I)Z"⟩, 60), (⟨"WhoIsThereModel", "isService", "(I)Z"⟩, 60)]
theorem lw_r3 : ∀ q ∈ lw_privs_3, lw_okq q := List.forall_mem_cons.mpr ⟨lw_p32, List.forall_mem_cons.mpr ⟨lw_p33, List.forall_mem_cons.mpr ⟨lw_p34, List.forall_mem_cons.mpr ⟨lw_p35, List.forall_mem_cons.mpr ⟨lw_p36, List.forall_mem_cons.mpr ⟨lw_p37, List.forall_mem_cons.mpr ⟨lw_p38, List.forall_mem_cons.mpr ⟨lw_p39, List.forall_mem_cons.mpr ⟨lw_p40, List.forall_mem_cons.mpr ⟨lw_p41, List.forall_mem_cons.mpr ⟨lw_p42, List.forall_mem_cons.mpr ⟨lw_p43, List.forall_mem_cons.mpr ⟨lw_p44, List.forall_mem_cons.mpr ⟨lw_p45, List.forall_mem_cons.mpr ⟨lw_p46, List.forall_mem_cons.mpr ⟨lw_p47, fun _ h => absurd h List.not_mem_nil⟩⟩⟩⟩⟩⟩⟩⟩⟩⟩⟩⟩⟩⟩⟩⟩
theorem lw_p48 : lw_okq (⟨"WhoIsThereModel", "goes", "(IZ)V"⟩, 60) := ⟨⟨by decide +kernel, by decide +kernel⟩, List.mem_of_getElem? (i := 800) (by decide +kernel), List.mem_of_getElem? (i := 1043) (by decide +kernel), List.mem_of_getElem? (i := 1044) (by decide +kernel)⟩
theorem lw_p49 : lw_okq (⟨"WhoIsThereModel", "wakes", "(I)V"⟩, 60) := ⟨⟨by decide +kernel, by decide +kernel⟩, List.mem_of_getElem? (i := 800) (by decide +kernel), List.mem_of_getElem? (i := 1066) (by decide +kernel), List.mem_of_getElem? (i := 1067) (by decide +kernel)⟩
theorem lw_p50 : lw_okq (⟨"WhoIsThereModel", "isGone", "(I)V"⟩, 60) := ⟨⟨by decide +kernel, by decide +kernel⟩, List.mem_of_getElem? (i := 800) (by decide +kernel), List.mem_of_getElem? (i := 1074) (by decide +kernel), List.mem_of_getElem? (i := 1075) (by decide +kernel)⟩
theorem lw_p51 : lw_okq (⟨"WhoIsThereModel", "empties", "(I)V"⟩, 60) := ⟨⟨by decide +kernel, by decide +kernel⟩, List.mem_of_getElem? (i := 800) (by decide +kernel), List.mem_of_getElem? (i := 1078) (by decide +kernel), List.mem_of_getElem? (i := 1079) (by decide +kernel)⟩
theorem lw_p52 : lw_okq (⟨"WhoIsThereModel", "clears", "(I)V"⟩, 60) := ⟨⟨by decide +kernel, by decide +kernel⟩, List.mem_of_getElem? (i := 800) (by decide +kernel), List.mem_of_getElem? (i := 1082) (by decide +kernel), List.mem_of_getElem? (i := 1083) (by decide +kernel)⟩
theorem lw_p53 : lw_okq (⟨"WhoIsThereModel", "oneTick", "(I)V"⟩, 60) := ⟨⟨by decide +kernel, by decide +kernel⟩, List.mem_of_getElem? (i := 800) (by decide +kernel), List.mem_of_getElem? (i := 1115) (by decide +kernel), List.mem_of_getElem? (i := 1116) (by decide +kernel)⟩
theorem lw_p54 : lw_okq (⟨"WhoIsThereModel", "writesAll", "(II)V"⟩, 60) := ⟨⟨by decide +kernel, by decide +kernel⟩, List.mem_of_getElem? (i := 800) (by decide +kernel), List.mem_of_getElem? (i := 1119) (by decide +kernel), List.mem_of_getElem? (i := 1120) (by decide +kernel)⟩
theorem lw_p55 : lw_okq (⟨"WhoIsThereModel", "byes", "(I)V"⟩, 60) := ⟨⟨by decide +kernel, by decide +kernel⟩, List.mem_of_getElem? (i := 800) (by decide +kernel), List.mem_of_getElem? (i := 1123) (by decide +kernel), List.mem_of_getElem? (i := 1124) (by decide +kernel)⟩
theorem lw_p56 : lw_okq (⟨"WhoIsThereModel", "writes", "(II)V"⟩, 60) := ⟨⟨by decide +kernel, by decide +kernel⟩, List.mem_of_getElem? (i := 800) (by decide +kernel), List.mem_of_getElem? (i := 1127) (by decide +kernel), List.mem_of_getElem? (i := 1128) (by decide +kernel)⟩
theorem lw_p57 : lw_okq (⟨"WhoIsThereModel", "isBare", "(I)Z"⟩, 60) := ⟨⟨by decide +kernel, by decide +kernel⟩, List.mem_of_getElem? (i := 800) (by decide +kernel), List.mem_of_getElem? (i := 1131) (by decide +kernel), List.mem_of_getElem? (i := 1132) (by decide +kernel)⟩
theorem lw_p58 : lw_okq (⟨"WhoIsThereModel", "takesUp", "(III)V"⟩, 60) := ⟨⟨by decide +kernel, by decide +kernel⟩, List.mem_of_getElem? (i := 800) (by decide +kernel), List.mem_of_getElem? (i := 1135) (by decide +kernel), List.mem_of_getElem? (i := 1136) (by decide +kernel)⟩
theorem lw_p59 : lw_okq (⟨"WhoIsThereModel", "asks", "(II)V"⟩, 60) := ⟨⟨by decide +kernel, by decide +kernel⟩, List.mem_of_getElem? (i := 800) (by decide +kernel), List.mem_of_getElem? (i := 1139) (by decide +kernel), List.mem_of_getElem? (i := 1140) (by decide +kernel)⟩
theorem lw_p60 : lw_okq (⟨"WhoIsThereModel", "knownTo", "(III)I"⟩, 60) := ⟨⟨by decide +kernel, by decide +kernel⟩, List.mem_of_getElem? (i := 800) (by decide +kernel), List.mem_of_getElem? (i := 1143) (by decide +kernel), List.mem_of_getElem? (i := 1144) (by decide +kernel)⟩
theorem lw_p61 : lw_okq (⟨"WhoIsThereModel", "tells", "(II)V"⟩, 60) := ⟨⟨by decide +kernel, by decide +kernel⟩, List.mem_of_getElem? (i := 800) (by decide +kernel), List.mem_of_getElem? (i := 1147) (by decide +kernel), List.mem_of_getElem? (i := 1148) (by decide +kernel)⟩
theorem lw_p62 : lw_okq (⟨"WhoIsThereModel", "speaksFor", "(II)Z"⟩, 60) := ⟨⟨by decide +kernel, by decide +kernel⟩, List.mem_of_getElem? (i := 800) (by decide +kernel), List.mem_of_getElem? (i := 1151) (by decide +kernel), List.mem_of_getElem? (i := 1152) (by decide +kernel)⟩
theorem lw_p63 : lw_okq (⟨"WhoIsThereModel", "isHeard", "(II)V"⟩, 60) := ⟨⟨by decide +kernel, by decide +kernel⟩, List.mem_of_getElem? (i := 800) (by decide +kernel), List.mem_of_getElem? (i := 1155) (by decide +kernel), List.mem_of_getElem? (i := 1156) (by decide +kernel)⟩
def lw_privs_4 : List (MethodName × Nat) := [(⟨"WhoIsThereModel", "goes", "(IZ)V"⟩, 60), (⟨"WhoIsThereModel", "wakes", "(I)V"⟩, 60), (⟨"WhoIsThereModel", "isGone", "(I)V"⟩, 60), (⟨"WhoIsThereModel", "empties", "(I)V"⟩, 60), (⟨"WhoIsThereModel", "clears", "(I)V"⟩, 60), (⟨"WhoIsThereModel", "oneTick", "(I)V"⟩, 60), (⟨"WhoIsThereModel", "writesAll", "(II)V"⟩, 60), (⟨"WhoIsThereModel", "byes", "(I)V"⟩, 60), (⟨"WhoIsThereModel", "writes", "(II)V"⟩, 60), (⟨"WhoIsThereModel", "isBare", "(I)Z"⟩, 60), (⟨"WhoIsThereModel", "takesUp", "(III)V"⟩, 60), (⟨"WhoIsThereModel", "asks", "(II)V"⟩, 60), (⟨"WhoIsThereModel", "knownTo", "(III)I"⟩, 60), (⟨"WhoIsThereModel", "tells", "(II)V"⟩, 60), (⟨"WhoIsThereModel", "speaksFor", "(II)Z"⟩, 60), (⟨"WhoIsThereModel", "isHeard", "(II)V"⟩, 60)]
theorem lw_r4 : ∀ q ∈ lw_privs_4, lw_okq q := List.forall_mem_cons.mpr ⟨lw_p48, List.forall_mem_cons.mpr ⟨lw_p49, List.forall_mem_cons.mpr ⟨lw_p50, List.forall_mem_cons.mpr ⟨lw_p51, List.forall_mem_cons.mpr ⟨lw_p52, List.forall_mem_cons.mpr ⟨lw_p53, List.forall_mem_cons.mpr ⟨lw_p54, List.forall_mem_cons.mpr ⟨lw_p55, List.forall_mem_cons.mpr ⟨lw_p56, List.forall_mem_cons.mpr ⟨lw_p57, List.forall_mem_cons.mpr ⟨lw_p58, List.forall_mem_cons.mpr ⟨lw_p59, List.forall_mem_cons.mpr ⟨lw_p60, List.forall_mem_cons.mpr ⟨lw_p61, List.forall_mem_cons.mpr ⟨lw_p62, List.forall_mem_cons.mpr ⟨lw_p63, fun _ h => absurd h List.not_mem_nil⟩⟩⟩⟩⟩⟩⟩⟩⟩⟩⟩⟩⟩⟩⟩⟩
theorem lw_p64 : lw_okq (⟨"WhoIsThereModel", "carries", "(II)V"⟩, 60) := ⟨⟨by decide +kernel, by decide +kernel⟩, List.mem_of_getElem? (i := 800) (by decide +kernel), List.mem_of_getElem? (i := 1159) (by decide +kernel), List.mem_of_getElem? (i := 1160) (by decide +kernel)⟩
theorem lw_p65 : lw_okq (⟨"WhoIsThereModel", "isCarried", "(IIII)Z"⟩, 60) := ⟨⟨by decide +kernel, by decide +kernel⟩, List.mem_of_getElem? (i := 800) (by decide +kernel), List.mem_of_getElem? (i := 1163) (by decide +kernel), List.mem_of_getElem? (i := 1164) (by decide +kernel)⟩
theorem lw_p66 : lw_okq (⟨"WhoIsThereModel", "hears", "(III)V"⟩, 60) := ⟨⟨by decide +kernel, by decide +kernel⟩, List.mem_of_getElem? (i := 800) (by decide +kernel), List.mem_of_getElem? (i := 1167) (by decide +kernel), List.mem_of_getElem? (i := 1168) (by decide +kernel)⟩
theorem lw_p67 : lw_okq (⟨"WhoIsThereModel", "hearsAsk", "(IIII)V"⟩, 60) := ⟨⟨by decide +kernel, by decide +kernel⟩, List.mem_of_getElem? (i := 800) (by decide +kernel), List.mem_of_getElem? (i := 1171) (by decide +kernel), List.mem_of_getElem? (i := 1172) (by decide +kernel)⟩
theorem lw_p68 : lw_okq (⟨"WhoIsThereModel", "keeperOn", "(II)I"⟩, 60) := ⟨⟨by decide +kernel, by decide +kernel⟩, List.mem_of_getElem? (i := 800) (by decide +kernel), List.mem_of_getElem? (i := 1175) (by decide +kernel), List.mem_of_getElem? (i := 1176) (by decide +kernel)⟩
theorem lw_p69 : lw_okq (⟨"WhoIsThereModel", "isDue", "(III)V"⟩, 60) := ⟨⟨by decide +kernel, by decide +kernel⟩, List.mem_of_getElem? (i := 800) (by decide +kernel), List.mem_of_getElem? (i := 1179) (by decide +kernel), List.mem_of_getElem? (i := 1180) (by decide +kernel)⟩
theorem lw_p70 : lw_okq (⟨"WhoIsThereModel", "hearsClaim", "(IIII)V"⟩, 60) := ⟨⟨by decide +kernel, by decide +kernel⟩, List.mem_of_getElem? (i := 800) (by decide +kernel), List.mem_of_getElem? (i := 1183) (by decide +kernel), List.mem_of_getElem? (i := 1184) (by decide +kernel)⟩
theorem lw_p71 : lw_okq (⟨"WhoIsThereModel", "isStronger", "(II)Z"⟩, 60) := ⟨⟨by decide +kernel, by decide +kernel⟩, List.mem_of_getElem? (i := 800) (by decide +kernel), List.mem_of_getElem? (i := 1187) (by decide +kernel), List.mem_of_getElem? (i := 1188) (by decide +kernel)⟩
theorem lw_p72 : lw_okq (⟨"WhoIsThereModel", "yieldsName", "(I)V"⟩, 60) := ⟨⟨by decide +kernel, by decide +kernel⟩, List.mem_of_getElem? (i := 800) (by decide +kernel), List.mem_of_getElem? (i := 1191) (by decide +kernel), List.mem_of_getElem? (i := 1192) (by decide +kernel)⟩
theorem lw_p73 : lw_okq (⟨"WhoIsThereModel", "hearsTelling", "(IIII)V"⟩, 60) := ⟨⟨by decide +kernel, by decide +kernel⟩, List.mem_of_getElem? (i := 800) (by decide +kernel), List.mem_of_getElem? (i := 1195) (by decide +kernel), List.mem_of_getElem? (i := 1196) (by decide +kernel)⟩
theorem lw_p74 : lw_okq (⟨"WhoIsThereModel", "isSpoken", "(II)Z"⟩, 60) := ⟨⟨by decide +kernel, by decide +kernel⟩, List.mem_of_getElem? (i := 800) (by decide +kernel), List.mem_of_getElem? (i := 1223) (by decide +kernel), List.mem_of_getElem? (i := 1224) (by decide +kernel)⟩
def lw_privs_5 : List (MethodName × Nat) := [(⟨"WhoIsThereModel", "carries", "(II)V"⟩, 60), (⟨"WhoIsThereModel", "isCarried", "(IIII)Z"⟩, 60), (⟨"WhoIsThereModel", "hears", "(III)V"⟩, 60), (⟨"WhoIsThereModel", "hearsAsk", "(IIII)V"⟩, 60), (⟨"WhoIsThereModel", "keeperOn", "(II)I"⟩, 60), (⟨"WhoIsThereModel", "isDue", "(III)V"⟩, 60), (⟨"WhoIsThereModel", "hearsClaim", "(IIII)V"⟩, 60), (⟨"WhoIsThereModel", "isStronger", "(II)Z"⟩, 60), (⟨"WhoIsThereModel", "yieldsName", "(I)V"⟩, 60), (⟨"WhoIsThereModel", "hearsTelling", "(IIII)V"⟩, 60), (⟨"WhoIsThereModel", "isSpoken", "(II)Z"⟩, 60)]
theorem lw_r5 : ∀ q ∈ lw_privs_5, lw_okq q := List.forall_mem_cons.mpr ⟨lw_p64, List.forall_mem_cons.mpr ⟨lw_p65, List.forall_mem_cons.mpr ⟨lw_p66, List.forall_mem_cons.mpr ⟨lw_p67, List.forall_mem_cons.mpr ⟨lw_p68, List.forall_mem_cons.mpr ⟨lw_p69, List.forall_mem_cons.mpr ⟨lw_p70, List.forall_mem_cons.mpr ⟨lw_p71, List.forall_mem_cons.mpr ⟨lw_p72, List.forall_mem_cons.mpr ⟨lw_p73, List.forall_mem_cons.mpr ⟨lw_p74, fun _ h => absurd h List.not_mem_nil⟩⟩⟩⟩⟩⟩⟩⟩⟩⟩⟩
def lw_privs : List (MethodName × Nat) := lw_privs_1 ++ (lw_privs_2 ++ (lw_privs_3 ++ (lw_privs_4 ++ (lw_privs_5))))
def lw_tbl : List Cond := k2_sels lw_privs ++ tables_1
theorem lw_privs_ok : ∀ q ∈ lw_privs, lw_okq q := by
  show ∀ q ∈ lw_privs_1 ++ (lw_privs_2 ++ (lw_privs_3 ++ (lw_privs_4 ++ (lw_privs_5)))), lw_okq q
  exact List.forall_mem_append.mpr ⟨lw_r1, List.forall_mem_append.mpr ⟨lw_r2, List.forall_mem_append.mpr ⟨lw_r3, List.forall_mem_append.mpr ⟨lw_r4, lw_r5⟩⟩⟩⟩
-- ===== end of PART A; then your names; then what follows =====
end
section
/-! names, field tables and method contexts of the program, by program out of the printed claim -/
def RX0 : String := "WhoIsThere$Answers"
def TX0 : u_T := fun k => match k with
  | 0 => ("WhoIsThere$Answers", "due", "[I", true)
  | _ => ("WhoIsThere$Answers", "waiting", "I", false)
def tyX0 : Nat → FieldType := fun k => match k with
  | 0 => .array .int
  | _ => .int
theorem nmX0 : ∀ a, a < 2 → ∀ b, b < 2 → a ≠ b → (TX0 a).2.1 ≠ (TX0 b).2.1 := by decide +kernel
theorem tyX0_ok : ∀ k, k < 2 → parseFieldDescriptor (TX0 k).2.2.1 = some (tyX0 k) := by decide +kernel
abbrev cX0_init : ByteArray := prog_2_method_1_code
def yX0_init : MethodName := ⟨RX0, "<init>", "()V"⟩
abbrev cX0_isDue : ByteArray := prog_2_method_2_code
def yX0_isDue : MethodName := ⟨RX0, "isDue", "(II)Z"⟩
abbrev cX0_size : ByteArray := prog_2_method_3_code
def yX0_size : MethodName := ⟨RX0, "size", "()I"⟩
abbrev cX0_comeDue : ByteArray := prog_2_method_4_code
def yX0_comeDue : MethodName := ⟨RX0, "comeDue", "(II)V"⟩
abbrev cX0_remove : ByteArray := prog_2_method_5_code
def yX0_remove : MethodName := ⟨RX0, "remove", "(I)V"⟩
abbrev cX0_clear : ByteArray := prog_2_method_6_code
def yX0_clear : MethodName := ⟨RX0, "clear", "()V"⟩
def RX1 : String := "WhoIsThere$Asks"
def TX1 : u_T := fun k => match k with
  | 0 => ("WhoIsThere$Asks", "marks", "[I", true)
  | 1 => ("WhoIsThere$Asks", "due", "[I", true)
  | _ => ("WhoIsThere$Asks", "waiting", "I", false)
def tyX1 : Nat → FieldType := fun k => match k with
  | 0 => .array .int
  | 1 => .array .int
  | _ => .int
theorem nmX1 : ∀ a, a < 3 → ∀ b, b < 3 → a ≠ b → (TX1 a).2.1 ≠ (TX1 b).2.1 := by decide +kernel
theorem tyX1_ok : ∀ k, k < 3 → parseFieldDescriptor (TX1 k).2.2.1 = some (tyX1 k) := by decide +kernel
abbrev cX1_init : ByteArray := prog_3_method_1_code
def yX1_init : MethodName := ⟨RX1, "<init>", "()V"⟩
abbrev cX1_has : ByteArray := prog_3_method_2_code
def yX1_has : MethodName := ⟨RX1, "has", "(I)Z"⟩
abbrev cX1_isDue : ByteArray := prog_3_method_3_code
def yX1_isDue : MethodName := ⟨RX1, "isDue", "(II)Z"⟩
abbrev cX1_isEmpty : ByteArray := prog_3_method_4_code
def yX1_isEmpty : MethodName := ⟨RX1, "isEmpty", "()Z"⟩
abbrev cX1_size : ByteArray := prog_3_method_5_code
def yX1_size : MethodName := ⟨RX1, "size", "()I"⟩
abbrev cX1_put : ByteArray := prog_3_method_6_code
def yX1_put : MethodName := ⟨RX1, "put", "(III)V"⟩
abbrev cX1_remove : ByteArray := prog_3_method_7_code
def yX1_remove : MethodName := ⟨RX1, "remove", "(I)V"⟩
abbrev cX1_clear : ByteArray := prog_3_method_8_code
def yX1_clear : MethodName := ⟨RX1, "clear", "()V"⟩
def RX2 : String := "WhoIsThere$Bridge"
def TX2 : u_T := fun k => match k with
  | 0 => ("WhoIsThere$Bridge", "kinds", "I", true)
  | 1 => ("WhoIsThere$Bridge", "net", "I", false)
  | 2 => ("WhoIsThere$Bridge", "letter", "LWhoIsThere$Letter;", false)
  | 3 => ("WhoIsThere$Bridge", "waitingForHome", "LWhoIsThere$Letter;", false)
  | _ => ("WhoIsThere$Bridge", "waitingForSecond", "LWhoIsThere$Letter;", false)
def tyX2 : Nat → FieldType := fun k => match k with
  | 0 => .int
  | 1 => .int
  | 2 => .object "WhoIsThere$Letter"
  | 3 => .object "WhoIsThere$Letter"
  | _ => .object "WhoIsThere$Letter"
theorem nmX2 : ∀ a, a < 5 → ∀ b, b < 5 → a ≠ b → (TX2 a).2.1 ≠ (TX2 b).2.1 := by decide +kernel
theorem tyX2_ok : ∀ k, k < 5 → parseFieldDescriptor (TX2 k).2.2.1 = some (tyX2 k) := by decide +kernel
abbrev cX2_init : ByteArray := prog_4_method_1_code
def yX2_init : MethodName := ⟨RX2, "<init>", "(II)V"⟩
abbrev cX2_carries : ByteArray := prog_4_method_2_code
def yX2_carries : MethodName := ⟨RX2, "carries", "(I)Z"⟩
def RX3 : String := "WhoIsThere$Host"
def TX3 : u_T := fun k => match k with
  | 0 => ("WhoIsThere$Host", "number", "I", true)
  | 1 => ("WhoIsThere$Host", "from", "I", true)
  | 2 => ("WhoIsThere$Host", "to", "I", true)
  | 3 => ("WhoIsThere$Host", "rank", "I", true)
  | 4 => ("WhoIsThere$Host", "store", "LWhoIsThere$Store;", true)
  | 5 => ("WhoIsThere$Host", "asks", "LWhoIsThere$Asks;", true)
  | 6 => ("WhoIsThere$Host", "answers", "LWhoIsThere$Answers;", true)
  | 7 => ("WhoIsThere$Host", "net", "I", false)
  | 8 => ("WhoIsThere$Host", "state", "I", false)
  | 9 => ("WhoIsThere$Host", "isKeeper", "Z", false)
  | 10 => ("WhoIsThere$Host", "proxy", "LWhoIsThere$Host;", false)
  | 11 => ("WhoIsThere$Host", "bridge", "LWhoIsThere$Bridge;", false)
  | 12 => ("WhoIsThere$Host", "toLose", "I", false)
  | 13 => ("WhoIsThere$Host", "toMiss", "I", false)
  | 14 => ("WhoIsThere$Host", "written", "I", false)
  | _ => ("WhoIsThere$Host", "letter", "LWhoIsThere$Letter;", false)
def tyX3 : Nat → FieldType := fun k => match k with
  | 0 => .int
  | 1 => .int
  | 2 => .int
  | 3 => .int
  | 4 => .object "WhoIsThere$Store"
  | 5 => .object "WhoIsThere$Asks"
  | 6 => .object "WhoIsThere$Answers"
  | 7 => .int
  | 8 => .int
  | 9 => .boolean
  | 10 => .object "WhoIsThere$Host"
  | 11 => .object "WhoIsThere$Bridge"
  | 12 => .int
  | 13 => .int
  | 14 => .int
  | _ => .object "WhoIsThere$Letter"
theorem nmX3 : ∀ a, a < 16 → ∀ b, b < 16 → a ≠ b → (TX3 a).2.1 ≠ (TX3 b).2.1 := by decide +kernel
theorem tyX3_ok : ∀ k, k < 16 → parseFieldDescriptor (TX3 k).2.2.1 = some (tyX3 k) := by decide +kernel
abbrev cX3_init : ByteArray := prog_5_method_1_code
def yX3_init : MethodName := ⟨RX3, "<init>", "(IIIII)V"⟩
abbrev cX3_hasForName : ByteArray := prog_5_method_2_code
def yX3_hasForName : MethodName := ⟨RX3, "hasForName", "(I)Z"⟩
abbrev cX3_isOn : ByteArray := prog_5_method_3_code
def yX3_isOn : MethodName := ⟨RX3, "isOn", "(I)Z"⟩
abbrev cX3_move : ByteArray := prog_5_method_4_code
def yX3_move : MethodName := ⟨RX3, "move", "(II)V"⟩
abbrev cX3_goAway : ByteArray := prog_5_method_5_code
def yX3_goAway : MethodName := ⟨RX3, "goAway", "()V"⟩
abbrev cX3_clearLetters : ByteArray := prog_5_method_6_code
def yX3_clearLetters : MethodName := ⟨RX3, "clearLetters", "()V"⟩
def RX4 : String := "WhoIsThere$Letter"
def TX4 : u_T := fun k => match k with
  | 0 => ("WhoIsThere$Letter", "net", "I", false)
  | 1 => ("WhoIsThere$Letter", "asks", "I", false)
  | 2 => ("WhoIsThere$Letter", "askMarks", "[I", true)
  | 3 => ("WhoIsThere$Letter", "askKnown", "[I", true)
  | 4 => ("WhoIsThere$Letter", "askBorne", "[I", true)
  | 5 => ("WhoIsThere$Letter", "claims", "I", false)
  | 6 => ("WhoIsThere$Letter", "claimName", "[I", true)
  | 7 => ("WhoIsThere$Letter", "claimBorne", "[I", true)
  | 8 => ("WhoIsThere$Letter", "byes", "I", false)
  | 9 => ("WhoIsThere$Letter", "byeBorne", "[I", true)
  | 10 => ("WhoIsThere$Letter", "tellings", "I", false)
  | 11 => ("WhoIsThere$Letter", "tellName", "[I", true)
  | 12 => ("WhoIsThere$Letter", "tellMarks", "[I", true)
  | 13 => ("WhoIsThere$Letter", "tellLife", "[I", true)
  | _ => ("WhoIsThere$Letter", "tellBorne", "[I", true)
def tyX4 : Nat → FieldType := fun k => match k with
  | 0 => .int
  | 1 => .int
  | 2 => .array .int
  | 3 => .array .int
  | 4 => .array .int
  | 5 => .int
  | 6 => .array .int
  | 7 => .array .int
  | 8 => .int
  | 9 => .array .int
  | 10 => .int
  | 11 => .array .int
  | 12 => .array .int
  | 13 => .array .int
  | _ => .array .int
theorem nmX4 : ∀ a, a < 15 → ∀ b, b < 15 → a ≠ b → (TX4 a).2.1 ≠ (TX4 b).2.1 := by decide +kernel
theorem tyX4_ok : ∀ k, k < 15 → parseFieldDescriptor (TX4 k).2.2.1 = some (tyX4 k) := by decide +kernel
abbrev cX4_init : ByteArray := prog_6_method_1_code
def yX4_init : MethodName := ⟨RX4, "<init>", "()V"⟩
abbrev cX4_isEmpty : ByteArray := prog_6_method_2_code
def yX4_isEmpty : MethodName := ⟨RX4, "isEmpty", "()Z"⟩
abbrev cX4_size : ByteArray := prog_6_method_3_code
def yX4_size : MethodName := ⟨RX4, "size", "()I"⟩
abbrev cX4_clear : ByteArray := prog_6_method_4_code
def yX4_clear : MethodName := ⟨RX4, "clear", "()V"⟩
abbrev cX4_hasAsk : ByteArray := prog_6_method_5_code
def yX4_hasAsk : MethodName := ⟨RX4, "hasAsk", "(I)Z"⟩
abbrev cX4_hasClaim : ByteArray := prog_6_method_6_code
def yX4_hasClaim : MethodName := ⟨RX4, "hasClaim", "(I)Z"⟩
abbrev cX4_hasBye : ByteArray := prog_6_method_7_code
def yX4_hasBye : MethodName := ⟨RX4, "hasBye", "(I)Z"⟩
abbrev cX4_hasTelling : ByteArray := prog_6_method_8_code
def yX4_hasTelling : MethodName := ⟨RX4, "hasTelling", "(I)Z"⟩
abbrev cX4_addAsk : ByteArray := prog_6_method_9_code
def yX4_addAsk : MethodName := ⟨RX4, "addAsk", "(IIII)V"⟩
abbrev cX4_addClaim : ByteArray := prog_6_method_10_code
def yX4_addClaim : MethodName := ⟨RX4, "addClaim", "(III)V"⟩
abbrev cX4_addBye : ByteArray := prog_6_method_11_code
def yX4_addBye : MethodName := ⟨RX4, "addBye", "(II)V"⟩
abbrev cX4_addTelling : ByteArray := prog_6_method_12_code
def yX4_addTelling : MethodName := ⟨RX4, "addTelling", "(IIIII)V"⟩
abbrev cX4_takeAsk : ByteArray := prog_6_method_13_code
def yX4_takeAsk : MethodName := ⟨RX4, "takeAsk", "(LWhoIsThere$Letter;II)V"⟩
abbrev cX4_takeClaim : ByteArray := prog_6_method_14_code
def yX4_takeClaim : MethodName := ⟨RX4, "takeClaim", "(LWhoIsThere$Letter;II)V"⟩
abbrev cX4_takeBye : ByteArray := prog_6_method_15_code
def yX4_takeBye : MethodName := ⟨RX4, "takeBye", "(LWhoIsThere$Letter;II)V"⟩
abbrev cX4_takeTelling : ByteArray := prog_6_method_16_code
def yX4_takeTelling : MethodName := ⟨RX4, "takeTelling", "(LWhoIsThere$Letter;II)V"⟩
def RX5 : String := "WhoIsThere$Service"
def TX5 : u_T := fun k => match k with
  | 0 => ("WhoIsThere$Service", "number", "I", true)
  | 1 => ("WhoIsThere$Service", "host", "LWhoIsThere$Host;", true)
  | 2 => ("WhoIsThere$Service", "kind", "I", true)
  | 3 => ("WhoIsThere$Service", "life", "I", true)
  | 4 => ("WhoIsThere$Service", "isFalse", "Z", true)
  | 5 => ("WhoIsThere$Service", "name", "I", false)
  | 6 => ("WhoIsThere$Service", "marks", "I", false)
  | 7 => ("WhoIsThere$Service", "state", "I", false)
  | 8 => ("WhoIsThere$Service", "claims", "I", false)
  | 9 => ("WhoIsThere$Service", "renewal", "I", false)
  | 10 => ("WhoIsThere$Service", "hasBye", "Z", false)
  | _ => ("WhoIsThere$Service", "yielded", "I", false)
def tyX5 : Nat → FieldType := fun k => match k with
  | 0 => .int
  | 1 => .object "WhoIsThere$Host"
  | 2 => .int
  | 3 => .int
  | 4 => .boolean
  | 5 => .int
  | 6 => .int
  | 7 => .int
  | 8 => .int
  | 9 => .int
  | 10 => .boolean
  | _ => .int
theorem nmX5 : ∀ a, a < 12 → ∀ b, b < 12 → a ≠ b → (TX5 a).2.1 ≠ (TX5 b).2.1 := by decide +kernel
theorem tyX5_ok : ∀ k, k < 12 → parseFieldDescriptor (TX5 k).2.2.1 = some (tyX5 k) := by decide +kernel
abbrev cX5_init : ByteArray := prog_7_method_1_code
def yX5_init : MethodName := ⟨RX5, "<init>", "(ILWhoIsThere$Host;IIIIZ)V"⟩
abbrev cX5_hold : ByteArray := prog_7_method_2_code
def yX5_hold : MethodName := ⟨RX5, "hold", "(I)V"⟩
abbrev cX5_end : ByteArray := prog_7_method_3_code
def yX5_end : MethodName := ⟨RX5, "end", "()V"⟩
abbrev cX5_claimAnew : ByteArray := prog_7_method_4_code
def yX5_claimAnew : MethodName := ⟨RX5, "claimAnew", "(I)V"⟩
def RX6 : String := "WhoIsThere$Store"
def TX6 : u_T := fun k => match k with
  | 0 => ("WhoIsThere$Store", "name", "[I", true)
  | 1 => ("WhoIsThere$Store", "marks", "[I", true)
  | 2 => ("WhoIsThere$Store", "life", "[I", true)
  | 3 => ("WhoIsThere$Store", "end", "[I", true)
  | _ => ("WhoIsThere$Store", "held", "I", false)
def tyX6 : Nat → FieldType := fun k => match k with
  | 0 => .array .int
  | 1 => .array .int
  | 2 => .array .int
  | 3 => .array .int
  | _ => .int
theorem nmX6 : ∀ a, a < 5 → ∀ b, b < 5 → a ≠ b → (TX6 a).2.1 ≠ (TX6 b).2.1 := by decide +kernel
theorem tyX6_ok : ∀ k, k < 5 → parseFieldDescriptor (TX6 k).2.2.1 = some (tyX6 k) := by decide +kernel
abbrev cX6_init : ByteArray := prog_8_method_1_code
def yX6_init : MethodName := ⟨RX6, "<init>", "()V"⟩
abbrev cX6_has : ByteArray := prog_8_method_2_code
def yX6_has : MethodName := ⟨RX6, "has", "(I)Z"⟩
abbrev cX6_size : ByteArray := prog_8_method_3_code
def yX6_size : MethodName := ⟨RX6, "size", "()I"⟩
abbrev cX6_left : ByteArray := prog_8_method_4_code
def yX6_left : MethodName := ⟨RX6, "left", "(II)I"⟩
abbrev cX6_isFresh : ByteArray := prog_8_method_5_code
def yX6_isFresh : MethodName := ⟨RX6, "isFresh", "(II)Z"⟩
abbrev cX6_put : ByteArray := prog_8_method_6_code
def yX6_put : MethodName := ⟨RX6, "put", "(IIIII)V"⟩
abbrev cX6_remove : ByteArray := prog_8_method_7_code
def yX6_remove : MethodName := ⟨RX6, "remove", "(I)V"⟩
abbrev cX6_removeAll : ByteArray := prog_8_method_8_code
def yX6_removeAll : MethodName := ⟨RX6, "removeAll", "(I)V"⟩
abbrev cX6_removeEnding : ByteArray := prog_8_method_9_code
def yX6_removeEnding : MethodName := ⟨RX6, "removeEnding", "(I)V"⟩
abbrev cX6_clear : ByteArray := prog_8_method_10_code
def yX6_clear : MethodName := ⟨RX6, "clear", "()V"⟩
def RX7 : String := "WhoIsThere"
def TX7 : u_T := fun k => match k with
  | 0 => ("WhoIsThere", "hosts", "[LWhoIsThere$Host;", true)
  | 1 => ("WhoIsThere", "services", "[LWhoIsThere$Service;", true)
  | 2 => ("WhoIsThere", "hostCount", "I", false)
  | 3 => ("WhoIsThere", "serviceCount", "I", false)
  | 4 => ("WhoIsThere", "now", "I", false)
  | 5 => ("WhoIsThere", "letters", "I", false)
  | 6 => ("WhoIsThere", "lettersLately", "I", false)
  | 7 => ("WhoIsThere", "lost", "I", false)
  | 8 => ("WhoIsThere", "yields", "I", false)
  | 9 => ("WhoIsThere", "lies", "I", false)
  | 10 => ("WhoIsThere", "leftOut", "I", false)
  | 11 => ("WhoIsThere", "woken", "I", false)
  | _ => ("WhoIsThere", "takenUp", "I", false)
def tyX7 : Nat → FieldType := fun k => match k with
  | 0 => .array (.object "WhoIsThere$Host")
  | 1 => .array (.object "WhoIsThere$Service")
  | 2 => .int
  | 3 => .int
  | 4 => .int
  | 5 => .int
  | 6 => .int
  | 7 => .int
  | 8 => .int
  | 9 => .int
  | 10 => .int
  | 11 => .int
  | _ => .int
theorem nmX7 : ∀ a, a < 13 → ∀ b, b < 13 → a ≠ b → (TX7 a).2.1 ≠ (TX7 b).2.1 := by decide +kernel
theorem tyX7_ok : ∀ k, k < 13 → parseFieldDescriptor (TX7 k).2.2.1 = some (tyX7 k) := by decide +kernel
abbrev cX7_init : ByteArray := prog_1_method_1_code
def yX7_init : MethodName := ⟨RX7, "<init>", "()V"⟩
abbrev cX7_host : ByteArray := prog_1_method_2_code
def yX7_host : MethodName := ⟨RX7, "host", "(IIII)I"⟩
abbrev cX7_offer : ByteArray := prog_1_method_3_code
def yX7_offer : MethodName := ⟨RX7, "offer", "(IIIII)I"⟩
abbrev cX7_lie : ByteArray := prog_1_method_4_code
def yX7_lie : MethodName := ⟨RX7, "lie", "(IIIII)I"⟩
abbrev cX7_drop : ByteArray := prog_1_method_5_code
def yX7_drop : MethodName := ⟨RX7, "drop", "(I)Z"⟩
abbrev cX7_change : ByteArray := prog_1_method_6_code
def yX7_change : MethodName := ⟨RX7, "change", "(II)Z"⟩
abbrev cX7_ask : ByteArray := prog_1_method_7_code
def yX7_ask : MethodName := ⟨RX7, "ask", "(III)Z"⟩
abbrev cX7_sleep : ByteArray := prog_1_method_8_code
def yX7_sleep : MethodName := ⟨RX7, "sleep", "(II)Z"⟩
abbrev cX7_wake : ByteArray := prog_1_method_9_code
def yX7_wake : MethodName := ⟨RX7, "wake", "(I)Z"⟩
abbrev cX7_fall : ByteArray := prog_1_method_10_code
def yX7_fall : MethodName := ⟨RX7, "fall", "(I)Z"⟩
abbrev cX7_leave : ByteArray := prog_1_method_11_code
def yX7_leave : MethodName := ⟨RX7, "leave", "(I)Z"⟩
abbrev cX7_keeper : ByteArray := prog_1_method_12_code
def yX7_keeper : MethodName := ⟨RX7, "keeper", "(IZ)Z"⟩
abbrev cX7_bridge : ByteArray := prog_1_method_13_code
def yX7_bridge : MethodName := ⟨RX7, "bridge", "(III)Z"⟩
abbrev cX7_lose : ByteArray := prog_1_method_14_code
def yX7_lose : MethodName := ⟨RX7, "lose", "(II)Z"⟩
abbrev cX7_deaf : ByteArray := prog_1_method_15_code
def yX7_deaf : MethodName := ⟨RX7, "deaf", "(II)Z"⟩
abbrev cX7_join : ByteArray := prog_1_method_16_code
def yX7_join : MethodName := ⟨RX7, "join", "(II)Z"⟩
abbrev cX7_tick : ByteArray := prog_1_method_17_code
def yX7_tick : MethodName := ⟨RX7, "tick", "(I)I"⟩
abbrev cX7_find : ByteArray := prog_1_method_18_code
def yX7_find : MethodName := ⟨RX7, "find", "(IIII)I"⟩
abbrev cX7_record : ByteArray := prog_1_method_19_code
def yX7_record : MethodName := ⟨RX7, "record", "(III)I"⟩
abbrev cX7_service : ByteArray := prog_1_method_20_code
def yX7_service : MethodName := ⟨RX7, "service", "(II)I"⟩
abbrev cX7_look : ByteArray := prog_1_method_21_code
def yX7_look : MethodName := ⟨RX7, "look", "(II)I"⟩
abbrev cX7_reach : ByteArray := prog_1_method_22_code
def yX7_reach : MethodName := ⟨RX7, "reach", "(II)I"⟩
abbrev cX7_twice : ByteArray := prog_1_method_23_code
def yX7_twice : MethodName := ⟨RX7, "twice", "(I)I"⟩
abbrev cX7_count : ByteArray := prog_1_method_24_code
def yX7_count : MethodName := ⟨RX7, "count", "(I)I"⟩
abbrev cX7_isNet : ByteArray := prog_1_method_25_code
def yX7_isNet : MethodName := ⟨RX7, "isNet", "(I)Z"⟩
abbrev cX7_isKind : ByteArray := prog_1_method_26_code
def yX7_isKind : MethodName := ⟨RX7, "isKind", "(I)Z"⟩
abbrev cX7_areMarks : ByteArray := prog_1_method_27_code
def yX7_areMarks : MethodName := ⟨RX7, "areMarks", "(I)Z"⟩
abbrev cX7_hostAt : ByteArray := prog_1_method_28_code
def yX7_hostAt : MethodName := ⟨RX7, "hostAt", "(I)LWhoIsThere$Host;"⟩
abbrev cX7_stayingHost : ByteArray := prog_1_method_29_code
def yX7_stayingHost : MethodName := ⟨RX7, "stayingHost", "(I)LWhoIsThere$Host;"⟩
abbrev cX7_stayingHelper : ByteArray := prog_1_method_30_code
def yX7_stayingHelper : MethodName := ⟨RX7, "stayingHelper", "(I)LWhoIsThere$Host;"⟩
abbrev cX7_serviceAt : ByteArray := prog_1_method_31_code
def yX7_serviceAt : MethodName := ⟨RX7, "serviceAt", "(I)LWhoIsThere$Service;"⟩
abbrev cX7_serviceInCare : ByteArray := prog_1_method_32_code
def yX7_serviceInCare : MethodName := ⟨RX7, "serviceInCare", "(I)LWhoIsThere$Service;"⟩
abbrev cX7_addService : ByteArray := prog_1_method_33_code
def yX7_addService : MethodName := ⟨RX7, "addService", "(LWhoIsThere$Host;IIIIZ)I"⟩
abbrev cX7_liveServicesOf : ByteArray := prog_1_method_34_code
def yX7_liveServicesOf : MethodName := ⟨RX7, "liveServicesOf", "(LWhoIsThere$Host;)I"⟩
abbrev cX7_isNameTaken : ByteArray := prog_1_method_35_code
def yX7_isNameTaken : MethodName := ⟨RX7, "isNameTaken", "(LWhoIsThere$Host;I)Z"⟩
abbrev cX7_hasHadServices : ByteArray := prog_1_method_36_code
def yX7_hasHadServices : MethodName := ⟨RX7, "hasHadServices", "(LWhoIsThere$Host;)Z"⟩
abbrev cX7_isProxyOfASleeper : ByteArray := prog_1_method_37_code
def yX7_isProxyOfASleeper : MethodName := ⟨RX7, "isProxyOfASleeper", "(LWhoIsThere$Host;)Z"⟩
abbrev cX7_hasProxyAwake : ByteArray := prog_1_method_38_code
def yX7_hasProxyAwake : MethodName := ⟨RX7, "hasProxyAwake", "(LWhoIsThere$Host;)Z"⟩
abbrev cX7_isSpokenForOn : ByteArray := prog_1_method_39_code
def yX7_isSpokenForOn : MethodName := ⟨RX7, "isSpokenForOn", "(LWhoIsThere$Service;I)Z"⟩
abbrev cX7_isFound : ByteArray := prog_1_method_40_code
def yX7_isFound : MethodName := ⟨RX7, "isFound", "(LWhoIsThere$Store;III)Z"⟩
abbrev cX7_lotOf : ByteArray := prog_1_method_41_code
def yX7_lotOf : MethodName := ⟨RX7, "lotOf", "(LWhoIsThere$Host;)I"⟩
abbrev cX7_rouse : ByteArray := prog_1_method_42_code
def yX7_rouse : MethodName := ⟨RX7, "rouse", "(LWhoIsThere$Host;)V"⟩
abbrev cX7_speaksFor : ByteArray := prog_1_method_43_code
def yX7_speaksFor : MethodName := ⟨RX7, "speaksFor", "(LWhoIsThere$Host;LWhoIsThere$Service;)Z"⟩
abbrev cX7_isStronger : ByteArray := prog_1_method_44_code
def yX7_isStronger : MethodName := ⟨RX7, "isStronger", "(LWhoIsThere$Service;LWhoIsThere$Service;)Z"⟩
abbrev cX7_holdClaimedNames : ByteArray := prog_1_method_45_code
def yX7_holdClaimedNames : MethodName := ⟨RX7, "holdClaimedNames", "()V"⟩
abbrev cX7_writeLetters : ByteArray := prog_1_method_46_code
def yX7_writeLetters : MethodName := ⟨RX7, "writeLetters", "()V"⟩
abbrev cX7_writeAsks : ByteArray := prog_1_method_47_code
def yX7_writeAsks : MethodName := ⟨RX7, "writeAsks", "(LWhoIsThere$Host;)V"⟩
abbrev cX7_writeClaims : ByteArray := prog_1_method_48_code
def yX7_writeClaims : MethodName := ⟨RX7, "writeClaims", "(LWhoIsThere$Host;)V"⟩
abbrev cX7_writeByes : ByteArray := prog_1_method_49_code
def yX7_writeByes : MethodName := ⟨RX7, "writeByes", "(LWhoIsThere$Host;)V"⟩
abbrev cX7_writeTellings : ByteArray := prog_1_method_50_code
def yX7_writeTellings : MethodName := ⟨RX7, "writeTellings", "(LWhoIsThere$Host;)V"⟩
abbrev cX7_writeTelling : ByteArray := prog_1_method_51_code
def yX7_writeTelling : MethodName := ⟨RX7, "writeTelling", "(LWhoIsThere$Host;LWhoIsThere$Service;Z)V"⟩
abbrev cX7_writeCarried : ByteArray := prog_1_method_52_code
def yX7_writeCarried : MethodName := ⟨RX7, "writeCarried", "(LWhoIsThere$Host;LWhoIsThere$Bridge;)V"⟩
abbrev cX7_post : ByteArray := prog_1_method_53_code
def yX7_post : MethodName := ⟨RX7, "post", "(LWhoIsThere$Host;LWhoIsThere$Letter;I)V"⟩
abbrev cX7_hearLetters : ByteArray := prog_1_method_54_code
def yX7_hearLetters : MethodName := ⟨RX7, "hearLetters", "()V"⟩
abbrev cX7_sendOut : ByteArray := prog_1_method_55_code
def yX7_sendOut : MethodName := ⟨RX7, "sendOut", "(LWhoIsThere$Host;LWhoIsThere$Letter;)V"⟩
abbrev cX7_takeUp : ByteArray := prog_1_method_56_code
def yX7_takeUp : MethodName := ⟨RX7, "takeUp", "(LWhoIsThere$Host;LWhoIsThere$Bridge;LWhoIsThere$Letter;)V"⟩
abbrev cX7_hearLetter : ByteArray := prog_1_method_57_code
def yX7_hearLetter : MethodName := ⟨RX7, "hearLetter", "(LWhoIsThere$Host;LWhoIsThere$Host;LWhoIsThere$Letter;)V"⟩
abbrev cX7_hearAsk : ByteArray := prog_1_method_58_code
def yX7_hearAsk : MethodName := ⟨RX7, "hearAsk", "(LWhoIsThere$Host;LWhoIsThere$Host;LWhoIsThere$Letter;I)V"⟩
abbrev cX7_canAnswer : ByteArray := prog_1_method_59_code
def yX7_canAnswer : MethodName := ⟨RX7, "canAnswer", "(LWhoIsThere$Host;II)Z"⟩
abbrev cX7_leastKeeperOn : ByteArray := prog_1_method_60_code
def yX7_leastKeeperOn : MethodName := ⟨RX7, "leastKeeperOn", "(ILWhoIsThere$Host;)LWhoIsThere$Host;"⟩
abbrev cX7_knownTo : ByteArray := prog_1_method_61_code
def yX7_knownTo : MethodName := ⟨RX7, "knownTo", "(LWhoIsThere$Host;I)I"⟩
abbrev cX7_hearTelling : ByteArray := prog_1_method_62_code
def yX7_hearTelling : MethodName := ⟨RX7, "hearTelling", "(LWhoIsThere$Host;LWhoIsThere$Service;LWhoIsThere$Letter;)V"⟩
abbrev cX7_otherRecorded : ByteArray := prog_1_method_63_code
def yX7_otherRecorded : MethodName := ⟨RX7, "otherRecorded", "(LWhoIsThere$Store;LWhoIsThere$Service;I)LWhoIsThere$Service;"⟩
abbrev cX7_contend : ByteArray := prog_1_method_64_code
def yX7_contend : MethodName := ⟨RX7, "contend", "(LWhoIsThere$Host;LWhoIsThere$Service;IZ)V"⟩
abbrev cX7_giveWay : ByteArray := prog_1_method_65_code
def yX7_giveWay : MethodName := ⟨RX7, "giveWay", "(LWhoIsThere$Service;)V"⟩
abbrev cX7_forgetWhatEnds : ByteArray := prog_1_method_66_code
def yX7_forgetWhatEnds : MethodName := ⟨RX7, "forgetWhatEnds", "()V"⟩
abbrev cX7_isIn : ByteArray := prog_1_method_67_code
def yX7_isIn : MethodName := ⟨RX7, "isIn", "(II)Z"⟩
def RX8 : String := "WhoIsThereModel"
def TX8 : u_T := fun k => match k with
  | 0 => ("WhoIsThereModel", "home", "[I", true)
  | 1 => ("WhoIsThereModel", "second", "[I", true)
  | 2 => ("WhoIsThereModel", "low", "[I", true)
  | 3 => ("WhoIsThereModel", "high", "[I", true)
  | 4 => ("WhoIsThereModel", "rank", "[I", true)
  | 5 => ("WhoIsThereModel", "how", "[I", true)
  | 6 => ("WhoIsThereModel", "leaves", "[Z", true)
  | 7 => ("WhoIsThereModel", "isKeeper", "[Z", true)
  | 8 => ("WhoIsThereModel", "isBridge", "[Z", true)
  | 9 => ("WhoIsThereModel", "kinds", "[I", true)
  | 10 => ("WhoIsThereModel", "proxy", "[I", true)
  | 11 => ("WhoIsThereModel", "wrote", "[I", true)
  | 12 => ("WhoIsThereModel", "loses", "[I", true)
  | 13 => ("WhoIsThereModel", "deaf", "[I", true)
  | 14 => ("WhoIsThereModel", "hosts", "I", false)
  | 15 => ("WhoIsThereModel", "hostOf", "[I", true)
  | 16 => ("WhoIsThereModel", "kind", "[I", true)
  | 17 => ("WhoIsThereModel", "name", "[I", true)
  | 18 => ("WhoIsThereModel", "marks", "[I", true)
  | 19 => ("WhoIsThereModel", "life", "[I", true)
  | 20 => ("WhoIsThereModel", "is", "[I", true)
  | 21 => ("WhoIsThereModel", "claims", "[I", true)
  | 22 => ("WhoIsThereModel", "renewal", "[I", true)
  | 23 => ("WhoIsThereModel", "yielded", "[I", true)
  | 24 => ("WhoIsThereModel", "hasBye", "[Z", true)
  | 25 => ("WhoIsThereModel", "isFalse", "[Z", true)
  | 26 => ("WhoIsThereModel", "services", "I", false)
  | 27 => ("WhoIsThereModel", "hasRecord", "[Z", true)
  | 28 => ("WhoIsThereModel", "recName", "[I", true)
  | 29 => ("WhoIsThereModel", "recMarks", "[I", true)
  | 30 => ("WhoIsThereModel", "recLife", "[I", true)
  | 31 => ("WhoIsThereModel", "recEnds", "[I", true)
  | 32 => ("WhoIsThereModel", "answerAt", "[I", true)
  | 33 => ("WhoIsThereModel", "hasAsk", "[Z", true)
  | 34 => ("WhoIsThereModel", "askMarks", "[I", true)
  | 35 => ("WhoIsThereModel", "askAt", "[I", true)
  | 36 => ("WhoIsThereModel", "tick", "I", false)
  | 37 => ("WhoIsThereModel", "letters", "I", false)
  | 38 => ("WhoIsThereModel", "lost", "I", false)
  | 39 => ("WhoIsThereModel", "yields", "I", false)
  | 40 => ("WhoIsThereModel", "lies", "I", false)
  | 41 => ("WhoIsThereModel", "leftOut", "I", false)
  | 42 => ("WhoIsThereModel", "woken", "I", false)
  | 43 => ("WhoIsThereModel", "lately", "I", false)
  | 44 => ("WhoIsThereModel", "carried", "I", false)
  | 45 => ("WhoIsThereModel", "writer", "[I", true)
  | 46 => ("WhoIsThereModel", "netOf", "[I", true)
  | 47 => ("WhoIsThereModel", "written", "I", false)
  | 48 => ("WhoIsThereModel", "lAsk", "[Z", true)
  | 49 => ("WhoIsThereModel", "lAskMarks", "[I", true)
  | 50 => ("WhoIsThereModel", "lKnown", "[I", true)
  | 51 => ("WhoIsThereModel", "lAskBore", "[I", true)
  | 52 => ("WhoIsThereModel", "lClaim", "[I", true)
  | 53 => ("WhoIsThereModel", "lClaimBore", "[I", true)
  | 54 => ("WhoIsThereModel", "lBye", "[Z", true)
  | 55 => ("WhoIsThereModel", "lByeBore", "[I", true)
  | 56 => ("WhoIsThereModel", "lTold", "[I", true)
  | 57 => ("WhoIsThereModel", "lToldMarks", "[I", true)
  | 58 => ("WhoIsThereModel", "lToldLife", "[I", true)
  | _ => ("WhoIsThereModel", "lToldBore", "[I", true)
def tyX8 : Nat → FieldType := fun k => match k with
  | 0 => .array .int
  | 1 => .array .int
  | 2 => .array .int
  | 3 => .array .int
  | 4 => .array .int
  | 5 => .array .int
  | 6 => .array .boolean
  | 7 => .array .boolean
  | 8 => .array .boolean
  | 9 => .array .int
  | 10 => .array .int
  | 11 => .array .int
  | 12 => .array .int
  | 13 => .array .int
  | 14 => .int
  | 15 => .array .int
  | 16 => .array .int
  | 17 => .array .int
  | 18 => .array .int
  | 19 => .array .int
  | 20 => .array .int
  | 21 => .array .int
  | 22 => .array .int
  | 23 => .array .int
  | 24 => .array .boolean
  | 25 => .array .boolean
  | 26 => .int
  | 27 => .array .boolean
  | 28 => .array .int
  | 29 => .array .int
  | 30 => .array .int
  | 31 => .array .int
  | 32 => .array .int
  | 33 => .array .boolean
  | 34 => .array .int
  | 35 => .array .int
  | 36 => .int
  | 37 => .int
  | 38 => .int
  | 39 => .int
  | 40 => .int
  | 41 => .int
  | 42 => .int
  | 43 => .int
  | 44 => .int
  | 45 => .array .int
  | 46 => .array .int
  | 47 => .int
  | 48 => .array .boolean
  | 49 => .array .int
  | 50 => .array .int
  | 51 => .array .int
  | 52 => .array .int
  | 53 => .array .int
  | 54 => .array .boolean
  | 55 => .array .int
  | 56 => .array .int
  | 57 => .array .int
  | 58 => .array .int
  | _ => .array .int
theorem nmX8 : ∀ a, a < 60 → ∀ b, b < 60 → a ≠ b → (TX8 a).2.1 ≠ (TX8 b).2.1 := by decide +kernel
theorem tyX8_ok : ∀ k, k < 60 → parseFieldDescriptor (TX8 k).2.2.1 = some (tyX8 k) := by decide +kernel
abbrev cX8_init : ByteArray := prog_10_method_1_code
def yX8_init : MethodName := ⟨RX8, "<init>", "()V"⟩
abbrev cX8_in : ByteArray := prog_10_method_2_code
def yX8_in : MethodName := ⟨RX8, "in", "(III)Z"⟩
abbrev cX8_isHost : ByteArray := prog_10_method_3_code
def yX8_isHost : MethodName := ⟨RX8, "isHost", "(I)Z"⟩
abbrev cX8_isAwake : ByteArray := prog_10_method_4_code
def yX8_isAwake : MethodName := ⟨RX8, "isAwake", "(I)Z"⟩
abbrev cX8_isUp : ByteArray := prog_10_method_5_code
def yX8_isUp : MethodName := ⟨RX8, "isUp", "(I)Z"⟩
abbrev cX8_isService : ByteArray := prog_10_method_6_code
def yX8_isService : MethodName := ⟨RX8, "isService", "(I)Z"⟩
abbrev cX8_host : ByteArray := prog_10_method_7_code
def yX8_host : MethodName := ⟨RX8, "host", "(IIII)I"⟩
abbrev cX8_many : ByteArray := prog_10_method_8_code
def yX8_many : MethodName := ⟨RX8, "many", "(I)I"⟩
abbrev cX8_isNamed : ByteArray := prog_10_method_9_code
def yX8_isNamed : MethodName := ⟨RX8, "isNamed", "(III)Z"⟩
abbrev cX8_mayOffer : ByteArray := prog_10_method_10_code
def yX8_mayOffer : MethodName := ⟨RX8, "mayOffer", "(IIII)Z"⟩
abbrev cX8_comes : ByteArray := prog_10_method_11_code
def yX8_comes : MethodName := ⟨RX8, "comes", "(IIIII)I"⟩
abbrev cX8_offer : ByteArray := prog_10_method_12_code
def yX8_offer : MethodName := ⟨RX8, "offer", "(IIIII)I"⟩
abbrev cX8_lie : ByteArray := prog_10_method_13_code
def yX8_lie : MethodName := ⟨RX8, "lie", "(IIIII)I"⟩
abbrev cX8_goes : ByteArray := prog_10_method_14_code
def yX8_goes : MethodName := ⟨RX8, "goes", "(IZ)V"⟩
abbrev cX8_isOpen : ByteArray := prog_10_method_15_code
def yX8_isOpen : MethodName := ⟨RX8, "isOpen", "(I)Z"⟩
abbrev cX8_drop : ByteArray := prog_10_method_16_code
def yX8_drop : MethodName := ⟨RX8, "drop", "(I)Z"⟩
abbrev cX8_change : ByteArray := prog_10_method_17_code
def yX8_change : MethodName := ⟨RX8, "change", "(II)Z"⟩
abbrev cX8_lot : ByteArray := prog_10_method_18_code
def yX8_lot : MethodName := ⟨RX8, "lot", "(II)I"⟩
abbrev cX8_ask : ByteArray := prog_10_method_19_code
def yX8_ask : MethodName := ⟨RX8, "ask", "(III)Z"⟩
abbrev cX8_sleep : ByteArray := prog_10_method_20_code
def yX8_sleep : MethodName := ⟨RX8, "sleep", "(II)Z"⟩
abbrev cX8_wakes : ByteArray := prog_10_method_21_code
def yX8_wakes : MethodName := ⟨RX8, "wakes", "(I)V"⟩
abbrev cX8_wake : ByteArray := prog_10_method_22_code
def yX8_wake : MethodName := ⟨RX8, "wake", "(I)Z"⟩
abbrev cX8_empties : ByteArray := prog_10_method_23_code
def yX8_empties : MethodName := ⟨RX8, "empties", "(I)V"⟩
abbrev cX8_isGone : ByteArray := prog_10_method_24_code
def yX8_isGone : MethodName := ⟨RX8, "isGone", "(I)V"⟩
abbrev cX8_fall : ByteArray := prog_10_method_25_code
def yX8_fall : MethodName := ⟨RX8, "fall", "(I)Z"⟩
abbrev cX8_leave : ByteArray := prog_10_method_26_code
def yX8_leave : MethodName := ⟨RX8, "leave", "(I)Z"⟩
abbrev cX8_keeper : ByteArray := prog_10_method_27_code
def yX8_keeper : MethodName := ⟨RX8, "keeper", "(IZ)Z"⟩
abbrev cX8_bridge : ByteArray := prog_10_method_28_code
def yX8_bridge : MethodName := ⟨RX8, "bridge", "(III)Z"⟩
abbrev cX8_lose : ByteArray := prog_10_method_29_code
def yX8_lose : MethodName := ⟨RX8, "lose", "(II)Z"⟩
abbrev cX8_deaf : ByteArray := prog_10_method_30_code
def yX8_deaf : MethodName := ⟨RX8, "deaf", "(II)Z"⟩
abbrev cX8_join : ByteArray := prog_10_method_31_code
def yX8_join : MethodName := ⟨RX8, "join", "(II)Z"⟩
abbrev cX8_clears : ByteArray := prog_10_method_32_code
def yX8_clears : MethodName := ⟨RX8, "clears", "(I)V"⟩
abbrev cX8_isBare : ByteArray := prog_10_method_33_code
def yX8_isBare : MethodName := ⟨RX8, "isBare", "(I)Z"⟩
abbrev cX8_writes : ByteArray := prog_10_method_34_code
def yX8_writes : MethodName := ⟨RX8, "writes", "(II)V"⟩
abbrev cX8_speaksFor : ByteArray := prog_10_method_35_code
def yX8_speaksFor : MethodName := ⟨RX8, "speaksFor", "(II)Z"⟩
abbrev cX8_isStronger : ByteArray := prog_10_method_36_code
def yX8_isStronger : MethodName := ⟨RX8, "isStronger", "(II)Z"⟩
abbrev cX8_knownTo : ByteArray := prog_10_method_37_code
def yX8_knownTo : MethodName := ⟨RX8, "knownTo", "(III)I"⟩
abbrev cX8_isDue : ByteArray := prog_10_method_38_code
def yX8_isDue : MethodName := ⟨RX8, "isDue", "(III)V"⟩
abbrev cX8_yieldsName : ByteArray := prog_10_method_39_code
def yX8_yieldsName : MethodName := ⟨RX8, "yieldsName", "(I)V"⟩
abbrev cX8_tick : ByteArray := prog_10_method_40_code
def yX8_tick : MethodName := ⟨RX8, "tick", "(I)I"⟩
abbrev cX8_oneTick : ByteArray := prog_10_method_41_code
def yX8_oneTick : MethodName := ⟨RX8, "oneTick", "(I)V"⟩
abbrev cX8_writesAll : ByteArray := prog_10_method_42_code
def yX8_writesAll : MethodName := ⟨RX8, "writesAll", "(II)V"⟩
abbrev cX8_asks : ByteArray := prog_10_method_43_code
def yX8_asks : MethodName := ⟨RX8, "asks", "(II)V"⟩
abbrev cX8_byes : ByteArray := prog_10_method_44_code
def yX8_byes : MethodName := ⟨RX8, "byes", "(I)V"⟩
abbrev cX8_tells : ByteArray := prog_10_method_45_code
def yX8_tells : MethodName := ⟨RX8, "tells", "(II)V"⟩
abbrev cX8_takesUp : ByteArray := prog_10_method_46_code
def yX8_takesUp : MethodName := ⟨RX8, "takesUp", "(III)V"⟩
abbrev cX8_isHeard : ByteArray := prog_10_method_47_code
def yX8_isHeard : MethodName := ⟨RX8, "isHeard", "(II)V"⟩
abbrev cX8_isCarried : ByteArray := prog_10_method_48_code
def yX8_isCarried : MethodName := ⟨RX8, "isCarried", "(IIII)Z"⟩
abbrev cX8_carries : ByteArray := prog_10_method_49_code
def yX8_carries : MethodName := ⟨RX8, "carries", "(II)V"⟩
abbrev cX8_hears : ByteArray := prog_10_method_50_code
def yX8_hears : MethodName := ⟨RX8, "hears", "(III)V"⟩
abbrev cX8_keeperOn : ByteArray := prog_10_method_51_code
def yX8_keeperOn : MethodName := ⟨RX8, "keeperOn", "(II)I"⟩
abbrev cX8_hearsAsk : ByteArray := prog_10_method_52_code
def yX8_hearsAsk : MethodName := ⟨RX8, "hearsAsk", "(IIII)V"⟩
abbrev cX8_hearsClaim : ByteArray := prog_10_method_53_code
def yX8_hearsClaim : MethodName := ⟨RX8, "hearsClaim", "(IIII)V"⟩
abbrev cX8_hearsTelling : ByteArray := prog_10_method_54_code
def yX8_hearsTelling : MethodName := ⟨RX8, "hearsTelling", "(IIII)V"⟩
abbrev cX8_find : ByteArray := prog_10_method_55_code
def yX8_find : MethodName := ⟨RX8, "find", "(IIII)I"⟩
abbrev cX8_record : ByteArray := prog_10_method_56_code
def yX8_record : MethodName := ⟨RX8, "record", "(III)I"⟩
abbrev cX8_service : ByteArray := prog_10_method_57_code
def yX8_service : MethodName := ⟨RX8, "service", "(II)I"⟩
abbrev cX8_look : ByteArray := prog_10_method_58_code
def yX8_look : MethodName := ⟨RX8, "look", "(II)I"⟩
abbrev cX8_reach : ByteArray := prog_10_method_59_code
def yX8_reach : MethodName := ⟨RX8, "reach", "(II)I"⟩
abbrev cX8_isSpoken : ByteArray := prog_10_method_60_code
def yX8_isSpoken : MethodName := ⟨RX8, "isSpoken", "(II)Z"⟩
abbrev cX8_twice : ByteArray := prog_10_method_61_code
def yX8_twice : MethodName := ⟨RX8, "twice", "(I)I"⟩
abbrev cX8_count : ByteArray := prog_10_method_62_code
def yX8_count : MethodName := ⟨RX8, "count", "(I)I"⟩
def RJ6 : String := "java/lang/Integer"
abbrev cJ6_bitCount_0f7a4 : ByteArray := prog_11_method_49_code
def yJ6_bitCount_0f7a4 : MethodName := ⟨RJ6, "bitCount", "(I)I"⟩
def RL : String := "WhoIsThereLaw"
def xa_G : List Cond := lw_tbl.filter goodWord
theorem xa_g (n : Nat) {w : Cond} (h : tables_1[n]? = some w) (hg : goodWord w = true) : w ∈ xa_G :=
  List.mem_filter.mpr ⟨List.mem_append_right _ (List.mem_of_getElem? h), hg⟩
theorem xa_gs (n : Nat) {w : Cond} (h : (k2_sels lw_privs)[n]? = some w) (hg : goodWord w = true) : w ∈ xa_G :=
  List.mem_filter.mpr ⟨List.mem_append_left _ (List.mem_of_getElem? h), hg⟩
theorem xa_gl (ws : List Cond) (ps : List Nat) (hp : ws = ps.filterMap (fun i => tables_1[i]?)) (h : ws.all goodWord = true) : ∀ w ∈ ws, w ∈ xa_G := by
  intro w hw
  have h1 := List.all_eq_true.mp h w hw
  rw [hp] at hw
  obtain ⟨i, -, hi⟩ := List.mem_filterMap.mp hw
  exact xa_g i hi h1
theorem xa_good {w : Cond} (h : w ∈ xa_G) : (w.onTables && w.keeps) = true ∨ ∃ ty, w = .arrayClass ty := good_of_word (List.mem_filter.mp h).2
set_option maxRecDepth 20000 in
theorem inX0 : ∀ w ∈ u_ws RX0 TX0 2, w ∈ xa_G := xa_gl _ [126, 128] (by decide +kernel) (by decide +kernel)
set_option maxRecDepth 20000 in
theorem inX1 : ∀ w ∈ u_ws RX1 TX1 3, w ∈ xa_G := xa_gl _ [111, 113, 115] (by decide +kernel) (by decide +kernel)
set_option maxRecDepth 20000 in
theorem inX2 : ∀ w ∈ u_ws RX2 TX2 5, w ∈ xa_G := xa_gl _ [472, 474, 476, 478, 480] (by decide +kernel) (by decide +kernel)
set_option maxRecDepth 20000 in
theorem inX3 : ∀ w ∈ u_ws RX3 TX3 16, w ∈ xa_G := xa_gl _ [222, 224, 226, 228, 230, 232, 234, 236, 238, 240, 242, 244, 246, 248, 250, 252] (by decide +kernel) (by decide +kernel)
set_option maxRecDepth 20000 in
theorem inX4 : ∀ w ∈ u_ws RX4 TX4 15, w ∈ xa_G := xa_gl _ [163, 165, 167, 169, 171, 173, 175, 177, 179, 181, 183, 185, 187, 189, 191] (by decide +kernel) (by decide +kernel)
set_option maxRecDepth 20000 in
theorem inX5 : ∀ w ∈ u_ws RX5 TX5 12, w ∈ xa_G := xa_gl _ [322, 324, 326, 328, 330, 332, 334, 336, 338, 340, 342, 344] (by decide +kernel) (by decide +kernel)
set_option maxRecDepth 20000 in
theorem inX6 : ∀ w ∈ u_ws RX6 TX6 5, w ∈ xa_G := xa_gl _ [89, 91, 93, 95, 97] (by decide +kernel) (by decide +kernel)
set_option maxRecDepth 20000 in
theorem inX7 : ∀ w ∈ u_ws RX7 TX7 13, w ∈ xa_G := xa_gl _ [36, 38, 40, 42, 44, 46, 48, 50, 52, 54, 56, 58, 60] (by decide +kernel) (by decide +kernel)
set_option maxRecDepth 20000 in
theorem inX8 : ∀ w ∈ u_ws RX8 TX8 60, w ∈ xa_G := xa_gl _ [865, 867, 869, 871, 873, 875, 877, 879, 881, 883, 885, 887, 889, 891, 893, 895, 897, 899, 901, 903, 905, 907, 909, 911, 913, 915, 917, 919, 921, 923, 925, 927, 929, 931, 933, 935, 937, 939, 941, 943, 945, 947, 949, 951, 953, 955, 957, 959, 961, 963, 965, 967, 969, 971, 973, 975, 977, 979, 981, 983] (by decide +kernel) (by decide +kernel)
abbrev xa_cl : List vw_C := [(RX0, TX0, 2), (RX1, TX1, 3), (RX2, TX2, 5), (RX3, TX3, 16), (RX4, TX4, 15), (RX5, TX5, 12), (RX6, TX6, 5), (RX7, TX7, 13), (RX8, TX8, 60)]
def xa_nT : List Nat := [2, 3, 5, 16, 15, 12, 5, 13, 60]
def xa_rT : List (List Bool) := [[true, false], [true, true, false], [false, false, true, true, true], [false, false, false, false, true, true, true, false, false, false, true, true, false, false, false, true], [false, false, true, true, true, false, true, true, false, true, false, true, true, true, true], [false, true, false, false, false, false, false, false, false, false, false, false], [true, true, true, true, false], [true, true, false, false, false, false, false, false, false, false, false, false, false], [true, true, true, true, true, true, true, true, true, true, true, true, true, true, false, true, true, true, true, true, true, true, true, true, true, true, false, true, true, true, true, true, true, true, true, true, false, false, false, false, false, false, false, false, false, true, true, false, true, true, true, true, true, true, true, true, true, true, true, true]]
def xa_kT : List Nat := [3, 6, 9, 9, 9, 9, 1, 9, 9, 0, 9, 99, 99, 99, 99, 99, 4, 99, 99, 9, 9, 9, 99, 9, 9, 99, 9, 99, 9, 9, 9, 9, 4, 99, 99, 9, 9, 9, 99, 9, 9, 99, 9, 99, 9, 9, 9, 9, 4, 99, 99, 9, 9, 9, 99, 9, 9, 99, 9, 99, 9, 9, 9, 9, 4, 99, 99, 9, 9, 9, 99, 9, 9, 99, 9, 99, 9, 9, 9, 9, 2, 99, 99, 99, 99, 99, 99, 99, 99, 99, 99, 99, 99, 99, 99, 99, 99, 99, 99, 99, 99, 99, 99, 99, 99, 99, 99, 99, 99, 99, 99, 99, 99, 99, 99, 99, 99, 99, 99, 99, 99, 99, 99, 99, 99, 99, 11, 12, 5, 7, 8, 9, 9, 9, 9, 9, 9, 10, 10, 10, 9, 9, 9, 9, 9, 99, 9, 9, 9, 9, 9, 9, 9, 9, 9, 10, 10, 99, 10, 9, 9, 9, 9, 9, 10, 9, 9, 99, 99, 99, 99, 99, 99, 99, 99, 99, 9, 9, 99, 10, 9, 9, 9, 9, 9, 10, 9, 9, 9, 9, 9, 99]
def xa_lT : List Nat := [0, 0, 32, 32, 32, 32, 0, 16, 16, 0, 32, 0, 0, 0, 0, 0, 0, 0, 0, 16, 16, 16, 0, 32, 32, 0, 32, 0, 32, 32, 32, 32, 0, 0, 0, 16, 16, 16, 0, 32, 32, 0, 32, 0, 32, 32, 32, 32, 0, 0, 0, 16, 16, 16, 0, 32, 32, 0, 32, 0, 32, 32, 32, 32, 0, 0, 0, 16, 16, 16, 0, 32, 32, 0, 32, 0, 32, 32, 32, 32, 0, 0, 0, 0, 0, 0, 0, 0, 0, 0, 0, 0, 0, 0, 0, 0, 0, 0, 0, 0, 0, 0, 0, 0, 0, 0, 0, 0, 0, 0, 0, 0, 0, 0, 0, 0, 0, 0, 0, 0, 0, 0, 0, 0, 0, 0, 12, 32, 0, 0, 0, 12, 12, 12, 12, 12, 12, 12, 12, 12, 12, 12, 12, 12, 12, 0, 32, 32, 32, 32, 32, 32, 32, 32, 32, 32, 32, 0, 384, 384, 384, 384, 384, 384, 192, 192, 192, 0, 0, 0, 0, 0, 0, 0, 0, 0, 24, 24, 0, 768, 768, 768, 768, 1536, 1536, 1536, 1536, 1536, 1536, 1536, 1536, 0]
abbrev xa_MC : Type := MethodName × ByteArray × Nat × Option FieldType × Room
def mX7_init : xa_MC := (yX7_init, cX7_init, 1, none, { frames := 1, cells := 2, slots := 44, locals := 20 })
def mX7_host : xa_MC := (yX7_host, cX7_host, 7, (some .int), { frames := 3, cells := 22, slots := 505, locals := 65 })
def mX7_isNet : xa_MC := (yX7_isNet, cX7_isNet, 1, (some .boolean), { frames := 0, cells := 0, slots := 0, locals := 0 })
def mX3_init : xa_MC := (yX3_init, cX3_init, 6, none, { frames := 2, cells := 21, slots := 489, locals := 40 })
def mX6_init : xa_MC := (yX6_init, cX6_init, 1, none, { frames := 1, cells := 4, slots := 128, locals := 20 })
def mX1_init : xa_MC := (yX1_init, cX1_init, 1, none, { frames := 1, cells := 2, slots := 32, locals := 20 })
def mX0_init : xa_MC := (yX0_init, cX0_init, 1, none, { frames := 1, cells := 1, slots := 32, locals := 20 })
def mX4_init : xa_MC := (yX4_init, cX4_init, 1, none, { frames := 1, cells := 10, slots := 272, locals := 20 })
def mX7_offer : xa_MC := (yX7_offer, cX7_offer, 7, (some .int), { frames := 3, cells := 1, slots := 12, locals := 75 })
def mX7_stayingHelper : xa_MC := (yX7_stayingHelper, cX7_stayingHelper, 3, (some (.object "WhoIsThere$Host")), { frames := 2, cells := 0, slots := 0, locals := 43 })
def mX7_stayingHost : xa_MC := (yX7_stayingHost, cX7_stayingHost, 3, (some (.object "WhoIsThere$Host")), { frames := 1, cells := 0, slots := 0, locals := 21 })
def mX7_hostAt : xa_MC := (yX7_hostAt, cX7_hostAt, 2, (some (.object "WhoIsThere$Host")), { frames := 0, cells := 0, slots := 0, locals := 0 })
def mX3_hasForName : xa_MC := (yX3_hasForName, cX3_hasForName, 2, (some .boolean), { frames := 0, cells := 0, slots := 0, locals := 0 })
def mX7_addService : xa_MC := (yX7_addService, cX7_addService, 9, (some .int), { frames := 2, cells := 1, slots := 12, locals := 47 })
def mX7_isKind : xa_MC := (yX7_isKind, cX7_isKind, 1, (some .boolean), { frames := 0, cells := 0, slots := 0, locals := 0 })
def mX7_areMarks : xa_MC := (yX7_areMarks, cX7_areMarks, 1, (some .boolean), { frames := 0, cells := 0, slots := 0, locals := 0 })
def mX7_liveServicesOf : xa_MC := (yX7_liveServicesOf, cX7_liveServicesOf, 4, (some .int), { frames := 0, cells := 0, slots := 0, locals := 0 })
def mX7_isNameTaken : xa_MC := (yX7_isNameTaken, cX7_isNameTaken, 5, (some .boolean), { frames := 0, cells := 0, slots := 0, locals := 0 })
def mX5_init : xa_MC := (yX5_init, cX5_init, 8, none, { frames := 1, cells := 0, slots := 0, locals := 20 })
def mX5_hold : xa_MC := (yX5_hold, cX5_hold, 2, none, { frames := 0, cells := 0, slots := 0, locals := 0 })
def mX7_lie : xa_MC := (yX7_lie, cX7_lie, 7, (some .int), { frames := 3, cells := 1, slots := 12, locals := 75 })
def mX7_drop : xa_MC := (yX7_drop, cX7_drop, 3, (some .boolean), { frames := 2, cells := 0, slots := 0, locals := 43 })
def mX7_serviceInCare : xa_MC := (yX7_serviceInCare, cX7_serviceInCare, 3, (some (.object "WhoIsThere$Service")), { frames := 1, cells := 0, slots := 0, locals := 21 })
def mX7_serviceAt : xa_MC := (yX7_serviceAt, cX7_serviceAt, 2, (some (.object "WhoIsThere$Service")), { frames := 0, cells := 0, slots := 0, locals := 0 })
def mX5_end : xa_MC := (yX5_end, cX5_end, 1, none, { frames := 0, cells := 0, slots := 0, locals := 0 })
def mX7_change : xa_MC := (yX7_change, cX7_change, 4, (some .boolean), { frames := 2, cells := 0, slots := 0, locals := 43 })
def mX7_ask : xa_MC := (yX7_ask, cX7_ask, 5, (some .boolean), { frames := 3, cells := 0, slots := 0, locals := 65 })
def mX1_has : xa_MC := (yX1_has, cX1_has, 2, (some .boolean), { frames := 1, cells := 0, slots := 0, locals := 21 })
def mX7_isIn : xa_MC := (yX7_isIn, cX7_isIn, 2, (some .boolean), { frames := 0, cells := 0, slots := 0, locals := 0 })
def mX7_lotOf : xa_MC := (yX7_lotOf, cX7_lotOf, 2, (some .int), { frames := 0, cells := 0, slots := 0, locals := 0 })
def mX1_put : xa_MC := (yX1_put, cX1_put, 4, none, { frames := 0, cells := 0, slots := 0, locals := 0 })
def mX7_sleep : xa_MC := (yX7_sleep, cX7_sleep, 5, (some .boolean), { frames := 3, cells := 0, slots := 0, locals := 65 })
def mX7_wake : xa_MC := (yX7_wake, cX7_wake, 3, (some .boolean), { frames := 1, cells := 0, slots := 0, locals := 21 })
def mX7_fall : xa_MC := (yX7_fall, cX7_fall, 4, (some .boolean), { frames := 2, cells := 0, slots := 0, locals := 40 })
def mX3_goAway : xa_MC := (yX3_goAway, cX3_goAway, 1, none, { frames := 1, cells := 0, slots := 0, locals := 20 })
def mX6_clear : xa_MC := (yX6_clear, cX6_clear, 1, none, { frames := 0, cells := 0, slots := 0, locals := 0 })
def mX1_clear : xa_MC := (yX1_clear, cX1_clear, 1, none, { frames := 0, cells := 0, slots := 0, locals := 0 })
def mX0_clear : xa_MC := (yX0_clear, cX0_clear, 1, none, { frames := 0, cells := 0, slots := 0, locals := 0 })
def mX7_leave : xa_MC := (yX7_leave, cX7_leave, 4, (some .boolean), { frames := 2, cells := 0, slots := 0, locals := 43 })
def mX7_rouse : xa_MC := (yX7_rouse, cX7_rouse, 2, none, { frames := 0, cells := 0, slots := 0, locals := 0 })
def mX7_keeper : xa_MC := (yX7_keeper, cX7_keeper, 4, (some .boolean), { frames := 3, cells := 0, slots := 0, locals := 65 })
def mX7_bridge : xa_MC := (yX7_bridge, cX7_bridge, 5, (some .boolean), { frames := 3, cells := 34, slots := 866, locals := 65 })
def mX1_isEmpty : xa_MC := (yX1_isEmpty, cX1_isEmpty, 1, (some .boolean), { frames := 0, cells := 0, slots := 0, locals := 0 })
def mX7_hasHadServices : xa_MC := (yX7_hasHadServices, cX7_hasHadServices, 3, (some .boolean), { frames := 0, cells := 0, slots := 0, locals := 0 })
def mX7_isProxyOfASleeper : xa_MC := (yX7_isProxyOfASleeper, cX7_isProxyOfASleeper, 3, (some .boolean), { frames := 0, cells := 0, slots := 0, locals := 0 })
def mX2_init : xa_MC := (yX2_init, cX2_init, 3, none, { frames := 2, cells := 33, slots := 861, locals := 40 })
def mX7_lose : xa_MC := (yX7_lose, cX7_lose, 4, (some .boolean), { frames := 1, cells := 0, slots := 0, locals := 21 })
def mX7_deaf : xa_MC := (yX7_deaf, cX7_deaf, 4, (some .boolean), { frames := 1, cells := 0, slots := 0, locals := 21 })
def mX7_join : xa_MC := (yX7_join, cX7_join, 4, (some .boolean), { frames := 1, cells := 0, slots := 0, locals := 22 })
def mX3_move : xa_MC := (yX3_move, cX3_move, 3, none, { frames := 0, cells := 0, slots := 0, locals := 0 })
def mX7_tick : xa_MC := (yX7_tick, cX7_tick, 3, (some .int), { frames := 7, cells := 0, slots := 0, locals := 174 })
def mX7_holdClaimedNames : xa_MC := (yX7_holdClaimedNames, cX7_holdClaimedNames, 3, none, { frames := 1, cells := 0, slots := 0, locals := 21 })
def mX7_writeLetters : xa_MC := (yX7_writeLetters, cX7_writeLetters, 3, none, { frames := 4, cells := 0, slots := 0, locals := 91 })
def mX3_clearLetters : xa_MC := (yX3_clearLetters, cX3_clearLetters, 1, none, { frames := 1, cells := 0, slots := 0, locals := 20 })
def mX4_clear : xa_MC := (yX4_clear, cX4_clear, 1, none, { frames := 0, cells := 0, slots := 0, locals := 0 })
def mX7_writeByes : xa_MC := (yX7_writeByes, cX7_writeByes, 4, none, { frames := 1, cells := 0, slots := 0, locals := 22 })
def mX4_addBye : xa_MC := (yX4_addBye, cX4_addBye, 3, none, { frames := 0, cells := 0, slots := 0, locals := 0 })
def mX7_post : xa_MC := (yX7_post, cX7_post, 4, none, { frames := 1, cells := 0, slots := 0, locals := 20 })
def mX4_isEmpty : xa_MC := (yX4_isEmpty, cX4_isEmpty, 1, (some .boolean), { frames := 0, cells := 0, slots := 0, locals := 0 })
def mX7_writeCarried : xa_MC := (yX7_writeCarried, cX7_writeCarried, 4, none, { frames := 2, cells := 0, slots := 0, locals := 43 })
def mX7_writeAsks : xa_MC := (yX7_writeAsks, cX7_writeAsks, 3, none, { frames := 3, cells := 0, slots := 0, locals := 67 })
def mX1_isDue : xa_MC := (yX1_isDue, cX1_isDue, 3, (some .boolean), { frames := 2, cells := 0, slots := 0, locals := 42 })
def mX7_knownTo : xa_MC := (yX7_knownTo, cX7_knownTo, 5, (some .int), { frames := 2, cells := 0, slots := 0, locals := 43 })
def mX6_isFresh : xa_MC := (yX6_isFresh, cX6_isFresh, 3, (some .boolean), { frames := 1, cells := 0, slots := 0, locals := 21 })
def mX4_addAsk : xa_MC := (yX4_addAsk, cX4_addAsk, 5, none, { frames := 0, cells := 0, slots := 0, locals := 0 })
def mX1_remove : xa_MC := (yX1_remove, cX1_remove, 2, none, { frames := 0, cells := 0, slots := 0, locals := 0 })
def mX7_writeClaims : xa_MC := (yX7_writeClaims, cX7_writeClaims, 4, none, { frames := 1, cells := 0, slots := 0, locals := 23 })
def mX4_addClaim : xa_MC := (yX4_addClaim, cX4_addClaim, 4, none, { frames := 0, cells := 0, slots := 0, locals := 0 })
def mX7_writeTellings : xa_MC := (yX7_writeTellings, cX7_writeTellings, 5, none, { frames := 3, cells := 0, slots := 0, locals := 67 })
def mX0_isDue : xa_MC := (yX0_isDue, cX0_isDue, 3, (some .boolean), { frames := 1, cells := 0, slots := 0, locals := 21 })
def mX7_writeTelling : xa_MC := (yX7_writeTelling, cX7_writeTelling, 6, none, { frames := 2, cells := 0, slots := 0, locals := 42 })
def mX7_speaksFor : xa_MC := (yX7_speaksFor, cX7_speaksFor, 3, (some .boolean), { frames := 0, cells := 0, slots := 0, locals := 0 })
def mX4_addTelling : xa_MC := (yX4_addTelling, cX4_addTelling, 6, none, { frames := 0, cells := 0, slots := 0, locals := 0 })
def mX6_has : xa_MC := (yX6_has, cX6_has, 2, (some .boolean), { frames := 1, cells := 0, slots := 0, locals := 21 })
def mX6_left : xa_MC := (yX6_left, cX6_left, 3, (some .int), { frames := 0, cells := 0, slots := 0, locals := 0 })
def mX0_remove : xa_MC := (yX0_remove, cX0_remove, 2, none, { frames := 0, cells := 0, slots := 0, locals := 0 })
def mX7_hearLetters : xa_MC := (yX7_hearLetters, cX7_hearLetters, 3, none, { frames := 6, cells := 0, slots := 0, locals := 152 })
def mX7_sendOut : xa_MC := (yX7_sendOut, cX7_sendOut, 5, none, { frames := 5, cells := 0, slots := 0, locals := 128 })
def mX3_isOn : xa_MC := (yX3_isOn, cX3_isOn, 2, (some .boolean), { frames := 0, cells := 0, slots := 0, locals := 0 })
def mX7_takeUp : xa_MC := (yX7_takeUp, cX7_takeUp, 10, none, { frames := 3, cells := 0, slots := 0, locals := 67 })
def mX4_size : xa_MC := (yX4_size, cX4_size, 1, (some .int), { frames := 1, cells := 0, slots := 0, locals := 20 })
def mJ6_bitCount_0f7a4 : xa_MC := (yJ6_bitCount_0f7a4, cJ6_bitCount_0f7a4, 1, (some .int), { frames := 0, cells := 0, slots := 0, locals := 0 })
def mX2_carries : xa_MC := (yX2_carries, cX2_carries, 2, (some .boolean), { frames := 1, cells := 0, slots := 0, locals := 21 })
def mX4_takeAsk : xa_MC := (yX4_takeAsk, cX4_takeAsk, 5, none, { frames := 2, cells := 0, slots := 0, locals := 42 })
def mX4_hasAsk : xa_MC := (yX4_hasAsk, cX4_hasAsk, 2, (some .boolean), { frames := 1, cells := 0, slots := 0, locals := 21 })
def mX4_takeClaim : xa_MC := (yX4_takeClaim, cX4_takeClaim, 5, none, { frames := 2, cells := 0, slots := 0, locals := 42 })
def mX4_hasClaim : xa_MC := (yX4_hasClaim, cX4_hasClaim, 2, (some .boolean), { frames := 1, cells := 0, slots := 0, locals := 21 })
def mX4_takeBye : xa_MC := (yX4_takeBye, cX4_takeBye, 5, none, { frames := 2, cells := 0, slots := 0, locals := 42 })
def mX4_hasBye : xa_MC := (yX4_hasBye, cX4_hasBye, 2, (some .boolean), { frames := 1, cells := 0, slots := 0, locals := 21 })
def mX4_takeTelling : xa_MC := (yX4_takeTelling, cX4_takeTelling, 6, none, { frames := 2, cells := 0, slots := 0, locals := 42 })
def mX4_hasTelling : xa_MC := (yX4_hasTelling, cX4_hasTelling, 2, (some .boolean), { frames := 1, cells := 0, slots := 0, locals := 21 })
def mX7_hearLetter : xa_MC := (yX7_hearLetter, cX7_hearLetter, 5, none, { frames := 4, cells := 0, slots := 0, locals := 104 })
def mX7_hearAsk : xa_MC := (yX7_hearAsk, cX7_hearAsk, 11, none, { frames := 3, cells := 0, slots := 0, locals := 67 })
def mX7_leastKeeperOn : xa_MC := (yX7_leastKeeperOn, cX7_leastKeeperOn, 5, (some (.object "WhoIsThere$Host")), { frames := 0, cells := 0, slots := 0, locals := 0 })
def mX7_canAnswer : xa_MC := (yX7_canAnswer, cX7_canAnswer, 5, (some .boolean), { frames := 2, cells := 0, slots := 0, locals := 42 })
def mX0_comeDue : xa_MC := (yX0_comeDue, cX0_comeDue, 3, none, { frames := 1, cells := 0, slots := 0, locals := 21 })
def mX7_contend : xa_MC := (yX7_contend, cX7_contend, 9, none, { frames := 2, cells := 0, slots := 0, locals := 49 })
def mX7_isStronger : xa_MC := (yX7_isStronger, cX7_isStronger, 3, (some .boolean), { frames := 0, cells := 0, slots := 0, locals := 0 })
def mX7_giveWay : xa_MC := (yX7_giveWay, cX7_giveWay, 6, none, { frames := 1, cells := 0, slots := 0, locals := 24 })
def mX5_claimAnew : xa_MC := (yX5_claimAnew, cX5_claimAnew, 2, none, { frames := 0, cells := 0, slots := 0, locals := 0 })
def mX6_removeAll : xa_MC := (yX6_removeAll, cX6_removeAll, 2, none, { frames := 0, cells := 0, slots := 0, locals := 0 })
def mX7_hearTelling : xa_MC := (yX7_hearTelling, cX7_hearTelling, 8, none, { frames := 3, cells := 0, slots := 0, locals := 77 })
def mX7_otherRecorded : xa_MC := (yX7_otherRecorded, cX7_otherRecorded, 5, (some (.object "WhoIsThere$Service")), { frames := 2, cells := 0, slots := 0, locals := 42 })
def mX6_remove : xa_MC := (yX6_remove, cX6_remove, 2, none, { frames := 0, cells := 0, slots := 0, locals := 0 })
def mX6_put : xa_MC := (yX6_put, cX6_put, 6, none, { frames := 0, cells := 0, slots := 0, locals := 0 })
def mX7_forgetWhatEnds : xa_MC := (yX7_forgetWhatEnds, cX7_forgetWhatEnds, 2, none, { frames := 3, cells := 0, slots := 0, locals := 64 })
def mX6_removeEnding : xa_MC := (yX6_removeEnding, cX6_removeEnding, 3, none, { frames := 2, cells := 0, slots := 0, locals := 42 })
def mX7_find : xa_MC := (yX7_find, cX7_find, 9, (some .int), { frames := 3, cells := 0, slots := 0, locals := 66 })
def mX7_isFound : xa_MC := (yX7_isFound, cX7_isFound, 5, (some .boolean), { frames := 2, cells := 0, slots := 0, locals := 42 })
def mX7_record : xa_MC := (yX7_record, cX7_record, 5, (some .int), { frames := 2, cells := 0, slots := 0, locals := 42 })
def mX7_service : xa_MC := (yX7_service, cX7_service, 4, (some .int), { frames := 1, cells := 0, slots := 0, locals := 21 })
def mX7_look : xa_MC := (yX7_look, cX7_look, 4, (some .int), { frames := 2, cells := 0, slots := 0, locals := 40 })
def mX7_hasProxyAwake : xa_MC := (yX7_hasProxyAwake, cX7_hasProxyAwake, 2, (some .boolean), { frames := 0, cells := 0, slots := 0, locals := 0 })
def mX6_size : xa_MC := (yX6_size, cX6_size, 1, (some .int), { frames := 1, cells := 0, slots := 0, locals := 20 })
def mX1_size : xa_MC := (yX1_size, cX1_size, 1, (some .int), { frames := 1, cells := 0, slots := 0, locals := 20 })
def mX0_size : xa_MC := (yX0_size, cX0_size, 1, (some .int), { frames := 1, cells := 0, slots := 0, locals := 20 })
def mX7_reach : xa_MC := (yX7_reach, cX7_reach, 5, (some .int), { frames := 2, cells := 0, slots := 0, locals := 42 })
def mX7_twice : xa_MC := (yX7_twice, cX7_twice, 5, (some .int), { frames := 2, cells := 0, slots := 0, locals := 43 })
def mX7_isSpokenForOn : xa_MC := (yX7_isSpokenForOn, cX7_isSpokenForOn, 3, (some .boolean), { frames := 1, cells := 0, slots := 0, locals := 21 })
def mX7_count : xa_MC := (yX7_count, cX7_count, 2, (some .int), { frames := 0, cells := 0, slots := 0, locals := 0 })
def mX8_init : xa_MC := (yX8_init, cX8_init, 2, none, { frames := 1, cells := 48, slots := 18808, locals := 20 })
def mX8_host : xa_MC := (yX8_host, cX8_host, 6, (some .int), { frames := 1, cells := 0, slots := 0, locals := 22 })
def mX8_in : xa_MC := (yX8_in, cX8_in, 3, (some .boolean), { frames := 0, cells := 0, slots := 0, locals := 0 })
def mX8_offer : xa_MC := (yX8_offer, cX8_offer, 6, (some .int), { frames := 5, cells := 0, slots := 0, locals := 109 })
def mX8_mayOffer : xa_MC := (yX8_mayOffer, cX8_mayOffer, 5, (some .boolean), { frames := 4, cells := 0, slots := 0, locals := 85 })
def mX8_isUp : xa_MC := (yX8_isUp, cX8_isUp, 2, (some .boolean), { frames := 3, cells := 0, slots := 0, locals := 64 })
def mX8_isAwake : xa_MC := (yX8_isAwake, cX8_isAwake, 2, (some .boolean), { frames := 2, cells := 0, slots := 0, locals := 43 })
def mX8_isHost : xa_MC := (yX8_isHost, cX8_isHost, 2, (some .boolean), { frames := 1, cells := 0, slots := 0, locals := 22 })
def mX8_many : xa_MC := (yX8_many, cX8_many, 4, (some .int), { frames := 0, cells := 0, slots := 0, locals := 0 })
def mX8_isNamed : xa_MC := (yX8_isNamed, cX8_isNamed, 5, (some .boolean), { frames := 0, cells := 0, slots := 0, locals := 0 })
def mX8_comes : xa_MC := (yX8_comes, cX8_comes, 7, (some .int), { frames := 0, cells := 0, slots := 0, locals := 0 })
def mX8_lie : xa_MC := (yX8_lie, cX8_lie, 7, (some .int), { frames := 5, cells := 0, slots := 0, locals := 109 })
def mX8_drop : xa_MC := (yX8_drop, cX8_drop, 2, (some .boolean), { frames := 5, cells := 0, slots := 0, locals := 106 })
def mX8_isOpen : xa_MC := (yX8_isOpen, cX8_isOpen, 2, (some .boolean), { frames := 4, cells := 0, slots := 0, locals := 85 })
def mX8_isService : xa_MC := (yX8_isService, cX8_isService, 2, (some .boolean), { frames := 1, cells := 0, slots := 0, locals := 22 })
def mX8_goes : xa_MC := (yX8_goes, cX8_goes, 3, none, { frames := 0, cells := 0, slots := 0, locals := 0 })
def mX8_change : xa_MC := (yX8_change, cX8_change, 3, (some .boolean), { frames := 5, cells := 0, slots := 0, locals := 106 })
def mX8_ask : xa_MC := (yX8_ask, cX8_ask, 4, (some .boolean), { frames := 4, cells := 0, slots := 0, locals := 85 })
def mX8_lot : xa_MC := (yX8_lot, cX8_lot, 2, (some .int), { frames := 0, cells := 0, slots := 0, locals := 0 })
def mX8_sleep : xa_MC := (yX8_sleep, cX8_sleep, 3, (some .boolean), { frames := 4, cells := 0, slots := 0, locals := 85 })
def mX8_wake : xa_MC := (yX8_wake, cX8_wake, 2, (some .boolean), { frames := 2, cells := 0, slots := 0, locals := 43 })
def mX8_wakes : xa_MC := (yX8_wakes, cX8_wakes, 2, none, { frames := 0, cells := 0, slots := 0, locals := 0 })
def mX8_fall : xa_MC := (yX8_fall, cX8_fall, 3, (some .boolean), { frames := 2, cells := 0, slots := 0, locals := 44 })
def mX8_isGone : xa_MC := (yX8_isGone, cX8_isGone, 3, none, { frames := 1, cells := 0, slots := 0, locals := 22 })
def mX8_empties : xa_MC := (yX8_empties, cX8_empties, 3, none, { frames := 0, cells := 0, slots := 0, locals := 0 })
def mX8_clears : xa_MC := (yX8_clears, cX8_clears, 3, none, { frames := 0, cells := 0, slots := 0, locals := 0 })
def mX8_leave : xa_MC := (yX8_leave, cX8_leave, 3, (some .boolean), { frames := 4, cells := 0, slots := 0, locals := 85 })
def mX8_keeper : xa_MC := (yX8_keeper, cX8_keeper, 3, (some .boolean), { frames := 4, cells := 0, slots := 0, locals := 85 })
def mX8_bridge : xa_MC := (yX8_bridge, cX8_bridge, 5, (some .boolean), { frames := 4, cells := 0, slots := 0, locals := 85 })
def mX8_lose : xa_MC := (yX8_lose, cX8_lose, 3, (some .boolean), { frames := 2, cells := 0, slots := 0, locals := 43 })
def mX8_deaf : xa_MC := (yX8_deaf, cX8_deaf, 3, (some .boolean), { frames := 2, cells := 0, slots := 0, locals := 43 })
def mX8_join : xa_MC := (yX8_join, cX8_join, 4, (some .boolean), { frames := 1, cells := 0, slots := 0, locals := 22 })
def mX8_tick : xa_MC := (yX8_tick, cX8_tick, 3, (some .int), { frames := 6, cells := 0, slots := 0, locals := 149 })
def mX8_oneTick : xa_MC := (yX8_oneTick, cX8_oneTick, 4, none, { frames := 5, cells := 0, slots := 0, locals := 126 })
def mX8_writesAll : xa_MC := (yX8_writesAll, cX8_writesAll, 4, none, { frames := 3, cells := 0, slots := 0, locals := 71 })
def mX8_byes : xa_MC := (yX8_byes, cX8_byes, 3, none, { frames := 0, cells := 0, slots := 0, locals := 0 })
def mX8_writes : xa_MC := (yX8_writes, cX8_writes, 3, none, { frames := 1, cells := 0, slots := 0, locals := 22 })
def mX8_isBare : xa_MC := (yX8_isBare, cX8_isBare, 3, (some .boolean), { frames := 0, cells := 0, slots := 0, locals := 0 })
def mX8_takesUp : xa_MC := (yX8_takesUp, cX8_takesUp, 8, none, { frames := 2, cells := 0, slots := 0, locals := 44 })
def mX8_asks : xa_MC := (yX8_asks, cX8_asks, 5, none, { frames := 1, cells := 0, slots := 0, locals := 26 })
def mX8_knownTo : xa_MC := (yX8_knownTo, cX8_knownTo, 7, (some .int), { frames := 0, cells := 0, slots := 0, locals := 0 })
def mX8_tells : xa_MC := (yX8_tells, cX8_tells, 7, none, { frames := 1, cells := 0, slots := 0, locals := 23 })
def mX8_speaksFor : xa_MC := (yX8_speaksFor, cX8_speaksFor, 4, (some .boolean), { frames := 0, cells := 0, slots := 0, locals := 0 })
def mX8_isHeard : xa_MC := (yX8_isHeard, cX8_isHeard, 5, none, { frames := 4, cells := 0, slots := 0, locals := 102 })
def mX8_carries : xa_MC := (yX8_carries, cX8_carries, 9, none, { frames := 1, cells := 0, slots := 0, locals := 24 })
def mX8_isCarried : xa_MC := (yX8_isCarried, cX8_isCarried, 5, (some .boolean), { frames := 0, cells := 0, slots := 0, locals := 0 })
def mX8_hears : xa_MC := (yX8_hears, cX8_hears, 5, none, { frames := 3, cells := 0, slots := 0, locals := 78 })
def mX8_hearsAsk : xa_MC := (yX8_hearsAsk, cX8_hearsAsk, 12, none, { frames := 1, cells := 0, slots := 0, locals := 26 })
def mX8_keeperOn : xa_MC := (yX8_keeperOn, cX8_keeperOn, 4, (some .int), { frames := 0, cells := 0, slots := 0, locals := 0 })
def mX8_isDue : xa_MC := (yX8_isDue, cX8_isDue, 5, none, { frames := 0, cells := 0, slots := 0, locals := 0 })
def mX8_hearsClaim : xa_MC := (yX8_hearsClaim, cX8_hearsClaim, 6, none, { frames := 2, cells := 0, slots := 0, locals := 49 })
def mX8_isStronger : xa_MC := (yX8_isStronger, cX8_isStronger, 5, (some .boolean), { frames := 0, cells := 0, slots := 0, locals := 0 })
def mX8_yieldsName : xa_MC := (yX8_yieldsName, cX8_yieldsName, 6, none, { frames := 1, cells := 0, slots := 0, locals := 24 })
def mX8_hearsTelling : xa_MC := (yX8_hearsTelling, cX8_hearsTelling, 10, none, { frames := 2, cells := 0, slots := 0, locals := 49 })
def mX8_find : xa_MC := (yX8_find, cX8_find, 9, (some .int), { frames := 2, cells := 0, slots := 0, locals := 43 })
def mX8_record : xa_MC := (yX8_record, cX8_record, 5, (some .int), { frames := 2, cells := 0, slots := 0, locals := 43 })
def mX8_service : xa_MC := (yX8_service, cX8_service, 3, (some .int), { frames := 2, cells := 0, slots := 0, locals := 43 })
def mX8_look : xa_MC := (yX8_look, cX8_look, 5, (some .int), { frames := 2, cells := 0, slots := 0, locals := 43 })
def mX8_reach : xa_MC := (yX8_reach, cX8_reach, 4, (some .int), { frames := 3, cells := 0, slots := 0, locals := 64 })
def mX8_twice : xa_MC := (yX8_twice, cX8_twice, 5, (some .int), { frames := 2, cells := 0, slots := 0, locals := 46 })
def mX8_isSpoken : xa_MC := (yX8_isSpoken, cX8_isSpoken, 4, (some .boolean), { frames := 1, cells := 0, slots := 0, locals := 23 })
def mX8_count : xa_MC := (yX8_count, cX8_count, 2, (some .int), { frames := 0, cells := 0, slots := 0, locals := 0 })
end
section
/-! ===== the abstract heap: numbered cells, ints and references apart; the machine's rows over it ===== -/
abbrev xa_EV : Type := Launch × va_G × (Nat → ClassId)
abbrev xa_AH : Type := Nat → Nat → Int32
abbrev xa_AR : Type := Nat → Nat → Option Nat
abbrev xa_ZC : Type := (State → Array Value → List Frame → (Nat → Nat) → State → Prop) × (State → (Nat → Nat) → Prop) × List Nat × (Nat → Prop)
def xa_kd (a : Nat) : Nat := xa_kT.getD (a % 256) 99
def xa_ln (a : Nat) : Nat := xa_lT.getD (a % 256) 0
def xa_isR (c k : Nat) : Bool := (xa_rT.getD c []).getD k false
def xa_cv (al : Nat → Nat) (v : Value) : Value := match v with
  | .ref a => .ref (al a)
  | w => w
theorem xa_cv_cat (al : Nat → Nat) (v : Value) : (xa_cv al v).category = v.category := by cases v <;> rfl
theorem xa_cv_rf (al : Nat → Nat) (o : Option Nat) : xa_cv al (va_rf o) = va_rf (o.map al) := by cases o <;> rfl
def xa_sv (al : Nat → Nat) (hi : xa_AH) (hr : xa_AR) (a k : Nat) : Value := if xa_isR (xa_kd a) k = true then va_rf ((hr a k).map al) else .int (hi a k)
def xa_en (dA : Nat → ClassId) (al : Nat → Nat) (hi : xa_AH) (hr : xa_AR) (a : Nat) : va_E :=
  if xa_kd a < 9 then .inr (xa_kd a, (List.range (xa_nT.getD (xa_kd a) 0)).map (xa_sv al hi hr a))
  else if xa_kd a < 11 then .inl (dA (xa_kd a), xa_ln a, .inl (hi a))
  else .inl (dA (xa_kd a), xa_ln a, .inr (.inr (.inr (.inr (fun j => (hr a j).map al)))))
def xa_wd (dA : Nat → ClassId) (al : Nat → Nat) (L : List Nat) (hi : xa_AH) (hr : xa_AR) : va_W := L.map (fun a => (al a, xa_en dA al hi hr a))
def xa_up (h : xa_AH) (a k : Nat) (v : Int32) : xa_AH := fun x y => if x = a ∧ y = k then v else h x y
def xa_upr (h : xa_AR) (a k : Nat) (v : Option Nat) : xa_AR := fun x y => if x = a ∧ y = k then v else h x y
abbrev xa_tys (dA : Nat → ClassId) : List (ClassId × FieldType) := [(dA 9, .int), (dA 10, .boolean), (dA 11, .object "WhoIsThere$Host"), (dA 12, .object "WhoIsThere$Service")]
def xa_nest : List Cond := tables_1.filter (fun w => match w with | .methodLinkNest .. => true | _ => false)
def xa_K (E : xa_EV) (U : State) : Prop := va_K E.2.1 xa_cl (xa_tys E.2.2) U ∧ (∀ w ∈ xa_nest, va_Nw w U) ∧ va_AO "WhoIsThere$Host" U ∧ va_AO "WhoIsThere$Service" U
theorem xa_nest_is {w : Cond} (h : w ∈ xa_nest) : ∃ a i x b, w = .methodLinkNest a i x b := by
  have h1 := (List.mem_filter.mp h).2
  cases w <;> first | exact ⟨_, _, _, _, rfl⟩ | (simp at h1)
theorem xa_K.warm {E : xa_EV} {s U : State} (hW : s.WarmedH U.vm) (h : xa_K E s) : xa_K E U := by
  refine ⟨h.1.moved hW.alike, fun w hw => ?_, h.2.2.1.moved hW.alike, h.2.2.2.moved hW.alike⟩
  obtain ⟨a, i, x, b, rfl⟩ := xa_nest_is hw
  exact (h.2.1 _ hw).warmM hW
theorem xa_K.same {E : xa_EV} {s U : State} (hv : s.vm = U.vm) (h : xa_K E s) : xa_K E U := by
  have ha : s.vm.Alike U.vm := by rw [hv]; exact Vm.Alike.refl _
  refine ⟨h.1.moved ha, fun w hw => ?_, h.2.2.1.moved ha, h.2.2.2.moved ha⟩
  obtain ⟨a, i, x, b, rfl⟩ := xa_nest_is hw
  exact va_Nw.same rfl hv (h.2.1 _ hw)
def xa_own (al : Nat → Nat) (L : List Nat) (sz : Nat) : Nat → Prop := fun q => (∃ a, a ∈ L ∧ q = al a) ∨ sz ≤ q
def xa_lv (al : Nat → Nat) (nL : Nat) (ls : List (Option Value)) (lm : Array Slot) : Prop := ∃ lv : List (Nat × Value), lv_has lm nL lv ∧ (∀ q ∈ lv, q.2.category = 1) ∧ ∀ (i : Nat) (v : Value), ls[i]? = some (some v) → (i, xa_cv al v) ∈ lv
def xa_cx (E : xa_EV) (M : xa_MC) (Z : xa_ZC) (p : Program) (s : State) (m : MethodId) (args : Array Value) (meth : Method) (c : Code) (al0 : Nat → Nat) : Prop :=
  p.tables.exec = Jvm.exec ∧ c.code = M.2.1 ∧ meth.sig.returnType = M.2.2.2.1 ∧ c.maxLocals = M.2.2.1 ∧ s.vm.findClass M.1.cls = some m.cls ∧ (∀ w ∈ xa_G, w.before args s = true) ∧ meth.locks = false ∧ meth.name = M.1.name ∧ xa_K E s ∧ Z.2.1 s al0
/-- the machine, at pc of the method M, with these locals, stack and cells, comes to the end that Z tells; kc cells of ks slots may still come -/
def xa_W (E : xa_EV) (M : xa_MC) (Z : xa_ZC) (kc ks pc : Nat) (ls : List (Option Value)) (st : List Value) (L : List Nat) (hi : xa_AH) (hr : xa_AR) : Prop :=
  ∀ (p : Program) (e : Env) (s : State) (m : MethodId) (args : Array Value) (below : List Frame) (meth : Method) (c : Code) (al0 al : Nat → Nat) (H : Heap) (locs : List Loc) (cells slots : Nat) (lm : Array Slot),
    xa_cx E M Z p s m args meth c al0 → (∀ a, Z.2.2.2 a → al a = al0 a) → va_P E.2.1 xa_cl (xa_wd E.2.2 al L hi hr) H → va_D (xa_own al0 Z.2.2.1 s.heap.size) (xa_wd E.2.2 al L hi hr) → va_S (xa_own al0 Z.2.2.1 s.heap.size) s.heap H locs → xa_lv al M.2.2.1 ls lm →
    cells + kc ≤ M.2.2.2.2.cells → slots + ks ≤ M.2.2.2.2.slots → W p E.1 e M.2.2.2.2 s m args below meth c H locs cells slots (Z.1 s args below al0) (F0 m pc lm (st.map (xa_cv al)))
theorem xa_get? {dA : Nat → ClassId} {al : Nat → Nat} {L : List Nat} {hi : xa_AH} {hr : xa_AR} {a : Nat} (ha : a ∈ L) : ∃ q0 : Nat, L[q0]? = some a ∧ (xa_wd dA al L hi hr)[q0]? = some (al a, xa_en dA al hi hr a) := by
  obtain ⟨q0, h⟩ := List.getElem?_of_mem ha
  exact ⟨q0, h, by simp [xa_wd, h]⟩
theorem xa_inj {dA : Nat → ClassId} {al : Nat → Nat} {L : List Nat} {hi : xa_AH} {hr : xa_AR} {A : Nat → Prop} (hD : va_D A (xa_wd dA al L hi hr)) {a b : Nat} (ha : a ∈ L) (hb : b ∈ L) (h : al a = al b) : a = b := by
  obtain ⟨i, h1, h2⟩ := xa_get? (dA := dA) (al := al) (hi := hi) (hr := hr) ha
  obtain ⟨j, h3, h4⟩ := xa_get? (dA := dA) (al := al) (hi := hi) (hr := hr) hb
  have e := hD.1 i j _ _ h2 h4 h
  subst e
  exact Option.some.inj (h1.symm.trans h3)
theorem xa_setw {dA : Nat → ClassId} {al : Nat → Nat} {L : List Nat} {hi hi' : xa_AH} {hr hr' : xa_AR} {A : Nat → Prop} (hD : va_D A (xa_wd dA al L hi hr)) {a q0 : Nat} {e : va_E} (hq : L[q0]? = some a) (ho : ∀ b, b ≠ a → xa_en dA al hi' hr' b = xa_en dA al hi hr b) (he : xa_en dA al hi' hr' a = e) : (xa_wd dA al L hi hr).set q0 (al a, e) = xa_wd dA al L hi' hr' := by
  have hl : q0 < (xa_wd dA al L hi hr).length := by
    have := (List.getElem?_eq_some_iff.mp hq).1
    simpa [xa_wd] using this
  apply List.ext_getElem?
  intro j
  by_cases hj : j = q0
  · subst hj
    rw [List.getElem?_set_self hl]
    simp [xa_wd, hq, he]
  · rw [List.getElem?_set_ne (Ne.symm hj)]
    simp only [xa_wd, List.getElem?_map]
    cases hb : L[j]? with
    | none => rfl
    | some b =>
      have hne : b ≠ a := by
        intro hba
        subst hba
        exact hj (hD.1 j q0 (al b, xa_en dA al hi hr b) (al b, xa_en dA al hi hr b) (by simp [xa_wd, hb]) (by simp [xa_wd, hq]) rfl)
      simp [ho b hne]
theorem xa_D_same {dA : Nat → ClassId} {al : Nat → Nat} {L : List Nat} {hi hi' : xa_AH} {hr hr' : xa_AR} {A : Nat → Prop} (hD : va_D A (xa_wd dA al L hi hr)) : va_D A (xa_wd dA al L hi' hr') := by
  have key : ∀ (k : Nat) (q : Nat × va_E), (xa_wd dA al L hi' hr')[k]? = some q → ∃ q0, (xa_wd dA al L hi hr)[k]? = some q0 ∧ q0.1 = q.1 := by
    intro k q hk
    simp only [xa_wd, List.getElem?_map] at hk ⊢
    cases hb : L[k]? with
    | none => rw [hb] at hk; cases hk
    | some b => rw [hb] at hk; cases hk; exact ⟨_, rfl, rfl⟩
  refine ⟨fun i j x y h1 h2 h3 => ?_, fun k q hk => ?_⟩
  · obtain ⟨x0, g1, g2⟩ := key i x h1
    obtain ⟨y0, g3, g4⟩ := key j y h2
    exact hD.1 i j x0 y0 g1 g3 (by rw [g2, g4]; exact h3)
  · obtain ⟨q0, g1, g2⟩ := key k q hk
    rw [← g2]
    exact hD.2 k q0 g1
theorem xa_lv_st {al : Nat → Nat} {nL : Nat} {ls : List (Option Value)} {lm' : Array Slot} {lv : List (Nat × Value)} {i : Nat} {v : Value} (h2 : ∀ q ∈ lv, q.2.category = 1) (h3 : ∀ (i : Nat) (v : Value), ls[i]? = some (some v) → (i, xa_cv al v) ∈ lv) (hc : v.category = 1)
    (h' : lv_has lm' nL ((i, xa_cv al v) :: lv.filter (fun q => !(q.1 == i) && !(q.1 + 1 == i && q.2.category == 2)))) : xa_lv al nL (ls.set i (some v)) lm' := by
  refine ⟨_, h', fun q hq => ?_, fun j w hw => ?_⟩
  · rcases List.mem_cons.mp hq with rfl | hq
    · show (xa_cv al v).category = 1
      rw [xa_cv_cat]; exact hc
    · exact h2 q (List.mem_filter.mp hq).1
  · by_cases hj : j = i
    · subst hj
      by_cases hl : j < ls.length
      · rw [List.getElem?_set_self hl] at hw
        cases hw
        exact List.mem_cons_self
      · rw [List.set_eq_of_length_le (by omega)] at hw
        have := (List.getElem?_eq_some_iff.mp hw).1
        omega
    · rw [List.getElem?_set_ne (Ne.symm hj)] at hw
      have h1 := h3 j w hw
      refine List.mem_cons_of_mem _ (List.mem_filter.mpr ⟨h1, ?_⟩)
      have hcw := h2 _ h1
      simp [hj, hcw]
/-- a field's link: own class, pool index, class number and slot of the field -/
def xa_FL (own : String) (idx ci kf : Nat) : Prop := ∃ (C : String) (T : u_T) (N : Nat), xa_cl[ci]? = some (C, T, N) ∧ N = xa_nT.getD ci 0 ∧ (∀ w ∈ u_ws C T N, w ∈ xa_G) ∧ kf < N ∧ Cond.fieldLink own idx (T kf).1 (T kf).2.1 (T kf).2.2.1 ∈ xa_G
/-- a field that may be written: not final, its type -/
def xa_FP (own : String) (idx ci kf : Nat) (ty : FieldType) : Prop := ∃ (C : String) (T : u_T) (N : Nat) (ty0 : Nat → FieldType), xa_cl[ci]? = some (C, T, N) ∧ N = xa_nT.getD ci 0 ∧ (∀ w ∈ u_ws C T N, w ∈ xa_G) ∧ kf < N ∧ Cond.fieldLink own idx (T kf).1 (T kf).2.1 (T kf).2.2.1 ∈ xa_G ∧
  (∀ k, k < N → parseFieldDescriptor (T k).2.2.1 = some (ty0 k)) ∧ (∀ a, a < N → ∀ b, b < N → a ≠ b → (T a).2.1 ≠ (T b).2.1) ∧ (T kf).2.2.2 = false ∧ parseFieldDescriptor (T kf).2.2.1 = some ty
/-- a final field, in its class's constructor -/
def xa_FF (own : String) (idx ci kf : Nat) (ty : FieldType) : Prop := ∃ (C : String) (T : u_T) (N : Nat) (ty0 : Nat → FieldType), xa_cl[ci]? = some (C, T, N) ∧ N = xa_nT.getD ci 0 ∧ (∀ w ∈ u_ws C T N, w ∈ xa_G) ∧ kf < N ∧ Cond.fieldLink own idx (T kf).1 (T kf).2.1 (T kf).2.2.1 ∈ xa_G ∧
  (∀ k, k < N → parseFieldDescriptor (T k).2.2.1 = some (ty0 k)) ∧ (∀ a, a < N → ∀ b, b < N → a ≠ b → (T a).2.1 ≠ (T b).2.1) ∧ (T kf).2.2.2 = true ∧ (T kf).1 = own ∧ parseFieldDescriptor (T kf).2.2.1 = some ty
theorem xa_ci {ci : Nat} {q : vw_C} (h : xa_cl[ci]? = some q) : ci < 9 := (List.getElem?_eq_some_iff.mp h).1
theorem xa_en_o {dA : Nat → ClassId} {al : Nat → Nat} {hi : xa_AH} {hr : xa_AR} {a ci : Nat} (hk : xa_kd a = ci) (hc : ci < 9) : xa_en dA al hi hr a = .inr (ci, (List.range (xa_nT.getD ci 0)).map (xa_sv al hi hr a)) := by
  subst hk
  simp [xa_en, hc]
theorem xa_en_i {dA : Nat → ClassId} {al : Nat → Nat} {hi : xa_AH} {hr : xa_AR} {a : Nat} (hk : xa_kd a = 9) : xa_en dA al hi hr a = .inl (dA 9, xa_ln a, .inl (hi a)) := by
  simp [xa_en, hk]
theorem xa_en_z {dA : Nat → ClassId} {al : Nat → Nat} {hi : xa_AH} {hr : xa_AR} {a : Nat} (hk : xa_kd a = 10) : xa_en dA al hi hr a = .inl (dA 10, xa_ln a, .inl (hi a)) := by
  simp [xa_en, hk]
theorem xa_en_r {dA : Nat → ClassId} {al : Nat → Nat} {hi : xa_AH} {hr : xa_AR} {a k : Nat} (hk : xa_kd a = k) (h1 : ¬ k < 11) : xa_en dA al hi hr a = .inl (dA k, xa_ln a, .inr (.inr (.inr (.inr (fun j => (hr a j).map al))))) := by
  subst hk
  have h2 : ¬ xa_kd a < 9 := by omega
  simp [xa_en, h1, h2]
theorem xa_en_up {dA : Nat → ClassId} {al : Nat → Nat} {hi : xa_AH} {hr : xa_AR} {a k : Nat} {v : Int32} (b : Nat) (h : b ≠ a) : xa_en dA al (xa_up hi a k v) hr b = xa_en dA al hi hr b := by
  have e : (xa_up hi a k v) b = hi b := by funext y; simp [xa_up, h]
  have e2 : xa_sv al (xa_up hi a k v) hr b = xa_sv al hi hr b := by funext y; simp [xa_sv, e]
  simp [xa_en, e, e2]
theorem xa_en_upr {dA : Nat → ClassId} {al : Nat → Nat} {hi : xa_AH} {hr : xa_AR} {a k : Nat} {v : Option Nat} (b : Nat) (h : b ≠ a) : xa_en dA al hi (xa_upr hr a k v) b = xa_en dA al hi hr b := by
  have e : (xa_upr hr a k v) b = hr b := by funext y; simp [xa_upr, h]
  have e2 : xa_sv al hi (xa_upr hr a k v) b = xa_sv al hi hr b := by funext y; simp [xa_sv, e]
  simp [xa_en, e, e2]
theorem xa_rng_set {N k : Nat} (hk : k < N) (f g : Nat → Value) (v : Value) (h1 : g k = v) (h2 : ∀ j, j ≠ k → g j = f j) : ((List.range N).map f).set k v = (List.range N).map g := by
  apply List.ext_getElem?
  intro j
  by_cases hj : j = k
  · subst hj
    rw [List.getElem?_set_self (by simpa using hk)]
    simp [hk, h1]
  · rw [List.getElem?_set_ne (Ne.symm hj)]
    simp only [List.getElem?_map]
    cases hb : (List.range N)[j]? with
    | none => rfl
    | some b =>
      have : b = j := by
        obtain ⟨h3, h4⟩ := List.getElem?_eq_some_iff.mp hb
        simpa using h4.symm
      subst this
      simp [h2 b hj]
theorem xa_own_new {al : Nat → Nat} {L : List Nat} {sz : Nat} : ∀ q : Nat, sz ≤ q → xa_own al L sz q := fun _ h => Or.inr h
end
section
section XA4
variable {E : xa_EV} {M : xa_MC} {Z : xa_ZC} {kc ks pc : Nat} {ls : List (Option Value)} {st : List Value} {L : List Nat} {hi : xa_AH} {hr : xa_AR}
theorem xa_iadd {x y : Int32} (hd : decode M.2.1 pc = .ok (.iadd, 1))  (k : xa_W E M Z kc ks (pc + 1) ls (.int (x + y) :: st) L hi hr) : xa_W E M Z kc ks pc ls (.int y :: .int x :: st) L hi hr := by
  intro p e s m args below meth c al0 al H locs cells slots lm C hN hP hD hS hl hc hs
  exact lv_iadd C.1 C.2.1 hd  (k p e s m args below meth c al0 al H locs cells slots lm C hN hP hD hS hl hc hs)
theorem xa_isub {x y : Int32} (hd : decode M.2.1 pc = .ok (.isub, 1))  (k : xa_W E M Z kc ks (pc + 1) ls (.int (x - y) :: st) L hi hr) : xa_W E M Z kc ks pc ls (.int y :: .int x :: st) L hi hr := by
  intro p e s m args below meth c al0 al H locs cells slots lm C hN hP hD hS hl hc hs
  exact lv_isub C.1 C.2.1 hd  (k p e s m args below meth c al0 al H locs cells slots lm C hN hP hD hS hl hc hs)
theorem xa_imul {x y : Int32} (hd : decode M.2.1 pc = .ok (.imul, 1))  (k : xa_W E M Z kc ks (pc + 1) ls (.int (x * y) :: st) L hi hr) : xa_W E M Z kc ks pc ls (.int y :: .int x :: st) L hi hr := by
  intro p e s m args below meth c al0 al H locs cells slots lm C hN hP hD hS hl hc hs
  exact lv_imul C.1 C.2.1 hd  (k p e s m args below meth c al0 al H locs cells slots lm C hN hP hD hS hl hc hs)
theorem xa_iand {x y : Int32} (hd : decode M.2.1 pc = .ok (.iand, 1))  (k : xa_W E M Z kc ks (pc + 1) ls (.int (x &&& y) :: st) L hi hr) : xa_W E M Z kc ks pc ls (.int y :: .int x :: st) L hi hr := by
  intro p e s m args below meth c al0 al H locs cells slots lm C hN hP hD hS hl hc hs
  exact lv_iand C.1 C.2.1 hd  (k p e s m args below meth c al0 al H locs cells slots lm C hN hP hD hS hl hc hs)
theorem xa_ior {x y : Int32} (hd : decode M.2.1 pc = .ok (.ior, 1))  (k : xa_W E M Z kc ks (pc + 1) ls (.int (x ||| y) :: st) L hi hr) : xa_W E M Z kc ks pc ls (.int y :: .int x :: st) L hi hr := by
  intro p e s m args below meth c al0 al H locs cells slots lm C hN hP hD hS hl hc hs
  exact lv_ior C.1 C.2.1 hd  (k p e s m args below meth c al0 al H locs cells slots lm C hN hP hD hS hl hc hs)
theorem xa_ixor {x y : Int32} (hd : decode M.2.1 pc = .ok (.ixor, 1))  (k : xa_W E M Z kc ks (pc + 1) ls (.int (x ^^^ y) :: st) L hi hr) : xa_W E M Z kc ks pc ls (.int y :: .int x :: st) L hi hr := by
  intro p e s m args below meth c al0 al H locs cells slots lm C hN hP hD hS hl hc hs
  exact lv_ixor C.1 C.2.1 hd  (k p e s m args below meth c al0 al H locs cells slots lm C hN hP hD hS hl hc hs)
theorem xa_ishl {x y : Int32} (hd : decode M.2.1 pc = .ok (.ishl, 1))  (k : xa_W E M Z kc ks (pc + 1) ls (.int (x <<< (y &&& 31)) :: st) L hi hr) : xa_W E M Z kc ks pc ls (.int y :: .int x :: st) L hi hr := by
  intro p e s m args below meth c al0 al H locs cells slots lm C hN hP hD hS hl hc hs
  exact lv_ishl C.1 C.2.1 hd  (k p e s m args below meth c al0 al H locs cells slots lm C hN hP hD hS hl hc hs)
theorem xa_ishr {x y : Int32} (hd : decode M.2.1 pc = .ok (.ishr, 1))  (k : xa_W E M Z kc ks (pc + 1) ls (.int (x >>> (y &&& 31)) :: st) L hi hr) : xa_W E M Z kc ks pc ls (.int y :: .int x :: st) L hi hr := by
  intro p e s m args below meth c al0 al H locs cells slots lm C hN hP hD hS hl hc hs
  exact lv_ishr C.1 C.2.1 hd  (k p e s m args below meth c al0 al H locs cells slots lm C hN hP hD hS hl hc hs)
theorem xa_iushr {x y : Int32} (hd : decode M.2.1 pc = .ok (.iushr, 1))  (k : xa_W E M Z kc ks (pc + 1) ls (.int ((x.toUInt32 >>> (y.toUInt32 &&& Int32.toUInt32 31)).toInt32) :: st) L hi hr) : xa_W E M Z kc ks pc ls (.int y :: .int x :: st) L hi hr := by
  intro p e s m args below meth c al0 al H locs cells slots lm C hN hP hD hS hl hc hs
  exact lv_iushr C.1 C.2.1 hd rfl (k p e s m args below meth c al0 al H locs cells slots lm C hN hP hD hS hl hc hs)
theorem xa_idiv {x y : Int32} (hd : decode M.2.1 pc = .ok (.idiv, 1)) (hne : ¬ y = 0) (k : xa_W E M Z kc ks (pc + 1) ls (.int (x / y) :: st) L hi hr) : xa_W E M Z kc ks pc ls (.int y :: .int x :: st) L hi hr := by
  intro p e s m args below meth c al0 al H locs cells slots lm C hN hP hD hS hl hc hs
  exact lv_idiv C.1 C.2.1 hd hne (k p e s m args below meth c al0 al H locs cells slots lm C hN hP hD hS hl hc hs)
theorem xa_irem {x y : Int32} (hd : decode M.2.1 pc = .ok (.irem, 1)) (hne : ¬ y = 0) (k : xa_W E M Z kc ks (pc + 1) ls (.int (x - x / y * y) :: st) L hi hr) : xa_W E M Z kc ks pc ls (.int y :: .int x :: st) L hi hr := by
  intro p e s m args below meth c al0 al H locs cells slots lm C hN hP hD hS hl hc hs
  exact lv_irem C.1 C.2.1 hd hne (k p e s m args below meth c al0 al H locs cells slots lm C hN hP hD hS hl hc hs)
theorem xa_iconst {n : Int} {v : Int32} (hd : decode M.2.1 pc = .ok (.iconst n, 1)) (hv : Int32.ofInt n = v) (k : xa_W E M Z kc ks (pc + 1) ls (.int v :: st) L hi hr) : xa_W E M Z kc ks pc ls st L hi hr := by
  intro p e s m args below meth c al0 al H locs cells slots lm C hN hP hD hS hl hc hs
  exact lv_iconst C.1 C.2.1 hd hv (k p e s m args below meth c al0 al H locs cells slots lm C hN hP hD hS hl hc hs)
theorem xa_bipush {n : Int} {v : Int32} (hd : decode M.2.1 pc = .ok (.bipush n, 2)) (hv : (Int8.ofInt n).toInt32 = v) (k : xa_W E M Z kc ks (pc + 2) ls (.int v :: st) L hi hr) : xa_W E M Z kc ks pc ls st L hi hr := by
  intro p e s m args below meth c al0 al H locs cells slots lm C hN hP hD hS hl hc hs
  exact lv_bipush C.1 C.2.1 hd hv (k p e s m args below meth c al0 al H locs cells slots lm C hN hP hD hS hl hc hs)
theorem xa_sipush {n : Int} {v : Int32} (hd : decode M.2.1 pc = .ok (.sipush n, 3)) (hv : (Int16.ofInt n).toInt32 = v) (k : xa_W E M Z kc ks (pc + 3) ls (.int v :: st) L hi hr) : xa_W E M Z kc ks pc ls st L hi hr := by
  intro p e s m args below meth c al0 al H locs cells slots lm C hN hP hD hS hl hc hs
  exact lv_sipush C.1 C.2.1 hd hv (k p e s m args below meth c al0 al H locs cells slots lm C hN hP hD hS hl hc hs)
theorem xa_null  (hd : decode M.2.1 pc = .ok (.aconst_null, 1))  (k : xa_W E M Z kc ks (pc + 1) ls (.null :: st) L hi hr) : xa_W E M Z kc ks pc ls st L hi hr := by
  intro p e s m args below meth c al0 al H locs cells slots lm C hN hP hD hS hl hc hs
  exact lv_null C.1 C.2.1 hd  (k p e s m args below meth c al0 al H locs cells slots lm C hN hP hD hS hl hc hs)
theorem xa_dup {v : Value} (hd : decode M.2.1 pc = .ok (.dup, 1)) (hv : v.category = 1) (k : xa_W E M Z kc ks (pc + 1) ls (v :: v :: st) L hi hr) : xa_W E M Z kc ks pc ls (v :: st) L hi hr := by
  intro p e s m args below meth c al0 al H locs cells slots lm C hN hP hD hS hl hc hs
  exact lv_dup C.1 C.2.1 hd ((xa_cv_cat al v).trans hv) (k p e s m args below meth c al0 al H locs cells slots lm C hN hP hD hS hl hc hs)
theorem xa_dup2 {v w : Value} (hd : decode M.2.1 pc = .ok (.dup2, 1)) (hv : v.category = 1) (hw : w.category = 1) (k : xa_W E M Z kc ks (pc + 1) ls (v :: w :: v :: w :: st) L hi hr) : xa_W E M Z kc ks pc ls (v :: w :: st) L hi hr := by
  intro p e s m args below meth c al0 al H locs cells slots lm C hN hP hD hS hl hc hs
  exact lv_dup2_11 C.1 C.2.1 hd ((xa_cv_cat al v).trans hv) ((xa_cv_cat al w).trans hw) (k p e s m args below meth c al0 al H locs cells slots lm C hN hP hD hS hl hc hs)
theorem xa_goto {off : Int} {tgt : Nat} (hd : decode M.2.1 pc = .ok (.goto off, 3)) (ht : (pc : Int) + off = (tgt : Int)) (k : xa_W E M Z kc ks tgt ls st L hi hr) : xa_W E M Z kc ks pc ls st L hi hr := by
  intro p e s m args below meth c al0 al H locs cells slots lm C hN hP hD hS hl hc hs
  exact lv_goto C.1 C.2.1 hd ht (k p e s m args below meth c al0 al H locs cells slots lm C hN hP hD hS hl hc hs)
theorem xa_icmp_eq {x y : Int32} {off : Int} (tgt : Nat) (hd : decode M.2.1 pc = .ok (.if_icmp .eq off, 3)) (ht : (pc : Int) + off = (tgt : Int)) (kt : x = y → xa_W E M Z kc ks tgt ls st L hi hr) (kf : ¬ x = y → xa_W E M Z kc ks (pc + 3) ls st L hi hr) : xa_W E M Z kc ks pc ls (.int y :: .int x :: st) L hi hr := by
  intro p e s m args below meth c al0 al H locs cells slots lm C hN hP hD hS hl hc hs
  exact lv_icmp_eq C.1 C.2.1 hd ht (fun h => kt h p e s m args below meth c al0 al H locs cells slots lm C hN hP hD hS hl hc hs) (fun h => kf h p e s m args below meth c al0 al H locs cells slots lm C hN hP hD hS hl hc hs)
theorem xa_if_eq {x : Int32} {off : Int} (tgt : Nat) (hd : decode M.2.1 pc = .ok (.ifCond .eq off, 3)) (ht : (pc : Int) + off = (tgt : Int)) (kt : x = 0 → xa_W E M Z kc ks tgt ls st L hi hr) (kf : ¬ x = 0 → xa_W E M Z kc ks (pc + 3) ls st L hi hr) : xa_W E M Z kc ks pc ls (.int x :: st) L hi hr := by
  intro p e s m args below meth c al0 al H locs cells slots lm C hN hP hD hS hl hc hs
  exact lv_if_eq C.1 C.2.1 hd ht (fun h => kt h p e s m args below meth c al0 al H locs cells slots lm C hN hP hD hS hl hc hs) (fun h => kf h p e s m args below meth c al0 al H locs cells slots lm C hN hP hD hS hl hc hs)
theorem xa_icmp_ne {x y : Int32} {off : Int} (tgt : Nat) (hd : decode M.2.1 pc = .ok (.if_icmp .ne off, 3)) (ht : (pc : Int) + off = (tgt : Int)) (kt : ¬ x = y → xa_W E M Z kc ks tgt ls st L hi hr) (kf : x = y → xa_W E M Z kc ks (pc + 3) ls st L hi hr) : xa_W E M Z kc ks pc ls (.int y :: .int x :: st) L hi hr := by
  intro p e s m args below meth c al0 al H locs cells slots lm C hN hP hD hS hl hc hs
  exact lv_icmp_ne C.1 C.2.1 hd ht (fun h => kt h p e s m args below meth c al0 al H locs cells slots lm C hN hP hD hS hl hc hs) (fun h => kf h p e s m args below meth c al0 al H locs cells slots lm C hN hP hD hS hl hc hs)
theorem xa_if_ne {x : Int32} {off : Int} (tgt : Nat) (hd : decode M.2.1 pc = .ok (.ifCond .ne off, 3)) (ht : (pc : Int) + off = (tgt : Int)) (kt : ¬ x = 0 → xa_W E M Z kc ks tgt ls st L hi hr) (kf : x = 0 → xa_W E M Z kc ks (pc + 3) ls st L hi hr) : xa_W E M Z kc ks pc ls (.int x :: st) L hi hr := by
  intro p e s m args below meth c al0 al H locs cells slots lm C hN hP hD hS hl hc hs
  exact lv_if_ne C.1 C.2.1 hd ht (fun h => kt h p e s m args below meth c al0 al H locs cells slots lm C hN hP hD hS hl hc hs) (fun h => kf h p e s m args below meth c al0 al H locs cells slots lm C hN hP hD hS hl hc hs)
theorem xa_icmp_ge {x y : Int32} {off : Int} (tgt : Nat) (hd : decode M.2.1 pc = .ok (.if_icmp .ge off, 3)) (ht : (pc : Int) + off = (tgt : Int)) (kt : y ≤ x → xa_W E M Z kc ks tgt ls st L hi hr) (kf : ¬ y ≤ x → xa_W E M Z kc ks (pc + 3) ls st L hi hr) : xa_W E M Z kc ks pc ls (.int y :: .int x :: st) L hi hr := by
  intro p e s m args below meth c al0 al H locs cells slots lm C hN hP hD hS hl hc hs
  exact lv_icmp_ge C.1 C.2.1 hd ht (fun h => kt h p e s m args below meth c al0 al H locs cells slots lm C hN hP hD hS hl hc hs) (fun h => kf h p e s m args below meth c al0 al H locs cells slots lm C hN hP hD hS hl hc hs)
theorem xa_if_ge {x : Int32} {off : Int} (tgt : Nat) (hd : decode M.2.1 pc = .ok (.ifCond .ge off, 3)) (ht : (pc : Int) + off = (tgt : Int)) (kt : 0 ≤ x → xa_W E M Z kc ks tgt ls st L hi hr) (kf : ¬ 0 ≤ x → xa_W E M Z kc ks (pc + 3) ls st L hi hr) : xa_W E M Z kc ks pc ls (.int x :: st) L hi hr := by
  intro p e s m args below meth c al0 al H locs cells slots lm C hN hP hD hS hl hc hs
  exact lv_if_ge C.1 C.2.1 hd ht (fun h => kt h p e s m args below meth c al0 al H locs cells slots lm C hN hP hD hS hl hc hs) (fun h => kf h p e s m args below meth c al0 al H locs cells slots lm C hN hP hD hS hl hc hs)
theorem xa_icmp_gt {x y : Int32} {off : Int} (tgt : Nat) (hd : decode M.2.1 pc = .ok (.if_icmp .gt off, 3)) (ht : (pc : Int) + off = (tgt : Int)) (kt : y < x → xa_W E M Z kc ks tgt ls st L hi hr) (kf : ¬ y < x → xa_W E M Z kc ks (pc + 3) ls st L hi hr) : xa_W E M Z kc ks pc ls (.int y :: .int x :: st) L hi hr := by
  intro p e s m args below meth c al0 al H locs cells slots lm C hN hP hD hS hl hc hs
  exact lv_icmp_gt C.1 C.2.1 hd ht (fun h => kt h p e s m args below meth c al0 al H locs cells slots lm C hN hP hD hS hl hc hs) (fun h => kf h p e s m args below meth c al0 al H locs cells slots lm C hN hP hD hS hl hc hs)
theorem xa_if_gt {x : Int32} {off : Int} (tgt : Nat) (hd : decode M.2.1 pc = .ok (.ifCond .gt off, 3)) (ht : (pc : Int) + off = (tgt : Int)) (kt : 0 < x → xa_W E M Z kc ks tgt ls st L hi hr) (kf : ¬ 0 < x → xa_W E M Z kc ks (pc + 3) ls st L hi hr) : xa_W E M Z kc ks pc ls (.int x :: st) L hi hr := by
  intro p e s m args below meth c al0 al H locs cells slots lm C hN hP hD hS hl hc hs
  exact lv_if_gt C.1 C.2.1 hd ht (fun h => kt h p e s m args below meth c al0 al H locs cells slots lm C hN hP hD hS hl hc hs) (fun h => kf h p e s m args below meth c al0 al H locs cells slots lm C hN hP hD hS hl hc hs)
theorem xa_icmp_le {x y : Int32} {off : Int} (tgt : Nat) (hd : decode M.2.1 pc = .ok (.if_icmp .le off, 3)) (ht : (pc : Int) + off = (tgt : Int)) (kt : x ≤ y → xa_W E M Z kc ks tgt ls st L hi hr) (kf : ¬ x ≤ y → xa_W E M Z kc ks (pc + 3) ls st L hi hr) : xa_W E M Z kc ks pc ls (.int y :: .int x :: st) L hi hr := by
  intro p e s m args below meth c al0 al H locs cells slots lm C hN hP hD hS hl hc hs
  exact lv_icmp_le C.1 C.2.1 hd ht (fun h => kt h p e s m args below meth c al0 al H locs cells slots lm C hN hP hD hS hl hc hs) (fun h => kf h p e s m args below meth c al0 al H locs cells slots lm C hN hP hD hS hl hc hs)
theorem xa_if_le {x : Int32} {off : Int} (tgt : Nat) (hd : decode M.2.1 pc = .ok (.ifCond .le off, 3)) (ht : (pc : Int) + off = (tgt : Int)) (kt : x ≤ 0 → xa_W E M Z kc ks tgt ls st L hi hr) (kf : ¬ x ≤ 0 → xa_W E M Z kc ks (pc + 3) ls st L hi hr) : xa_W E M Z kc ks pc ls (.int x :: st) L hi hr := by
  intro p e s m args below meth c al0 al H locs cells slots lm C hN hP hD hS hl hc hs
  exact lv_if_le C.1 C.2.1 hd ht (fun h => kt h p e s m args below meth c al0 al H locs cells slots lm C hN hP hD hS hl hc hs) (fun h => kf h p e s m args below meth c al0 al H locs cells slots lm C hN hP hD hS hl hc hs)
theorem xa_icmp_lt {x y : Int32} {off : Int} (tgt : Nat) (hd : decode M.2.1 pc = .ok (.if_icmp .lt off, 3)) (ht : (pc : Int) + off = (tgt : Int)) (kt : x < y → xa_W E M Z kc ks tgt ls st L hi hr) (kf : ¬ x < y → xa_W E M Z kc ks (pc + 3) ls st L hi hr) : xa_W E M Z kc ks pc ls (.int y :: .int x :: st) L hi hr := by
  intro p e s m args below meth c al0 al H locs cells slots lm C hN hP hD hS hl hc hs
  exact lv_icmp_lt C.1 C.2.1 hd ht (fun h => kt h p e s m args below meth c al0 al H locs cells slots lm C hN hP hD hS hl hc hs) (fun h => kf h p e s m args below meth c al0 al H locs cells slots lm C hN hP hD hS hl hc hs)
theorem xa_if_lt {x : Int32} {off : Int} (tgt : Nat) (hd : decode M.2.1 pc = .ok (.ifCond .lt off, 3)) (ht : (pc : Int) + off = (tgt : Int)) (kt : x < 0 → xa_W E M Z kc ks tgt ls st L hi hr) (kf : ¬ x < 0 → xa_W E M Z kc ks (pc + 3) ls st L hi hr) : xa_W E M Z kc ks pc ls (.int x :: st) L hi hr := by
  intro p e s m args below meth c al0 al H locs cells slots lm C hN hP hD hS hl hc hs
  exact lv_if_lt C.1 C.2.1 hd ht (fun h => kt h p e s m args below meth c al0 al H locs cells slots lm C hN hP hD hS hl hc hs) (fun h => kf h p e s m args below meth c al0 al H locs cells slots lm C hN hP hD hS hl hc hs)
theorem xa_ifnull_ref {a : Nat} {off : Int} (hd : decode M.2.1 pc = .ok (.ifnull off, 3)) (k : xa_W E M Z kc ks (pc + 3) ls st L hi hr) : xa_W E M Z kc ks pc ls (.ref a :: st) L hi hr := by
  intro p e s m args below meth c al0 al H locs cells slots lm C hN hP hD hS hl hc hs
  exact lv_ifnull C.1 C.2.1 hd (k p e s m args below meth c al0 al H locs cells slots lm C hN hP hD hS hl hc hs)
theorem xa_ifnull_null {off : Int} (tgt : Nat) (hd : decode M.2.1 pc = .ok (.ifnull off, 3)) (ht : (pc : Int) + off = (tgt : Int)) (k : xa_W E M Z kc ks tgt ls st L hi hr) : xa_W E M Z kc ks pc ls (.null :: st) L hi hr := by
  intro p e s m args below meth c al0 al H locs cells slots lm C hN hP hD hS hl hc hs
  exact lv_ifnullN C.1 C.2.1 hd ht (k p e s m args below meth c al0 al H locs cells slots lm C hN hP hD hS hl hc hs)
theorem xa_ifnonnull_ref {a : Nat} {off : Int} (tgt : Nat) (hd : decode M.2.1 pc = .ok (.ifnonnull off, 3)) (ht : (pc : Int) + off = (tgt : Int)) (k : xa_W E M Z kc ks tgt ls st L hi hr) : xa_W E M Z kc ks pc ls (.ref a :: st) L hi hr := by
  intro p e s m args below meth c al0 al H locs cells slots lm C hN hP hD hS hl hc hs
  exact lv_ifnonnull C.1 C.2.1 hd ht (k p e s m args below meth c al0 al H locs cells slots lm C hN hP hD hS hl hc hs)
theorem xa_ifnonnull_null {off : Int} (hd : decode M.2.1 pc = .ok (.ifnonnull off, 3)) (k : xa_W E M Z kc ks (pc + 3) ls st L hi hr) : xa_W E M Z kc ks pc ls (.null :: st) L hi hr := by
  intro p e s m args below meth c al0 al H locs cells slots lm C hN hP hD hS hl hc hs
  exact lv_ifnonnullN C.1 C.2.1 hd (k p e s m args below meth c al0 al H locs cells slots lm C hN hP hD hS hl hc hs)
theorem xa_ifnull {o : Option Nat} {off : Int} (tgt : Nat) (hd : decode M.2.1 pc = .ok (.ifnull off, 3)) (ht : (pc : Int) + off = (tgt : Int)) (kt : o = none → xa_W E M Z kc ks tgt ls st L hi hr) (kf : ∀ a, o = some a → xa_W E M Z kc ks (pc + 3) ls st L hi hr) : xa_W E M Z kc ks pc ls (va_rf o :: st) L hi hr := by
  cases o with
  | none => exact xa_ifnull_null tgt hd ht (kt rfl)
  | some a => exact xa_ifnull_ref hd (kf a rfl)
theorem xa_ifnonnull {o : Option Nat} {off : Int} (tgt : Nat) (hd : decode M.2.1 pc = .ok (.ifnonnull off, 3)) (ht : (pc : Int) + off = (tgt : Int)) (kt : ∀ a, o = some a → xa_W E M Z kc ks tgt ls st L hi hr) (kf : o = none → xa_W E M Z kc ks (pc + 3) ls st L hi hr) : xa_W E M Z kc ks pc ls (va_rf o :: st) L hi hr := by
  cases o with
  | none => exact xa_ifnonnull_null hd (kf rfl)
  | some a => exact xa_ifnonnull_ref tgt hd ht (kt a rfl)
theorem xa_maps {dA : Nat → ClassId} {al : Nat → Nat} {A : Nat → Prop} (hD : va_D A (xa_wd dA al L hi hr)) {rx ry : Option Nat} (hx : ∀ a, rx = some a → a ∈ L) (hy : ∀ a, ry = some a → a ∈ L) : rx.map al = ry.map al ↔ rx = ry := by
  constructor
  · intro h
    cases rx with
    | none => cases ry with
      | none => rfl
      | some b => simp at h
    | some a => cases ry with
      | none => simp at h
      | some b => rw [xa_inj hD (hx a rfl) (hy b rfl) (by simpa using h)]
  · intro h; rw [h]
theorem xa_acmp_eq {rx ry : Option Nat} {off : Int} (tgt : Nat) (hd : decode M.2.1 pc = .ok (.if_acmp .eq off, 3)) (ht : (pc : Int) + off = (tgt : Int)) (hx : ∀ a, rx = some a → a ∈ L) (hy : ∀ a, ry = some a → a ∈ L) (kt : rx = ry → xa_W E M Z kc ks tgt ls st L hi hr) (kf : ¬ rx = ry → xa_W E M Z kc ks (pc + 3) ls st L hi hr) : xa_W E M Z kc ks pc ls (va_rf ry :: va_rf rx :: st) L hi hr := by
  intro p e s m args below meth c al0 al H locs cells slots lm C hN hP hD hS hl hc hs
  have hm := xa_maps hD hx hy
  show W p E.1 e M.2.2.2.2 s m args below meth c H locs cells slots (Z.1 s args below al0) (F0 m pc lm (xa_cv al (va_rf ry) :: xa_cv al (va_rf rx) :: st.map (xa_cv al)))
  rw [xa_cv_rf, xa_cv_rf]
  exact lv_acmp_eq C.1 C.2.1 hd ht (fun h => kt (by rw [← hm]; exact h) p e s m args below meth c al0 al H locs cells slots lm C hN hP hD hS hl hc hs) (fun h => kf (by rw [← hm]; exact h) p e s m args below meth c al0 al H locs cells slots lm C hN hP hD hS hl hc hs)
theorem xa_acmp_ne {rx ry : Option Nat} {off : Int} (tgt : Nat) (hd : decode M.2.1 pc = .ok (.if_acmp .ne off, 3)) (ht : (pc : Int) + off = (tgt : Int)) (hx : ∀ a, rx = some a → a ∈ L) (hy : ∀ a, ry = some a → a ∈ L) (kt : ¬ rx = ry → xa_W E M Z kc ks tgt ls st L hi hr) (kf : rx = ry → xa_W E M Z kc ks (pc + 3) ls st L hi hr) : xa_W E M Z kc ks pc ls (va_rf ry :: va_rf rx :: st) L hi hr := by
  intro p e s m args below meth c al0 al H locs cells slots lm C hN hP hD hS hl hc hs
  have hm := xa_maps hD hx hy
  show W p E.1 e M.2.2.2.2 s m args below meth c H locs cells slots (Z.1 s args below al0) (F0 m pc lm (xa_cv al (va_rf ry) :: xa_cv al (va_rf rx) :: st.map (xa_cv al)))
  rw [xa_cv_rf, xa_cv_rf]
  exact lv_acmp_ne C.1 C.2.1 hd ht (fun h => kt (by rw [← hm]; exact h) p e s m args below meth c al0 al H locs cells slots lm C hN hP hD hS hl hc hs) (fun h => kf (by rw [← hm]; exact h) p e s m args below meth c al0 al H locs cells slots lm C hN hP hD hS hl hc hs)
theorem xa_iload_n {k : Fin 4} {x : Int32} (hd : decode M.2.1 pc = .ok (.iload_n k, 1)) (hv : ls[(k : Nat)]? = some (some (.int x))) (kk : xa_W E M Z kc ks (pc + 1) ls (.int x :: st) L hi hr) : xa_W E M Z kc ks pc ls st L hi hr := by
  intro p e s m args below meth c al0 al H locs cells slots lm C hN hP hD hS hl hc hs
  obtain ⟨lv, h1, h2, h3⟩ := id hl
  exact lv_iload_n C.1 C.2.1 hd rfl (h1.2.2 _ (h3 _ _ hv)) (kk p e s m args below meth c al0 al H locs cells slots lm C hN hP hD hS hl hc hs)
theorem xa_iload {i : Nat} {x : Int32} (hd : decode M.2.1 pc = .ok (.iload i, 2)) (hv : ls[i]? = some (some (.int x))) (kk : xa_W E M Z kc ks (pc + 2) ls (.int x :: st) L hi hr) : xa_W E M Z kc ks pc ls st L hi hr := by
  intro p e s m args below meth c al0 al H locs cells slots lm C hN hP hD hS hl hc hs
  obtain ⟨lv, h1, h2, h3⟩ := id hl
  exact lv_iload C.1 C.2.1 hd (h1.2.2 _ (h3 _ _ hv)) (kk p e s m args below meth c al0 al H locs cells slots lm C hN hP hD hS hl hc hs)
theorem xa_aload_n {k : Fin 4} {x : Nat} (hd : decode M.2.1 pc = .ok (.aload_n k, 1)) (hv : ls[(k : Nat)]? = some (some (.ref x))) (kk : xa_W E M Z kc ks (pc + 1) ls (.ref x :: st) L hi hr) : xa_W E M Z kc ks pc ls st L hi hr := by
  intro p e s m args below meth c al0 al H locs cells slots lm C hN hP hD hS hl hc hs
  obtain ⟨lv, h1, h2, h3⟩ := id hl
  exact lv_aload_n C.1 C.2.1 hd rfl (h1.2.2 _ (h3 _ _ hv)) (kk p e s m args below meth c al0 al H locs cells slots lm C hN hP hD hS hl hc hs)
theorem xa_aload {i : Nat} {x : Nat} (hd : decode M.2.1 pc = .ok (.aload i, 2)) (hv : ls[i]? = some (some (.ref x))) (kk : xa_W E M Z kc ks (pc + 2) ls (.ref x :: st) L hi hr) : xa_W E M Z kc ks pc ls st L hi hr := by
  intro p e s m args below meth c al0 al H locs cells slots lm C hN hP hD hS hl hc hs
  obtain ⟨lv, h1, h2, h3⟩ := id hl
  exact lv_aload C.1 C.2.1 hd (h1.2.2 _ (h3 _ _ hv)) (kk p e s m args below meth c al0 al H locs cells slots lm C hN hP hD hS hl hc hs)
theorem xa_aload_nN {k : Fin 4} (hd : decode M.2.1 pc = .ok (.aload_n k, 1)) (hv : ls[(k : Nat)]? = some (some (.null))) (kk : xa_W E M Z kc ks (pc + 1) ls (.null :: st) L hi hr) : xa_W E M Z kc ks pc ls st L hi hr := by
  intro p e s m args below meth c al0 al H locs cells slots lm C hN hP hD hS hl hc hs
  obtain ⟨lv, h1, h2, h3⟩ := id hl
  exact lv_aload_nN C.1 C.2.1 hd rfl (h1.2.2 _ (h3 _ _ hv)) (kk p e s m args below meth c al0 al H locs cells slots lm C hN hP hD hS hl hc hs)
theorem xa_aloadN {i : Nat} (hd : decode M.2.1 pc = .ok (.aload i, 2)) (hv : ls[i]? = some (some (.null))) (kk : xa_W E M Z kc ks (pc + 2) ls (.null :: st) L hi hr) : xa_W E M Z kc ks pc ls st L hi hr := by
  intro p e s m args below meth c al0 al H locs cells slots lm C hN hP hD hS hl hc hs
  obtain ⟨lv, h1, h2, h3⟩ := id hl
  exact lv_aloadN C.1 C.2.1 hd (h1.2.2 _ (h3 _ _ hv)) (kk p e s m args below meth c al0 al H locs cells slots lm C hN hP hD hS hl hc hs)
theorem xa_istore_n {k : Fin 4} {x : Int32} (hd : decode M.2.1 pc = .ok (.istore_n k, 1)) (hn : (k : Nat) < M.2.2.1) (kk : xa_W E M Z kc ks (pc + 1) (ls.set (k : Nat) (some (.int x))) st L hi hr) : xa_W E M Z kc ks pc ls (.int x :: st) L hi hr := by
  intro p e s m args below meth c al0 al H locs cells slots lm C hN hP hD hS hl hc hs
  obtain ⟨lv, h1, h2, h3⟩ := id hl
  exact lv_istore_n C.1 C.2.1 hd rfl h1 hn rfl (fun lm' h' => kk p e s m args below meth c al0 al H locs cells slots lm' C hN hP hD hS (xa_lv_st (v := .int x) h2 h3 rfl h') hc hs)
theorem xa_istore {i : Nat} {x : Int32} (hd : decode M.2.1 pc = .ok (.istore i, 2)) (hn : i < M.2.2.1) (kk : xa_W E M Z kc ks (pc + 2) (ls.set i (some (.int x))) st L hi hr) : xa_W E M Z kc ks pc ls (.int x :: st) L hi hr := by
  intro p e s m args below meth c al0 al H locs cells slots lm C hN hP hD hS hl hc hs
  obtain ⟨lv, h1, h2, h3⟩ := id hl
  exact lv_istore C.1 C.2.1 hd h1 hn rfl (fun lm' h' => kk p e s m args below meth c al0 al H locs cells slots lm' C hN hP hD hS (xa_lv_st (v := .int x) h2 h3 rfl h') hc hs)
theorem xa_astore_n {k : Fin 4} {x : Nat} (hd : decode M.2.1 pc = .ok (.astore_n k, 1)) (hn : (k : Nat) < M.2.2.1) (kk : xa_W E M Z kc ks (pc + 1) (ls.set (k : Nat) (some (.ref x))) st L hi hr) : xa_W E M Z kc ks pc ls (.ref x :: st) L hi hr := by
  intro p e s m args below meth c al0 al H locs cells slots lm C hN hP hD hS hl hc hs
  obtain ⟨lv, h1, h2, h3⟩ := id hl
  exact lv_astore_n C.1 C.2.1 hd rfl h1 hn rfl (fun lm' h' => kk p e s m args below meth c al0 al H locs cells slots lm' C hN hP hD hS (xa_lv_st (v := .ref x) h2 h3 rfl h') hc hs)
theorem xa_astore {i : Nat} {x : Nat} (hd : decode M.2.1 pc = .ok (.astore i, 2)) (hn : i < M.2.2.1) (kk : xa_W E M Z kc ks (pc + 2) (ls.set i (some (.ref x))) st L hi hr) : xa_W E M Z kc ks pc ls (.ref x :: st) L hi hr := by
  intro p e s m args below meth c al0 al H locs cells slots lm C hN hP hD hS hl hc hs
  obtain ⟨lv, h1, h2, h3⟩ := id hl
  exact lv_astore C.1 C.2.1 hd h1 hn rfl (fun lm' h' => kk p e s m args below meth c al0 al H locs cells slots lm' C hN hP hD hS (xa_lv_st (v := .ref x) h2 h3 rfl h') hc hs)
theorem xa_astore_nN {k : Fin 4} (hd : decode M.2.1 pc = .ok (.astore_n k, 1)) (hn : (k : Nat) < M.2.2.1) (kk : xa_W E M Z kc ks (pc + 1) (ls.set (k : Nat) (some (.null))) st L hi hr) : xa_W E M Z kc ks pc ls (.null :: st) L hi hr := by
  intro p e s m args below meth c al0 al H locs cells slots lm C hN hP hD hS hl hc hs
  obtain ⟨lv, h1, h2, h3⟩ := id hl
  exact lv_astore_nN C.1 C.2.1 hd rfl h1 hn rfl (fun lm' h' => kk p e s m args below meth c al0 al H locs cells slots lm' C hN hP hD hS (xa_lv_st (v := .null) h2 h3 rfl h') hc hs)
theorem xa_astoreN {i : Nat} (hd : decode M.2.1 pc = .ok (.astore i, 2)) (hn : i < M.2.2.1) (kk : xa_W E M Z kc ks (pc + 2) (ls.set i (some (.null))) st L hi hr) : xa_W E M Z kc ks pc ls (.null :: st) L hi hr := by
  intro p e s m args below meth c al0 al H locs cells slots lm C hN hP hD hS hl hc hs
  obtain ⟨lv, h1, h2, h3⟩ := id hl
  exact lv_astoreN C.1 C.2.1 hd h1 hn rfl (fun lm' h' => kk p e s m args below meth c al0 al H locs cells slots lm' C hN hP hD hS (xa_lv_st (v := .null) h2 h3 rfl h') hc hs)
theorem xa_iinc {i : Nat} {n : Int} {x : Int32} {v : Int32} (hd : decode M.2.1 pc = .ok (.iinc i n, 3)) (hv : ls[i]? = some (some (.int x))) (hn : i < M.2.2.1) (he : x + Int32.ofInt n = v) (kk : xa_W E M Z kc ks (pc + 3) (ls.set i (some (.int v))) st L hi hr) : xa_W E M Z kc ks pc ls st L hi hr := by
  intro p e s m args below meth c al0 al H locs cells slots lm C hN hP hD hS hl hc hs
  obtain ⟨lv, h1, h2, h3⟩ := id hl
  obtain ⟨q, hq⟩ := List.getElem?_of_mem (h3 _ _ hv)
  exact lv_iinc C.1 C.2.1 hd h1 (k := q) hq he hn rfl (fun lm' h' => kk p e s m args below meth c al0 al H locs cells slots lm' C hN hP hD hS (xa_lv_st (v := .int v) h2 h3 rfl h') hc hs)
theorem xa_ldc {i : Nat} {v : Int32} (hd : decode M.2.1 pc = .ok (.ldc i, 2)) (hw : Cond.constant M.1.cls i v ∈ xa_G) (k : xa_W E M Z kc ks (pc + 2) ls (.int v :: st) L hi hr) : xa_W E M Z kc ks pc ls st L hi hr := by
  intro p e s m args below meth c al0 al H locs cells slots lm C hN hP hD hS hl hc hs
  exact lv_ldc C.1 C.2.1 C.2.2.2.2.1 (C.2.2.2.2.2.1 _ hw) hd (k p e s m args below meth c al0 al H locs cells slots lm C hN hP hD hS hl hc hs)
theorem xa_ldcw {i : Nat} {v : Int32} (hd : decode M.2.1 pc = .ok (.ldc_w i, 3)) (hw : Cond.constant M.1.cls i v ∈ xa_G) (k : xa_W E M Z kc ks (pc + 3) ls (.int v :: st) L hi hr) : xa_W E M Z kc ks pc ls st L hi hr := by
  intro p e s m args below meth c al0 al H locs cells slots lm C hN hP hD hS hl hc hs
  exact lv_ldcw C.1 C.2.1 C.2.2.2.2.1 (C.2.2.2.2.2.1 _ hw) hd (k p e s m args below meth c al0 al H locs cells slots lm C hN hP hD hS hl hc hs)
theorem xa_tableIn {dflt lo hj : Int} {offs : Array Int} {len : Nat} {x : Int32} {off : Int} (tgt : Nat) (hd : decode M.2.1 pc = .ok (.tableswitch dflt lo hj offs, len)) (h1 : ¬ x.toInt < lo) (h2 : ¬ hj < x.toInt) (ho : offs[(x.toInt - lo).toNat]? = some off) (ht : (pc : Int) + off = (tgt : Int)) (k : xa_W E M Z kc ks tgt ls st L hi hr) : xa_W E M Z kc ks pc ls (.int x :: st) L hi hr := by
  intro p e s m args below meth c al0 al H locs cells slots lm C hN hP hD hS hl hc hs
  exact lv_tableIn C.1 C.2.1 hd h1 h2 ho ht (k p e s m args below meth c al0 al H locs cells slots lm C hN hP hD hS hl hc hs)
theorem xa_tableOut {dflt lo hj : Int} {offs : Array Int} {len : Nat} {x : Int32} (tgt : Nat) (hd : decode M.2.1 pc = .ok (.tableswitch dflt lo hj offs, len)) (h : x.toInt < lo ∨ hj < x.toInt) (ht : (pc : Int) + dflt = (tgt : Int)) (k : xa_W E M Z kc ks tgt ls st L hi hr) : xa_W E M Z kc ks pc ls (.int x :: st) L hi hr := by
  intro p e s m args below meth c al0 al H locs cells slots lm C hN hP hD hS hl hc hs
  exact lv_tableOut C.1 C.2.1 hd h ht (k p e s m args below meth c al0 al H locs cells slots lm C hN hP hD hS hl hc hs)
theorem xa_fv {al : Nat → Nat} {a ci N kf : Nat} (hN : N = xa_nT.getD ci 0) (hf : kf < N) (v : Value) (hv : xa_sv al hi hr a kf = v) : ((List.range (xa_nT.getD ci 0)).map (xa_sv al hi hr a))[kf]? = some v := by
  rw [← hN]
  simp [hf, hv]
theorem xa_getI {a idx : Nat} (ci kf : Nat) (hF : xa_FL M.1.cls idx ci kf) (hd : decode M.2.1 pc = .ok (.getfield idx, 3)) (ha : a ∈ L) (hk : xa_kd a = ci) (hr0 : xa_isR ci kf = false) (k : xa_W E M Z kc ks (pc + 3) ls (.int (hi a kf) :: st) L hi hr) : xa_W E M Z kc ks pc ls (.ref a :: st) L hi hr := by
  intro p e s m args below meth c al0 al H locs cells slots lm C hN hP hD hS hl hc hs
  obtain ⟨Cn, T, N, h1, h2, h3, h4, h5⟩ := hF
  obtain ⟨q0, hq, hw⟩ := xa_get? (dA := E.2.2) (al := al) (hi := hi) (hr := hr) ha
  rw [xa_en_o hk (xa_ci h1)] at hw
  exact va_get C.1 C.2.1 (Ts := xa_G) C.2.2.2.2.2.1 h3 C.2.2.2.2.1 C.2.2.2.2.2.2.2.2.1.1 hP q0 hw h1 kf h4 (C.2.2.2.2.2.1 _ h5) (fun _ h => h) (xa_fv h2 h4 (.int (hi a kf)) (by simp [xa_sv, hk, hr0])) hd (k p e s m args below meth c al0 al H locs cells slots lm C hN hP hD hS hl hc hs)
theorem xa_getR {a idx : Nat} (ci kf : Nat) (o : Option Nat) (hF : xa_FL M.1.cls idx ci kf) (hd : decode M.2.1 pc = .ok (.getfield idx, 3)) (ha : a ∈ L) (hk : xa_kd a = ci) (hr0 : xa_isR ci kf = true) (ho : hr a kf = o) (k : xa_W E M Z kc ks (pc + 3) ls (va_rf o :: st) L hi hr) : xa_W E M Z kc ks pc ls (.ref a :: st) L hi hr := by
  intro p e s m args below meth c al0 al H locs cells slots lm C hN hP hD hS hl hc hs
  obtain ⟨Cn, T, N, h1, h2, h3, h4, h5⟩ := hF
  obtain ⟨q0, hq, hw⟩ := xa_get? (dA := E.2.2) (al := al) (hi := hi) (hr := hr) ha
  rw [xa_en_o hk (xa_ci h1)] at hw
  have k2 := k p e s m args below meth c al0 al H locs cells slots lm C hN hP hD hS hl hc hs
  have e : (va_rf o :: st).map (xa_cv al) = va_rf (o.map al) :: st.map (xa_cv al) := by rw [List.map_cons, xa_cv_rf]
  rw [e] at k2
  exact va_get C.1 C.2.1 (Ts := xa_G) C.2.2.2.2.2.1 h3 C.2.2.2.2.1 C.2.2.2.2.2.2.2.2.1.1 hP q0 hw h1 kf h4 (C.2.2.2.2.2.1 _ h5) (fun _ h => h) (xa_fv h2 h4 (va_rf (o.map al)) (by simp [xa_sv, hk, hr0, ho])) hd k2
theorem xa_up_self (h : xa_AH) (a k : Nat) (v : Int32) : xa_up h a k v a k = v := by simp [xa_up]
theorem xa_sv_up {al : Nat → Nat} {a ci kf : Nat} {v : Int32} (hk : xa_kd a = ci) (hr0 : xa_isR ci kf = false) : xa_sv al (xa_up hi a kf v) hr a kf = .int v := by simp [xa_sv, hk, hr0, xa_up]
theorem xa_sv_upn {al : Nat → Nat} {a kf j : Nat} {v : Int32} (h : j ≠ kf) : xa_sv al (xa_up hi a kf v) hr a j = xa_sv al hi hr a j := by simp [xa_sv, xa_up, h]
theorem xa_sv_upr {al : Nat → Nat} {a ci kf : Nat} {v : Option Nat} (hk : xa_kd a = ci) (hr0 : xa_isR ci kf = true) : xa_sv al hi (xa_upr hr a kf v) a kf = va_rf (v.map al) := by simp [xa_sv, hk, hr0, xa_upr]
theorem xa_sv_uprn {al : Nat → Nat} {a kf j : Nat} {v : Option Nat} (h : j ≠ kf) : xa_sv al hi (xa_upr hr a kf v) a j = xa_sv al hi hr a j := by simp [xa_sv, xa_upr, h]
theorem xa_putI {a idx : Nat} {ty : FieldType} {x : Int32} (ci kf : Nat) (hF : xa_FP M.1.cls idx ci kf ty) (hd : decode M.2.1 pc = .ok (.putfield idx, 3)) (ha : a ∈ L) (hk : xa_kd a = ci) (hr0 : xa_isR ci kf = false) (hn : narrow ty (.int x) = .int x) (hfit : fits ty (.int x) = true) (k : xa_W E M Z kc ks (pc + 3) ls st L (xa_up hi a kf x) hr) : xa_W E M Z kc ks pc ls (.int x :: .ref a :: st) L hi hr := by
  intro p e s m args below meth c al0 al H locs cells slots lm C hN hP hD hS hl hc hs
  obtain ⟨Cn, T, N, ty0, h1, h2, h3, h4, h5, h6, h7, h8, h9⟩ := hF
  obtain ⟨q0, hq, hw⟩ := xa_get? (dA := E.2.2) (al := al) (hi := hi) (hr := hr) ha
  rw [xa_en_o hk (xa_ci h1)] at hw
  refine va_put (v := .int x) C.1 C.2.1 (Ts := xa_G) C.2.2.2.2.2.1 h3 ty0 h6 h7 C.2.2.2.2.1 C.2.2.2.2.2.2.2.2.1.1 hP hD hS q0 hw h1 kf h4 (C.2.2.2.2.2.1 _ h5) (fun _ h => h) h8 h9 hn hfit (by rw [List.length_map, List.length_range, ← h2]; exact h4) hd (fun H1 locs1 hP1 hD1 hS1 => ?_)
  have e9 : (xa_wd E.2.2 al L hi hr).set q0 (al a, .inr (ci, ((List.range (xa_nT.getD ci 0)).map (xa_sv al hi hr a)).set kf (.int x))) = xa_wd E.2.2 al L (xa_up hi a kf x) hr := by
    refine xa_setw hD hq (fun b hb => xa_en_up b hb) ?_
    rw [xa_en_o hk (xa_ci h1), xa_rng_set (by rw [← h2]; exact h4) _ (xa_sv al (xa_up hi a kf x) hr a) _ (xa_sv_up hk hr0) (fun j hj => xa_sv_upn hj)]
  rw [e9] at hP1 hD1
  exact k p e s m args below meth c al0 al H1 locs1 cells slots lm C hN hP1 hD1 hS1 hl hc hs
theorem xa_putR {a idx : Nat} {ty : FieldType} (o : Option Nat) (ci kf : Nat) (hF : xa_FP M.1.cls idx ci kf ty) (hd : decode M.2.1 pc = .ok (.putfield idx, 3)) (ha : a ∈ L) (hk : xa_kd a = ci) (hr0 : xa_isR ci kf = true) (hn : ∀ o : Option Nat, narrow ty (va_rf o) = va_rf o) (hfit : ∀ o : Option Nat, fits ty (va_rf o) = true) (k : xa_W E M Z kc ks (pc + 3) ls st L hi (xa_upr hr a kf o)) : xa_W E M Z kc ks pc ls (va_rf o :: .ref a :: st) L hi hr := by
  intro p e s m args below meth c al0 al H locs cells slots lm C hN hP hD hS hl hc hs
  obtain ⟨Cn, T, N, ty0, h1, h2, h3, h4, h5, h6, h7, h8, h9⟩ := hF
  obtain ⟨q0, hq, hw⟩ := xa_get? (dA := E.2.2) (al := al) (hi := hi) (hr := hr) ha
  rw [xa_en_o hk (xa_ci h1)] at hw
  show W p E.1 e M.2.2.2.2 s m args below meth c H locs cells slots (Z.1 s args below al0) (F0 m pc lm (xa_cv al (va_rf o) :: .ref (al a) :: st.map (xa_cv al)))
  rw [xa_cv_rf]
  refine va_put C.1 C.2.1 (Ts := xa_G) C.2.2.2.2.2.1 h3 ty0 h6 h7 C.2.2.2.2.1 C.2.2.2.2.2.2.2.2.1.1 hP hD hS q0 hw h1 kf h4 (C.2.2.2.2.2.1 _ h5) (fun _ h => h) h8 h9 (hn _) (hfit _) (by rw [List.length_map, List.length_range, ← h2]; exact h4) hd (fun H1 locs1 hP1 hD1 hS1 => ?_)
  have e9 : (xa_wd E.2.2 al L hi hr).set q0 (al a, .inr (ci, ((List.range (xa_nT.getD ci 0)).map (xa_sv al hi hr a)).set kf (va_rf (o.map al)))) = xa_wd E.2.2 al L hi (xa_upr hr a kf o) := by
    refine xa_setw hD hq (fun b hb => xa_en_upr b hb) ?_
    rw [xa_en_o hk (xa_ci h1), xa_rng_set (by rw [← h2]; exact h4) _ (xa_sv al hi (xa_upr hr a kf o) a) _ (xa_sv_upr hk hr0) (fun j hj => xa_sv_uprn hj)]
  rw [e9] at hP1 hD1
  exact k p e s m args below meth c al0 al H1 locs1 cells slots lm C hN hP1 hD1 hS1 hl hc hs
theorem xa_putIF {a idx : Nat} {ty : FieldType} {x : Int32} (ci kf : Nat) (hF : xa_FF M.1.cls idx ci kf ty) (hd : decode M.2.1 pc = .ok (.putfield idx, 3)) (hini : M.1.name = "<init>") (ha : a ∈ L) (hk : xa_kd a = ci) (hr0 : xa_isR ci kf = false) (hn : narrow ty (.int x) = .int x) (hfit : fits ty (.int x) = true) (k : xa_W E M Z kc ks (pc + 3) ls st L (xa_up hi a kf x) hr) : xa_W E M Z kc ks pc ls (.int x :: .ref a :: st) L hi hr := by
  intro p e s m args below meth c al0 al H locs cells slots lm C hN hP hD hS hl hc hs
  obtain ⟨Cn, T, N, ty0, h1, h2, h3, h4, h5, h6, h7, h8, h9, h10⟩ := hF
  obtain ⟨q0, hq, hw⟩ := xa_get? (dA := E.2.2) (al := al) (hi := hi) (hr := hr) ha
  rw [xa_en_o hk (xa_ci h1)] at hw
  refine va_putF (v := .int x) C.1 C.2.1 (Ts := xa_G) C.2.2.2.2.2.1 h3 ty0 h6 h7 C.2.2.2.2.1 C.2.2.2.2.2.2.2.2.1.1 hP hD hS q0 hw h1 kf h4 (C.2.2.2.2.2.1 _ h5) (fun _ h => h) h8 (C.2.2.2.2.2.2.2.1.trans hini) h9 h10 hn hfit (by rw [List.length_map, List.length_range, ← h2]; exact h4) hd (fun H1 locs1 hP1 hD1 hS1 => ?_)
  have e9 : (xa_wd E.2.2 al L hi hr).set q0 (al a, .inr (ci, ((List.range (xa_nT.getD ci 0)).map (xa_sv al hi hr a)).set kf (.int x))) = xa_wd E.2.2 al L (xa_up hi a kf x) hr := by
    refine xa_setw hD hq (fun b hb => xa_en_up b hb) ?_
    rw [xa_en_o hk (xa_ci h1), xa_rng_set (by rw [← h2]; exact h4) _ (xa_sv al (xa_up hi a kf x) hr a) _ (xa_sv_up hk hr0) (fun j hj => xa_sv_upn hj)]
  rw [e9] at hP1 hD1
  exact k p e s m args below meth c al0 al H1 locs1 cells slots lm C hN hP1 hD1 hS1 hl hc hs
theorem xa_putRF {a idx : Nat} {ty : FieldType} (o : Option Nat) (ci kf : Nat) (hF : xa_FF M.1.cls idx ci kf ty) (hd : decode M.2.1 pc = .ok (.putfield idx, 3)) (hini : M.1.name = "<init>") (ha : a ∈ L) (hk : xa_kd a = ci) (hr0 : xa_isR ci kf = true) (hn : ∀ o : Option Nat, narrow ty (va_rf o) = va_rf o) (hfit : ∀ o : Option Nat, fits ty (va_rf o) = true) (k : xa_W E M Z kc ks (pc + 3) ls st L hi (xa_upr hr a kf o)) : xa_W E M Z kc ks pc ls (va_rf o :: .ref a :: st) L hi hr := by
  intro p e s m args below meth c al0 al H locs cells slots lm C hN hP hD hS hl hc hs
  obtain ⟨Cn, T, N, ty0, h1, h2, h3, h4, h5, h6, h7, h8, h9, h10⟩ := hF
  obtain ⟨q0, hq, hw⟩ := xa_get? (dA := E.2.2) (al := al) (hi := hi) (hr := hr) ha
  rw [xa_en_o hk (xa_ci h1)] at hw
  show W p E.1 e M.2.2.2.2 s m args below meth c H locs cells slots (Z.1 s args below al0) (F0 m pc lm (xa_cv al (va_rf o) :: .ref (al a) :: st.map (xa_cv al)))
  rw [xa_cv_rf]
  refine va_putF C.1 C.2.1 (Ts := xa_G) C.2.2.2.2.2.1 h3 ty0 h6 h7 C.2.2.2.2.1 C.2.2.2.2.2.2.2.2.1.1 hP hD hS q0 hw h1 kf h4 (C.2.2.2.2.2.1 _ h5) (fun _ h => h) h8 (C.2.2.2.2.2.2.2.1.trans hini) h9 h10 (hn _) (hfit _) (by rw [List.length_map, List.length_range, ← h2]; exact h4) hd (fun H1 locs1 hP1 hD1 hS1 => ?_)
  have e9 : (xa_wd E.2.2 al L hi hr).set q0 (al a, .inr (ci, ((List.range (xa_nT.getD ci 0)).map (xa_sv al hi hr a)).set kf (va_rf (o.map al)))) = xa_wd E.2.2 al L hi (xa_upr hr a kf o) := by
    refine xa_setw hD hq (fun b hb => xa_en_upr b hb) ?_
    rw [xa_en_o hk (xa_ci h1), xa_rng_set (by rw [← h2]; exact h4) _ (xa_sv al hi (xa_upr hr a kf o) a) _ (xa_sv_upr hk hr0) (fun j hj => xa_sv_uprn hj)]
  rw [e9] at hP1 hD1
  exact k p e s m args below meth c al0 al H1 locs1 cells slots lm C hN hP1 hD1 hS1 hl hc hs
theorem xa_iald {a : Nat} {i : Int32} (hd : decode M.2.1 pc = .ok (.iaload, 1)) (ha : a ∈ L) (hk : xa_kd a = 9) (hin : vp_in i (xa_ln a)) (k : xa_W E M Z kc ks (pc + 1) ls (.int (hi a i.toNatClampNeg) :: st) L hi hr) : xa_W E M Z kc ks pc ls (.int i :: .ref a :: st) L hi hr := by
  intro p e s m args below meth c al0 al H locs cells slots lm C hN hP hD hS hl hc hs
  obtain ⟨q0, hq, hw⟩ := xa_get? (dA := E.2.2) (al := al) (hi := hi) (hr := hr) ha
  rw [xa_en_i hk] at hw
  exact va_iald C.1 C.2.1 C.2.2.2.2.2.2.2.2.1.1 hP q0 0 hw rfl hin hd (k p e s m args below meth c al0 al H locs cells slots lm C hN hP hD hS hl hc hs)
theorem xa_zald {a : Nat} {i : Int32} (hd : decode M.2.1 pc = .ok (.baload, 1)) (ha : a ∈ L) (hk : xa_kd a = 10) (hin : vp_in i (xa_ln a)) (k : xa_W E M Z kc ks (pc + 1) ls (.int (hi a i.toNatClampNeg) :: st) L hi hr) : xa_W E M Z kc ks pc ls (.int i :: .ref a :: st) L hi hr := by
  intro p e s m args below meth c al0 al H locs cells slots lm C hN hP hD hS hl hc hs
  obtain ⟨q0, hq, hw⟩ := xa_get? (dA := E.2.2) (al := al) (hi := hi) (hr := hr) ha
  rw [xa_en_z hk] at hw
  exact va_zald C.1 C.2.1 C.2.2.2.2.2.2.2.2.1.1 hP q0 1 hw rfl hin hd (k p e s m args below meth c al0 al H locs cells slots lm C hN hP hD hS hl hc hs)
theorem xa_up_arr (a j : Nat) (x : Int32) : xa_up hi a j x a = upd (hi a) j x := by
  funext y; simp [xa_up, upd]
theorem xa_iast {a : Nat} {i x : Int32} (hd : decode M.2.1 pc = .ok (.iastore, 1)) (ha : a ∈ L) (hk : xa_kd a = 9) (hin : vp_in i (xa_ln a)) (k : xa_W E M Z kc ks (pc + 1) ls st L (xa_up hi a i.toNatClampNeg x) hr) : xa_W E M Z kc ks pc ls (.int x :: .int i :: .ref a :: st) L hi hr := by
  intro p e s m args below meth c al0 al H locs cells slots lm C hN hP hD hS hl hc hs
  obtain ⟨q0, hq, hw⟩ := xa_get? (dA := E.2.2) (al := al) (hi := hi) (hr := hr) ha
  rw [xa_en_i hk] at hw
  refine va_iast C.1 C.2.1 C.2.2.2.2.2.2.2.2.1.1 hP hD hS q0 0 hw rfl hin hd (fun H1 locs1 hP1 hD1 hS1 => ?_)
  rw [xa_setw (hi' := xa_up hi a i.toNatClampNeg x) (hr' := hr) hD hq (fun b hb => xa_en_up b hb) (by rw [xa_en_i hk, xa_up_arr])] at hP1 hD1
  exact k p e s m args below meth c al0 al H1 locs1 cells slots lm C hN hP1 hD1 hS1 hl hc hs
theorem xa_zast {a : Nat} {i x : Int32} (hd : decode M.2.1 pc = .ok (.bastore, 1)) (ha : a ∈ L) (hk : xa_kd a = 10) (hin : vp_in i (xa_ln a)) (hx : vp_nar .boolean x = x) (k : xa_W E M Z kc ks (pc + 1) ls st L (xa_up hi a i.toNatClampNeg x) hr) : xa_W E M Z kc ks pc ls (.int x :: .int i :: .ref a :: st) L hi hr := by
  intro p e s m args below meth c al0 al H locs cells slots lm C hN hP hD hS hl hc hs
  obtain ⟨q0, hq, hw⟩ := xa_get? (dA := E.2.2) (al := al) (hi := hi) (hr := hr) ha
  rw [xa_en_z hk] at hw
  refine va_zast C.1 C.2.1 C.2.2.2.2.2.2.2.2.1.1 hP hD hS q0 1 hw rfl hin hd (fun H1 locs1 hP1 hD1 hS1 => ?_)
  rw [hx, xa_setw (hi' := xa_up hi a i.toNatClampNeg x) (hr' := hr) hD hq (fun b hb => xa_en_up b hb) (by rw [xa_en_z hk, xa_up_arr])] at hP1 hD1
  exact k p e s m args below meth c al0 al H1 locs1 cells slots lm C hN hP1 hD1 hS1 hl hc hs
theorem xa_aald_h {a : Nat} {i : Int32} (o : Option Nat) (hd : decode M.2.1 pc = .ok (.aaload, 1)) (ha : a ∈ L) (hk : xa_kd a = 11) (hin : vp_in i (xa_ln a)) (ho : hr a i.toNatClampNeg = o) (k : xa_W E M Z kc ks (pc + 1) ls (va_rf o :: st) L hi hr) : xa_W E M Z kc ks pc ls (.int i :: .ref a :: st) L hi hr := by
  intro p e s m args below meth c al0 al H locs cells slots lm C hN hP hD hS hl hc hs
  obtain ⟨q0, hq, hw⟩ := xa_get? (dA := E.2.2) (al := al) (hi := hi) (hr := hr) ha
  rw [xa_en_r hk (by decide)] at hw
  have k2 := k p e s m args below meth c al0 al H locs cells slots lm C hN hP hD hS hl hc hs
  have e : (va_rf o :: st).map (xa_cv al) = va_rf ((hr a i.toNatClampNeg).map al) :: st.map (xa_cv al) := by rw [List.map_cons, xa_cv_rf, ho]
  rw [e] at k2
  exact va_aldq C.1 C.2.1 C.2.2.2.2.2.2.2.2.1.1 hP q0 2 hw rfl hin hd k2
theorem xa_aast_h {a b : Nat} {i : Int32} (hd : decode M.2.1 pc = .ok (.aastore, 1)) (ha : a ∈ L) (hk : xa_kd a = 11) (hb : b ∈ L) (hkb : xa_kd b = 3) (hin : vp_in i (xa_ln a)) (k : xa_W E M Z kc ks (pc + 1) ls st L hi (xa_upr hr a i.toNatClampNeg (some b))) : xa_W E M Z kc ks pc ls (.ref b :: .int i :: .ref a :: st) L hi hr := by
  intro p e s m args below meth c al0 al H locs cells slots lm C hN hP hD hS hl hc hs
  obtain ⟨q0, hq, hw⟩ := xa_get? (dA := E.2.2) (al := al) (hi := hi) (hr := hr) ha
  rw [xa_en_r hk (by decide)] at hw
  obtain ⟨q1, hq1, hw1⟩ := xa_get? (dA := E.2.2) (al := al) (hi := hi) (hr := hr) hb
  rw [xa_en_o hkb (by decide)] at hw1
  refine va_astq C.1 C.2.1 C.2.2.2.2.2.2.2.2.1.1 hP hD hS q0 2 q1 3 hw rfl hw1 rfl hin hd (fun H1 locs1 hP1 hD1 hS1 => ?_)
  have e0 : (fun j => ((xa_upr hr a i.toNatClampNeg (some b)) a j).map al) = va_up (fun j => (hr a j).map al) i.toNatClampNeg (some (al b)) := by
    funext j
    by_cases hj : j = i.toNatClampNeg
    · subst hj; simp [xa_upr, va_up]
    · simp [xa_upr, va_up, hj]
  rw [xa_setw (hi' := hi) (hr' := xa_upr hr a i.toNatClampNeg (some b)) hD hq (fun b hb => xa_en_upr b hb) (by rw [xa_en_r hk (by decide), e0])] at hP1 hD1
  exact k p e s m args below meth c al0 al H1 locs1 cells slots lm C hN hP1 hD1 hS1 hl hc hs
theorem xa_aald_s {a : Nat} {i : Int32} (o : Option Nat) (hd : decode M.2.1 pc = .ok (.aaload, 1)) (ha : a ∈ L) (hk : xa_kd a = 12) (hin : vp_in i (xa_ln a)) (ho : hr a i.toNatClampNeg = o) (k : xa_W E M Z kc ks (pc + 1) ls (va_rf o :: st) L hi hr) : xa_W E M Z kc ks pc ls (.int i :: .ref a :: st) L hi hr := by
  intro p e s m args below meth c al0 al H locs cells slots lm C hN hP hD hS hl hc hs
  obtain ⟨q0, hq, hw⟩ := xa_get? (dA := E.2.2) (al := al) (hi := hi) (hr := hr) ha
  rw [xa_en_r hk (by decide)] at hw
  have k2 := k p e s m args below meth c al0 al H locs cells slots lm C hN hP hD hS hl hc hs
  have e : (va_rf o :: st).map (xa_cv al) = va_rf ((hr a i.toNatClampNeg).map al) :: st.map (xa_cv al) := by rw [List.map_cons, xa_cv_rf, ho]
  rw [e] at k2
  exact va_aldq C.1 C.2.1 C.2.2.2.2.2.2.2.2.1.1 hP q0 3 hw rfl hin hd k2
theorem xa_aast_s {a b : Nat} {i : Int32} (hd : decode M.2.1 pc = .ok (.aastore, 1)) (ha : a ∈ L) (hk : xa_kd a = 12) (hb : b ∈ L) (hkb : xa_kd b = 5) (hin : vp_in i (xa_ln a)) (k : xa_W E M Z kc ks (pc + 1) ls st L hi (xa_upr hr a i.toNatClampNeg (some b))) : xa_W E M Z kc ks pc ls (.ref b :: .int i :: .ref a :: st) L hi hr := by
  intro p e s m args below meth c al0 al H locs cells slots lm C hN hP hD hS hl hc hs
  obtain ⟨q0, hq, hw⟩ := xa_get? (dA := E.2.2) (al := al) (hi := hi) (hr := hr) ha
  rw [xa_en_r hk (by decide)] at hw
  obtain ⟨q1, hq1, hw1⟩ := xa_get? (dA := E.2.2) (al := al) (hi := hi) (hr := hr) hb
  rw [xa_en_o hkb (by decide)] at hw1
  refine va_astq C.1 C.2.1 C.2.2.2.2.2.2.2.2.1.1 hP hD hS q0 3 q1 5 hw rfl hw1 rfl hin hd (fun H1 locs1 hP1 hD1 hS1 => ?_)
  have e0 : (fun j => ((xa_upr hr a i.toNatClampNeg (some b)) a j).map al) = va_up (fun j => (hr a j).map al) i.toNatClampNeg (some (al b)) := by
    funext j
    by_cases hj : j = i.toNatClampNeg
    · subst hj; simp [xa_upr, va_up]
    · simp [xa_upr, va_up, hj]
  rw [xa_setw (hi' := hi) (hr' := xa_upr hr a i.toNatClampNeg (some b)) hD hq (fun b hb => xa_en_upr b hb) (by rw [xa_en_r hk (by decide), e0])] at hP1 hD1
  exact k p e s m args below meth c al0 al H1 locs1 cells slots lm C hN hP1 hD1 hS1 hl hc hs
theorem xa_objInit {a idx : Nat} (hd : decode M.2.1 pc = .ok (.invokespecial idx, 3)) (h1 : Cond.methodLink M.1.cls idx objectInit ∈ xa_G) (h2 : Cond.instanceMethod objectInit ∈ xa_G) (h3 : Cond.code objectInit ⟨#[0xb1]⟩ 1 none ∈ xa_G) (hf : 1 ≤ M.2.2.2.2.frames) (hlo : (st.map fun v => v.category).sum + 12 ≤ M.2.2.2.2.locals) (k : xa_W E M Z kc ks (pc + 3) ls st L hi hr) : xa_W E M Z kc ks pc ls (.ref a :: st) L hi hr := by
  intro p e s m args below meth c al0 al H locs cells slots lm C hN hP hD hS hl hc hs
  obtain ⟨lv, g1, g2, g3⟩ := id hl
  have hm : ((st.map (xa_cv al)).map fun v => v.category) = (st.map fun v => v.category) := by
    rw [List.map_map]
    exact List.map_congr_left (fun v _ => xa_cv_cat al v)
  refine W.objInit C.1 C.2.1 C.2.2.2.2.1 (C.2.2.2.2.2.1 _ h1) (C.2.2.2.2.2.1 _ h2) (C.2.2.2.2.2.1 _ h3) rfl (g1.1.trans C.2.2.2.1.symm) rfl hd hf (by show 2 * 0 + _ + 12 ≤ _; rw [hm]; omega) ?_
  exact W.eq (g2 := F0 m (pc + 3) lm (st.map (xa_cv al))) rfl (k p e s m args below meth c al0 al H locs cells slots lm C hN hP hD hS hl hc hs)
end XA4
end
section
/-! ===== contracts over the abstract heap; calls; ends; new cells ===== -/
def xa_Qc (E : xa_EV) (al0 : Nat → Nat) (L0 : List Nat) (sz : Nat) (Post : Option Value → xa_AH → xa_AR → Prop) : Array Value → State → Outcome → State → Prop := fun _ st oc t =>
  (∃ (r : Option Value) (hi' : xa_AH) (hr' : xa_AR), oc = .returned (r.map (xa_cv al0)) ∧ Post r hi' hr' ∧ va_P E.2.1 xa_cl (xa_wd E.2.2 al0 L0 hi' hr') t.heap) ∧ va_F (xa_own al0 L0 sz) st t
def xa_Z (E : xa_EV) (M : xa_MC) (L0 : List Nat) (Post : Option Value → xa_AH → xa_AR → Prop) : xa_ZC :=
  (fun s args below al0 => MQ below (xa_Qc E al0 L0 s.heap.size Post) args s M.2.2.2.2.cells M.2.2.2.2.slots (xa_own al0 L0 s.heap.size), fun _ _ => True, L0, fun _ => True)
abbrev xa_ws (M : xa_MC) : List Cond := Cond.code M.1 M.2.1 M.2.2.1 M.2.2.2.1 :: xa_G
abbrev xa_Pc (E : xa_EV) (as : List Value) (L : List Nat) (hi : xa_AH) (hr : xa_AR) (al : Nat → Nat) (sz : Nat) : Array Value → State → Prop := va_Pc (as.map (xa_cv al)) (fun U => U.heap.size = sz ∧ va_P E.2.1 xa_cl (xa_wd E.2.2 al L hi hr) U.heap ∧ va_D (fun _ => True) (xa_wd E.2.2 al L hi hr) ∧ xa_K E U)
/-- THE CONTRACT of a method that makes no cells -/
def xa_Ct (E : xa_EV) (M : xa_MC) (as : List Value) (L : List Nat) (hi : xa_AH) (hr : xa_AR) (Post : Option Value → xa_AH → xa_AR → Prop) : Prop :=
  ∀ (al : Nat → Nat) (sz : Nat), Met E.1 M.1 (xa_ws M) M.2.2.2.2 (xa_Pc E as L hi hr al sz) (xa_Qc E al L sz Post) M.2.2.2.2.cells M.2.2.2.2.slots (xa_own al L sz)
def xa_QcA (E : xa_EV) (al0 : Nat → Nat) (L0 : List Nat) (sz : Nat) (Post : Option Value → List Nat → xa_AH → xa_AR → Prop) : Array Value → State → Outcome → State → Prop := fun _ st oc t =>
  (∃ (al' : Nat → Nat) (r : Option Value) (L' : List Nat) (hi' : xa_AH) (hr' : xa_AR), (∀ a, a ∈ L0 → al' a = al0 a) ∧ oc = .returned (r.map (xa_cv al')) ∧ Post r L' hi' hr' ∧ va_P E.2.1 xa_cl (xa_wd E.2.2 al' L' hi' hr') t.heap ∧ va_D (xa_own al0 L0 sz) (xa_wd E.2.2 al' L' hi' hr')) ∧ va_F (xa_own al0 L0 sz) st t
def xa_ZA (E : xa_EV) (M : xa_MC) (L0 : List Nat) (Post : Option Value → List Nat → xa_AH → xa_AR → Prop) : xa_ZC :=
  (fun s args below al0 => MQ below (xa_QcA E al0 L0 s.heap.size Post) args s M.2.2.2.2.cells M.2.2.2.2.slots (xa_own al0 L0 s.heap.size), fun _ _ => True, L0, fun a => a ∈ L0)
/-- THE CONTRACT of a method that makes cells -/
def xa_CtA (E : xa_EV) (M : xa_MC) (as : List Value) (L : List Nat) (hi : xa_AH) (hr : xa_AR) (Post : Option Value → List Nat → xa_AH → xa_AR → Prop) : Prop :=
  ∀ (al : Nat → Nat) (sz : Nat), Met E.1 M.1 (xa_ws M) M.2.2.2.2 (xa_Pc E as L hi hr al sz) (xa_QcA E al L sz Post) M.2.2.2.2.cells M.2.2.2.2.slots (xa_own al L sz)
theorem xa_args_mem : ∀ (vs : List Value) (i : Nat), (∀ v ∈ vs, v.category = 1) → (∀ (j : Nat) (v : Value), vs[j]? = some v → (i + j, v) ∈ lv_args i vs) ∧ (∀ q ∈ lv_args i vs, q.2 ∈ vs)
  | [], i, _ => ⟨fun j v h => by simp at h, fun q h => by cases h⟩
  | w :: vs, i, hc => by
    have hw : w.category = 1 := hc w List.mem_cons_self
    obtain ⟨h1, h2⟩ := xa_args_mem vs (i + 1) (fun v hv => hc v (List.mem_cons_of_mem _ hv))
    have e : lv_args i (w :: vs) = (i, w) :: lv_args (i + 1) vs := by simp [lv_args, hw]
    rw [e]
    refine ⟨fun j v h => ?_, fun q h => ?_⟩
    · cases j with
      | zero => simp at h; subst h; exact List.mem_cons_self
      | succ j =>
        rw [List.getElem?_cons_succ] at h
        have h3 := h1 j v h
        rw [show i + 1 + j = i + (j + 1) by omega] at h3
        exact List.mem_cons_of_mem _ h3
    · rcases List.mem_cons.mp h with rfl | h
      · exact List.mem_cons_self
      · exact List.mem_cons_of_mem _ (h2 q h)
theorem xa_sl_len : ∀ (vs : List Value), (∀ v ∈ vs, v.category = 1) → (lg_sl vs).length = vs.length
  | [], _ => rfl
  | w :: vs, hc => by
    have hw : w.category = 1 := hc w List.mem_cons_self
    have h := xa_sl_len vs (fun v hv => hc v (List.mem_cons_of_mem _ hv))
    have e : lg_sl (w :: vs) = .val w :: lg_sl vs := by simp [lg_sl, hw]
    rw [e, List.length_cons, List.length_cons, h]
theorem xa_own_mem {dA : Nat → ClassId} {al : Nat → Nat} {L : List Nat} {hi : xa_AH} {hr : xa_AR} {A : Nat → Prop} {sz : Nat} (hD : va_D A (xa_wd dA al L hi hr)) : va_D (xa_own al L sz) (xa_wd dA al L hi hr) := by
  refine ⟨hD.1, fun k q hk => ?_⟩
  simp only [xa_wd, List.getElem?_map] at hk
  cases hb : L[k]? with
  | none => rw [hb] at hk; cases hk
  | some b => rw [hb] at hk; cases hk; exact Or.inl ⟨b, List.mem_of_getElem? hb, rfl⟩
theorem xa_entry {as : List Value} {ls : List (Option Value)} {nL : Nat} (al : Nat → Nat) (hn : as.length ≤ nL) (hcat : ∀ v ∈ as, v.category = 1) (hls : ls = as.map some ++ List.replicate (nL - as.length) none) : xa_lv al nL ls ((lg_sl (as.map (xa_cv al)) ++ List.replicate (nL - (lg_sl (as.map (xa_cv al))).length) Slot.unset).toArray) := by
  have hc2 : ∀ v ∈ as.map (xa_cv al), v.category = 1 := by
    intro v hv
    obtain ⟨w, hw, rfl⟩ := List.mem_map.mp hv
    rw [xa_cv_cat]; exact hcat w hw
  obtain ⟨h1, h2⟩ := xa_args_mem (as.map (xa_cv al)) 0 hc2
  refine ⟨lv_args 0 (as.map (xa_cv al)), lv_entry _ (by rw [xa_sl_len _ hc2, List.length_map]; exact hn), fun q hq => hc2 _ (h2 q hq), fun i v hv => ?_⟩
  have h3 : as[i]? = some v := by
    rw [hls] at hv
    by_cases hi : i < as.length
    · rw [List.getElem?_append_left (by simpa using hi), List.getElem?_map] at hv
      cases hb : as[i]? with
      | none => rw [hb] at hv; cases hv
      | some b => rw [hb] at hv; cases hv; rfl
    · rw [List.getElem?_append_right (by simpa using hi)] at hv
      have := List.eq_of_mem_replicate (List.mem_of_getElem? hv)
      cases this
  have h4 := h1 i (xa_cv al v) (by rw [List.getElem?_map, h3]; rfl)
  rwa [Nat.zero_add] at h4
theorem xa_Ct.of {E : xa_EV} {M : xa_MC} {as : List Value} {L : List Nat} {hi : xa_AH} {hr : xa_AR} {Post : Option Value → xa_AH → xa_AR → Prop} (ls : List (Option Value)) (hpl : plainName M.1.cls = true) (hn : as.length ≤ M.2.2.1) (hcat : ∀ v ∈ as, v.category = 1) (hls : ls = as.map some ++ List.replicate (M.2.2.1 - as.length) none)
    (walk : xa_W E M (xa_Z E M L Post) M.2.2.2.2.cells M.2.2.2.2.slots 0 ls [] L hi hr) : xa_Ct E M as L hi hr Post := by
  intro al sz
  refine Met.ofW (cc := M.2.1) (maxL := M.2.2.1) (ret := M.2.2.2.1) hpl rfl ?_
  intro p e s m args below meth c s₁ B hml hv
  obtain ⟨rfl, hsz, hP, hD, hK⟩ := hv
  subst hsz
  have hts := atoms_spec (ws := xa_ws M) B.pre
  have h0 : entryFrame m (as.map (xa_cv al)).toArray M.2.2.1 = _ := lg_entry_eq m (as.map (xa_cv al)) M.2.2.1
  rw [h0]
  exact walk p e s m _ below meth c al al s.heap [] 0 0 _ ⟨B.exec, B.bytes, B.returns, hml, findClass_of_methodNamed B.named, fun w hw => hts w (List.mem_cons_of_mem _ hw), B.notSynchronized, (name_of_methodNamed B.named B.method).1, hK, trivial⟩ (fun _ _ => rfl) hP (xa_own_mem hD) va_S.rf (xa_entry al hn hcat hls) (Nat.le_of_eq (Nat.zero_add _)) (Nat.le_of_eq (Nat.zero_add _))
theorem xa_CtA.of {E : xa_EV} {M : xa_MC} {as : List Value} {L : List Nat} {hi : xa_AH} {hr : xa_AR} {Post : Option Value → List Nat → xa_AH → xa_AR → Prop} (ls : List (Option Value)) (hpl : plainName M.1.cls = true) (hn : as.length ≤ M.2.2.1) (hcat : ∀ v ∈ as, v.category = 1) (hls : ls = as.map some ++ List.replicate (M.2.2.1 - as.length) none)
    (walk : xa_W E M (xa_ZA E M L Post) M.2.2.2.2.cells M.2.2.2.2.slots 0 ls [] L hi hr) : xa_CtA E M as L hi hr Post := by
  intro al sz
  refine Met.ofW (cc := M.2.1) (maxL := M.2.2.1) (ret := M.2.2.2.1) hpl rfl ?_
  intro p e s m args below meth c s₁ B hml hv
  obtain ⟨rfl, hsz, hP, hD, hK⟩ := hv
  subst hsz
  have hts := atoms_spec (ws := xa_ws M) B.pre
  have h0 : entryFrame m (as.map (xa_cv al)).toArray M.2.2.1 = _ := lg_entry_eq m (as.map (xa_cv al)) M.2.2.1
  rw [h0]
  exact walk p e s m _ below meth c al al s.heap [] 0 0 _ ⟨B.exec, B.bytes, B.returns, hml, findClass_of_methodNamed B.named, fun w hw => hts w (List.mem_cons_of_mem _ hw), B.notSynchronized, (name_of_methodNamed B.named B.method).1, hK, trivial⟩ (fun _ _ => rfl) hP (xa_own_mem hD) va_S.rf (xa_entry al hn hcat hls) (Nat.le_of_eq (Nat.zero_add _)) (Nat.le_of_eq (Nat.zero_add _))
/-! ends -/
section XA5
variable {E : xa_EV} {M : xa_MC} {kc ks pc : Nat} {ls : List (Option Value)} {st : List Value} {L : List Nat} {hi : xa_AH} {hr : xa_AR} {Post : Option Value → xa_AH → xa_AR → Prop} {PostA : Option Value → List Nat → xa_AH → xa_AR → Prop} {L0 : List Nat}
theorem xa_zret {v : Int32} {ty : FieldType} (hd : decode M.2.1 pc = .ok (.ireturn, 1)) (hrt : M.2.2.2.1 = some ty) (hn : narrow ty (.int v) = .int v) (hp : Post (some (.int v)) hi hr) : xa_W E M (xa_Z E M L Post) kc ks pc ls [.int v] L hi hr := by
  intro p e s m args below meth c al0 al H locs cells slots lm C hN hP hD hS hl hc hs
  have ea : al = al0 := funext fun a => hN a trivial
  subst ea
  refine W.widen (k := M.2.2.2.2.cells) (n := M.2.2.2.2.slots) (by omega) (by omega) ?_
  exact W.zret C.1 C.2.1 (C.2.2.1.trans hrt) hn (fun t ht hW => ⟨⟨some (.int v), hi, hr, rfl, hp, by rw [ht]; exact hP⟩, hS.F ht⟩) hS.2.2 hd (hlocks := C.2.2.2.2.2.2.1)
theorem xa_vret (hd : decode M.2.1 pc = .ok (.return_, 1)) (hrt : M.2.2.2.1 = none) (hp : Post none hi hr) : xa_W E M (xa_Z E M L Post) kc ks pc ls [] L hi hr := by
  intro p e s m args below meth c al0 al H locs cells slots lm C hN hP hD hS hl hc hs
  have ea : al = al0 := funext fun a => hN a trivial
  subst ea
  refine W.widen (k := M.2.2.2.2.cells) (n := M.2.2.2.2.slots) (by omega) (by omega) ?_
  exact W.vret C.1 C.2.1 (C.2.2.1.trans hrt) (fun t ht hW => ⟨⟨none, hi, hr, rfl, hp, by rw [ht]; exact hP⟩, hS.F ht⟩) hS.2.2 hd (hlocks := C.2.2.2.2.2.2.1)
theorem xa_aret (o : Option Nat) {n : String} (hd : decode M.2.1 pc = .ok (.areturn, 1)) (hrt : M.2.2.2.1 = some (.object n)) (hp : Post (some (va_rf o)) hi hr) : xa_W E M (xa_Z E M L Post) kc ks pc ls [va_rf o] L hi hr := by
  intro p e s m args below meth c al0 al H locs cells slots lm C hN hP hD hS hl hc hs
  have ea : al = al0 := funext fun a => hN a trivial
  subst ea
  refine W.widen (k := M.2.2.2.2.cells) (n := M.2.2.2.2.slots) (by omega) (by omega) ?_
  exact W.aret (v := xa_cv al (va_rf o)) C.1 C.2.1 (C.2.2.1.trans hrt) (Or.inl ⟨n, rfl⟩) (by rw [xa_cv_rf]; exact va_rf_or _) (fun t ht hW => ⟨⟨some (va_rf o), hi, hr, rfl, hp, by rw [ht]; exact hP⟩, hS.F ht⟩) hS.2.2 hd (hlocks := C.2.2.2.2.2.2.1)
theorem xa_zretA {v : Int32} {ty : FieldType} (hd : decode M.2.1 pc = .ok (.ireturn, 1)) (hrt : M.2.2.2.1 = some ty) (hn : narrow ty (.int v) = .int v) (hp : PostA (some (.int v)) L hi hr) : xa_W E M (xa_ZA E M L0 PostA) kc ks pc ls [.int v] L hi hr := by
  intro p e s m args below meth c al0 al H locs cells slots lm C hN hP hD hS hl hc hs
  refine W.widen (k := M.2.2.2.2.cells) (n := M.2.2.2.2.slots) (by omega) (by omega) ?_
  exact W.zret C.1 C.2.1 (C.2.2.1.trans hrt) hn (fun t ht hW => ⟨⟨al, some (.int v), L, hi, hr, hN, rfl, hp, by rw [ht]; exact hP, hD⟩, hS.F ht⟩) hS.2.2 hd (hlocks := C.2.2.2.2.2.2.1)
theorem xa_vretA (hd : decode M.2.1 pc = .ok (.return_, 1)) (hrt : M.2.2.2.1 = none) (hp : PostA none L hi hr) : xa_W E M (xa_ZA E M L0 PostA) kc ks pc ls [] L hi hr := by
  intro p e s m args below meth c al0 al H locs cells slots lm C hN hP hD hS hl hc hs
  refine W.widen (k := M.2.2.2.2.cells) (n := M.2.2.2.2.slots) (by omega) (by omega) ?_
  exact W.vret C.1 C.2.1 (C.2.2.1.trans hrt) (fun t ht hW => ⟨⟨al, none, L, hi, hr, hN, rfl, hp, by rw [ht]; exact hP, hD⟩, hS.F ht⟩) hS.2.2 hd (hlocks := C.2.2.2.2.2.2.1)
end XA5
/-! calls -/
/-- what a call's place needs of the tables -/
def xa_CB (M' : xa_MC) (n : Nat) : Prop := Cond.initialized M'.1.cls ∈ xa_G ∧ Cond.code M'.1 M'.2.1 M'.2.2.1 M'.2.2.2.1 ∈ xa_G ∧ (M'.1.cls ≠ "java/lang/invoke/MethodHandle" ∧ M'.1.cls ≠ "java/lang/invoke/VarHandle" ∧ (parseMethodDescriptor M'.1.desc).map (fun d => d.parameters.length) = some n)
def xa_CV (own : String) (idx : Nat) (M' : xa_MC) (n : Nat) : Prop := xa_CB M' n ∧ Cond.methodLink own idx M'.1 ∈ xa_G ∧ Cond.instanceMethod M'.1 ∈ xa_G ∧ Cond.selects M'.1.cls M'.1 M'.1 ∈ xa_G
def xa_CS (own : String) (idx : Nat) (M' : xa_MC) (n : Nat) : Prop := xa_CB M' n ∧ Cond.methodLink own idx M'.1 ∈ xa_G ∧ Cond.static M'.1 ∈ xa_G
def xa_CSN (own : String) (idx : Nat) (M' : xa_MC) (n : Nat) : Prop := xa_CB M' n ∧ (∃ h : String, Cond.methodLinkNest own idx M'.1 h ∈ xa_nest) ∧ Cond.static M'.1 ∈ xa_G
def xa_CI (own : String) (idx : Nat) (M' : xa_MC) (n : Nat) : Prop := xa_CB M' n ∧ Cond.methodLink own idx M'.1 ∈ xa_G ∧ M'.1.name = "<init>" ∧ Cond.instanceMethod M'.1 ∈ xa_G ∧ M'.2.2.2.1 = none
def xa_CIN (own : String) (idx : Nat) (M' : xa_MC) (n : Nat) : Prop := xa_CB M' n ∧ (∃ h : String, Cond.methodLinkNest own idx M'.1 h ∈ xa_nest) ∧ M'.1.name = "<init>" ∧ Cond.instanceMethod M'.1 ∈ xa_G ∧ M'.2.2.2.1 = none
theorem xa_goodw {M' : xa_MC} {n : Nat} (h : xa_CB M' n) : GoodIn xa_G (xa_ws M') := fun w hw => by
  rcases List.mem_cons.mp hw with rfl | hw
  · exact ⟨h.2.1, xa_good h.2.1⟩
  · exact ⟨hw, xa_good hw⟩
section XA6
variable {p : Program} {l : Launch} {e : Env} {R : Room} {s : State} {m : MethodId} {args : Array Value} {below : List Frame} {meth : Method} {c : Code} {H : Heap} {locs : List Loc} {cells slots : Nat} {Q : State → Prop} {pc : Nat} {lm : Array Slot} {st0 rest : List Value} {mc ms : Nat}
variable {E : xa_EV} {L : List Nat} {hi : xa_AH} {hr : xa_AR} {al : Nat → Nat} {A0 : Nat → Prop}
theorem xa_sub_own {dA : Nat → ClassId} (hD : va_D A0 (xa_wd dA al L hi hr)) (hS : va_S A0 s.heap H locs) (hA : ∀ q, s.heap.size ≤ q → A0 q) : ∀ q, xa_own al L H.size q → A0 q := by
  intro q h
  rcases h with ⟨a, ha, rfl⟩ | h
  · obtain ⟨i, -, h2⟩ := xa_get? (dA := dA) (al := al) (hi := hi) (hr := hr) ha
    exact hD.2 i _ h2
  · exact hA q (Nat.le_trans hS.1 h)
theorem xa_after {Post : Option Value → xa_AH → xa_AR → Prop} {a : Array Value} (hrun : va_Run p l e R s m args below meth c H locs cells slots mc ms (F0 m pc lm st0) rest (xa_Qc E al L H.size Post a) (xa_own al L H.size)) (hS : va_S A0 s.heap H locs) (hA : ∀ q, xa_own al L H.size q → A0 q)
    (kk : ∀ (r : Option Value) (hi' : xa_AH) (hr' : xa_AR) (H1 : Heap) (locs1 : List Loc), Post r hi' hr' → va_P E.2.1 xa_cl (xa_wd E.2.2 al L hi' hr') H1 → va_S A0 s.heap H1 locs1 → W p l e R s m args below meth c H1 locs1 (cells + mc) (slots + ms) Q (F0 m (pc + 3) lm ((r.map (xa_cv al)).toList ++ rest))) : W p l e R s m args below meth c H locs cells slots Q (F0 m pc lm st0) := by
  intro T hT X
  obtain ⟨v, st₀, t, T', Ls, h0, X', hL, e1, e2, ⟨⟨r, hi', hr', hv, hp, hb⟩, hz, hk⟩, st⟩ := hrun T hT X
  cases hv
  rw [h0] at hz hk
  obtain ⟨t2, a1, b1⟩ := kk r hi' hr' T'.heap (locs ++ Ls) hp (by rw [e1]; exact hb)
    ⟨Nat.le_trans hS.1 (by rw [e1]; exact hz), fun q h1 h2 => by rw [e1, hk q (Nat.lt_of_lt_of_le h1 hS.1) (fun z => h2 (hA q z))]; exact hS.2.1 q h1 h2, fun q hq => by
      rcases List.mem_append.mp hq with h | h
      · exact hS.2.2 q h
      · exact hA _ (hL q h)⟩ T' rfl X'
  exact ⟨t2, st t2 a1, b1⟩
theorem xa_afterA {Post : Option Value → List Nat → xa_AH → xa_AR → Prop} {a : Array Value} (hrun : va_Run p l e R s m args below meth c H locs cells slots mc ms (F0 m pc lm st0) rest (xa_QcA E al L H.size Post a) (xa_own al L H.size)) (hS : va_S A0 s.heap H locs) (hA : ∀ q, xa_own al L H.size q → A0 q)
    (kk : ∀ (al' : Nat → Nat) (r : Option Value) (L' : List Nat) (hi' : xa_AH) (hr' : xa_AR) (H1 : Heap) (locs1 : List Loc), (∀ a, a ∈ L → al' a = al a) → Post r L' hi' hr' → va_P E.2.1 xa_cl (xa_wd E.2.2 al' L' hi' hr') H1 → va_D A0 (xa_wd E.2.2 al' L' hi' hr') → va_S A0 s.heap H1 locs1 → W p l e R s m args below meth c H1 locs1 (cells + mc) (slots + ms) Q (F0 m (pc + 3) lm ((r.map (xa_cv al')).toList ++ rest))) : W p l e R s m args below meth c H locs cells slots Q (F0 m pc lm st0) := by
  intro T hT X
  obtain ⟨v, st₀, t, T', Ls, h0, X', hL, e1, e2, ⟨⟨al', r, L', hi', hr', hag, hv, hp, hb, hd⟩, hz, hk⟩, st⟩ := hrun T hT X
  cases hv
  rw [h0] at hz hk
  obtain ⟨t2, a1, b1⟩ := kk al' r L' hi' hr' T'.heap (locs ++ Ls) hag hp (by rw [e1]; exact hb) (hd.weaken (fun k q _ h => hA _ h))
    ⟨Nat.le_trans hS.1 (by rw [e1]; exact hz), fun q h1 h2 => by rw [e1, hk q (Nat.lt_of_lt_of_le h1 hS.1) (fun z => h2 (hA q z))]; exact hS.2.1 q h1 h2, fun q hq => by
      rcases List.mem_append.mp hq with h | h
      · exact hS.2.2 q h
      · exact hA _ (hL q h)⟩ T' rfl X'
  exact ⟨t2, st t2 a1, b1⟩
theorem xa_blind {as : List Value} {sz : Nat} : FrameBlind (xa_Pc E as L hi hr al sz) := fun a U g mk q => by
  obtain ⟨q0, q1, qP, qD, qK⟩ := q
  exact ⟨q0, q1, qP, qD, xa_K.same (s := U) (U := U.calling g mk a) rfl qK⟩
theorem xa_preS {as : List Value} {A : Nat → Prop} (hP : va_P E.2.1 xa_cl (xa_wd E.2.2 al L hi hr) H) (hD : va_D A (xa_wd E.2.2 al L hi hr)) (hK : xa_K E s) : PreS s H (xa_Pc E as L hi hr al H.size) (as.map (xa_cv al)) :=
  ⟨xa_blind, fun U hU hW => ⟨rfl, by rw [hU], by rw [hU]; exact hP, hD.weaken (fun _ _ _ _ => trivial), hK.warm hW⟩⟩
end XA6
end
section
section XA7
variable {E : xa_EV} {M : xa_MC} {Z : xa_ZC} {kc ks pc : Nat} {ls : List (Option Value)} {st stk : List Value} {L : List Nat} {hi : xa_AH} {hr : xa_AR} {M2 : xa_MC} {as : List Value} {idx n : Nat}
theorem xa_catsum (al : Nat → Nat) (st : List Value) : ((st.map (xa_cv al)).map fun v => v.category).sum = (st.map fun v => v.category).sum := by
  rw [List.map_map]
  exact congrArg List.sum (List.map_congr_left (fun v _ => xa_cv_cat al v))
theorem xa_toList (al : Nat → Nat) (r : Option Value) (st : List Value) : (r.map (xa_cv al)).toList ++ st.map (xa_cv al) = (r.toList ++ st).map (xa_cv al) := by
  cases r <;> rfl
theorem xa_recv {b ci : Nat} {q : vw_C} {s : State} {H : Heap} {al : Nat → Nat} (hK : xa_K E s) (hP : va_P E.2.1 xa_cl (xa_wd E.2.2 al L hi hr) H) (hb : b ∈ L) (hk : xa_kd b = ci) (hc : xa_cl[ci]? = some q) : ∃ cell : Cell, H[al b]? = some cell ∧ cell.vm.isStatics = false ∧ s.vm.findClass q.1 = some cell.cls := by
  obtain ⟨q0, hq, hw⟩ := xa_get? (dA := E.2.2) (al := al) (hi := hi) (hr := hr) hb
  rw [xa_en_o hk (xa_ci hc)] at hw
  exact va_recv hK.1 hP hc hw
theorem xa_callV {Post : Option Value → xa_AH → xa_AR → Prop} {b ci : Nat} {T : u_T} {N : Nat} (hb : b ∈ L) (hk : xa_kd b = ci) (hcl : xa_cl[ci]? = some (M2.1.cls, T, N)) (hT : xa_CV M.1.cls idx M2 n) (hd : decode M.2.1 pc = .ok (.invokevirtual idx, 3)) (hC : xa_Ct E M2 (.ref b :: as) L hi hr Post) (hsk : stk = as.reverse ++ .ref b :: st) (hn : as.length = n) (hR : M2.2.2.2.2.frames + 1 ≤ M.2.2.2.2.frames ∧ 8 + (M2.2.2.1 + 11) + M2.2.2.2.2.locals ≤ M.2.2.2.2.locals) (hw : (st.map fun v => v.category).sum ≤ 8) (hz : M2.2.2.2.2.cells = 0 ∧ M2.2.2.2.2.slots = 0) (kk : ∀ (r : Option Value) (hi2 : xa_AH) (hr2 : xa_AR), Post r hi2 hr2 → xa_W E M Z kc ks (pc + 3) ls (r.toList ++ st) L hi2 hr2) : xa_W E M Z kc ks pc ls stk L hi hr := by
  intro p e s m args below meth c al0 al H locs cells slots lm C hN hP hD hS hl hc hs
  subst hsk
  obtain ⟨⟨k1, k2, k3⟩, k4, k5, k6⟩ := hT
  obtain ⟨lv, f1, f2, f3⟩ := id hl
  have hml := f1.1
  have hsk : (as.reverse ++ .ref b :: st).map (xa_cv al) = (as.map (xa_cv al)).reverse ++ .ref (al b) :: st.map (xa_cv al) := by simp [List.map_reverse, xa_cv]
  have hA := xa_sub_own hD hS xa_own_new
  have hrun := va_runV (p := p) (l := E.1) (e := e) (below := below) (meth := meth) (locs := locs) (cells := cells) (slots := slots) (H := H) (g := F0 m pc lm ((as.reverse ++ .ref b :: st).map (xa_cv al))) (b := al b) (As := as.map (xa_cv al)) (rest := st.map (xa_cv al)) (nL := M.2.2.1) (index := idx) (bytes := M2.2.1) (maxL := M2.2.2.1) ⟨C.1, C.2.1, C.2.2.2.1, C.2.2.2.2.1, C.2.2.2.2.2.1⟩ (hC al H.size) ⟨callB_of n C.2.2.2.2.2.1 (xa_goodw ⟨k1, k2, k3⟩) rfl rfl rfl (C.2.2.2.2.2.1 _ k1) (C.2.2.2.2.2.1 _ k4) k3 hR, C.2.2.2.2.2.1 _ k5, C.2.2.2.2.2.1 _ k6⟩ ⟨xa_blind, xa_recv C.2.2.2.2.2.2.2.2.1 hP hb hk hcl, (xa_preS hP hD C.2.2.2.2.2.2.2.2.1).2⟩ rfl (by rw [List.length_map]; exact hn) hml hsk (lv_room (by rw [xa_catsum]; exact hw)) hd (by rw [hz.1, hz.2]; exact ⟨by omega, by omega⟩)
  refine xa_after hrun hS hA (fun r hi2 hr2 H1 locs1 hp hP1 hS1 => ?_)
  rw [xa_toList]
  exact kk r hi2 hr2 hp p e s m args below meth c al0 al H1 locs1 _ _ lm C hN hP1 (xa_D_same hD) hS1 hl (by rw [hz.1]; exact hc) (by rw [hz.2]; exact hs)
theorem xa_callS {Post : Option Value → xa_AH → xa_AR → Prop} (hT : xa_CS M.1.cls idx M2 n) (hd : decode M.2.1 pc = .ok (.invokestatic idx, 3)) (hC : xa_Ct E M2 as L hi hr Post) (hsk : stk = as.reverse ++ st) (hn : as.length = n) (hR : M2.2.2.2.2.frames + 1 ≤ M.2.2.2.2.frames ∧ 8 + (M2.2.2.1 + 11) + M2.2.2.2.2.locals ≤ M.2.2.2.2.locals) (hw : (st.map fun v => v.category).sum ≤ 8) (hz : M2.2.2.2.2.cells = 0 ∧ M2.2.2.2.2.slots = 0) (kk : ∀ (r : Option Value) (hi2 : xa_AH) (hr2 : xa_AR), Post r hi2 hr2 → xa_W E M Z kc ks (pc + 3) ls (r.toList ++ st) L hi2 hr2) : xa_W E M Z kc ks pc ls stk L hi hr := by
  intro p e s m args below meth c al0 al H locs cells slots lm C hN hP hD hS hl hc hs
  subst hsk
  obtain ⟨⟨k1, k2, k3⟩, k4, k5⟩ := hT
  obtain ⟨lv, f1, f2, f3⟩ := id hl
  have hml := f1.1
  have hsk : (as.reverse ++ st).map (xa_cv al) = (as.map (xa_cv al)).reverse ++ st.map (xa_cv al) := by simp [List.map_reverse, xa_cv]
  have hA := xa_sub_own hD hS xa_own_new
  have hrun := va_runS (p := p) (l := E.1) (e := e) (below := below) (meth := meth) (locs := locs) (cells := cells) (slots := slots) (H := H) (g := F0 m pc lm ((as.reverse ++ st).map (xa_cv al))) (As := as.map (xa_cv al)) (rest := st.map (xa_cv al)) (nL := M.2.2.1) (index := idx) (bytes := M2.2.1) (maxL := M2.2.2.1) ⟨C.1, C.2.1, C.2.2.2.1, C.2.2.2.2.1, C.2.2.2.2.2.1⟩ (hC al H.size) ⟨callB_of n C.2.2.2.2.2.1 (xa_goodw ⟨k1, k2, k3⟩) rfl rfl rfl (C.2.2.2.2.2.1 _ k1) (C.2.2.2.2.2.1 _ k4) k3 hR, C.2.2.2.2.2.1 _ k5⟩ (xa_preS hP hD C.2.2.2.2.2.2.2.2.1) rfl (by rw [List.length_map]; exact hn) hml hsk (lv_room (by rw [xa_catsum]; exact hw)) hd (by rw [hz.1, hz.2]; exact ⟨by omega, by omega⟩)
  refine xa_after hrun hS hA (fun r hi2 hr2 H1 locs1 hp hP1 hS1 => ?_)
  rw [xa_toList]
  exact kk r hi2 hr2 hp p e s m args below meth c al0 al H1 locs1 _ _ lm C hN hP1 (xa_D_same hD) hS1 hl (by rw [hz.1]; exact hc) (by rw [hz.2]; exact hs)
theorem xa_callSN {Post : Option Value → xa_AH → xa_AR → Prop} (hT : xa_CSN M.1.cls idx M2 n) (hd : decode M.2.1 pc = .ok (.invokestatic idx, 3)) (hC : xa_Ct E M2 as L hi hr Post) (hsk : stk = as.reverse ++ st) (hn : as.length = n) (hR : M2.2.2.2.2.frames + 1 ≤ M.2.2.2.2.frames ∧ 8 + (M2.2.2.1 + 11) + M2.2.2.2.2.locals ≤ M.2.2.2.2.locals) (hw : (st.map fun v => v.category).sum ≤ 8) (hz : M2.2.2.2.2.cells = 0 ∧ M2.2.2.2.2.slots = 0) (kk : ∀ (r : Option Value) (hi2 : xa_AH) (hr2 : xa_AR), Post r hi2 hr2 → xa_W E M Z kc ks (pc + 3) ls (r.toList ++ st) L hi2 hr2) : xa_W E M Z kc ks pc ls stk L hi hr := by
  intro p e s m args below meth c al0 al H locs cells slots lm C hN hP hD hS hl hc hs
  subst hsk
  obtain ⟨⟨k1, k2, k3⟩, ⟨hh, k4⟩, k5⟩ := hT
  obtain ⟨lv, f1, f2, f3⟩ := id hl
  have hml := f1.1
  have hsk : (as.reverse ++ st).map (xa_cv al) = (as.map (xa_cv al)).reverse ++ st.map (xa_cv al) := by simp [List.map_reverse, xa_cv]
  have hA := xa_sub_own hD hS xa_own_new
  have hrun := va_runSN (p := p) (l := E.1) (e := e) (below := below) (meth := meth) (locs := locs) (cells := cells) (slots := slots) (H := H) (g := F0 m pc lm ((as.reverse ++ st).map (xa_cv al))) (As := as.map (xa_cv al)) (rest := st.map (xa_cv al)) (nL := M.2.2.1) (index := idx) (bytes := M2.2.1) (maxL := M2.2.2.1) ⟨C.1, C.2.1, C.2.2.2.1, C.2.2.2.2.1, C.2.2.2.2.2.1⟩ (hC al H.size) ⟨va_cnB n C.2.2.2.2.2.1 (xa_goodw ⟨k1, k2, k3⟩) rfl rfl rfl (C.2.2.2.2.2.2.2.2.1.2.1 _ k4) (C.2.2.2.2.2.1 _ k1) k3 hR, C.2.2.2.2.2.1 _ k5, trivial⟩ (xa_preS hP hD C.2.2.2.2.2.2.2.2.1) rfl (by rw [List.length_map]; exact hn) hml hsk (lv_room (by rw [xa_catsum]; exact hw)) hd (by rw [hz.1, hz.2]; exact ⟨by omega, by omega⟩)
  refine xa_after hrun hS hA (fun r hi2 hr2 H1 locs1 hp hP1 hS1 => ?_)
  rw [xa_toList]
  exact kk r hi2 hr2 hp p e s m args below meth c al0 al H1 locs1 _ _ lm C hN hP1 (xa_D_same hD) hS1 hl (by rw [hz.1]; exact hc) (by rw [hz.2]; exact hs)
theorem xa_callI {Post : Option Value → xa_AH → xa_AR → Prop} {b : Nat} (hT : xa_CI M.1.cls idx M2 n) (hd : decode M.2.1 pc = .ok (.invokespecial idx, 3)) (hC : xa_Ct E M2 (.ref b :: as) L hi hr Post) (hsk : stk = as.reverse ++ .ref b :: st) (hn : as.length = n) (hR : M2.2.2.2.2.frames + 1 ≤ M.2.2.2.2.frames ∧ 8 + (M2.2.2.1 + 11) + M2.2.2.2.2.locals ≤ M.2.2.2.2.locals) (hw : (st.map fun v => v.category).sum ≤ 8) (hz : M2.2.2.2.2.cells = 0 ∧ M2.2.2.2.2.slots = 0) (kk : ∀ (r : Option Value) (hi2 : xa_AH) (hr2 : xa_AR), Post r hi2 hr2 → xa_W E M Z kc ks (pc + 3) ls (r.toList ++ st) L hi2 hr2) : xa_W E M Z kc ks pc ls stk L hi hr := by
  intro p e s m args below meth c al0 al H locs cells slots lm C hN hP hD hS hl hc hs
  subst hsk
  obtain ⟨⟨k1, k2, k3⟩, k4, k5, k6, k7⟩ := hT
  obtain ⟨lv, f1, f2, f3⟩ := id hl
  have hml := f1.1
  have hsk : (as.reverse ++ .ref b :: st).map (xa_cv al) = (as.map (xa_cv al)).reverse ++ .ref (al b) :: st.map (xa_cv al) := by simp [List.map_reverse, xa_cv]
  have hA := xa_sub_own hD hS xa_own_new
  have hrun := va_runI (p := p) (l := E.1) (e := e) (below := below) (meth := meth) (locs := locs) (cells := cells) (slots := slots) (H := H) (g := F0 m pc lm ((as.reverse ++ .ref b :: st).map (xa_cv al))) (b := al b) (As := as.map (xa_cv al)) (rest := st.map (xa_cv al)) (nL := M.2.2.1) (index := idx) (bytes := M2.2.1) (maxL := M2.2.2.1) ⟨C.1, C.2.1, C.2.2.2.1, C.2.2.2.2.1, C.2.2.2.2.2.1⟩ (hC al H.size) ⟨callB_of n C.2.2.2.2.2.1 (xa_goodw ⟨k1, k2, k3⟩) (by show Cond.code _ _ _ M2.2.2.2.1 :: _ = _; rw [k7]) rfl rfl (C.2.2.2.2.2.1 _ k1) (C.2.2.2.2.2.1 _ k4) k3 hR, k5, C.2.2.2.2.2.1 _ k6⟩ (xa_preS hP hD C.2.2.2.2.2.2.2.2.1) rfl (by rw [List.length_map]; exact hn) hml hsk (lv_room (by rw [xa_catsum]; exact hw)) hd (by rw [hz.1, hz.2]; exact ⟨by omega, by omega⟩)
  refine xa_after hrun hS hA (fun r hi2 hr2 H1 locs1 hp hP1 hS1 => ?_)
  rw [xa_toList]
  exact kk r hi2 hr2 hp p e s m args below meth c al0 al H1 locs1 _ _ lm C hN hP1 (xa_D_same hD) hS1 hl (by rw [hz.1]; exact hc) (by rw [hz.2]; exact hs)
theorem xa_callIN {Post : Option Value → xa_AH → xa_AR → Prop} {b : Nat} (hT : xa_CIN M.1.cls idx M2 n) (hd : decode M.2.1 pc = .ok (.invokespecial idx, 3)) (hC : xa_Ct E M2 (.ref b :: as) L hi hr Post) (hsk : stk = as.reverse ++ .ref b :: st) (hn : as.length = n) (hR : M2.2.2.2.2.frames + 1 ≤ M.2.2.2.2.frames ∧ 8 + (M2.2.2.1 + 11) + M2.2.2.2.2.locals ≤ M.2.2.2.2.locals) (hw : (st.map fun v => v.category).sum ≤ 8) (hz : M2.2.2.2.2.cells = 0 ∧ M2.2.2.2.2.slots = 0) (kk : ∀ (r : Option Value) (hi2 : xa_AH) (hr2 : xa_AR), Post r hi2 hr2 → xa_W E M Z kc ks (pc + 3) ls (r.toList ++ st) L hi2 hr2) : xa_W E M Z kc ks pc ls stk L hi hr := by
  intro p e s m args below meth c al0 al H locs cells slots lm C hN hP hD hS hl hc hs
  subst hsk
  obtain ⟨⟨k1, k2, k3⟩, ⟨hh, k4⟩, k5, k6, k7⟩ := hT
  obtain ⟨lv, f1, f2, f3⟩ := id hl
  have hml := f1.1
  have hsk : (as.reverse ++ .ref b :: st).map (xa_cv al) = (as.map (xa_cv al)).reverse ++ .ref (al b) :: st.map (xa_cv al) := by simp [List.map_reverse, xa_cv]
  have hA := xa_sub_own hD hS xa_own_new
  have hrun := va_runIN (p := p) (l := E.1) (e := e) (below := below) (meth := meth) (locs := locs) (cells := cells) (slots := slots) (H := H) (g := F0 m pc lm ((as.reverse ++ .ref b :: st).map (xa_cv al))) (b := al b) (As := as.map (xa_cv al)) (rest := st.map (xa_cv al)) (nL := M.2.2.1) (index := idx) (bytes := M2.2.1) (maxL := M2.2.2.1) ⟨C.1, C.2.1, C.2.2.2.1, C.2.2.2.2.1, C.2.2.2.2.2.1⟩ (hC al H.size) ⟨va_cnB n C.2.2.2.2.2.1 (xa_goodw ⟨k1, k2, k3⟩) (by show Cond.code _ _ _ M2.2.2.2.1 :: _ = _; rw [k7]) rfl rfl (C.2.2.2.2.2.2.2.2.1.2.1 _ k4) (C.2.2.2.2.2.1 _ k1) k3 hR, k5, C.2.2.2.2.2.1 _ k6⟩ (xa_preS hP hD C.2.2.2.2.2.2.2.2.1) rfl (by rw [List.length_map]; exact hn) hml hsk (lv_room (by rw [xa_catsum]; exact hw)) hd (by rw [hz.1, hz.2]; exact ⟨by omega, by omega⟩)
  refine xa_after hrun hS hA (fun r hi2 hr2 H1 locs1 hp hP1 hS1 => ?_)
  rw [xa_toList]
  exact kk r hi2 hr2 hp p e s m args below meth c al0 al H1 locs1 _ _ lm C hN hP1 (xa_D_same hD) hS1 hl (by rw [hz.1]; exact hc) (by rw [hz.2]; exact hs)
theorem xa_callVA {Post : Option Value → List Nat → xa_AH → xa_AR → Prop} {b ci : Nat} {T : u_T} {N : Nat} (hb : b ∈ L) (hk : xa_kd b = ci) (hcl : xa_cl[ci]? = some (M2.1.cls, T, N)) (hT : xa_CV M.1.cls idx M2 n) (hd : decode M.2.1 pc = .ok (.invokevirtual idx, 3)) (hC : xa_CtA E M2 (.ref b :: as) L hi hr Post) (hsk : stk = as.reverse ++ .ref b :: st) (hn : as.length = n) (hR : M2.2.2.2.2.frames + 1 ≤ M.2.2.2.2.frames ∧ 8 + (M2.2.2.1 + 11) + M2.2.2.2.2.locals ≤ M.2.2.2.2.locals) (hw : (st.map fun v => v.category).sum ≤ 8) (hkc : M2.2.2.2.2.cells ≤ kc) (hks : M2.2.2.2.2.slots ≤ ks) (hZ : ∀ a, Z.2.2.2 a → a ∈ L) (hst : ∀ a, Value.ref a ∈ st → a ∈ L) (hlr : ∀ a, some (Value.ref a) ∈ ls → a ∈ L) (kk : ∀ (r : Option Value) (L2 : List Nat) (hi2 : xa_AH) (hr2 : xa_AR), Post r L2 hi2 hr2 → xa_W E M Z (kc - M2.2.2.2.2.cells) (ks - M2.2.2.2.2.slots) (pc + 3) ls (r.toList ++ st) L2 hi2 hr2) : xa_W E M Z kc ks pc ls stk L hi hr := by
  intro p e s m args below meth c al0 al H locs cells slots lm C hN hP hD hS hl hc hs
  subst hsk
  obtain ⟨⟨k1, k2, k3⟩, k4, k5, k6⟩ := hT
  obtain ⟨lv, f1, f2, f3⟩ := id hl
  have hml := f1.1
  have hsk : (as.reverse ++ .ref b :: st).map (xa_cv al) = (as.map (xa_cv al)).reverse ++ .ref (al b) :: st.map (xa_cv al) := by simp [List.map_reverse, xa_cv]
  have hA := xa_sub_own hD hS xa_own_new
  have hrun := va_runV (p := p) (l := E.1) (e := e) (below := below) (meth := meth) (locs := locs) (cells := cells) (slots := slots) (H := H) (g := F0 m pc lm ((as.reverse ++ .ref b :: st).map (xa_cv al))) (b := al b) (As := as.map (xa_cv al)) (rest := st.map (xa_cv al)) (nL := M.2.2.1) (index := idx) (bytes := M2.2.1) (maxL := M2.2.2.1) ⟨C.1, C.2.1, C.2.2.2.1, C.2.2.2.2.1, C.2.2.2.2.2.1⟩ (hC al H.size) ⟨callB_of n C.2.2.2.2.2.1 (xa_goodw ⟨k1, k2, k3⟩) rfl rfl rfl (C.2.2.2.2.2.1 _ k1) (C.2.2.2.2.2.1 _ k4) k3 hR, C.2.2.2.2.2.1 _ k5, C.2.2.2.2.2.1 _ k6⟩ ⟨xa_blind, xa_recv C.2.2.2.2.2.2.2.2.1 hP hb hk hcl, (xa_preS hP hD C.2.2.2.2.2.2.2.2.1).2⟩ rfl (by rw [List.length_map]; exact hn) hml hsk (lv_room (by rw [xa_catsum]; exact hw)) hd ⟨by omega, by omega⟩
  refine xa_afterA hrun hS hA (fun al2 r L2 hi2 hr2 H1 locs1 hag hp hP1 hD1 hS1 => ?_)
  have est : st.map (xa_cv al) = st.map (xa_cv al2) := List.map_congr_left (fun v hv => by cases v <;> first | rfl | (rename_i q; show Value.ref (al q) = Value.ref (al2 q); rw [hag q (hst q hv)]))
  rw [est, xa_toList]
  exact kk r L2 hi2 hr2 hp p e s m args below meth c al0 al2 H1 locs1 _ _ lm C (fun a ha => (hag a (hZ a ha)).trans (hN a ha)) hP1 hD1 hS1 ⟨lv, f1, f2, fun i v hv => by
    have h4 := f3 i v hv
    cases v <;> first | exact h4 | (rename_i q; have h5 := hag q (hlr q (List.mem_of_getElem? hv)); show (i, Value.ref (al2 q)) ∈ lv; rw [h5]; exact h4)⟩ (by omega) (by omega)
theorem xa_callSA {Post : Option Value → List Nat → xa_AH → xa_AR → Prop} (hT : xa_CS M.1.cls idx M2 n) (hd : decode M.2.1 pc = .ok (.invokestatic idx, 3)) (hC : xa_CtA E M2 as L hi hr Post) (hsk : stk = as.reverse ++ st) (hn : as.length = n) (hR : M2.2.2.2.2.frames + 1 ≤ M.2.2.2.2.frames ∧ 8 + (M2.2.2.1 + 11) + M2.2.2.2.2.locals ≤ M.2.2.2.2.locals) (hw : (st.map fun v => v.category).sum ≤ 8) (hkc : M2.2.2.2.2.cells ≤ kc) (hks : M2.2.2.2.2.slots ≤ ks) (hZ : ∀ a, Z.2.2.2 a → a ∈ L) (hst : ∀ a, Value.ref a ∈ st → a ∈ L) (hlr : ∀ a, some (Value.ref a) ∈ ls → a ∈ L) (kk : ∀ (r : Option Value) (L2 : List Nat) (hi2 : xa_AH) (hr2 : xa_AR), Post r L2 hi2 hr2 → xa_W E M Z (kc - M2.2.2.2.2.cells) (ks - M2.2.2.2.2.slots) (pc + 3) ls (r.toList ++ st) L2 hi2 hr2) : xa_W E M Z kc ks pc ls stk L hi hr := by
  intro p e s m args below meth c al0 al H locs cells slots lm C hN hP hD hS hl hc hs
  subst hsk
  obtain ⟨⟨k1, k2, k3⟩, k4, k5⟩ := hT
  obtain ⟨lv, f1, f2, f3⟩ := id hl
  have hml := f1.1
  have hsk : (as.reverse ++ st).map (xa_cv al) = (as.map (xa_cv al)).reverse ++ st.map (xa_cv al) := by simp [List.map_reverse, xa_cv]
  have hA := xa_sub_own hD hS xa_own_new
  have hrun := va_runS (p := p) (l := E.1) (e := e) (below := below) (meth := meth) (locs := locs) (cells := cells) (slots := slots) (H := H) (g := F0 m pc lm ((as.reverse ++ st).map (xa_cv al))) (As := as.map (xa_cv al)) (rest := st.map (xa_cv al)) (nL := M.2.2.1) (index := idx) (bytes := M2.2.1) (maxL := M2.2.2.1) ⟨C.1, C.2.1, C.2.2.2.1, C.2.2.2.2.1, C.2.2.2.2.2.1⟩ (hC al H.size) ⟨callB_of n C.2.2.2.2.2.1 (xa_goodw ⟨k1, k2, k3⟩) rfl rfl rfl (C.2.2.2.2.2.1 _ k1) (C.2.2.2.2.2.1 _ k4) k3 hR, C.2.2.2.2.2.1 _ k5⟩ (xa_preS hP hD C.2.2.2.2.2.2.2.2.1) rfl (by rw [List.length_map]; exact hn) hml hsk (lv_room (by rw [xa_catsum]; exact hw)) hd ⟨by omega, by omega⟩
  refine xa_afterA hrun hS hA (fun al2 r L2 hi2 hr2 H1 locs1 hag hp hP1 hD1 hS1 => ?_)
  have est : st.map (xa_cv al) = st.map (xa_cv al2) := List.map_congr_left (fun v hv => by cases v <;> first | rfl | (rename_i q; show Value.ref (al q) = Value.ref (al2 q); rw [hag q (hst q hv)]))
  rw [est, xa_toList]
  exact kk r L2 hi2 hr2 hp p e s m args below meth c al0 al2 H1 locs1 _ _ lm C (fun a ha => (hag a (hZ a ha)).trans (hN a ha)) hP1 hD1 hS1 ⟨lv, f1, f2, fun i v hv => by
    have h4 := f3 i v hv
    cases v <;> first | exact h4 | (rename_i q; have h5 := hag q (hlr q (List.mem_of_getElem? hv)); show (i, Value.ref (al2 q)) ∈ lv; rw [h5]; exact h4)⟩ (by omega) (by omega)
theorem xa_callSNA {Post : Option Value → List Nat → xa_AH → xa_AR → Prop} (hT : xa_CSN M.1.cls idx M2 n) (hd : decode M.2.1 pc = .ok (.invokestatic idx, 3)) (hC : xa_CtA E M2 as L hi hr Post) (hsk : stk = as.reverse ++ st) (hn : as.length = n) (hR : M2.2.2.2.2.frames + 1 ≤ M.2.2.2.2.frames ∧ 8 + (M2.2.2.1 + 11) + M2.2.2.2.2.locals ≤ M.2.2.2.2.locals) (hw : (st.map fun v => v.category).sum ≤ 8) (hkc : M2.2.2.2.2.cells ≤ kc) (hks : M2.2.2.2.2.slots ≤ ks) (hZ : ∀ a, Z.2.2.2 a → a ∈ L) (hst : ∀ a, Value.ref a ∈ st → a ∈ L) (hlr : ∀ a, some (Value.ref a) ∈ ls → a ∈ L) (kk : ∀ (r : Option Value) (L2 : List Nat) (hi2 : xa_AH) (hr2 : xa_AR), Post r L2 hi2 hr2 → xa_W E M Z (kc - M2.2.2.2.2.cells) (ks - M2.2.2.2.2.slots) (pc + 3) ls (r.toList ++ st) L2 hi2 hr2) : xa_W E M Z kc ks pc ls stk L hi hr := by
  intro p e s m args below meth c al0 al H locs cells slots lm C hN hP hD hS hl hc hs
  subst hsk
  obtain ⟨⟨k1, k2, k3⟩, ⟨hh, k4⟩, k5⟩ := hT
  obtain ⟨lv, f1, f2, f3⟩ := id hl
  have hml := f1.1
  have hsk : (as.reverse ++ st).map (xa_cv al) = (as.map (xa_cv al)).reverse ++ st.map (xa_cv al) := by simp [List.map_reverse, xa_cv]
  have hA := xa_sub_own hD hS xa_own_new
  have hrun := va_runSN (p := p) (l := E.1) (e := e) (below := below) (meth := meth) (locs := locs) (cells := cells) (slots := slots) (H := H) (g := F0 m pc lm ((as.reverse ++ st).map (xa_cv al))) (As := as.map (xa_cv al)) (rest := st.map (xa_cv al)) (nL := M.2.2.1) (index := idx) (bytes := M2.2.1) (maxL := M2.2.2.1) ⟨C.1, C.2.1, C.2.2.2.1, C.2.2.2.2.1, C.2.2.2.2.2.1⟩ (hC al H.size) ⟨va_cnB n C.2.2.2.2.2.1 (xa_goodw ⟨k1, k2, k3⟩) rfl rfl rfl (C.2.2.2.2.2.2.2.2.1.2.1 _ k4) (C.2.2.2.2.2.1 _ k1) k3 hR, C.2.2.2.2.2.1 _ k5, trivial⟩ (xa_preS hP hD C.2.2.2.2.2.2.2.2.1) rfl (by rw [List.length_map]; exact hn) hml hsk (lv_room (by rw [xa_catsum]; exact hw)) hd ⟨by omega, by omega⟩
  refine xa_afterA hrun hS hA (fun al2 r L2 hi2 hr2 H1 locs1 hag hp hP1 hD1 hS1 => ?_)
  have est : st.map (xa_cv al) = st.map (xa_cv al2) := List.map_congr_left (fun v hv => by cases v <;> first | rfl | (rename_i q; show Value.ref (al q) = Value.ref (al2 q); rw [hag q (hst q hv)]))
  rw [est, xa_toList]
  exact kk r L2 hi2 hr2 hp p e s m args below meth c al0 al2 H1 locs1 _ _ lm C (fun a ha => (hag a (hZ a ha)).trans (hN a ha)) hP1 hD1 hS1 ⟨lv, f1, f2, fun i v hv => by
    have h4 := f3 i v hv
    cases v <;> first | exact h4 | (rename_i q; have h5 := hag q (hlr q (List.mem_of_getElem? hv)); show (i, Value.ref (al2 q)) ∈ lv; rw [h5]; exact h4)⟩ (by omega) (by omega)
theorem xa_callIA {Post : Option Value → List Nat → xa_AH → xa_AR → Prop} {b : Nat} (hT : xa_CI M.1.cls idx M2 n) (hd : decode M.2.1 pc = .ok (.invokespecial idx, 3)) (hC : xa_CtA E M2 (.ref b :: as) L hi hr Post) (hsk : stk = as.reverse ++ .ref b :: st) (hn : as.length = n) (hR : M2.2.2.2.2.frames + 1 ≤ M.2.2.2.2.frames ∧ 8 + (M2.2.2.1 + 11) + M2.2.2.2.2.locals ≤ M.2.2.2.2.locals) (hw : (st.map fun v => v.category).sum ≤ 8) (hkc : M2.2.2.2.2.cells ≤ kc) (hks : M2.2.2.2.2.slots ≤ ks) (hZ : ∀ a, Z.2.2.2 a → a ∈ L) (hst : ∀ a, Value.ref a ∈ st → a ∈ L) (hlr : ∀ a, some (Value.ref a) ∈ ls → a ∈ L) (kk : ∀ (r : Option Value) (L2 : List Nat) (hi2 : xa_AH) (hr2 : xa_AR), Post r L2 hi2 hr2 → xa_W E M Z (kc - M2.2.2.2.2.cells) (ks - M2.2.2.2.2.slots) (pc + 3) ls (r.toList ++ st) L2 hi2 hr2) : xa_W E M Z kc ks pc ls stk L hi hr := by
  intro p e s m args below meth c al0 al H locs cells slots lm C hN hP hD hS hl hc hs
  subst hsk
  obtain ⟨⟨k1, k2, k3⟩, k4, k5, k6, k7⟩ := hT
  obtain ⟨lv, f1, f2, f3⟩ := id hl
  have hml := f1.1
  have hsk : (as.reverse ++ .ref b :: st).map (xa_cv al) = (as.map (xa_cv al)).reverse ++ .ref (al b) :: st.map (xa_cv al) := by simp [List.map_reverse, xa_cv]
  have hA := xa_sub_own hD hS xa_own_new
  have hrun := va_runI (p := p) (l := E.1) (e := e) (below := below) (meth := meth) (locs := locs) (cells := cells) (slots := slots) (H := H) (g := F0 m pc lm ((as.reverse ++ .ref b :: st).map (xa_cv al))) (b := al b) (As := as.map (xa_cv al)) (rest := st.map (xa_cv al)) (nL := M.2.2.1) (index := idx) (bytes := M2.2.1) (maxL := M2.2.2.1) ⟨C.1, C.2.1, C.2.2.2.1, C.2.2.2.2.1, C.2.2.2.2.2.1⟩ (hC al H.size) ⟨callB_of n C.2.2.2.2.2.1 (xa_goodw ⟨k1, k2, k3⟩) (by show Cond.code _ _ _ M2.2.2.2.1 :: _ = _; rw [k7]) rfl rfl (C.2.2.2.2.2.1 _ k1) (C.2.2.2.2.2.1 _ k4) k3 hR, k5, C.2.2.2.2.2.1 _ k6⟩ (xa_preS hP hD C.2.2.2.2.2.2.2.2.1) rfl (by rw [List.length_map]; exact hn) hml hsk (lv_room (by rw [xa_catsum]; exact hw)) hd ⟨by omega, by omega⟩
  refine xa_afterA hrun hS hA (fun al2 r L2 hi2 hr2 H1 locs1 hag hp hP1 hD1 hS1 => ?_)
  have est : st.map (xa_cv al) = st.map (xa_cv al2) := List.map_congr_left (fun v hv => by cases v <;> first | rfl | (rename_i q; show Value.ref (al q) = Value.ref (al2 q); rw [hag q (hst q hv)]))
  rw [est, xa_toList]
  exact kk r L2 hi2 hr2 hp p e s m args below meth c al0 al2 H1 locs1 _ _ lm C (fun a ha => (hag a (hZ a ha)).trans (hN a ha)) hP1 hD1 hS1 ⟨lv, f1, f2, fun i v hv => by
    have h4 := f3 i v hv
    cases v <;> first | exact h4 | (rename_i q; have h5 := hag q (hlr q (List.mem_of_getElem? hv)); show (i, Value.ref (al2 q)) ∈ lv; rw [h5]; exact h4)⟩ (by omega) (by omega)
theorem xa_callINA {Post : Option Value → List Nat → xa_AH → xa_AR → Prop} {b : Nat} (hT : xa_CIN M.1.cls idx M2 n) (hd : decode M.2.1 pc = .ok (.invokespecial idx, 3)) (hC : xa_CtA E M2 (.ref b :: as) L hi hr Post) (hsk : stk = as.reverse ++ .ref b :: st) (hn : as.length = n) (hR : M2.2.2.2.2.frames + 1 ≤ M.2.2.2.2.frames ∧ 8 + (M2.2.2.1 + 11) + M2.2.2.2.2.locals ≤ M.2.2.2.2.locals) (hw : (st.map fun v => v.category).sum ≤ 8) (hkc : M2.2.2.2.2.cells ≤ kc) (hks : M2.2.2.2.2.slots ≤ ks) (hZ : ∀ a, Z.2.2.2 a → a ∈ L) (hst : ∀ a, Value.ref a ∈ st → a ∈ L) (hlr : ∀ a, some (Value.ref a) ∈ ls → a ∈ L) (kk : ∀ (r : Option Value) (L2 : List Nat) (hi2 : xa_AH) (hr2 : xa_AR), Post r L2 hi2 hr2 → xa_W E M Z (kc - M2.2.2.2.2.cells) (ks - M2.2.2.2.2.slots) (pc + 3) ls (r.toList ++ st) L2 hi2 hr2) : xa_W E M Z kc ks pc ls stk L hi hr := by
  intro p e s m args below meth c al0 al H locs cells slots lm C hN hP hD hS hl hc hs
  subst hsk
  obtain ⟨⟨k1, k2, k3⟩, ⟨hh, k4⟩, k5, k6, k7⟩ := hT
  obtain ⟨lv, f1, f2, f3⟩ := id hl
  have hml := f1.1
  have hsk : (as.reverse ++ .ref b :: st).map (xa_cv al) = (as.map (xa_cv al)).reverse ++ .ref (al b) :: st.map (xa_cv al) := by simp [List.map_reverse, xa_cv]
  have hA := xa_sub_own hD hS xa_own_new
  have hrun := va_runIN (p := p) (l := E.1) (e := e) (below := below) (meth := meth) (locs := locs) (cells := cells) (slots := slots) (H := H) (g := F0 m pc lm ((as.reverse ++ .ref b :: st).map (xa_cv al))) (b := al b) (As := as.map (xa_cv al)) (rest := st.map (xa_cv al)) (nL := M.2.2.1) (index := idx) (bytes := M2.2.1) (maxL := M2.2.2.1) ⟨C.1, C.2.1, C.2.2.2.1, C.2.2.2.2.1, C.2.2.2.2.2.1⟩ (hC al H.size) ⟨va_cnB n C.2.2.2.2.2.1 (xa_goodw ⟨k1, k2, k3⟩) (by show Cond.code _ _ _ M2.2.2.2.1 :: _ = _; rw [k7]) rfl rfl (C.2.2.2.2.2.2.2.2.1.2.1 _ k4) (C.2.2.2.2.2.1 _ k1) k3 hR, k5, C.2.2.2.2.2.1 _ k6⟩ (xa_preS hP hD C.2.2.2.2.2.2.2.2.1) rfl (by rw [List.length_map]; exact hn) hml hsk (lv_room (by rw [xa_catsum]; exact hw)) hd ⟨by omega, by omega⟩
  refine xa_afterA hrun hS hA (fun al2 r L2 hi2 hr2 H1 locs1 hag hp hP1 hD1 hS1 => ?_)
  have est : st.map (xa_cv al) = st.map (xa_cv al2) := List.map_congr_left (fun v hv => by cases v <;> first | rfl | (rename_i q; show Value.ref (al q) = Value.ref (al2 q); rw [hag q (hst q hv)]))
  rw [est, xa_toList]
  exact kk r L2 hi2 hr2 hp p e s m args below meth c al0 al2 H1 locs1 _ _ lm C (fun a ha => (hag a (hZ a ha)).trans (hN a ha)) hP1 hD1 hS1 ⟨lv, f1, f2, fun i v hv => by
    have h4 := f3 i v hv
    cases v <;> first | exact h4 | (rename_i q; have h5 := hag q (hlr q (List.mem_of_getElem? hv)); show (i, Value.ref (al2 q)) ∈ lv; rw [h5]; exact h4)⟩ (by omega) (by omega)
end XA7
end
section
/-! ===== new cells: the next number is the prover's choice ===== -/
def xa_zi (hi : xa_AH) (a : Nat) : xa_AH := fun x y => if x = a then 0 else hi x y
def xa_zr (hr : xa_AR) (a : Nat) : xa_AR := fun x y => if x = a then none else hr x y
def xa_la (al : Nat → Nat) (a q : Nat) : Nat → Nat := fun x => if x = a then q else al x
def xa_NC (own : String) (idx ci : Nat) : Prop := ∃ (Cn : String) (T : u_T) (N : Nat) (ty0 : Nat → FieldType), xa_cl[ci]? = some (Cn, T, N) ∧ N = xa_nT.getD ci 0 ∧ (∀ w ∈ u_ws Cn T N, w ∈ xa_G) ∧ (∀ k, k < N → parseFieldDescriptor (T k).2.2.1 = some (ty0 k)) ∧ (∀ j, j < N → defaultValue (ty0 j) = if xa_isR ci j = true then .null else .int 0) ∧ Cond.classLink own idx Cn ∈ xa_G ∧ Cond.instantiable Cn N ∈ xa_G ∧ Cond.initialized Cn ∈ xa_G
section XA8
variable {E : xa_EV} {M : xa_MC} {Z : xa_ZC} {kc ks pc : Nat} {ls : List (Option Value)} {st : List Value} {L : List Nat} {hi : xa_AH} {hr : xa_AR}
theorem xa_wd_new {dA : Nat → ClassId} {al : Nat → Nat} {a q : Nat} (ha : a ∉ L) (hfr : ∀ b k, hr b k ≠ some a) : xa_wd dA (xa_la al a q) (L ++ [a]) (xa_zi hi a) (xa_zr hr a) = xa_wd dA al L hi hr ++ [(q, xa_en dA (xa_la al a q) (xa_zi hi a) (xa_zr hr a) a)] := by
  have h1 : xa_wd dA (xa_la al a q) L (xa_zi hi a) (xa_zr hr a) = xa_wd dA al L hi hr := by
    refine List.map_congr_left (fun b hb => ?_)
    have hne : b ≠ a := fun h => ha (h ▸ hb)
    have e1 : xa_zi hi a b = hi b := by funext y; simp [xa_zi, hne]
    have e2 : ∀ k, ((xa_zr hr a) b k).map (xa_la al a q) = (hr b k).map al := by
      intro k
      have e3 : (xa_zr hr a) b k = hr b k := by simp [xa_zr, hne]
      rw [e3]
      cases hk : hr b k with
      | none => rfl
      | some c =>
        have hc : c ≠ a := fun h => hfr b k (by rw [hk, h])
        simp [xa_la, hc]
    have e4 : xa_sv (xa_la al a q) (xa_zi hi a) (xa_zr hr a) b = xa_sv al hi hr b := by
      funext k
      simp [xa_sv, e1, e2]
    simp [xa_en, e1, e2, e4, xa_la, hne]
  show List.map _ (L ++ [a]) = _
  rw [List.map_append]
  show xa_wd dA (xa_la al a q) L (xa_zi hi a) (xa_zr hr a) ++ _ = _
  rw [h1]
  simp [xa_la]
theorem xa_st_new {al : Nat → Nat} {a q : Nat} (hst : Value.ref a ∉ st) : st.map (xa_cv (xa_la al a q)) = st.map (xa_cv al) := List.map_congr_left (fun v hv => by
  cases v <;> first | rfl | (rename_i c; have hc : c ≠ a := fun h => hst (h ▸ hv); show Value.ref _ = Value.ref _; simp [xa_la, hc]))
theorem xa_cv_la {al : Nat → Nat} {a q c : Nat} (hc : c ≠ a) : xa_cv (xa_la al a q) (Value.ref c) = xa_cv al (Value.ref c) := by
  show Value.ref _ = Value.ref _
  simp [xa_la, hc]
theorem xa_lv_new {al : Nat → Nat} {a q nL : Nat} {lm : Array Slot} (hls : some (Value.ref a) ∉ ls) (h : xa_lv al nL ls lm) : xa_lv (xa_la al a q) nL ls lm := by
  obtain ⟨lv, h1, h2, h3⟩ := h
  refine ⟨lv, h1, h2, fun i v hv => ?_⟩
  have h4 := h3 i v hv
  cases v <;> first | exact h4 | (rename_i c; have hc : c ≠ a := fun h => hls (h ▸ List.mem_of_getElem? hv); rw [xa_cv_la hc]; exact h4)
theorem xa_new {idx : Nat} (a ci : Nat) (hC : xa_NC M.1.cls idx ci) (hd : decode M.2.1 pc = .ok (.new idx, 3)) (hk : xa_kd a = ci) (ha : a ∉ L) (hZ : ¬ Z.2.2.2 a) (hst : Value.ref a ∉ st) (hls : some (Value.ref a) ∉ ls) (hfr : ∀ b k, hr b k ≠ some a) (hkc : 1 ≤ kc) (hks : xa_nT.getD ci 0 ≤ ks)
    (k : xa_W E M Z (kc - 1) (ks - xa_nT.getD ci 0) (pc + 3) ls (.ref a :: st) (L ++ [a]) (xa_zi hi a) (xa_zr hr a)) : xa_W E M Z kc ks pc ls st L hi hr := by
  intro p e s m args below meth c al0 al H locs cells slots lm C hN hP hD hS hl hc hs
  obtain ⟨Cn, T, N, ty0, h1, h2, h3, h4, h5, h6, h7, h8⟩ := hC
  rw [← h2] at hks k
  refine va_new (ci := ci) (fs := (List.range N).map (fun j => if xa_isR ci j = true then .null else .int 0)) C.1 C.2.1 (Ts := xa_G) C.2.2.2.2.2.1 h3 ty0 h4 C.2.2.2.2.1 (C.2.2.2.2.2.1 _ h6) (C.2.2.2.2.2.1 _ h7) (C.2.2.2.2.2.1 _ h8) C.2.2.2.2.2.2.2.2.1.1 hP hD hS xa_own_new h1 (fun j hj => by rw [h5 j hj]; simp [vp_V, hj]) (by omega) (by omega) hd (fun q H1 hP1 hD1 hS1 => ?_)
  have e1 : (.inr (ci, (List.range N).map (fun j => if xa_isR ci j = true then Value.null else Value.int 0)) : va_E) = xa_en E.2.2 (xa_la al a q) (xa_zi hi a) (xa_zr hr a) a := by
    rw [xa_en_o hk (xa_ci h1), ← h2]
    congr 3
    funext j
    simp [xa_sv, hk, xa_zi, xa_zr, va_rf]
  rw [e1, ← xa_wd_new ha hfr] at hP1 hD1
  rw [← xa_st_new (al := al) (q := q) hst]
  have e2 : Value.ref q :: st.map (xa_cv (xa_la al a q)) = (Value.ref a :: st).map (xa_cv (xa_la al a q)) := by
    rw [List.map_cons]
    show _ = Value.ref (xa_la al a q a) :: _
    simp [xa_la]
  rw [e2]
  exact k p e s m args below meth c al0 (xa_la al a q) H1 locs _ _ lm C (fun b hb => by have hne : b ≠ a := fun h => hZ (h ▸ hb); simp [xa_la, hne, hN b hb]) hP1 hD1 hS1 (xa_lv_new hls hl) (by omega) (by omega)
theorem xa_newarr {n : Int32} {aty : ArrayType} {ty : FieldType} (a kd0 t0 : Nat) (hty : newarray.typeOf aty = ty) (hdef : defaultValue ty = .int 0) (ht0 : ∀ dA : Nat → ClassId, (xa_tys dA)[t0]? = some (dA kd0, ty)) (hra : ∀ (U : State) (x y : ClassId), va_RA U x ty → va_RA U y ty → x = y) (hen : ∀ (dA : Nat → ClassId) (al : Nat → Nat) (hi : xa_AH) (hr : xa_AR), xa_en dA al hi hr a = .inl (dA kd0, xa_ln a, .inl (hi a))) (hw : Cond.arrayClass ty ∈ xa_G) (hd : decode M.2.1 pc = .ok (.newarray aty, 2)) (hn : ¬ n < 0) (hN0 : n.toNatClampNeg = xa_ln a) (hby : xa_ln a * componentBytes ty ≤ 536870912) (ha : a ∉ L) (hZ : ¬ Z.2.2.2 a) (hst : Value.ref a ∉ st) (hls : some (Value.ref a) ∉ ls) (hfr : ∀ b k, hr b k ≠ some a) (hkc : 1 ≤ kc) (hks : xa_ln a ≤ ks)
    (k : xa_W E M Z (kc - 1) (ks - xa_ln a) (pc + 2) ls (.ref a :: st) (L ++ [a]) (xa_zi hi a) (xa_zr hr a)) : xa_W E M Z kc ks pc ls (.int n :: st) L hi hr := by
  intro p e s m args below meth c al0 al H locs cells slots lm C hN hP hD hS hl hc hs
  refine va_newa (a0 := (xa_ln a, .inl (fun _ => 0))) C.1 C.2.1 (by rw [hty]; exact C.2.2.2.2.2.1 _ hw) hty C.2.2.2.2.2.2.2.2.1.1 hP hD hS xa_own_new (fun cA => by rw [hdef]; rfl) hn hN0 hby (by omega) (by omega) hd (fun q cA H1 hK1 hP1 hD1 hS1 => ?_)
  have ec : cA = E.2.2 kd0 := hra s _ _ (hK1.2 4 (cA, ty) rfl).2 (C.2.2.2.2.2.2.2.2.1.1.2 t0 _ (ht0 _)).2
  subst ec
  have e1 : (.inl (E.2.2 kd0, (xa_ln a, .inl (fun _ => 0))) : va_E) = xa_en E.2.2 (xa_la al a q) (xa_zi hi a) (xa_zr hr a) a := by
    rw [hen]
    congr 4
    funext j
    simp [xa_zi]
  rw [e1, ← xa_wd_new ha hfr] at hP1 hD1
  show W p E.1 e M.2.2.2.2 s m args below meth c H1 locs (cells + 1) (slots + xa_ln a) (Z.1 s args below al0) (F0 m (pc + 2) lm (Value.ref q :: st.map (xa_cv al)))
  rw [← xa_st_new (al := al) (q := q) hst]
  have e2 : Value.ref q :: st.map (xa_cv (xa_la al a q)) = (Value.ref a :: st).map (xa_cv (xa_la al a q)) := by
    rw [List.map_cons]
    show _ = Value.ref (xa_la al a q a) :: _
    simp [xa_la]
  rw [e2]
  exact k p e s m args below meth c al0 (xa_la al a q) H1 locs _ _ lm C (fun b hb => by have hne : b ≠ a := fun h => hZ (h ▸ hb); simp [xa_la, hne, hN b hb]) hP1 hD1 hS1 (xa_lv_new hls hl) (by omega) (by omega)
theorem xa_newref {n : Int32} {idx : Nat} {Cn : String} (a kd0 t0 : Nat) (hcls : Cond.classLink M.1.cls idx Cn ∈ xa_G) (hao : ∀ U : State, xa_K E U → va_AO Cn U) (ht0 : ∀ dA : Nat → ClassId, (xa_tys dA)[t0]? = some (dA kd0, .object Cn)) (hk : xa_kd a = kd0) (hk1 : ¬ kd0 < 11) (hd : decode M.2.1 pc = .ok (.anewarray idx, 3)) (hn : ¬ n < 0) (hN0 : n.toNatClampNeg = xa_ln a) (hby : xa_ln a * 4 ≤ 536870912) (ha : a ∉ L) (hZ : ¬ Z.2.2.2 a) (hst : Value.ref a ∉ st) (hls : some (Value.ref a) ∉ ls) (hfr : ∀ b k, hr b k ≠ some a) (hkc : 1 ≤ kc) (hks : xa_ln a ≤ ks)
    (k : xa_W E M Z (kc - 1) (ks - xa_ln a) (pc + 3) ls (.ref a :: st) (L ++ [a]) (xa_zi hi a) (xa_zr hr a)) : xa_W E M Z kc ks pc ls (.int n :: st) L hi hr := by
  intro p e s m args below meth c al0 al H locs cells slots lm C hN hP hD hS hl hc hs
  refine va_newq C.1 C.2.1 C.2.2.2.2.1 (C.2.2.2.2.2.1 _ hcls) (hao s C.2.2.2.2.2.2.2.2.1) C.2.2.2.2.2.2.2.2.1.1 hP hD hS xa_own_new hn hN0 hby (by omega) (by omega) hd (fun q cA H1 hK1 hP1 hD1 hS1 => ?_)
  have ec : cA = E.2.2 kd0 := by
    obtain ⟨_, _, _, _, _, f1⟩ := (hK1.2 4 (cA, .object Cn) rfl).2
    obtain ⟨_, _, _, _, _, f2⟩ := (C.2.2.2.2.2.2.2.2.1.1.2 t0 _ (ht0 _)).2
    exact Option.some.inj (f1.symm.trans f2)
  subst ec
  have e1 : (.inl (E.2.2 kd0, (xa_ln a, .inr (.inr (.inr (.inr (fun _ => none)))))) : va_E) = xa_en E.2.2 (xa_la al a q) (xa_zi hi a) (xa_zr hr a) a := by
    rw [xa_en_r hk hk1]
    congr 7
    funext j
    simp [xa_zr]
  rw [e1, ← xa_wd_new ha hfr] at hP1 hD1
  show W p E.1 e M.2.2.2.2 s m args below meth c H1 locs (cells + 1) (slots + xa_ln a) (Z.1 s args below al0) (F0 m (pc + 3) lm (Value.ref q :: st.map (xa_cv al)))
  rw [← xa_st_new (al := al) (q := q) hst]
  have e2 : Value.ref q :: st.map (xa_cv (xa_la al a q)) = (Value.ref a :: st).map (xa_cv (xa_la al a q)) := by
    rw [List.map_cons]
    show _ = Value.ref (xa_la al a q a) :: _
    simp [xa_la]
  rw [e2]
  exact k p e s m args below meth c al0 (xa_la al a q) H1 locs _ _ lm C (fun b hb => by have hne : b ≠ a := fun h => hZ (h ▸ hb); simp [xa_la, hne, hN b hb]) hP1 hD1 hS1 (xa_lv_new hls hl) (by omega) (by omega)
end XA8
end
